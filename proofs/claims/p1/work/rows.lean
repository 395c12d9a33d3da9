section
-- ===== PART A: goes FIRST, ahead of the names: the tables' words, and 'selects' of the private methods out of them =====
/-- a private method of a class that the tables say can be made, by its rows of tables_1 -/
def lw_okq (q : MethodName × Nat) : Prop := (q.1.cls ≠ "java/lang/invoke/MethodHandle" ∧ q.1.cls ≠ "java/lang/invoke/VarHandle") ∧ Cond.instantiable q.1.cls q.2 ∈ tables_1 ∧ Cond.privateMethod q.1 ∈ tables_1 ∧ Cond.instanceMethod q.1 ∈ tables_1
theorem lw_p0 : lw_okq (⟨"CellarPushers", "isInUse", "(I)Z"⟩, 11) := ⟨⟨by decide +kernel, by decide +kernel⟩, List.mem_of_getElem? (i := 17) (by decide +kernel), List.mem_of_getElem? (i := 273) (by decide +kernel), List.mem_of_getElem? (i := 274) (by decide +kernel)⟩
theorem lw_p1 : lw_okq (⟨"CellarPushers", "mayBeSetOn", "(I)Z"⟩, 11) := ⟨⟨by decide +kernel, by decide +kernel⟩, List.mem_of_getElem? (i := 17) (by decide +kernel), List.mem_of_getElem? (i := 313) (by decide +kernel), List.mem_of_getElem? (i := 314) (by decide +kernel)⟩
theorem lw_p2 : lw_okq (⟨"CellarPushers$Ground", "rampWay", "(I)I"⟩, 6) := ⟨⟨by decide +kernel, by decide +kernel⟩, List.mem_of_getElem? (i := 25) (by decide +kernel), List.mem_of_getElem? (i := 377) (by decide +kernel), List.mem_of_getElem? (i := 378) (by decide +kernel)⟩
theorem lw_p3 : lw_okq (⟨"CellarPushers$Scene", "roll", "(LCellarPushers$Ground;II)I"⟩, 4) := ⟨⟨by decide +kernel, by decide +kernel⟩, List.mem_of_getElem? (i := 63) (by decide +kernel), List.mem_of_getElem? (i := 381) (by decide +kernel), List.mem_of_getElem? (i := 382) (by decide +kernel)⟩
theorem lw_p4 : lw_okq (⟨"CellarPushers", "act", "(I)I"⟩, 11) := ⟨⟨by decide +kernel, by decide +kernel⟩, List.mem_of_getElem? (i := 17) (by decide +kernel), List.mem_of_getElem? (i := 394) (by decide +kernel), List.mem_of_getElem? (i := 395) (by decide +kernel)⟩
theorem lw_p5 : lw_okq (⟨"CellarPushers$Timeline", "keep", "(ILCellarPushers$Scene;)V"⟩, 6) := ⟨⟨by decide +kernel, by decide +kernel⟩, List.mem_of_getElem? (i := 93) (by decide +kernel), List.mem_of_getElem? (i := 402) (by decide +kernel), List.mem_of_getElem? (i := 403) (by decide +kernel)⟩
theorem lw_p6 : lw_okq (⟨"CellarPushers", "tryWalk", "(I)I"⟩, 11) := ⟨⟨by decide +kernel, by decide +kernel⟩, List.mem_of_getElem? (i := 17) (by decide +kernel), List.mem_of_getElem? (i := 410) (by decide +kernel), List.mem_of_getElem? (i := 411) (by decide +kernel)⟩
theorem lw_p7 : lw_okq (⟨"CellarPushers$Walks", "reach", "(II)V"⟩, 3) := ⟨⟨by decide +kernel, by decide +kernel⟩, List.mem_of_getElem? (i := 120) (by decide +kernel), List.mem_of_getElem? (i := 421) (by decide +kernel), List.mem_of_getElem? (i := 422) (by decide +kernel)⟩
theorem lw_p8 : lw_okq (⟨"CellarPushers", "tryPush", "(III)I"⟩, 11) := ⟨⟨by decide +kernel, by decide +kernel⟩, List.mem_of_getElem? (i := 17) (by decide +kernel), List.mem_of_getElem? (i := 438) (by decide +kernel), List.mem_of_getElem? (i := 439) (by decide +kernel)⟩
theorem lw_p9 : lw_okq (⟨"CellarPushers$Timeline", "bring", "(ILCellarPushers$Scene;)V"⟩, 6) := ⟨⟨by decide +kernel, by decide +kernel⟩, List.mem_of_getElem? (i := 93) (by decide +kernel), List.mem_of_getElem? (i := 458) (by decide +kernel), List.mem_of_getElem? (i := 459) (by decide +kernel)⟩
theorem lw_p10 : lw_okq (⟨"CellarPushers", "isDoneIn", "(LCellarPushers$Scene;)Z"⟩, 11) := ⟨⟨by decide +kernel, by decide +kernel⟩, List.mem_of_getElem? (i := 17) (by decide +kernel), List.mem_of_getElem? (i := 486) (by decide +kernel), List.mem_of_getElem? (i := 487) (by decide +kernel)⟩
theorem lw_p11 : lw_okq (⟨"CellarPushers$Prices", "reach", "(II)V"⟩, 3) := ⟨⟨by decide +kernel, by decide +kernel⟩, List.mem_of_getElem? (i := 137) (by decide +kernel), List.mem_of_getElem? (i := 508) (by decide +kernel), List.mem_of_getElem? (i := 509) (by decide +kernel)⟩
theorem lw_p12 : lw_okq (⟨"CellarPushers$Prices", "pushOn", "(LCellarPushers$Ground;II)V"⟩, 3) := ⟨⟨by decide +kernel, by decide +kernel⟩, List.mem_of_getElem? (i := 137) (by decide +kernel), List.mem_of_getElem? (i := 513) (by decide +kernel), List.mem_of_getElem? (i := 514) (by decide +kernel)⟩
theorem lw_p13 : lw_okq (⟨"CellarPushers", "heldBarrels", "()J"⟩, 11) := ⟨⟨by decide +kernel, by decide +kernel⟩, List.mem_of_getElem? (i := 17) (by decide +kernel), List.mem_of_getElem? (i := 532) (by decide +kernel), List.mem_of_getElem? (i := 533) (by decide +kernel)⟩
theorem lw_p14 : lw_okq (⟨"CellarPushers", "isHeldBy", "(JI)Z"⟩, 11) := ⟨⟨by decide +kernel, by decide +kernel⟩, List.mem_of_getElem? (i := 17) (by decide +kernel), List.mem_of_getElem? (i := 536) (by decide +kernel), List.mem_of_getElem? (i := 537) (by decide +kernel)⟩
theorem lw_p15 : lw_okq (⟨"CellarPushers", "holds", "(JII)Z"⟩, 11) := ⟨⟨by decide +kernel, by decide +kernel⟩, List.mem_of_getElem? (i := 17) (by decide +kernel), List.mem_of_getElem? (i := 540) (by decide +kernel), List.mem_of_getElem? (i := 541) (by decide +kernel)⟩
def lw_privs_1 : List (MethodName × Nat) := [(⟨"CellarPushers", "isInUse", "(I)Z"⟩, 11), (⟨"CellarPushers", "mayBeSetOn", "(I)Z"⟩, 11), (⟨"CellarPushers$Ground", "rampWay", "(I)I"⟩, 6), (⟨"CellarPushers$Scene", "roll", "(LCellarPushers$Ground;II)I"⟩, 4), (⟨"CellarPushers", "act", "(I)I"⟩, 11), (⟨"CellarPushers$Timeline", "keep", "(ILCellarPushers$Scene;)V"⟩, 6), (⟨"CellarPushers", "tryWalk", "(I)I"⟩, 11), (⟨"CellarPushers$Walks", "reach", "(II)V"⟩, 3), (⟨"CellarPushers", "tryPush", "(III)I"⟩, 11), (⟨"CellarPushers$Timeline", "bring", "(ILCellarPushers$Scene;)V"⟩, 6), (⟨"CellarPushers", "isDoneIn", "(LCellarPushers$Scene;)Z"⟩, 11), (⟨"CellarPushers$Prices", "reach", "(II)V"⟩, 3), (⟨"CellarPushers$Prices", "pushOn", "(LCellarPushers$Ground;II)V"⟩, 3), (⟨"CellarPushers", "heldBarrels", "()J"⟩, 11), (⟨"CellarPushers", "isHeldBy", "(JI)Z"⟩, 11), (⟨"CellarPushers", "holds", "(JII)Z"⟩, 11)]
theorem lw_r1 : ∀ q ∈ lw_privs_1, lw_okq q := List.forall_mem_cons.mpr ⟨lw_p0, List.forall_mem_cons.mpr ⟨lw_p1, List.forall_mem_cons.mpr ⟨lw_p2, List.forall_mem_cons.mpr ⟨lw_p3, List.forall_mem_cons.mpr ⟨lw_p4, List.forall_mem_cons.mpr ⟨lw_p5, List.forall_mem_cons.mpr ⟨lw_p6, List.forall_mem_cons.mpr ⟨lw_p7, List.forall_mem_cons.mpr ⟨lw_p8, List.forall_mem_cons.mpr ⟨lw_p9, List.forall_mem_cons.mpr ⟨lw_p10, List.forall_mem_cons.mpr ⟨lw_p11, List.forall_mem_cons.mpr ⟨lw_p12, List.forall_mem_cons.mpr ⟨lw_p13, List.forall_mem_cons.mpr ⟨lw_p14, List.forall_mem_cons.mpr ⟨lw_p15, fun _ h => absurd h List.not_mem_nil⟩⟩⟩⟩⟩⟩⟩⟩⟩⟩⟩⟩⟩⟩⟩⟩
theorem lw_p16 : lw_okq (⟨"CellarPushers", "leastDeadBarrel", "()I"⟩, 11) := ⟨⟨by decide +kernel, by decide +kernel⟩, List.mem_of_getElem? (i := 17) (by decide +kernel), List.mem_of_getElem? (i := 549) (by decide +kernel), List.mem_of_getElem? (i := 550) (by decide +kernel)⟩
theorem lw_p17 : lw_okq (⟨"CellarPushers$Pairing", "listMarks", "(J)V"⟩, 3) := ⟨⟨by decide +kernel, by decide +kernel⟩, List.mem_of_getElem? (i := 153) (by decide +kernel), List.mem_of_getElem? (i := 568) (by decide +kernel), List.mem_of_getElem? (i := 569) (by decide +kernel)⟩
theorem lw_p18 : lw_okq (⟨"CellarPushers$Pairing", "pairNext", "(LCellarPushers$Prices;I)V"⟩, 3) := ⟨⟨by decide +kernel, by decide +kernel⟩, List.mem_of_getElem? (i := 153) (by decide +kernel), List.mem_of_getElem? (i := 576) (by decide +kernel), List.mem_of_getElem? (i := 577) (by decide +kernel)⟩
theorem lw_p19 : lw_okq (⟨"CellarPushers$Pairing", "pairWithEach", "(LCellarPushers$Prices;I)V"⟩, 3) := ⟨⟨by decide +kernel, by decide +kernel⟩, List.mem_of_getElem? (i := 153) (by decide +kernel), List.mem_of_getElem? (i := 586) (by decide +kernel), List.mem_of_getElem? (i := 587) (by decide +kernel)⟩
theorem lw_p20 : lw_okq (⟨"CellarPushers", "liveFields", "()J"⟩, 11) := ⟨⟨by decide +kernel, by decide +kernel⟩, List.mem_of_getElem? (i := 17) (by decide +kernel), List.mem_of_getElem? (i := 606) (by decide +kernel), List.mem_of_getElem? (i := 607) (by decide +kernel)⟩
theorem lw_p21 : lw_okq (⟨"CellarPushers$Search", "numberCells", "(LCellarPushers$Ground;)V"⟩, 12) := ⟨⟨by decide +kernel, by decide +kernel⟩, List.mem_of_getElem? (i := 169) (by decide +kernel), List.mem_of_getElem? (i := 615) (by decide +kernel), List.mem_of_getElem? (i := 616) (by decide +kernel)⟩
theorem lw_p22 : lw_okq (⟨"CellarPushers$Search", "joinCells", "(LCellarPushers$Ground;I)V"⟩, 12) := ⟨⟨by decide +kernel, by decide +kernel⟩, List.mem_of_getElem? (i := 169) (by decide +kernel), List.mem_of_getElem? (i := 620) (by decide +kernel), List.mem_of_getElem? (i := 621) (by decide +kernel)⟩
theorem lw_p23 : lw_okq (⟨"CellarPushers$Search", "cellAt", "(I)I"⟩, 12) := ⟨⟨by decide +kernel, by decide +kernel⟩, List.mem_of_getElem? (i := 169) (by decide +kernel), List.mem_of_getElem? (i := 624) (by decide +kernel), List.mem_of_getElem? (i := 625) (by decide +kernel)⟩
theorem lw_p24 : lw_okq (⟨"CellarPushers$Search", "setOf", "(J)I"⟩, 12) := ⟨⟨by decide +kernel, by decide +kernel⟩, List.mem_of_getElem? (i := 169) (by decide +kernel), List.mem_of_getElem? (i := 633) (by decide +kernel), List.mem_of_getElem? (i := 634) (by decide +kernel)⟩
theorem lw_p25 : lw_okq (⟨"CellarPushers$Search", "listSets", "(I)V"⟩, 12) := ⟨⟨by decide +kernel, by decide +kernel⟩, List.mem_of_getElem? (i := 169) (by decide +kernel), List.mem_of_getElem? (i := 643) (by decide +kernel), List.mem_of_getElem? (i := 644) (by decide +kernel)⟩
theorem lw_p26 : lw_okq (⟨"CellarPushers$Search", "makeRoom", "(I)V"⟩, 12) := ⟨⟨by decide +kernel, by decide +kernel⟩, List.mem_of_getElem? (i := 169) (by decide +kernel), List.mem_of_getElem? (i := 649) (by decide +kernel), List.mem_of_getElem? (i := 650) (by decide +kernel)⟩
theorem lw_p27 : lw_okq (⟨"CellarPushers$Search", "explore", "(I)V"⟩, 12) := ⟨⟨by decide +kernel, by decide +kernel⟩, List.mem_of_getElem? (i := 169) (by decide +kernel), List.mem_of_getElem? (i := 656) (by decide +kernel), List.mem_of_getElem? (i := 657) (by decide +kernel)⟩
theorem lw_p28 : lw_okq (⟨"CellarPushers$Search", "reach", "(IJ)V"⟩, 12) := ⟨⟨by decide +kernel, by decide +kernel⟩, List.mem_of_getElem? (i := 169) (by decide +kernel), List.mem_of_getElem? (i := 663) (by decide +kernel), List.mem_of_getElem? (i := 664) (by decide +kernel)⟩
theorem lw_p29 : lw_okq (⟨"CellarPushers$Search", "costOf", "(I)J"⟩, 12) := ⟨⟨by decide +kernel, by decide +kernel⟩, List.mem_of_getElem? (i := 169) (by decide +kernel), List.mem_of_getElem? (i := 667) (by decide +kernel), List.mem_of_getElem? (i := 668) (by decide +kernel)⟩
theorem lw_p30 : lw_okq (⟨"CellarPushers$Search", "walkFrom", "(IJ)V"⟩, 12) := ⟨⟨by decide +kernel, by decide +kernel⟩, List.mem_of_getElem? (i := 169) (by decide +kernel), List.mem_of_getElem? (i := 676) (by decide +kernel), List.mem_of_getElem? (i := 677) (by decide +kernel)⟩
theorem lw_p31 : lw_okq (⟨"CellarPushers$Search", "walkedTo", "(II)I"⟩, 12) := ⟨⟨by decide +kernel, by decide +kernel⟩, List.mem_of_getElem? (i := 169) (by decide +kernel), List.mem_of_getElem? (i := 680) (by decide +kernel), List.mem_of_getElem? (i := 681) (by decide +kernel)⟩
def lw_privs_2 : List (MethodName × Nat) := [(⟨"CellarPushers", "leastDeadBarrel", "()I"⟩, 11), (⟨"CellarPushers$Pairing", "listMarks", "(J)V"⟩, 3), (⟨"CellarPushers$Pairing", "pairNext", "(LCellarPushers$Prices;I)V"⟩, 3), (⟨"CellarPushers$Pairing", "pairWithEach", "(LCellarPushers$Prices;I)V"⟩, 3), (⟨"CellarPushers", "liveFields", "()J"⟩, 11), (⟨"CellarPushers$Search", "numberCells", "(LCellarPushers$Ground;)V"⟩, 12), (⟨"CellarPushers$Search", "joinCells", "(LCellarPushers$Ground;I)V"⟩, 12), (⟨"CellarPushers$Search", "cellAt", "(I)I"⟩, 12), (⟨"CellarPushers$Search", "setOf", "(J)I"⟩, 12), (⟨"CellarPushers$Search", "listSets", "(I)V"⟩, 12), (⟨"CellarPushers$Search", "makeRoom", "(I)V"⟩, 12), (⟨"CellarPushers$Search", "explore", "(I)V"⟩, 12), (⟨"CellarPushers$Search", "reach", "(IJ)V"⟩, 12), (⟨"CellarPushers$Search", "costOf", "(I)J"⟩, 12), (⟨"CellarPushers$Search", "walkFrom", "(IJ)V"⟩, 12), (⟨"CellarPushers$Search", "walkedTo", "(II)I"⟩, 12)]
theorem lw_r2 : ∀ q ∈ lw_privs_2, lw_okq q := List.forall_mem_cons.mpr ⟨lw_p16, List.forall_mem_cons.mpr ⟨lw_p17, List.forall_mem_cons.mpr ⟨lw_p18, List.forall_mem_cons.mpr ⟨lw_p19, List.forall_mem_cons.mpr ⟨lw_p20, List.forall_mem_cons.mpr ⟨lw_p21, List.forall_mem_cons.mpr ⟨lw_p22, List.forall_mem_cons.mpr ⟨lw_p23, List.forall_mem_cons.mpr ⟨lw_p24, List.forall_mem_cons.mpr ⟨lw_p25, List.forall_mem_cons.mpr ⟨lw_p26, List.forall_mem_cons.mpr ⟨lw_p27, List.forall_mem_cons.mpr ⟨lw_p28, List.forall_mem_cons.mpr ⟨lw_p29, List.forall_mem_cons.mpr ⟨lw_p30, List.forall_mem_cons.mpr ⟨lw_p31, fun _ h => absurd h List.not_mem_nil⟩⟩⟩⟩⟩⟩⟩⟩⟩⟩⟩⟩⟩⟩⟩⟩
theorem lw_p32 : lw_okq (⟨"CellarPushers$Search", "setIn", "(I)I"⟩, 12) := ⟨⟨by decide +kernel, by decide +kernel⟩, List.mem_of_getElem? (i := 169) (by decide +kernel), List.mem_of_getElem? (i := 687) (by decide +kernel), List.mem_of_getElem? (i := 688) (by decide +kernel)⟩
theorem lw_p33 : lw_okq (⟨"CellarPushers$Search", "pushFrom", "(IJ)V"⟩, 12) := ⟨⟨by decide +kernel, by decide +kernel⟩, List.mem_of_getElem? (i := 169) (by decide +kernel), List.mem_of_getElem? (i := 691) (by decide +kernel), List.mem_of_getElem? (i := 692) (by decide +kernel)⟩
theorem lw_p34 : lw_okq (⟨"CellarPushers$Search", "pushedTo", "(II)I"⟩, 12) := ⟨⟨by decide +kernel, by decide +kernel⟩, List.mem_of_getElem? (i := 169) (by decide +kernel), List.mem_of_getElem? (i := 695) (by decide +kernel), List.mem_of_getElem? (i := 696) (by decide +kernel)⟩
theorem lw_p35 : lw_okq (⟨"CellarPushers$Search", "rolledTo", "(III)I"⟩, 12) := ⟨⟨by decide +kernel, by decide +kernel⟩, List.mem_of_getElem? (i := 169) (by decide +kernel), List.mem_of_getElem? (i := 699) (by decide +kernel), List.mem_of_getElem? (i := 700) (by decide +kernel)⟩
theorem lw_p36 : lw_okq (⟨"CellarPushers$Search", "markRows", "()V"⟩, 12) := ⟨⟨by decide +kernel, by decide +kernel⟩, List.mem_of_getElem? (i := 169) (by decide +kernel), List.mem_of_getElem? (i := 703) (by decide +kernel), List.mem_of_getElem? (i := 704) (by decide +kernel)⟩
theorem lw_p37 : lw_okq (⟨"CellarPushers$Search", "leastWay", "(I)I"⟩, 12) := ⟨⟨by decide +kernel, by decide +kernel⟩, List.mem_of_getElem? (i := 169) (by decide +kernel), List.mem_of_getElem? (i := 707) (by decide +kernel), List.mem_of_getElem? (i := 708) (by decide +kernel)⟩
theorem lw_p38 : lw_okq (⟨"CellarPushers$Search", "takeRow", "(ILCellarPushers$Ways;)V"⟩, 12) := ⟨⟨by decide +kernel, by decide +kernel⟩, List.mem_of_getElem? (i := 169) (by decide +kernel), List.mem_of_getElem? (i := 713) (by decide +kernel), List.mem_of_getElem? (i := 714) (by decide +kernel)⟩
theorem lw_p39 : lw_okq (⟨"CellarPushers$Ways", "isIn", "(I)Z"⟩, 2) := ⟨⟨by decide +kernel, by decide +kernel⟩, List.mem_of_getElem? (i := 212) (by decide +kernel), List.mem_of_getElem? (i := 748) (by decide +kernel), List.mem_of_getElem? (i := 749) (by decide +kernel)⟩
theorem lw_p40 : lw_okq (⟨"CellarPushersModel", "isField", "(II)Z"⟩, 36) := ⟨⟨by decide +kernel, by decide +kernel⟩, List.mem_of_getElem? (i := 800) (by decide +kernel), List.mem_of_getElem? (i := 920) (by decide +kernel), List.mem_of_getElem? (i := 921) (by decide +kernel)⟩
theorem lw_p41 : lw_okq (⟨"CellarPushersModel", "forget", "()V"⟩, 36) := ⟨⟨by decide +kernel, by decide +kernel⟩, List.mem_of_getElem? (i := 800) (by decide +kernel), List.mem_of_getElem? (i := 927) (by decide +kernel), List.mem_of_getElem? (i := 928) (by decide +kernel)⟩
theorem lw_p42 : lw_okq (⟨"CellarPushersModel", "kindOf", "(I)I"⟩, 36) := ⟨⟨by decide +kernel, by decide +kernel⟩, List.mem_of_getElem? (i := 800) (by decide +kernel), List.mem_of_getElem? (i := 939) (by decide +kernel), List.mem_of_getElem? (i := 940) (by decide +kernel)⟩
theorem lw_p43 : lw_okq (⟨"CellarPushersModel", "number", "([Z)I"⟩, 36) := ⟨⟨by decide +kernel, by decide +kernel⟩, List.mem_of_getElem? (i := 800) (by decide +kernel), List.mem_of_getElem? (i := 943) (by decide +kernel), List.mem_of_getElem? (i := 944) (by decide +kernel)⟩
theorem lw_p44 : lw_okq (⟨"CellarPushersModel", "wouldStep", "(I)I"⟩, 36) := ⟨⟨by decide +kernel, by decide +kernel⟩, List.mem_of_getElem? (i := 800) (by decide +kernel), List.mem_of_getElem? (i := 959) (by decide +kernel), List.mem_of_getElem? (i := 960) (by decide +kernel)⟩
theorem lw_p45 : lw_okq (⟨"CellarPushersModel", "beside", "(II)I"⟩, 36) := ⟨⟨by decide +kernel, by decide +kernel⟩, List.mem_of_getElem? (i := 800) (by decide +kernel), List.mem_of_getElem? (i := 963) (by decide +kernel), List.mem_of_getElem? (i := 964) (by decide +kernel)⟩
theorem lw_p46 : lw_okq (⟨"CellarPushersModel", "mayMan", "(II)Z"⟩, 36) := ⟨⟨by decide +kernel, by decide +kernel⟩, List.mem_of_getElem? (i := 800) (by decide +kernel), List.mem_of_getElem? (i := 967) (by decide +kernel), List.mem_of_getElem? (i := 968) (by decide +kernel)⟩
theorem lw_p47 : lw_okq (⟨"CellarPushersModel", "letsMan", "(II)Z"⟩, 36) := ⟨⟨by decide +kernel, by decide +kernel⟩, List.mem_of_getElem? (i := 800) (by decide +kernel), List.mem_of_getElem? (i := 971) (by decide +kernel), List.mem_of_getElem? (i := 972) (by decide +kernel)⟩
def lw_privs_3 : List (MethodName × Nat) := [(⟨"CellarPushers$Search", "setIn", "(I)I"⟩, 12), (⟨"CellarPushers$Search", "pushFrom", "(IJ)V"⟩, 12), (⟨"CellarPushers$Search", "pushedTo", "(II)I"⟩, 12), (⟨"CellarPushers$Search", "rolledTo", "(III)I"⟩, 12), (⟨"CellarPushers$Search", "markRows", "()V"⟩, 12), (⟨"CellarPushers$Search", "leastWay", "(I)I"⟩, 12), (⟨"CellarPushers$Search", "takeRow", "(ILCellarPushers$Ways;)V"⟩, 12), (⟨"CellarPushers$Ways", "isIn", "(I)Z"⟩, 2), (⟨"CellarPushersModel", "isField", "(II)Z"⟩, 36), (⟨"CellarPushersModel", "forget", "()V"⟩, 36), (⟨"CellarPushersModel", "kindOf", "(I)I"⟩, 36), (⟨"CellarPushersModel", "number", "([Z)I"⟩, 36), (⟨"CellarPushersModel", "wouldStep", "(I)I"⟩, 36), (⟨"CellarPushersModel", "beside", "(II)I"⟩, 36), (⟨"CellarPushersModel", "mayMan", "(II)Z"⟩, 36), (⟨"CellarPushersModel", "letsMan", "(II)Z"⟩, 36)]
theorem lw_r3 : ∀ q ∈ lw_privs_3, lw_okq q := List.forall_mem_cons.mpr ⟨lw_p32, List.forall_mem_cons.mpr ⟨lw_p33, List.forall_mem_cons.mpr ⟨lw_p34, List.forall_mem_cons.mpr ⟨lw_p35, List.forall_mem_cons.mpr ⟨lw_p36, List.forall_mem_cons.mpr ⟨lw_p37, List.forall_mem_cons.mpr ⟨lw_p38, List.forall_mem_cons.mpr ⟨lw_p39, List.forall_mem_cons.mpr ⟨lw_p40, List.forall_mem_cons.mpr ⟨lw_p41, List.forall_mem_cons.mpr ⟨lw_p42, List.forall_mem_cons.mpr ⟨lw_p43, List.forall_mem_cons.mpr ⟨lw_p44, List.forall_mem_cons.mpr ⟨lw_p45, List.forall_mem_cons.mpr ⟨lw_p46, List.forall_mem_cons.mpr ⟨lw_p47, fun _ h => absurd h List.not_mem_nil⟩⟩⟩⟩⟩⟩⟩⟩⟩⟩⟩⟩⟩⟩⟩⟩
theorem lw_p48 : lw_okq (⟨"CellarPushersModel", "lets", "(II)Z"⟩, 36) := ⟨⟨by decide +kernel, by decide +kernel⟩, List.mem_of_getElem? (i := 800) (by decide +kernel), List.mem_of_getElem? (i := 975) (by decide +kernel), List.mem_of_getElem? (i := 976) (by decide +kernel)⟩
theorem lw_p49 : lw_okq (⟨"CellarPushersModel", "mayBarrel", "(II)Z"⟩, 36) := ⟨⟨by decide +kernel, by decide +kernel⟩, List.mem_of_getElem? (i := 800) (by decide +kernel), List.mem_of_getElem? (i := 979) (by decide +kernel), List.mem_of_getElem? (i := 980) (by decide +kernel)⟩
theorem lw_p50 : lw_okq (⟨"CellarPushersModel", "begins", "()V"⟩, 36) := ⟨⟨by decide +kernel, by decide +kernel⟩, List.mem_of_getElem? (i := 800) (by decide +kernel), List.mem_of_getElem? (i := 983) (by decide +kernel), List.mem_of_getElem? (i := 984) (by decide +kernel)⟩
theorem lw_p51 : lw_okq (⟨"CellarPushersModel", "keep", "(I)V"⟩, 36) := ⟨⟨by decide +kernel, by decide +kernel⟩, List.mem_of_getElem? (i := 800) (by decide +kernel), List.mem_of_getElem? (i := 987) (by decide +kernel), List.mem_of_getElem? (i := 988) (by decide +kernel)⟩
theorem lw_p52 : lw_okq (⟨"CellarPushersModel", "bits", "()J"⟩, 36) := ⟨⟨by decide +kernel, by decide +kernel⟩, List.mem_of_getElem? (i := 800) (by decide +kernel), List.mem_of_getElem? (i := 991) (by decide +kernel), List.mem_of_getElem? (i := 992) (by decide +kernel)⟩
theorem lw_p53 : lw_okq (⟨"CellarPushersModel", "does", "(I)I"⟩, 36) := ⟨⟨by decide +kernel, by decide +kernel⟩, List.mem_of_getElem? (i := 800) (by decide +kernel), List.mem_of_getElem? (i := 995) (by decide +kernel), List.mem_of_getElem? (i := 996) (by decide +kernel)⟩
theorem lw_p54 : lw_okq (⟨"CellarPushersModel", "ends", "()V"⟩, 36) := ⟨⟨by decide +kernel, by decide +kernel⟩, List.mem_of_getElem? (i := 800) (by decide +kernel), List.mem_of_getElem? (i := 999) (by decide +kernel), List.mem_of_getElem? (i := 1000) (by decide +kernel)⟩
theorem lw_p55 : lw_okq (⟨"CellarPushersModel", "walkOut", "()V"⟩, 36) := ⟨⟨by decide +kernel, by decide +kernel⟩, List.mem_of_getElem? (i := 800) (by decide +kernel), List.mem_of_getElem? (i := 1007) (by decide +kernel), List.mem_of_getElem? (i := 1008) (by decide +kernel)⟩
theorem lw_p56 : lw_okq (⟨"CellarPushersModel", "back", "(I)V"⟩, 36) := ⟨⟨by decide +kernel, by decide +kernel⟩, List.mem_of_getElem? (i := 800) (by decide +kernel), List.mem_of_getElem? (i := 1024) (by decide +kernel), List.mem_of_getElem? (i := 1025) (by decide +kernel)⟩
theorem lw_p57 : lw_okq (⟨"CellarPushersModel", "isDead", "(I)Z"⟩, 36) := ⟨⟨by decide +kernel, by decide +kernel⟩, List.mem_of_getElem? (i := 800) (by decide +kernel), List.mem_of_getElem? (i := 1056) (by decide +kernel), List.mem_of_getElem? (i := 1057) (by decide +kernel)⟩
theorem lw_p58 : lw_okq (⟨"CellarPushersModel", "pushOut", "(I)V"⟩, 36) := ⟨⟨by decide +kernel, by decide +kernel⟩, List.mem_of_getElem? (i := 800) (by decide +kernel), List.mem_of_getElem? (i := 1060) (by decide +kernel), List.mem_of_getElem? (i := 1061) (by decide +kernel)⟩
theorem lw_p59 : lw_okq (⟨"CellarPushersModel", "hold", "()V"⟩, 36) := ⟨⟨by decide +kernel, by decide +kernel⟩, List.mem_of_getElem? (i := 800) (by decide +kernel), List.mem_of_getElem? (i := 1068) (by decide +kernel), List.mem_of_getElem? (i := 1069) (by decide +kernel)⟩
theorem lw_p60 : lw_okq (⟨"CellarPushersModel", "bars", "(I)Z"⟩, 36) := ⟨⟨by decide +kernel, by decide +kernel⟩, List.mem_of_getElem? (i := 800) (by decide +kernel), List.mem_of_getElem? (i := 1072) (by decide +kernel), List.mem_of_getElem? (i := 1073) (by decide +kernel)⟩
theorem lw_p61 : lw_okq (⟨"CellarPushersModel", "fields", "()I"⟩, 36) := ⟨⟨by decide +kernel, by decide +kernel⟩, List.mem_of_getElem? (i := 800) (by decide +kernel), List.mem_of_getElem? (i := 1098) (by decide +kernel), List.mem_of_getElem? (i := 1099) (by decide +kernel)⟩
theorem lw_p62 : lw_okq (⟨"CellarPushersModel", "stand", "()I"⟩, 36) := ⟨⟨by decide +kernel, by decide +kernel⟩, List.mem_of_getElem? (i := 800) (by decide +kernel), List.mem_of_getElem? (i := 1102) (by decide +kernel), List.mem_of_getElem? (i := 1103) (by decide +kernel)⟩
theorem lw_p63 : lw_okq (⟨"CellarPushersModel", "spread", "(I)V"⟩, 36) := ⟨⟨by decide +kernel, by decide +kernel⟩, List.mem_of_getElem? (i := 800) (by decide +kernel), List.mem_of_getElem? (i := 1106) (by decide +kernel), List.mem_of_getElem? (i := 1107) (by decide +kernel)⟩
def lw_privs_4 : List (MethodName × Nat) := [(⟨"CellarPushersModel", "lets", "(II)Z"⟩, 36), (⟨"CellarPushersModel", "mayBarrel", "(II)Z"⟩, 36), (⟨"CellarPushersModel", "begins", "()V"⟩, 36), (⟨"CellarPushersModel", "keep", "(I)V"⟩, 36), (⟨"CellarPushersModel", "bits", "()J"⟩, 36), (⟨"CellarPushersModel", "does", "(I)I"⟩, 36), (⟨"CellarPushersModel", "ends", "()V"⟩, 36), (⟨"CellarPushersModel", "walkOut", "()V"⟩, 36), (⟨"CellarPushersModel", "back", "(I)V"⟩, 36), (⟨"CellarPushersModel", "isDead", "(I)Z"⟩, 36), (⟨"CellarPushersModel", "pushOut", "(I)V"⟩, 36), (⟨"CellarPushersModel", "hold", "()V"⟩, 36), (⟨"CellarPushersModel", "bars", "(I)Z"⟩, 36), (⟨"CellarPushersModel", "fields", "()I"⟩, 36), (⟨"CellarPushersModel", "stand", "()I"⟩, 36), (⟨"CellarPushersModel", "spread", "(I)V"⟩, 36)]
theorem lw_r4 : ∀ q ∈ lw_privs_4, lw_okq q := List.forall_mem_cons.mpr ⟨lw_p48, List.forall_mem_cons.mpr ⟨lw_p49, List.forall_mem_cons.mpr ⟨lw_p50, List.forall_mem_cons.mpr ⟨lw_p51, List.forall_mem_cons.mpr ⟨lw_p52, List.forall_mem_cons.mpr ⟨lw_p53, List.forall_mem_cons.mpr ⟨lw_p54, List.forall_mem_cons.mpr ⟨lw_p55, List.forall_mem_cons.mpr ⟨lw_p56, List.forall_mem_cons.mpr ⟨lw_p57, List.forall_mem_cons.mpr ⟨lw_p58, List.forall_mem_cons.mpr ⟨lw_p59, List.forall_mem_cons.mpr ⟨lw_p60, List.forall_mem_cons.mpr ⟨lw_p61, List.forall_mem_cons.mpr ⟨lw_p62, List.forall_mem_cons.mpr ⟨lw_p63, fun _ h => absurd h List.not_mem_nil⟩⟩⟩⟩⟩⟩⟩⟩⟩⟩⟩⟩⟩⟩⟩⟩
theorem lw_p64 : lw_okq (⟨"CellarPushersModel", "setUp", "(I)V"⟩, 36) := ⟨⟨by decide +kernel, by decide +kernel⟩, List.mem_of_getElem? (i := 800) (by decide +kernel), List.mem_of_getElem? (i := 1110) (by decide +kernel), List.mem_of_getElem? (i := 1111) (by decide +kernel)⟩
theorem lw_p65 : lw_okq (⟨"CellarPushersModel", "behind", "(II)I"⟩, 36) := ⟨⟨by decide +kernel, by decide +kernel⟩, List.mem_of_getElem? (i := 800) (by decide +kernel), List.mem_of_getElem? (i := 1114) (by decide +kernel), List.mem_of_getElem? (i := 1115) (by decide +kernel)⟩
theorem lw_p66 : lw_okq (⟨"CellarPushersModel", "goAlong", "(II)V"⟩, 36) := ⟨⟨by decide +kernel, by decide +kernel⟩, List.mem_of_getElem? (i := 800) (by decide +kernel), List.mem_of_getElem? (i := 1120) (by decide +kernel), List.mem_of_getElem? (i := 1121) (by decide +kernel)⟩
theorem lw_p67 : lw_okq (⟨"CellarPushersModel", "goes", "([II)I"⟩, 36) := ⟨⟨by decide +kernel, by decide +kernel⟩, List.mem_of_getElem? (i := 800) (by decide +kernel), List.mem_of_getElem? (i := 1137) (by decide +kernel), List.mem_of_getElem? (i := 1138) (by decide +kernel)⟩
def lw_privs_5 : List (MethodName × Nat) := [(⟨"CellarPushersModel", "setUp", "(I)V"⟩, 36), (⟨"CellarPushersModel", "behind", "(II)I"⟩, 36), (⟨"CellarPushersModel", "goAlong", "(II)V"⟩, 36), (⟨"CellarPushersModel", "goes", "([II)I"⟩, 36)]
theorem lw_r5 : ∀ q ∈ lw_privs_5, lw_okq q := List.forall_mem_cons.mpr ⟨lw_p64, List.forall_mem_cons.mpr ⟨lw_p65, List.forall_mem_cons.mpr ⟨lw_p66, List.forall_mem_cons.mpr ⟨lw_p67, fun _ h => absurd h List.not_mem_nil⟩⟩⟩⟩
def lw_privs : List (MethodName × Nat) := lw_privs_1 ++ (lw_privs_2 ++ (lw_privs_3 ++ (lw_privs_4 ++ (lw_privs_5))))
def lw_tbl : List Cond := k2_sels lw_privs ++ tables_1
theorem lw_privs_ok : ∀ q ∈ lw_privs, lw_okq q := by
  show ∀ q ∈ lw_privs_1 ++ (lw_privs_2 ++ (lw_privs_3 ++ (lw_privs_4 ++ (lw_privs_5)))), lw_okq q
  exact List.forall_mem_append.mpr ⟨lw_r1, List.forall_mem_append.mpr ⟨lw_r2, List.forall_mem_append.mpr ⟨lw_r3, List.forall_mem_append.mpr ⟨lw_r4, lw_r5⟩⟩⟩⟩
-- ===== end of PART A; then your names; then what follows =====
/-! ===== BEGIN words of one list among another's, by their places ===== -/
theorem goodIn_r {big : List Cond} (ws : List Cond) (ps : List Nat) (hp : ws = ps.filterMap (fun i => big[i]?)) (h : ws.all goodWord = true) : GoodIn big ws := by
  intro w hw
  have h1 := List.all_eq_true.mp h w hw
  rw [hp] at hw
  obtain ⟨i, -, hi⟩ := List.mem_filterMap.mp hw
  have hm : w ∈ big := by first | exact List.mem_of_getElem? hi | exact List.getElem?_mem hi
  exact ⟨hm, good_of_word h1⟩
theorem goodIn_app {big a b : List Cond} (ha : GoodIn big a) (hb : GoodIn big b) : GoodIn big (a ++ b) := fun w h => (List.mem_append.mp h).elim (ha w) (hb w)
theorem goodIn_ca {big a b : List Cond} {c : Cond} (ha : GoodIn big (c :: a)) (hb : GoodIn big b) : GoodIn big (c :: (a ++ b)) := fun w h => (List.mem_cons.mp h).elim (fun e => ha w (List.mem_cons.mpr (Or.inl e))) (fun h => (List.mem_append.mp h).elim (fun h => ha w (List.mem_cons.mpr (Or.inr h))) (hb w))
theorem goodIn_sub {big ws : List Cond} (hm : ∀ w ∈ ws, w ∈ big) (h : ws.all goodWord = true) : GoodIn big ws := fun w hw => ⟨hm w hw, good_of_word (List.all_eq_true.mp h w hw)⟩
/-! ===== END ===== -/

/-! ===== BEGIN printed: names, fields, word lists, decode rows ===== -/
def RX0 : String := "CellarPushers$Ground"
def TX0 : u_T := fun k => match k with
  | 0 => ("CellarPushers$Ground", "width", "I", true)
  | 1 => ("CellarPushers$Ground", "height", "I", true)
  | 2 => ("CellarPushers$Ground", "wanted", "J", false)
  | 3 => ("CellarPushers$Ground", "kinds", "[I", true)
  | 4 => ("CellarPushers$Ground", "rampWays", "[I", true)
  | _ => ("CellarPushers$Ground", "missing", "[Z", true)
def tyX0 : Nat → FieldType := fun k => match k with
  | 0 => .int
  | 1 => .int
  | 2 => .long
  | 3 => .array .int
  | 4 => .array .int
  | _ => .array .boolean
abbrev wsX00 : List Cond := u_ws RX0 TX0 6
theorem nmX0 : ∀ a, a < 6 → ∀ b, b < 6 → a ≠ b → (TX0 a).2.1 ≠ (TX0 b).2.1 := by decide +kernel
theorem tyX0_ok : ∀ k, k < 6 → parseFieldDescriptor (TX0 k).2.2.1 = some (tyX0 k) := by decide +kernel
abbrev cX0_init : ByteArray := prog_2_method_1_code
def yX0_init : MethodName := ⟨RX0, "<init>", "(II)V"⟩
abbrev cX0_numberOf : ByteArray := prog_2_method_2_code
def yX0_numberOf : MethodName := ⟨RX0, "numberOf", "(II)I"⟩
abbrev cX0_beside : ByteArray := prog_2_method_3_code
def yX0_beside : MethodName := ⟨RX0, "beside", "(II)I"⟩
abbrev cX0_kindNow : ByteArray := prog_2_method_4_code
def yX0_kindNow : MethodName := ⟨RX0, "kindNow", "(I)I"⟩
abbrev cX0_lay : ByteArray := prog_2_method_5_code
def yX0_lay : MethodName := ⟨RX0, "lay", "(III)I"⟩
abbrev cX0_letMiss : ByteArray := prog_2_method_6_code
def yX0_letMiss : MethodName := ⟨RX0, "letMiss", "(IZ)Z"⟩
abbrev cX0_openFields : ByteArray := prog_2_method_7_code
def yX0_openFields : MethodName := ⟨RX0, "openFields", "()I"⟩
abbrev cX0_isForMan : ByteArray := prog_2_method_8_code
def yX0_isForMan : MethodName := ⟨RX0, "isForMan", "(I)Z"⟩
abbrev cX0_manMayCome : ByteArray := prog_2_method_9_code
def yX0_manMayCome : MethodName := ⟨RX0, "manMayCome", "(II)Z"⟩
abbrev cX0_barrelMayCome : ByteArray := prog_2_method_10_code
def yX0_barrelMayCome : MethodName := ⟨RX0, "barrelMayCome", "(II)Z"⟩
abbrev cX0_rollsOn : ByteArray := prog_2_method_11_code
def yX0_rollsOn : MethodName := ⟨RX0, "rollsOn", "(I)Z"⟩
abbrev cX0_rampWay : ByteArray := prog_2_method_12_code
def yX0_rampWay : MethodName := ⟨RX0, "rampWay", "(I)I"⟩
def RX1 : String := "CellarPushers$Pairing"
def TX1 : u_T := fun k => match k with
  | 0 => ("CellarPushers$Pairing", "marks", "[I", true)
  | 1 => ("CellarPushers$Pairing", "sums", "[I", true)
  | _ => ("CellarPushers$Pairing", "size", "I", false)
def tyX1 : Nat → FieldType := fun k => match k with
  | 0 => .array .int
  | 1 => .array .int
  | _ => .int
abbrev wsX10 : List Cond := u_ws RX1 TX1 3
theorem nmX1 : ∀ a, a < 3 → ∀ b, b < 3 → a ≠ b → (TX1 a).2.1 ≠ (TX1 b).2.1 := by decide +kernel
theorem tyX1_ok : ∀ k, k < 3 → parseFieldDescriptor (TX1 k).2.2.1 = some (tyX1 k) := by decide +kernel
abbrev cX1_init : ByteArray := prog_3_method_1_code
def yX1_init : MethodName := ⟨RX1, "<init>", "()V"⟩
abbrev cX1_leastSum : ByteArray := prog_3_method_2_code
def yX1_leastSum : MethodName := ⟨RX1, "leastSum", "(LCellarPushers$Ground;LCellarPushers$Prices;J)I"⟩
abbrev cX1_listMarks : ByteArray := prog_3_method_3_code
def yX1_listMarks : MethodName := ⟨RX1, "listMarks", "(J)V"⟩
abbrev cX1_pairNext : ByteArray := prog_3_method_4_code
def yX1_pairNext : MethodName := ⟨RX1, "pairNext", "(LCellarPushers$Prices;I)V"⟩
abbrev cX1_pairWithEach : ByteArray := prog_3_method_5_code
def yX1_pairWithEach : MethodName := ⟨RX1, "pairWithEach", "(LCellarPushers$Prices;I)V"⟩
def RX2 : String := "CellarPushers$Prices"
def TX2 : u_T := fun k => match k with
  | 0 => ("CellarPushers$Prices", "reached", "I", false)
  | 1 => ("CellarPushers$Prices", "pushes", "[I", true)
  | _ => ("CellarPushers$Prices", "queue", "[I", true)
def tyX2 : Nat → FieldType := fun k => match k with
  | 0 => .int
  | 1 => .array .int
  | _ => .array .int
abbrev wsX20 : List Cond := u_ws RX2 TX2 3
theorem nmX2 : ∀ a, a < 3 → ∀ b, b < 3 → a ≠ b → (TX2 a).2.1 ≠ (TX2 b).2.1 := by decide +kernel
theorem tyX2_ok : ∀ k, k < 3 → parseFieldDescriptor (TX2 k).2.2.1 = some (tyX2 k) := by decide +kernel
abbrev cX2_init : ByteArray := prog_4_method_1_code
def yX2_init : MethodName := ⟨RX2, "<init>", "()V"⟩
abbrev cX2_measure : ByteArray := prog_4_method_2_code
def yX2_measure : MethodName := ⟨RX2, "measure", "(LCellarPushers$Ground;I)V"⟩
abbrev cX2_priceTo : ByteArray := prog_4_method_3_code
def yX2_priceTo : MethodName := ⟨RX2, "priceTo", "(I)I"⟩
abbrev cX2_isDead : ByteArray := prog_4_method_4_code
def yX2_isDead : MethodName := ⟨RX2, "isDead", "(LCellarPushers$Ground;I)Z"⟩
abbrev cX2_pushOn : ByteArray := prog_4_method_5_code
def yX2_pushOn : MethodName := ⟨RX2, "pushOn", "(LCellarPushers$Ground;II)V"⟩
abbrev cX2_reach : ByteArray := prog_4_method_6_code
def yX2_reach : MethodName := ⟨RX2, "reach", "(II)V"⟩
def RX3 : String := "CellarPushers$Scene"
def TX3 : u_T := fun k => match k with
  | 0 => ("CellarPushers$Scene", "manAt", "I", false)
  | 1 => ("CellarPushers$Scene", "barrels", "J", false)
  | 2 => ("CellarPushers$Scene", "stepsDone", "I", false)
  | _ => ("CellarPushers$Scene", "pushesDone", "I", false)
def tyX3 : Nat → FieldType := fun k => match k with
  | 0 => .int
  | 1 => .long
  | 2 => .int
  | _ => .int
abbrev wsX30 : List Cond := u_ws RX3 TX3 4
theorem nmX3 : ∀ a, a < 4 → ∀ b, b < 4 → a ≠ b → (TX3 a).2.1 ≠ (TX3 b).2.1 := by decide +kernel
theorem tyX3_ok : ∀ k, k < 4 → parseFieldDescriptor (TX3 k).2.2.1 = some (tyX3 k) := by decide +kernel
abbrev cX3_init : ByteArray := prog_5_method_1_code
def yX3_init : MethodName := ⟨RX3, "<init>", "()V"⟩
abbrev cX3_become : ByteArray := prog_5_method_2_code
def yX3_become : MethodName := ⟨RX3, "become", "(LCellarPushers$Scene;)V"⟩
abbrev cX3_hasMan : ByteArray := prog_5_method_3_code
def yX3_hasMan : MethodName := ⟨RX3, "hasMan", "()Z"⟩
abbrev cX3_hasBarrel : ByteArray := prog_5_method_4_code
def yX3_hasBarrel : MethodName := ⟨RX3, "hasBarrel", "(I)Z"⟩
abbrev cX3_isTaken : ByteArray := prog_5_method_5_code
def yX3_isTaken : MethodName := ⟨RX3, "isTaken", "(I)Z"⟩
abbrev cX3_advance : ByteArray := prog_5_method_6_code
def yX3_advance : MethodName := ⟨RX3, "advance", "(LCellarPushers$Ground;I)I"⟩
abbrev cX3_advanceBy : ByteArray := prog_5_method_7_code
def yX3_advanceBy : MethodName := ⟨RX3, "advanceBy", "(LCellarPushers$Ground;LCellarPushers$Ways;)I"⟩
abbrev cX3_roll : ByteArray := prog_5_method_8_code
def yX3_roll : MethodName := ⟨RX3, "roll", "(LCellarPushers$Ground;II)I"⟩
def RX4 : String := "CellarPushers$Search"
def TX4 : u_T := fun k => match k with
  | 0 => ("CellarPushers$Search", "cellOf", "[I", true)
  | 1 => ("CellarPushers$Search", "manTo", "[I", true)
  | 2 => ("CellarPushers$Search", "barrelTo", "[I", true)
  | 3 => ("CellarPushers$Search", "rolls", "[Z", true)
  | 4 => ("CellarPushers$Search", "cells", "I", false)
  | 5 => ("CellarPushers$Search", "liveCells", "I", false)
  | 6 => ("CellarPushers$Search", "doneRank", "I", false)
  | 7 => ("CellarPushers$Search", "sets", "[I", false)
  | 8 => ("CellarPushers$Search", "order", "[I", false)
  | 9 => ("CellarPushers$Search", "costs", "[J", false)
  | 10 => ("CellarPushers$Search", "reached", "I", false)
  | _ => ("CellarPushers$Search", "best", "J", false)
def tyX4 : Nat → FieldType := fun k => match k with
  | 0 => .array .int
  | 1 => .array .int
  | 2 => .array .int
  | 3 => .array .boolean
  | 4 => .int
  | 5 => .int
  | 6 => .int
  | 7 => .array .int
  | 8 => .array .int
  | 9 => .array .long
  | 10 => .int
  | _ => .long
abbrev wsX40 : List Cond := u_ws RX4 TX4 12
theorem nmX4 : ∀ a, a < 12 → ∀ b, b < 12 → a ≠ b → (TX4 a).2.1 ≠ (TX4 b).2.1 := by decide +kernel
theorem tyX4_ok : ∀ k, k < 12 → parseFieldDescriptor (TX4 k).2.2.1 = some (tyX4 k) := by decide +kernel
abbrev cX4_init : ByteArray := prog_6_method_1_code
def yX4_init : MethodName := ⟨RX4, "<init>", "()V"⟩
abbrev cX4_solve : ByteArray := prog_6_method_2_code
def yX4_solve : MethodName := ⟨RX4, "solve", "(LCellarPushers$Ground;LCellarPushers$Scene;JLCellarPushers$Ways;)I"⟩
abbrev cX4_numberCells : ByteArray := prog_6_method_3_code
def yX4_numberCells : MethodName := ⟨RX4, "numberCells", "(LCellarPushers$Ground;)V"⟩
abbrev cX4_joinCells : ByteArray := prog_6_method_4_code
def yX4_joinCells : MethodName := ⟨RX4, "joinCells", "(LCellarPushers$Ground;I)V"⟩
abbrev cX4_cellAt : ByteArray := prog_6_method_5_code
def yX4_cellAt : MethodName := ⟨RX4, "cellAt", "(I)I"⟩
abbrev cX4_setOf : ByteArray := prog_6_method_6_code
def yX4_setOf : MethodName := ⟨RX4, "setOf", "(J)I"⟩
abbrev cX4_rankOf : ByteArray := prog_6_method_7_code
def yX4_rankOf : MethodName := ⟨RX4, "rankOf", "(I)I"⟩
abbrev cX4_listSets : ByteArray := prog_6_method_8_code
def yX4_listSets : MethodName := ⟨RX4, "listSets", "(I)V"⟩
abbrev cX4_nextSet : ByteArray := prog_6_method_9_code
def yX4_nextSet : MethodName := ⟨RX4, "nextSet", "(I)I"⟩
abbrev cX4_makeRoom : ByteArray := prog_6_method_10_code
def yX4_makeRoom : MethodName := ⟨RX4, "makeRoom", "(I)V"⟩
abbrev cX4_explore : ByteArray := prog_6_method_11_code
def yX4_explore : MethodName := ⟨RX4, "explore", "(I)V"⟩
abbrev cX4_walkFrom : ByteArray := prog_6_method_12_code
def yX4_walkFrom : MethodName := ⟨RX4, "walkFrom", "(IJ)V"⟩
abbrev cX4_pushFrom : ByteArray := prog_6_method_13_code
def yX4_pushFrom : MethodName := ⟨RX4, "pushFrom", "(IJ)V"⟩
abbrev cX4_reach : ByteArray := prog_6_method_14_code
def yX4_reach : MethodName := ⟨RX4, "reach", "(IJ)V"⟩
abbrev cX4_costOf : ByteArray := prog_6_method_15_code
def yX4_costOf : MethodName := ⟨RX4, "costOf", "(I)J"⟩
abbrev cX4_setIn : ByteArray := prog_6_method_16_code
def yX4_setIn : MethodName := ⟨RX4, "setIn", "(I)I"⟩
abbrev cX4_cellFrom : ByteArray := prog_6_method_17_code
def yX4_cellFrom : MethodName := ⟨RX4, "cellFrom", "([III)I"⟩
abbrev cX4_walkedTo : ByteArray := prog_6_method_18_code
def yX4_walkedTo : MethodName := ⟨RX4, "walkedTo", "(II)I"⟩
abbrev cX4_pushedTo : ByteArray := prog_6_method_19_code
def yX4_pushedTo : MethodName := ⟨RX4, "pushedTo", "(II)I"⟩
abbrev cX4_rolledTo : ByteArray := prog_6_method_20_code
def yX4_rolledTo : MethodName := ⟨RX4, "rolledTo", "(III)I"⟩
abbrev cX4_markRows : ByteArray := prog_6_method_21_code
def yX4_markRows : MethodName := ⟨RX4, "markRows", "()V"⟩
abbrev cX4_leastWay : ByteArray := prog_6_method_22_code
def yX4_leastWay : MethodName := ⟨RX4, "leastWay", "(I)I"⟩
abbrev cX4_takeRow : ByteArray := prog_6_method_23_code
def yX4_takeRow : MethodName := ⟨RX4, "takeRow", "(ILCellarPushers$Ways;)V"⟩
def RX5 : String := "CellarPushers$Timeline"
def TX5 : u_T := fun k => match k with
  | 0 => ("CellarPushers$Timeline", "now", "I", false)
  | 1 => ("CellarPushers$Timeline", "last", "I", false)
  | 2 => ("CellarPushers$Timeline", "men", "[I", true)
  | 3 => ("CellarPushers$Timeline", "barrels", "[J", true)
  | 4 => ("CellarPushers$Timeline", "steps", "[I", true)
  | _ => ("CellarPushers$Timeline", "pushes", "[I", true)
def tyX5 : Nat → FieldType := fun k => match k with
  | 0 => .int
  | 1 => .int
  | 2 => .array .int
  | 3 => .array .long
  | 4 => .array .int
  | _ => .array .int
abbrev wsX50 : List Cond := u_ws RX5 TX5 6
theorem nmX5 : ∀ a, a < 6 → ∀ b, b < 6 → a ≠ b → (TX5 a).2.1 ≠ (TX5 b).2.1 := by decide +kernel
theorem tyX5_ok : ∀ k, k < 6 → parseFieldDescriptor (TX5 k).2.2.1 = some (tyX5 k) := by decide +kernel
abbrev cX5_init : ByteArray := prog_7_method_1_code
def yX5_init : MethodName := ⟨RX5, "<init>", "()V"⟩
abbrev cX5_forget : ByteArray := prog_7_method_2_code
def yX5_forget : MethodName := ⟨RX5, "forget", "()V"⟩
abbrev cX5_record : ByteArray := prog_7_method_3_code
def yX5_record : MethodName := ⟨RX5, "record", "(LCellarPushers$Scene;LCellarPushers$Scene;)V"⟩
abbrev cX5_goBack : ByteArray := prog_7_method_4_code
def yX5_goBack : MethodName := ⟨RX5, "goBack", "(LCellarPushers$Scene;)I"⟩
abbrev cX5_goForth : ByteArray := prog_7_method_5_code
def yX5_goForth : MethodName := ⟨RX5, "goForth", "(LCellarPushers$Scene;)I"⟩
abbrev cX5_keep : ByteArray := prog_7_method_6_code
def yX5_keep : MethodName := ⟨RX5, "keep", "(ILCellarPushers$Scene;)V"⟩
abbrev cX5_bring : ByteArray := prog_7_method_7_code
def yX5_bring : MethodName := ⟨RX5, "bring", "(ILCellarPushers$Scene;)V"⟩
def RX6 : String := "CellarPushers$Walks"
def TX6 : u_T := fun k => match k with
  | 0 => ("CellarPushers$Walks", "reached", "I", false)
  | 1 => ("CellarPushers$Walks", "far", "[I", true)
  | _ => ("CellarPushers$Walks", "queue", "[I", true)
def tyX6 : Nat → FieldType := fun k => match k with
  | 0 => .int
  | 1 => .array .int
  | _ => .array .int
abbrev wsX60 : List Cond := u_ws RX6 TX6 3
theorem nmX6 : ∀ a, a < 3 → ∀ b, b < 3 → a ≠ b → (TX6 a).2.1 ≠ (TX6 b).2.1 := by decide +kernel
theorem tyX6_ok : ∀ k, k < 3 → parseFieldDescriptor (TX6 k).2.2.1 = some (tyX6 k) := by decide +kernel
abbrev cX6_init : ByteArray := prog_8_method_1_code
def yX6_init : MethodName := ⟨RX6, "<init>", "()V"⟩
abbrev cX6_measure : ByteArray := prog_8_method_2_code
def yX6_measure : MethodName := ⟨RX6, "measure", "(LCellarPushers$Ground;LCellarPushers$Scene;)V"⟩
abbrev cX6_stepsTo : ByteArray := prog_8_method_3_code
def yX6_stepsTo : MethodName := ⟨RX6, "stepsTo", "(I)I"⟩
abbrev cX6_reach : ByteArray := prog_8_method_4_code
def yX6_reach : MethodName := ⟨RX6, "reach", "(II)V"⟩
def RX7 : String := "CellarPushers$Ways"
def TX7 : u_T := fun k => match k with
  | 0 => ("CellarPushers$Ways", "size", "I", false)
  | _ => ("CellarPushers$Ways", "ways", "[I", false)
def tyX7 : Nat → FieldType := fun k => match k with
  | 0 => .int
  | _ => .array .int
abbrev wsX70 : List Cond := u_ws RX7 TX7 2
theorem nmX7 : ∀ a, a < 2 → ∀ b, b < 2 → a ≠ b → (TX7 a).2.1 ≠ (TX7 b).2.1 := by decide +kernel
theorem tyX7_ok : ∀ k, k < 2 → parseFieldDescriptor (TX7 k).2.2.1 = some (tyX7 k) := by decide +kernel
abbrev cX7_init : ByteArray := prog_9_method_1_code
def yX7_init : MethodName := ⟨RX7, "<init>", "()V"⟩
abbrev cX7_wayAt : ByteArray := prog_9_method_2_code
def yX7_wayAt : MethodName := ⟨RX7, "wayAt", "(I)I"⟩
abbrev cX7_append : ByteArray := prog_9_method_3_code
def yX7_append : MethodName := ⟨RX7, "append", "(I)V"⟩
abbrev cX7_change : ByteArray := prog_9_method_4_code
def yX7_change : MethodName := ⟨RX7, "change", "(II)V"⟩
abbrev cX7_become : ByteArray := prog_9_method_5_code
def yX7_become : MethodName := ⟨RX7, "become", "(LCellarPushers$Ways;)V"⟩
abbrev cX7_isIn : ByteArray := prog_9_method_6_code
def yX7_isIn : MethodName := ⟨RX7, "isIn", "(I)Z"⟩
def RX8 : String := "CellarPushers"
def TX8 : u_T := fun k => match k with
  | 0 => ("CellarPushers", "ground", "LCellarPushers$Ground;", true)
  | 1 => ("CellarPushers", "scene", "LCellarPushers$Scene;", true)
  | 2 => ("CellarPushers", "trial", "LCellarPushers$Scene;", true)
  | 3 => ("CellarPushers", "timeline", "LCellarPushers$Timeline;", true)
  | 4 => ("CellarPushers", "walks", "LCellarPushers$Walks;", true)
  | 5 => ("CellarPushers", "prices", "LCellarPushers$Prices;", true)
  | 6 => ("CellarPushers", "pairing", "LCellarPushers$Pairing;", true)
  | 7 => ("CellarPushers", "search", "LCellarPushers$Search;", true)
  | 8 => ("CellarPushers", "thePlan", "LCellarPushers$Ways;", true)
  | 9 => ("CellarPushers", "tape", "LCellarPushers$Ways;", true)
  | _ => ("CellarPushers", "spoiltField", "I", false)
def tyX8 : Nat → FieldType := fun k => match k with
  | 0 => .object "CellarPushers$Ground"
  | 1 => .object "CellarPushers$Scene"
  | 2 => .object "CellarPushers$Scene"
  | 3 => .object "CellarPushers$Timeline"
  | 4 => .object "CellarPushers$Walks"
  | 5 => .object "CellarPushers$Prices"
  | 6 => .object "CellarPushers$Pairing"
  | 7 => .object "CellarPushers$Search"
  | 8 => .object "CellarPushers$Ways"
  | 9 => .object "CellarPushers$Ways"
  | _ => .int
abbrev wsX80 : List Cond := u_ws RX8 TX8 11
theorem nmX8 : ∀ a, a < 11 → ∀ b, b < 11 → a ≠ b → (TX8 a).2.1 ≠ (TX8 b).2.1 := by decide +kernel
theorem tyX8_ok : ∀ k, k < 11 → parseFieldDescriptor (TX8 k).2.2.1 = some (tyX8 k) := by decide +kernel
abbrev cX8_init : ByteArray := prog_1_method_1_code
def yX8_init : MethodName := ⟨RX8, "<init>", "(II)V"⟩
abbrev cX8_field : ByteArray := prog_1_method_2_code
def yX8_field : MethodName := ⟨RX8, "field", "(IIII)I"⟩
abbrev cX8_line : ByteArray := prog_1_method_3_code
def yX8_line : MethodName := ⟨RX8, "line", "(IZ)I"⟩
abbrev cX8_barrel : ByteArray := prog_1_method_4_code
def yX8_barrel : MethodName := ⟨RX8, "barrel", "(IIZ)I"⟩
abbrev cX8_man : ByteArray := prog_1_method_5_code
def yX8_man : MethodName := ⟨RX8, "man", "(II)I"⟩
abbrev cX8_want : ByteArray := prog_1_method_6_code
def yX8_want : MethodName := ⟨RX8, "want", "(IIZ)I"⟩
abbrev cX8_step : ByteArray := prog_1_method_7_code
def yX8_step : MethodName := ⟨RX8, "step", "(I)I"⟩
abbrev cX8_walk : ByteArray := prog_1_method_8_code
def yX8_walk : MethodName := ⟨RX8, "walk", "(II)I"⟩
abbrev cX8_push : ByteArray := prog_1_method_9_code
def yX8_push : MethodName := ⟨RX8, "push", "(III)I"⟩
abbrev cX8_can : ByteArray := prog_1_method_10_code
def yX8_can : MethodName := ⟨RX8, "can", "(III)I"⟩
abbrev cX8_undo : ByteArray := prog_1_method_11_code
def yX8_undo : MethodName := ⟨RX8, "undo", "()I"⟩
abbrev cX8_redo : ByteArray := prog_1_method_12_code
def yX8_redo : MethodName := ⟨RX8, "redo", "()I"⟩
abbrev cX8_kind : ByteArray := prog_1_method_13_code
def yX8_kind : MethodName := ⟨RX8, "kind", "(II)I"⟩
abbrev cX8_on : ByteArray := prog_1_method_14_code
def yX8_on : MethodName := ⟨RX8, "on", "(II)I"⟩
abbrev cX8_far : ByteArray := prog_1_method_15_code
def yX8_far : MethodName := ⟨RX8, "far", "(II)I"⟩
abbrev cX8_isDone : ByteArray := prog_1_method_16_code
def yX8_isDone : MethodName := ⟨RX8, "isDone", "()Z"⟩
abbrev cX8_isReady : ByteArray := prog_1_method_17_code
def yX8_isReady : MethodName := ⟨RX8, "isReady", "()Z"⟩
abbrev cX8_dead : ByteArray := prog_1_method_18_code
def yX8_dead : MethodName := ⟨RX8, "dead", "(II)I"⟩
abbrev cX8_held : ByteArray := prog_1_method_19_code
def yX8_held : MethodName := ⟨RX8, "held", "(II)I"⟩
abbrev cX8_spoilt : ByteArray := prog_1_method_20_code
def yX8_spoilt : MethodName := ⟨RX8, "spoilt", "()I"⟩
abbrev cX8_why : ByteArray := prog_1_method_21_code
def yX8_why : MethodName := ⟨RX8, "why", "()I"⟩
abbrev cX8_low : ByteArray := prog_1_method_22_code
def yX8_low : MethodName := ⟨RX8, "low", "()I"⟩
abbrev cX8_price : ByteArray := prog_1_method_23_code
def yX8_price : MethodName := ⟨RX8, "price", "(IIII)I"⟩
abbrev cX8_fewest : ByteArray := prog_1_method_24_code
def yX8_fewest : MethodName := ⟨RX8, "fewest", "()I"⟩
abbrev cX8_steps : ByteArray := prog_1_method_25_code
def yX8_steps : MethodName := ⟨RX8, "steps", "()I"⟩
abbrev cX8_plan : ByteArray := prog_1_method_26_code
def yX8_plan : MethodName := ⟨RX8, "plan", "(I)I"⟩
abbrev cX8_follow : ByteArray := prog_1_method_27_code
def yX8_follow : MethodName := ⟨RX8, "follow", "()I"⟩
abbrev cX8_tell : ByteArray := prog_1_method_28_code
def yX8_tell : MethodName := ⟨RX8, "tell", "(I)I"⟩
abbrev cX8_copy : ByteArray := prog_1_method_29_code
def yX8_copy : MethodName := ⟨RX8, "copy", "()I"⟩
abbrev cX8_forge : ByteArray := prog_1_method_30_code
def yX8_forge : MethodName := ⟨RX8, "forge", "(II)I"⟩
abbrev cX8_hush : ByteArray := prog_1_method_31_code
def yX8_hush : MethodName := ⟨RX8, "hush", "()I"⟩
abbrev cX8_check : ByteArray := prog_1_method_32_code
def yX8_check : MethodName := ⟨RX8, "check", "()I"⟩
abbrev cX8_count : ByteArray := prog_1_method_33_code
def yX8_count : MethodName := ⟨RX8, "count", "(I)I"⟩
abbrev cX8_isWay : ByteArray := prog_1_method_34_code
def yX8_isWay : MethodName := ⟨RX8, "isWay", "(I)Z"⟩
abbrev cX8_isField : ByteArray := prog_1_method_35_code
def yX8_isField : MethodName := ⟨RX8, "isField", "(I)Z"⟩
abbrev cX8_has : ByteArray := prog_1_method_36_code
def yX8_has : MethodName := ⟨RX8, "has", "(JI)Z"⟩
abbrev cX8_with : ByteArray := prog_1_method_37_code
def yX8_with : MethodName := ⟨RX8, "with", "(JIZ)J"⟩
abbrev cX8_leastOf : ByteArray := prog_1_method_38_code
def yX8_leastOf : MethodName := ⟨RX8, "leastOf", "(J)I"⟩
abbrev cX8_isInUse : ByteArray := prog_1_method_39_code
def yX8_isInUse : MethodName := ⟨RX8, "isInUse", "(I)Z"⟩
abbrev cX8_mayBeSetOn : ByteArray := prog_1_method_40_code
def yX8_mayBeSetOn : MethodName := ⟨RX8, "mayBeSetOn", "(I)Z"⟩
abbrev cX8_isDoneIn : ByteArray := prog_1_method_41_code
def yX8_isDoneIn : MethodName := ⟨RX8, "isDoneIn", "(LCellarPushers$Scene;)Z"⟩
abbrev cX8_act : ByteArray := prog_1_method_42_code
def yX8_act : MethodName := ⟨RX8, "act", "(I)I"⟩
abbrev cX8_tryWalk : ByteArray := prog_1_method_43_code
def yX8_tryWalk : MethodName := ⟨RX8, "tryWalk", "(I)I"⟩
abbrev cX8_tryPush : ByteArray := prog_1_method_44_code
def yX8_tryPush : MethodName := ⟨RX8, "tryPush", "(III)I"⟩
abbrev cX8_opposite : ByteArray := prog_1_method_45_code
def yX8_opposite : MethodName := ⟨RX8, "opposite", "(I)I"⟩
abbrev cX8_leastDeadBarrel : ByteArray := prog_1_method_46_code
def yX8_leastDeadBarrel : MethodName := ⟨RX8, "leastDeadBarrel", "()I"⟩
abbrev cX8_liveFields : ByteArray := prog_1_method_47_code
def yX8_liveFields : MethodName := ⟨RX8, "liveFields", "()J"⟩
abbrev cX8_heldBarrels : ByteArray := prog_1_method_48_code
def yX8_heldBarrels : MethodName := ⟨RX8, "heldBarrels", "()J"⟩
abbrev cX8_isHeldBy : ByteArray := prog_1_method_49_code
def yX8_isHeldBy : MethodName := ⟨RX8, "isHeldBy", "(JI)Z"⟩
abbrev cX8_holds : ByteArray := prog_1_method_50_code
def yX8_holds : MethodName := ⟨RX8, "holds", "(JII)Z"⟩
def RX9 : String := "CellarPushersModel"
def TX9 : u_T := fun k => match k with
  | 0 => ("CellarPushersModel", "width", "I", true)
  | 1 => ("CellarPushersModel", "height", "I", true)
  | 2 => ("CellarPushersModel", "kinds", "[I", true)
  | 3 => ("CellarPushersModel", "ramps", "[I", true)
  | 4 => ("CellarPushersModel", "missing", "[Z", true)
  | 5 => ("CellarPushersModel", "barrels", "[Z", true)
  | 6 => ("CellarPushersModel", "wanted", "[Z", true)
  | 7 => ("CellarPushersModel", "man", "I", false)
  | 8 => ("CellarPushersModel", "steps", "I", false)
  | 9 => ("CellarPushersModel", "pushes", "I", false)
  | 10 => ("CellarPushersModel", "manThen", "[I", true)
  | 11 => ("CellarPushersModel", "stepsThen", "[I", true)
  | 12 => ("CellarPushersModel", "pushesThen", "[I", true)
  | 13 => ("CellarPushersModel", "barrelsThen", "[J", true)
  | 14 => ("CellarPushersModel", "acts", "I", false)
  | 15 => ("CellarPushersModel", "undone", "I", false)
  | 16 => ("CellarPushersModel", "plan", "[I", true)
  | 17 => ("CellarPushersModel", "tape", "[I", true)
  | 18 => ("CellarPushersModel", "planned", "I", false)
  | 19 => ("CellarPushersModel", "taped", "I", false)
  | 20 => ("CellarPushersModel", "why", "I", false)
  | 21 => ("CellarPushersModel", "walks", "[I", true)
  | 22 => ("CellarPushersModel", "prices", "[I", true)
  | 23 => ("CellarPushersModel", "isHeld", "[Z", true)
  | 24 => ("CellarPushersModel", "sums", "[I", true)
  | 25 => ("CellarPushersModel", "then", "[I", true)
  | 26 => ("CellarPushersModel", "order", "[I", true)
  | 27 => ("CellarPushersModel", "fieldOf", "[I", true)
  | 28 => ("CellarPushersModel", "cost", "[I", true)
  | 29 => ("CellarPushersModel", "queue", "[I", true)
  | 30 => ("CellarPushersModel", "path", "[I", true)
  | 31 => ("CellarPushersModel", "tried", "[I", true)
  | 32 => ("CellarPushersModel", "waits", "[Z", true)
  | 33 => ("CellarPushersModel", "idle", "[Z", true)
  | 34 => ("CellarPushersModel", "three", "I", false)
  | _ => ("CellarPushersModel", "stepCost", "I", false)
def tyX9 : Nat → FieldType := fun k => match k with
  | 0 => .int
  | 1 => .int
  | 2 => .array .int
  | 3 => .array .int
  | 4 => .array .boolean
  | 5 => .array .boolean
  | 6 => .array .boolean
  | 7 => .int
  | 8 => .int
  | 9 => .int
  | 10 => .array .int
  | 11 => .array .int
  | 12 => .array .int
  | 13 => .array .long
  | 14 => .int
  | 15 => .int
  | 16 => .array .int
  | 17 => .array .int
  | 18 => .int
  | 19 => .int
  | 20 => .int
  | 21 => .array .int
  | 22 => .array .int
  | 23 => .array .boolean
  | 24 => .array .int
  | 25 => .array .int
  | 26 => .array .int
  | 27 => .array .int
  | 28 => .array .int
  | 29 => .array .int
  | 30 => .array .int
  | 31 => .array .int
  | 32 => .array .boolean
  | 33 => .array .boolean
  | 34 => .int
  | _ => .int
abbrev wsX90 : List Cond := u_ws RX9 TX9 36
theorem nmX9 : ∀ a, a < 36 → ∀ b, b < 36 → a ≠ b → (TX9 a).2.1 ≠ (TX9 b).2.1 := by decide +kernel
theorem tyX9_ok : ∀ k, k < 36 → parseFieldDescriptor (TX9 k).2.2.1 = some (tyX9 k) := by decide +kernel
abbrev cX9_init : ByteArray := prog_11_method_1_code
def yX9_init : MethodName := ⟨RX9, "<init>", "(II)V"⟩
abbrev cX9_isField : ByteArray := prog_11_method_3_code
def yX9_isField : MethodName := ⟨RX9, "isField", "(II)Z"⟩
abbrev cX9_beside : ByteArray := prog_11_method_4_code
def yX9_beside : MethodName := ⟨RX9, "beside", "(II)I"⟩
abbrev cX9_kindOf : ByteArray := prog_11_method_5_code
def yX9_kindOf : MethodName := ⟨RX9, "kindOf", "(I)I"⟩
abbrev cX9_lets : ByteArray := prog_11_method_6_code
def yX9_lets : MethodName := ⟨RX9, "lets", "(II)Z"⟩
abbrev cX9_letsMan : ByteArray := prog_11_method_7_code
def yX9_letsMan : MethodName := ⟨RX9, "letsMan", "(II)Z"⟩
abbrev cX9_mayMan : ByteArray := prog_11_method_8_code
def yX9_mayMan : MethodName := ⟨RX9, "mayMan", "(II)Z"⟩
abbrev cX9_mayBarrel : ByteArray := prog_11_method_9_code
def yX9_mayBarrel : MethodName := ⟨RX9, "mayBarrel", "(II)Z"⟩
abbrev cX9_isWay : ByteArray := prog_11_method_10_code
def yX9_isWay : MethodName := ⟨RX9, "isWay", "(I)Z"⟩
abbrev cX9_number : ByteArray := prog_11_method_11_code
def yX9_number : MethodName := ⟨RX9, "number", "([Z)I"⟩
abbrev cX9_forget : ByteArray := prog_11_method_12_code
def yX9_forget : MethodName := ⟨RX9, "forget", "()V"⟩
abbrev cX9_field : ByteArray := prog_11_method_13_code
def yX9_field : MethodName := ⟨RX9, "field", "(IIII)I"⟩
abbrev cX9_line : ByteArray := prog_11_method_14_code
def yX9_line : MethodName := ⟨RX9, "line", "(IZ)I"⟩
abbrev cX9_barrel : ByteArray := prog_11_method_15_code
def yX9_barrel : MethodName := ⟨RX9, "barrel", "(IIZ)I"⟩
abbrev cX9_man : ByteArray := prog_11_method_16_code
def yX9_man : MethodName := ⟨RX9, "man", "(II)I"⟩
abbrev cX9_want : ByteArray := prog_11_method_17_code
def yX9_want : MethodName := ⟨RX9, "want", "(IIZ)I"⟩
abbrev cX9_wouldStep : ByteArray := prog_11_method_18_code
def yX9_wouldStep : MethodName := ⟨RX9, "wouldStep", "(I)I"⟩
abbrev cX9_does : ByteArray := prog_11_method_19_code
def yX9_does : MethodName := ⟨RX9, "does", "(I)I"⟩
abbrev cX9_bits : ByteArray := prog_11_method_20_code
def yX9_bits : MethodName := ⟨RX9, "bits", "()J"⟩
abbrev cX9_keep : ByteArray := prog_11_method_21_code
def yX9_keep : MethodName := ⟨RX9, "keep", "(I)V"⟩
abbrev cX9_back : ByteArray := prog_11_method_22_code
def yX9_back : MethodName := ⟨RX9, "back", "(I)V"⟩
abbrev cX9_begins : ByteArray := prog_11_method_23_code
def yX9_begins : MethodName := ⟨RX9, "begins", "()V"⟩
abbrev cX9_ends : ByteArray := prog_11_method_24_code
def yX9_ends : MethodName := ⟨RX9, "ends", "()V"⟩
abbrev cX9_step : ByteArray := prog_11_method_25_code
def yX9_step : MethodName := ⟨RX9, "step", "(I)I"⟩
abbrev cX9_walkOut : ByteArray := prog_11_method_26_code
def yX9_walkOut : MethodName := ⟨RX9, "walkOut", "()V"⟩
abbrev cX9_walk : ByteArray := prog_11_method_27_code
def yX9_walk : MethodName := ⟨RX9, "walk", "(II)I"⟩
abbrev cX9_can : ByteArray := prog_11_method_28_code
def yX9_can : MethodName := ⟨RX9, "can", "(III)I"⟩
abbrev cX9_push : ByteArray := prog_11_method_29_code
def yX9_push : MethodName := ⟨RX9, "push", "(III)I"⟩
abbrev cX9_undo : ByteArray := prog_11_method_30_code
def yX9_undo : MethodName := ⟨RX9, "undo", "()I"⟩
abbrev cX9_redo : ByteArray := prog_11_method_31_code
def yX9_redo : MethodName := ⟨RX9, "redo", "()I"⟩
abbrev cX9_kind : ByteArray := prog_11_method_32_code
def yX9_kind : MethodName := ⟨RX9, "kind", "(II)I"⟩
abbrev cX9_on : ByteArray := prog_11_method_33_code
def yX9_on : MethodName := ⟨RX9, "on", "(II)I"⟩
abbrev cX9_far : ByteArray := prog_11_method_34_code
def yX9_far : MethodName := ⟨RX9, "far", "(II)I"⟩
abbrev cX9_isDone : ByteArray := prog_11_method_35_code
def yX9_isDone : MethodName := ⟨RX9, "isDone", "()Z"⟩
abbrev cX9_isReady : ByteArray := prog_11_method_36_code
def yX9_isReady : MethodName := ⟨RX9, "isReady", "()Z"⟩
abbrev cX9_pushOut : ByteArray := prog_11_method_37_code
def yX9_pushOut : MethodName := ⟨RX9, "pushOut", "(I)V"⟩
abbrev cX9_isDead : ByteArray := prog_11_method_38_code
def yX9_isDead : MethodName := ⟨RX9, "isDead", "(I)Z"⟩
abbrev cX9_dead : ByteArray := prog_11_method_39_code
def yX9_dead : MethodName := ⟨RX9, "dead", "(II)I"⟩
abbrev cX9_bars : ByteArray := prog_11_method_40_code
def yX9_bars : MethodName := ⟨RX9, "bars", "(I)Z"⟩
abbrev cX9_hold : ByteArray := prog_11_method_41_code
def yX9_hold : MethodName := ⟨RX9, "hold", "()V"⟩
abbrev cX9_held : ByteArray := prog_11_method_42_code
def yX9_held : MethodName := ⟨RX9, "held", "(II)I"⟩
abbrev cX9_spoilt : ByteArray := prog_11_method_43_code
def yX9_spoilt : MethodName := ⟨RX9, "spoilt", "()I"⟩
abbrev cX9_why : ByteArray := prog_11_method_44_code
def yX9_why : MethodName := ⟨RX9, "why", "()I"⟩
abbrev cX9_low : ByteArray := prog_11_method_45_code
def yX9_low : MethodName := ⟨RX9, "low", "()I"⟩
abbrev cX9_price : ByteArray := prog_11_method_46_code
def yX9_price : MethodName := ⟨RX9, "price", "(IIII)I"⟩
abbrev cX9_fields : ByteArray := prog_11_method_47_code
def yX9_fields : MethodName := ⟨RX9, "fields", "()I"⟩
abbrev cX9_stand : ByteArray := prog_11_method_48_code
def yX9_stand : MethodName := ⟨RX9, "stand", "()I"⟩
abbrev cX9_setUp : ByteArray := prog_11_method_49_code
def yX9_setUp : MethodName := ⟨RX9, "setUp", "(I)V"⟩
abbrev cX9_behind : ByteArray := prog_11_method_50_code
def yX9_behind : MethodName := ⟨RX9, "behind", "(II)I"⟩
abbrev cX9_fewest : ByteArray := prog_11_method_51_code
def yX9_fewest : MethodName := ⟨RX9, "fewest", "()I"⟩
abbrev cX9_spread : ByteArray := prog_11_method_52_code
def yX9_spread : MethodName := ⟨RX9, "spread", "(I)V"⟩
abbrev cX9_goAlong : ByteArray := prog_11_method_53_code
def yX9_goAlong : MethodName := ⟨RX9, "goAlong", "(II)V"⟩
abbrev cX9_steps : ByteArray := prog_11_method_54_code
def yX9_steps : MethodName := ⟨RX9, "steps", "()I"⟩
abbrev cX9_plan : ByteArray := prog_11_method_55_code
def yX9_plan : MethodName := ⟨RX9, "plan", "(I)I"⟩
abbrev cX9_goes : ByteArray := prog_11_method_56_code
def yX9_goes : MethodName := ⟨RX9, "goes", "([II)I"⟩
abbrev cX9_follow : ByteArray := prog_11_method_57_code
def yX9_follow : MethodName := ⟨RX9, "follow", "()I"⟩
abbrev cX9_tell : ByteArray := prog_11_method_58_code
def yX9_tell : MethodName := ⟨RX9, "tell", "(I)I"⟩
abbrev cX9_copy : ByteArray := prog_11_method_59_code
def yX9_copy : MethodName := ⟨RX9, "copy", "()I"⟩
abbrev cX9_forge : ByteArray := prog_11_method_60_code
def yX9_forge : MethodName := ⟨RX9, "forge", "(II)I"⟩
abbrev cX9_hush : ByteArray := prog_11_method_61_code
def yX9_hush : MethodName := ⟨RX9, "hush", "()I"⟩
abbrev cX9_check : ByteArray := prog_11_method_62_code
def yX9_check : MethodName := ⟨RX9, "check", "()I"⟩
abbrev cX9_count : ByteArray := prog_11_method_63_code
def yX9_count : MethodName := ⟨RX9, "count", "(I)I"⟩
def RJx8e188 : String := "java/lang/Cloneable"
def TJx8e188 : u_T := fun k => match k with
  | _ => ("", "", "", false)
def tyJx8e188 : Nat → FieldType := fun k => match k with
  | _ => .int
abbrev wsJx8e1880 : List Cond := u_ws RJx8e188 TJx8e188 0
theorem nmJx8e188 : ∀ a, a < 0 → ∀ b, b < 0 → a ≠ b → (TJx8e188 a).2.1 ≠ (TJx8e188 b).2.1 := by decide +kernel
theorem tyJx8e188_ok : ∀ k, k < 0 → parseFieldDescriptor (TJx8e188 k).2.2.1 = some (tyJx8e188 k) := by decide +kernel
def RJ6 : String := "java/lang/Integer"
def TJ6 : u_T := fun k => match k with
  | _ => ("", "", "", false)
def tyJ6 : Nat → FieldType := fun k => match k with
  | _ => .int
abbrev wsJ60 : List Cond := u_ws RJ6 TJ6 0
theorem nmJ6 : ∀ a, a < 0 → ∀ b, b < 0 → a ≠ b → (TJ6 a).2.1 ≠ (TJ6 b).2.1 := by decide +kernel
theorem tyJ6_ok : ∀ k, k < 0 → parseFieldDescriptor (TJ6 k).2.2.1 = some (tyJ6 k) := by decide +kernel
abbrev cJ6_bitCount_0f7a4 : ByteArray := prog_13_method_49_code
def yJ6_bitCount_0f7a4 : MethodName := ⟨RJ6, "bitCount", "(I)I"⟩
def RJ13 : String := "java/lang/Long"
def TJ13 : u_T := fun k => match k with
  | _ => ("", "", "", false)
def tyJ13 : Nat → FieldType := fun k => match k with
  | _ => .int
abbrev wsJ130 : List Cond := u_ws RJ13 TJ13 0
theorem nmJ13 : ∀ a, a < 0 → ∀ b, b < 0 → a ≠ b → (TJ13 a).2.1 ≠ (TJ13 b).2.1 := by decide +kernel
theorem tyJ13_ok : ∀ k, k < 0 → parseFieldDescriptor (TJ13 k).2.2.1 = some (tyJ13 k) := by decide +kernel
abbrev cJ13_bitCount_95d88 : ByteArray := prog_14_method_50_code
def yJ13_bitCount_95d88 : MethodName := ⟨RJ13, "bitCount", "(J)I"⟩
def RJ9 : String := "java/lang/Math"
def TJ9 : u_T := fun k => match k with
  | _ => ("", "", "", false)
def tyJ9 : Nat → FieldType := fun k => match k with
  | _ => .int
abbrev wsJ90 : List Cond := u_ws RJ9 TJ9 0
theorem nmJ9 : ∀ a, a < 0 → ∀ b, b < 0 → a ≠ b → (TJ9 a).2.1 ≠ (TJ9 b).2.1 := by decide +kernel
theorem tyJ9_ok : ∀ k, k < 0 → parseFieldDescriptor (TJ9 k).2.2.1 = some (tyJ9 k) := by decide +kernel
abbrev cJ9_max_7cf53 : ByteArray := prog_15_method_65_code
def yJ9_max_7cf53 : MethodName := ⟨RJ9, "max", "(II)I"⟩
abbrev cJ9_min_7cf53 : ByteArray := prog_15_method_69_code
def yJ9_min_7cf53 : MethodName := ⟨RJ9, "min", "(II)I"⟩
abbrev cJ9_min_f86c9 : ByteArray := prog_15_method_70_code
def yJ9_min_f86c9 : MethodName := ⟨RJ9, "min", "(JJ)J"⟩
def RJ10 : String := "java/lang/System"
def TJ10 : u_T := fun k => match k with
  | _ => ("", "", "", false)
def tyJ10 : Nat → FieldType := fun k => match k with
  | _ => .int
abbrev wsJ100 : List Cond := u_ws RJ10 TJ10 0
theorem nmJ10 : ∀ a, a < 0 → ∀ b, b < 0 → a ≠ b → (TJ10 a).2.1 ≠ (TJ10 b).2.1 := by decide +kernel
theorem tyJ10_ok : ∀ k, k < 0 → parseFieldDescriptor (TJ10 k).2.2.1 = some (tyJ10 k) := by decide +kernel
def RJ7 : String := "java/util/Arrays"
def TJ7 : u_T := fun k => match k with
  | _ => ("", "", "", false)
def tyJ7 : Nat → FieldType := fun k => match k with
  | _ => .int
abbrev wsJ70 : List Cond := u_ws RJ7 TJ7 0
theorem nmJ7 : ∀ a, a < 0 → ∀ b, b < 0 → a ≠ b → (TJ7 a).2.1 ≠ (TJ7 b).2.1 := by decide +kernel
theorem tyJ7_ok : ∀ k, k < 0 → parseFieldDescriptor (TJ7 k).2.2.1 = some (tyJ7 k) := by decide +kernel
abbrev cJ7_fill_d0a16 : ByteArray := prog_17_method_101_code
def yJ7_fill_d0a16 : MethodName := ⟨RJ7, "fill", "([JJ)V"⟩
abbrev cJ7_fill_53178 : ByteArray := prog_17_method_103_code
def yJ7_fill_53178 : MethodName := ⟨RJ7, "fill", "([II)V"⟩
abbrev cJ7_copyOf_59c91 : ByteArray := prog_17_method_123_code
def yJ7_copyOf_59c91 : MethodName := ⟨RJ7, "copyOf", "([II)[I"⟩
def RL : String := "CellarPushersLaw"
abbrev cL_cell : ByteArray := method_2_code
def yL_cell : MethodName := ⟨RL, "cell", "([II)I"⟩
abbrev cL_law : ByteArray := code
def yL_law : MethodName := ⟨RL, "law", "([I)Z"⟩
def wsX0_init : List Cond := .code yX0_init cX0_init 3 none :: ([.methodLink RX0 3 objectInit, .instanceMethod objectInit, .code objectInit ⟨#[0xb1]⟩ 1 none, .methodLink RX0 9 Lib.Math.min.name, .static Lib.Math.min.name, .initialized "java/lang/Math", .code Lib.Math.min.name Lib.Math.min.code 2 (some .int), .methodLink RX0 15 Lib.Math.max.name, .static Lib.Math.max.name, .code Lib.Math.max.name Lib.Math.max.code 2 (some .int), .fieldLink RX0 18 "CellarPushers$Ground" "width" "I", .fieldLink RX0 24 "CellarPushers$Ground" "height" "I", .arrayClass .int, .fieldLink RX0 27 "CellarPushers$Ground" "kinds" "[I", .fieldLink RX0 31 "CellarPushers$Ground" "rampWays" "[I", .arrayClass .boolean, .fieldLink RX0 34 "CellarPushers$Ground" "missing" "[Z"] ++ wsX00)
def wsX0_numberOf : List Cond := .code yX0_numberOf cX0_numberOf 4 (some .int) :: ([.fieldLink RX0 18 "CellarPushers$Ground" "width" "I", .fieldLink RX0 24 "CellarPushers$Ground" "height" "I"] ++ wsX00)
def wsX8_isField : List Cond := .code yX8_isField cX8_isField 1 (some .boolean) :: ([])
def wsX8_isWay : List Cond := .code yX8_isWay cX8_isWay 1 (some .boolean) :: ([])
def wsX0_beside : List Cond := .code yX0_beside cX0_beside 3 (some .int) :: ([.static yX8_isField, .initialized RX8, .code yX8_isField cX8_isField 1 (some .boolean), .static yX8_isWay, .code yX8_isWay cX8_isWay 1 (some .boolean), .methodLink RX0 51 yX0_numberOf, .instanceMethod yX0_numberOf, .selects RX0 yX0_numberOf yX0_numberOf, .initialized RX0, .code yX0_numberOf cX0_numberOf 4 (some .int), .fieldLink RX0 18 "CellarPushers$Ground" "width" "I", .fieldLink RX0 24 "CellarPushers$Ground" "height" "I"] ++ wsX00)
def wsX0_kindNow : List Cond := .code yX0_kindNow cX0_kindNow 2 (some .int) :: ([.fieldLink RX0 34 "CellarPushers$Ground" "missing" "[Z", .fieldLink RX0 27 "CellarPushers$Ground" "kinds" "[I"] ++ wsX00)
def wsX0_lay : List Cond := .code yX0_lay cX0_lay 5 (some .int) :: ([.fieldLink RX0 27 "CellarPushers$Ground" "kinds" "[I", .fieldLink RX0 31 "CellarPushers$Ground" "rampWays" "[I", .static yX8_isField, .initialized RX8, .code yX8_isField cX8_isField 1 (some .boolean)] ++ wsX00)
def wsX0_letMiss : List Cond := .code yX0_letMiss cX0_letMiss 4 (some .boolean) :: ([.fieldLink RX0 34 "CellarPushers$Ground" "missing" "[Z"] ++ wsX00)
def wsX0_openFields : List Cond := .code yX0_openFields cX0_openFields 3 (some .int) :: ([.methodLink RX0 54 yX0_kindNow, .instanceMethod yX0_kindNow, .selects RX0 yX0_kindNow yX0_kindNow, .initialized RX0, .code yX0_kindNow cX0_kindNow 2 (some .int), .fieldLink RX0 34 "CellarPushers$Ground" "missing" "[Z", .fieldLink RX0 27 "CellarPushers$Ground" "kinds" "[I"] ++ wsX00)
def wsX0_isForMan : List Cond := .code yX0_isForMan cX0_isForMan 3 (some .boolean) :: ([.methodLink RX0 54 yX0_kindNow, .instanceMethod yX0_kindNow, .selects RX0 yX0_kindNow yX0_kindNow, .initialized RX0, .code yX0_kindNow cX0_kindNow 2 (some .int), .fieldLink RX0 34 "CellarPushers$Ground" "missing" "[Z", .fieldLink RX0 27 "CellarPushers$Ground" "kinds" "[I"] ++ wsX00)
def wsX0_rampWay : List Cond := .code yX0_rampWay cX0_rampWay 2 (some .int) :: ([.fieldLink RX0 31 "CellarPushers$Ground" "rampWays" "[I"] ++ wsX00)
def wsX0_manMayCome : List Cond := .code yX0_manMayCome cX0_manMayCome 4 (some .boolean) :: ([.methodLink RX0 54 yX0_kindNow, .instanceMethod yX0_kindNow, .selects RX0 yX0_kindNow yX0_kindNow, .initialized RX0, .code yX0_kindNow cX0_kindNow 2 (some .int), .fieldLink RX0 34 "CellarPushers$Ground" "missing" "[Z", .fieldLink RX0 27 "CellarPushers$Ground" "kinds" "[I", .methodLink RX0 58 yX0_rampWay, .instanceMethod yX0_rampWay, .selects RX0 yX0_rampWay yX0_rampWay, .code yX0_rampWay cX0_rampWay 2 (some .int), .fieldLink RX0 31 "CellarPushers$Ground" "rampWays" "[I"] ++ wsX00)
def wsX0_barrelMayCome : List Cond := .code yX0_barrelMayCome cX0_barrelMayCome 4 (some .boolean) :: ([.methodLink RX0 54 yX0_kindNow, .instanceMethod yX0_kindNow, .selects RX0 yX0_kindNow yX0_kindNow, .initialized RX0, .code yX0_kindNow cX0_kindNow 2 (some .int), .fieldLink RX0 34 "CellarPushers$Ground" "missing" "[Z", .fieldLink RX0 27 "CellarPushers$Ground" "kinds" "[I", .methodLink RX0 58 yX0_rampWay, .instanceMethod yX0_rampWay, .selects RX0 yX0_rampWay yX0_rampWay, .code yX0_rampWay cX0_rampWay 2 (some .int), .fieldLink RX0 31 "CellarPushers$Ground" "rampWays" "[I"] ++ wsX00)
def wsX0_rollsOn : List Cond := .code yX0_rollsOn cX0_rollsOn 3 (some .boolean) :: ([.methodLink RX0 54 yX0_kindNow, .instanceMethod yX0_kindNow, .selects RX0 yX0_kindNow yX0_kindNow, .initialized RX0, .code yX0_kindNow cX0_kindNow 2 (some .int), .fieldLink RX0 34 "CellarPushers$Ground" "missing" "[Z", .fieldLink RX0 27 "CellarPushers$Ground" "kinds" "[I"] ++ wsX00)
def wsX1_init : List Cond := .code yX1_init cX1_init 1 none :: ([.methodLink RX1 3 objectInit, .instanceMethod objectInit, .code objectInit ⟨#[0xb1]⟩ 1 none, .arrayClass .int, .fieldLink RX1 9 "CellarPushers$Pairing" "marks" "[I", .fieldLink RX1 15 "CellarPushers$Pairing" "sums" "[I"] ++ wsX10)
def wsX8_has : List Cond := .code yX8_has cX8_has 3 (some .boolean) :: ([.methodLink RX8 253 yX8_isField, .static yX8_isField, .initialized RX8, .code yX8_isField cX8_isField 1 (some .boolean)])
def wsX1_listMarks : List Cond := .code yX1_listMarks cX1_listMarks 4 none :: ([.fieldLink RX1 49 "CellarPushers$Pairing" "size" "I", .fieldLink RX1 9 "CellarPushers$Pairing" "marks" "[I", .static yX8_has, .initialized RX8, .code yX8_has cX8_has 3 (some .boolean), .methodLink RX8 253 yX8_isField, .static yX8_isField, .code yX8_isField cX8_isField 1 (some .boolean)] ++ wsX10)
def wsJ7_fill_53178 : List Cond := .code yJ7_fill_53178 cJ7_fill_53178 4 none :: ([])
def wsX2_reach : List Cond := .code yX2_reach cX2_reach 3 none :: ([.fieldLink RX2 9 "CellarPushers$Prices" "pushes" "[I", .fieldLink RX2 24 "CellarPushers$Prices" "reached" "I", .fieldLink RX2 15 "CellarPushers$Prices" "queue" "[I", .static yX8_isField, .initialized RX8, .code yX8_isField cX8_isField 1 (some .boolean)] ++ wsX20)
def wsX8_opposite : List Cond := .code yX8_opposite cX8_opposite 1 (some .int) :: ([])
def wsX2_priceTo : List Cond := .code yX2_priceTo cX2_priceTo 2 (some .int) :: ([.fieldLink RX2 9 "CellarPushers$Prices" "pushes" "[I", .static yX8_isField, .initialized RX8, .code yX8_isField cX8_isField 1 (some .boolean)] ++ wsX20)
def wsX2_pushOn_r1 : List Cond := [Cond.static yX8_opposite, Cond.initialized RX8, Cond.code yX8_opposite cX8_opposite 1 (some .int), Cond.methodLink RX2 61 yX0_beside, Cond.instanceMethod yX0_beside, Cond.selects RX0 yX0_beside yX0_beside, Cond.initialized RX0, Cond.code yX0_beside cX0_beside 3 (some .int), Cond.static yX8_isField, Cond.code yX8_isField cX8_isField 1 (some .boolean), Cond.static yX8_isWay, Cond.code yX8_isWay cX8_isWay 1 (some .boolean), Cond.methodLink RX0 51 yX0_numberOf, Cond.instanceMethod yX0_numberOf, Cond.selects RX0 yX0_numberOf yX0_numberOf, Cond.code yX0_numberOf cX0_numberOf 4 (some .int), Cond.fieldLink RX0 18 "CellarPushers$Ground" "width" "I", Cond.fieldLink RX0 24 "CellarPushers$Ground" "height" "I", Cond.methodLink RX2 65 yX0_isForMan, Cond.instanceMethod yX0_isForMan, Cond.selects RX0 yX0_isForMan yX0_isForMan, Cond.code yX0_isForMan cX0_isForMan 3 (some .boolean), Cond.methodLink RX0 54 yX0_kindNow, Cond.instanceMethod yX0_kindNow]
def wsX2_pushOn_r2 : List Cond := [Cond.selects RX0 yX0_kindNow yX0_kindNow, Cond.code yX0_kindNow cX0_kindNow 2 (some .int), Cond.fieldLink RX0 34 "CellarPushers$Ground" "missing" "[Z", Cond.fieldLink RX0 27 "CellarPushers$Ground" "kinds" "[I", Cond.methodLink RX2 68 yX0_manMayCome, Cond.instanceMethod yX0_manMayCome, Cond.selects RX0 yX0_manMayCome yX0_manMayCome, Cond.code yX0_manMayCome cX0_manMayCome 4 (some .boolean), Cond.methodLink RX0 58 yX0_rampWay, Cond.instanceMethod yX0_rampWay, Cond.selects RX0 yX0_rampWay yX0_rampWay, Cond.code yX0_rampWay cX0_rampWay 2 (some .int), Cond.fieldLink RX0 31 "CellarPushers$Ground" "rampWays" "[I", Cond.methodLink RX2 72 yX0_barrelMayCome, Cond.instanceMethod yX0_barrelMayCome, Cond.selects RX0 yX0_barrelMayCome yX0_barrelMayCome, Cond.code yX0_barrelMayCome cX0_barrelMayCome 4 (some .boolean), Cond.methodLink RX2 75 yX2_priceTo, Cond.instanceMethod yX2_priceTo, Cond.selects RX2 yX2_priceTo yX2_priceTo, Cond.initialized RX2, Cond.code yX2_priceTo cX2_priceTo 2 (some .int), Cond.fieldLink RX2 9 "CellarPushers$Prices" "pushes" "[I", Cond.methodLink RX2 28 yX2_reach]
def wsX2_pushOn_r3 : List Cond := [Cond.instanceMethod yX2_reach, Cond.selects RX2 yX2_reach yX2_reach, Cond.code yX2_reach cX2_reach 3 none, Cond.fieldLink RX2 24 "CellarPushers$Prices" "reached" "I", Cond.fieldLink RX2 15 "CellarPushers$Prices" "queue" "[I", Cond.methodLink RX2 78 yX0_rollsOn, Cond.instanceMethod yX0_rollsOn, Cond.selects RX0 yX0_rollsOn yX0_rollsOn, Cond.code yX0_rollsOn cX0_rollsOn 3 (some .boolean)]
def wsX2_pushOn : List Cond := .code yX2_pushOn cX2_pushOn 7 none :: ((wsX2_pushOn_r1 ++ (wsX2_pushOn_r2 ++ wsX2_pushOn_r3)) ++ wsX00 ++ wsX20)
def wsX2_measure_r1 : List Cond := [Cond.fieldLink RX2 9 "CellarPushers$Prices" "pushes" "[I", Cond.fieldLink RX2 24 "CellarPushers$Prices" "reached" "I", Cond.fieldLink RX2 15 "CellarPushers$Prices" "queue" "[I", Cond.methodLink RX2 18 yJ7_fill_53178, Cond.static yJ7_fill_53178, Cond.initialized RJ7, Cond.code yJ7_fill_53178 cJ7_fill_53178 4 none, Cond.methodLink RX2 28 yX2_reach, Cond.instanceMethod yX2_reach, Cond.selects RX2 yX2_reach yX2_reach, Cond.initialized RX2, Cond.code yX2_reach cX2_reach 3 none, Cond.static yX8_isField, Cond.initialized RX8, Cond.code yX8_isField cX8_isField 1 (some .boolean), Cond.methodLink RX2 32 yX2_pushOn, Cond.instanceMethod yX2_pushOn, Cond.selects RX2 yX2_pushOn yX2_pushOn, Cond.code yX2_pushOn cX2_pushOn 7 none, Cond.static yX8_opposite, Cond.code yX8_opposite cX8_opposite 1 (some .int), Cond.methodLink RX2 61 yX0_beside, Cond.instanceMethod yX0_beside, Cond.selects RX0 yX0_beside yX0_beside]
def wsX2_measure_r2 : List Cond := [Cond.initialized RX0, Cond.code yX0_beside cX0_beside 3 (some .int), Cond.static yX8_isWay, Cond.code yX8_isWay cX8_isWay 1 (some .boolean), Cond.methodLink RX0 51 yX0_numberOf, Cond.instanceMethod yX0_numberOf, Cond.selects RX0 yX0_numberOf yX0_numberOf, Cond.code yX0_numberOf cX0_numberOf 4 (some .int), Cond.fieldLink RX0 18 "CellarPushers$Ground" "width" "I", Cond.fieldLink RX0 24 "CellarPushers$Ground" "height" "I", Cond.methodLink RX2 65 yX0_isForMan, Cond.instanceMethod yX0_isForMan, Cond.selects RX0 yX0_isForMan yX0_isForMan, Cond.code yX0_isForMan cX0_isForMan 3 (some .boolean), Cond.methodLink RX0 54 yX0_kindNow, Cond.instanceMethod yX0_kindNow, Cond.selects RX0 yX0_kindNow yX0_kindNow, Cond.code yX0_kindNow cX0_kindNow 2 (some .int), Cond.fieldLink RX0 34 "CellarPushers$Ground" "missing" "[Z", Cond.fieldLink RX0 27 "CellarPushers$Ground" "kinds" "[I", Cond.methodLink RX2 68 yX0_manMayCome, Cond.instanceMethod yX0_manMayCome, Cond.selects RX0 yX0_manMayCome yX0_manMayCome, Cond.code yX0_manMayCome cX0_manMayCome 4 (some .boolean)]
def wsX2_measure_r3 : List Cond := [Cond.methodLink RX0 58 yX0_rampWay, Cond.instanceMethod yX0_rampWay, Cond.selects RX0 yX0_rampWay yX0_rampWay, Cond.code yX0_rampWay cX0_rampWay 2 (some .int), Cond.fieldLink RX0 31 "CellarPushers$Ground" "rampWays" "[I", Cond.methodLink RX2 72 yX0_barrelMayCome, Cond.instanceMethod yX0_barrelMayCome, Cond.selects RX0 yX0_barrelMayCome yX0_barrelMayCome, Cond.code yX0_barrelMayCome cX0_barrelMayCome 4 (some .boolean), Cond.methodLink RX2 75 yX2_priceTo, Cond.instanceMethod yX2_priceTo, Cond.selects RX2 yX2_priceTo yX2_priceTo, Cond.code yX2_priceTo cX2_priceTo 2 (some .int), Cond.methodLink RX2 78 yX0_rollsOn, Cond.instanceMethod yX0_rollsOn, Cond.selects RX0 yX0_rollsOn yX0_rollsOn, Cond.code yX0_rollsOn cX0_rollsOn 3 (some .boolean)]
def wsX2_measure : List Cond := .code yX2_measure cX2_measure 5 none :: ((wsX2_measure_r1 ++ (wsX2_measure_r2 ++ wsX2_measure_r3)) ++ wsX20 ++ wsX00)
def wsJ6_bitCount_0f7a4 : List Cond := .code yJ6_bitCount_0f7a4 cJ6_bitCount_0f7a4 1 (some .int) :: ([.constant RJ6 265 (1431655765), .constant RJ6 266 (858993459), .constant RJ6 267 (252645135)])
def wsX1_pairWithEach : List Cond := .code yX1_pairWithEach cX1_pairWithEach 6 none :: ([.fieldLink RX1 49 "CellarPushers$Pairing" "size" "I", .fieldLink RX1 9 "CellarPushers$Pairing" "marks" "[I", .fieldLink RX1 15 "CellarPushers$Pairing" "sums" "[I", .methodLink RX1 65 Lib.Math.min.name, .static Lib.Math.min.name, .initialized "java/lang/Math", .code Lib.Math.min.name Lib.Math.min.code 2 (some .int), .methodLink RX1 62 yX2_priceTo, .instanceMethod yX2_priceTo, .selects RX2 yX2_priceTo yX2_priceTo, .initialized RX2, .code yX2_priceTo cX2_priceTo 2 (some .int), .fieldLink RX2 9 "CellarPushers$Prices" "pushes" "[I", .static yX8_isField, .initialized RX8, .code yX8_isField cX8_isField 1 (some .boolean)] ++ wsX10 ++ wsX20)
def wsX1_pairNext_r1 : List Cond := [Cond.fieldLink RX1 49 "CellarPushers$Pairing" "size" "I", Cond.fieldLink RX1 15 "CellarPushers$Pairing" "sums" "[I", Cond.constant RX1 28 (268435456), Cond.methodLink RX1 53 yJ6_bitCount_0f7a4, Cond.static yJ6_bitCount_0f7a4, Cond.initialized RJ6, Cond.code yJ6_bitCount_0f7a4 cJ6_bitCount_0f7a4 1 (some .int), Cond.constant RJ6 265 (1431655765), Cond.constant RJ6 266 (858993459), Cond.constant RJ6 267 (252645135), Cond.methodLink RX1 59 yX1_pairWithEach, Cond.instanceMethod yX1_pairWithEach, Cond.selects RX1 yX1_pairWithEach yX1_pairWithEach, Cond.initialized RX1, Cond.code yX1_pairWithEach cX1_pairWithEach 6 none, Cond.fieldLink RX1 9 "CellarPushers$Pairing" "marks" "[I", Cond.methodLink RX1 65 Lib.Math.min.name, Cond.static Lib.Math.min.name, Cond.initialized "java/lang/Math", Cond.code Lib.Math.min.name Lib.Math.min.code 2 (some .int), Cond.methodLink RX1 62 yX2_priceTo, Cond.instanceMethod yX2_priceTo, Cond.selects RX2 yX2_priceTo yX2_priceTo, Cond.initialized RX2]
def wsX1_pairNext_r2 : List Cond := [Cond.code yX2_priceTo cX2_priceTo 2 (some .int), Cond.fieldLink RX2 9 "CellarPushers$Prices" "pushes" "[I", Cond.static yX8_isField, Cond.initialized RX8, Cond.code yX8_isField cX8_isField 1 (some .boolean)]
def wsX1_pairNext : List Cond := .code yX1_pairNext cX1_pairNext 4 none :: ((wsX1_pairNext_r1 ++ wsX1_pairNext_r2) ++ wsX10 ++ wsX20)
def wsX1_leastSum_r1 : List Cond := [Cond.fieldLink RX1 18 "CellarPushers$Ground" "wanted" "J", Cond.fieldLink RX1 15 "CellarPushers$Pairing" "sums" "[I", Cond.constant RX1 28 (268435456), Cond.fieldLink RX1 49 "CellarPushers$Pairing" "size" "I", Cond.methodLink RX1 24 yX1_listMarks, Cond.instanceMethod yX1_listMarks, Cond.selects RX1 yX1_listMarks yX1_listMarks, Cond.initialized RX1, Cond.code yX1_listMarks cX1_listMarks 4 none, Cond.fieldLink RX1 9 "CellarPushers$Pairing" "marks" "[I", Cond.static yX8_has, Cond.initialized RX8, Cond.code yX8_has cX8_has 3 (some .boolean), Cond.methodLink RX8 253 yX8_isField, Cond.static yX8_isField, Cond.code yX8_isField cX8_isField 1 (some .boolean), Cond.methodLink RX1 29 yJ7_fill_53178, Cond.static yJ7_fill_53178, Cond.initialized RJ7, Cond.code yJ7_fill_53178 cJ7_fill_53178 4 none, Cond.methodLink RX1 39 yX2_measure, Cond.instanceMethod yX2_measure, Cond.selects RX2 yX2_measure yX2_measure, Cond.initialized RX2]
def wsX1_leastSum_r2 : List Cond := [Cond.code yX2_measure cX2_measure 5 none, Cond.fieldLink RX2 9 "CellarPushers$Prices" "pushes" "[I", Cond.fieldLink RX2 24 "CellarPushers$Prices" "reached" "I", Cond.fieldLink RX2 15 "CellarPushers$Prices" "queue" "[I", Cond.methodLink RX2 18 yJ7_fill_53178, Cond.methodLink RX2 28 yX2_reach, Cond.instanceMethod yX2_reach, Cond.selects RX2 yX2_reach yX2_reach, Cond.code yX2_reach cX2_reach 3 none, Cond.methodLink RX2 32 yX2_pushOn, Cond.instanceMethod yX2_pushOn, Cond.selects RX2 yX2_pushOn yX2_pushOn, Cond.code yX2_pushOn cX2_pushOn 7 none, Cond.static yX8_opposite, Cond.code yX8_opposite cX8_opposite 1 (some .int), Cond.methodLink RX2 61 yX0_beside, Cond.instanceMethod yX0_beside, Cond.selects RX0 yX0_beside yX0_beside, Cond.initialized RX0, Cond.code yX0_beside cX0_beside 3 (some .int), Cond.static yX8_isWay, Cond.code yX8_isWay cX8_isWay 1 (some .boolean), Cond.methodLink RX0 51 yX0_numberOf, Cond.instanceMethod yX0_numberOf]
def wsX1_leastSum_r3 : List Cond := [Cond.selects RX0 yX0_numberOf yX0_numberOf, Cond.code yX0_numberOf cX0_numberOf 4 (some .int), Cond.fieldLink RX0 18 "CellarPushers$Ground" "width" "I", Cond.fieldLink RX0 24 "CellarPushers$Ground" "height" "I", Cond.methodLink RX2 65 yX0_isForMan, Cond.instanceMethod yX0_isForMan, Cond.selects RX0 yX0_isForMan yX0_isForMan, Cond.code yX0_isForMan cX0_isForMan 3 (some .boolean), Cond.methodLink RX0 54 yX0_kindNow, Cond.instanceMethod yX0_kindNow, Cond.selects RX0 yX0_kindNow yX0_kindNow, Cond.code yX0_kindNow cX0_kindNow 2 (some .int), Cond.fieldLink RX0 34 "CellarPushers$Ground" "missing" "[Z", Cond.fieldLink RX0 27 "CellarPushers$Ground" "kinds" "[I", Cond.methodLink RX2 68 yX0_manMayCome, Cond.instanceMethod yX0_manMayCome, Cond.selects RX0 yX0_manMayCome yX0_manMayCome, Cond.code yX0_manMayCome cX0_manMayCome 4 (some .boolean), Cond.methodLink RX0 58 yX0_rampWay, Cond.instanceMethod yX0_rampWay, Cond.selects RX0 yX0_rampWay yX0_rampWay, Cond.code yX0_rampWay cX0_rampWay 2 (some .int), Cond.fieldLink RX0 31 "CellarPushers$Ground" "rampWays" "[I", Cond.methodLink RX2 72 yX0_barrelMayCome]
def wsX1_leastSum_r4 : List Cond := [Cond.instanceMethod yX0_barrelMayCome, Cond.selects RX0 yX0_barrelMayCome yX0_barrelMayCome, Cond.code yX0_barrelMayCome cX0_barrelMayCome 4 (some .boolean), Cond.methodLink RX2 75 yX2_priceTo, Cond.instanceMethod yX2_priceTo, Cond.selects RX2 yX2_priceTo yX2_priceTo, Cond.code yX2_priceTo cX2_priceTo 2 (some .int), Cond.methodLink RX2 78 yX0_rollsOn, Cond.instanceMethod yX0_rollsOn, Cond.selects RX0 yX0_rollsOn yX0_rollsOn, Cond.code yX0_rollsOn cX0_rollsOn 3 (some .boolean), Cond.methodLink RX1 45 yX1_pairNext, Cond.instanceMethod yX1_pairNext, Cond.selects RX1 yX1_pairNext yX1_pairNext, Cond.code yX1_pairNext cX1_pairNext 4 none, Cond.methodLink RX1 53 yJ6_bitCount_0f7a4, Cond.static yJ6_bitCount_0f7a4, Cond.initialized RJ6, Cond.code yJ6_bitCount_0f7a4 cJ6_bitCount_0f7a4 1 (some .int), Cond.constant RJ6 265 (1431655765), Cond.constant RJ6 266 (858993459), Cond.constant RJ6 267 (252645135), Cond.methodLink RX1 59 yX1_pairWithEach, Cond.instanceMethod yX1_pairWithEach]
def wsX1_leastSum_r5 : List Cond := [Cond.selects RX1 yX1_pairWithEach yX1_pairWithEach, Cond.code yX1_pairWithEach cX1_pairWithEach 6 none, Cond.methodLink RX1 65 Lib.Math.min.name, Cond.static Lib.Math.min.name, Cond.initialized "java/lang/Math", Cond.code Lib.Math.min.name Lib.Math.min.code 2 (some .int), Cond.methodLink RX1 62 yX2_priceTo]
def wsX1_leastSum : List Cond := .code yX1_leastSum cX1_leastSum 8 (some .int) :: ((wsX1_leastSum_r1 ++ (wsX1_leastSum_r2 ++ (wsX1_leastSum_r3 ++ (wsX1_leastSum_r4 ++ wsX1_leastSum_r5)))) ++ wsX00 ++ wsX10 ++ wsX20)
def wsX2_init : List Cond := .code yX2_init cX2_init 1 none :: ([.methodLink RX2 3 objectInit, .instanceMethod objectInit, .code objectInit ⟨#[0xb1]⟩ 1 none, .arrayClass .int, .fieldLink RX2 9 "CellarPushers$Prices" "pushes" "[I", .fieldLink RX2 15 "CellarPushers$Prices" "queue" "[I"] ++ wsX20)
def wsX2_isDead_r1 : List Cond := [Cond.fieldLink RX2 50 "CellarPushers$Ground" "wanted" "J", Cond.fieldLink RX2 9 "CellarPushers$Prices" "pushes" "[I", Cond.methodLink RX2 40 yX0_kindNow, Cond.instanceMethod yX0_kindNow, Cond.selects RX0 yX0_kindNow yX0_kindNow, Cond.initialized RX0, Cond.code yX0_kindNow cX0_kindNow 2 (some .int), Cond.fieldLink RX0 34 "CellarPushers$Ground" "missing" "[Z", Cond.fieldLink RX0 27 "CellarPushers$Ground" "kinds" "[I", Cond.methodLink RX2 46 yX2_measure, Cond.instanceMethod yX2_measure, Cond.selects RX2 yX2_measure yX2_measure, Cond.initialized RX2, Cond.code yX2_measure cX2_measure 5 none, Cond.fieldLink RX2 24 "CellarPushers$Prices" "reached" "I", Cond.fieldLink RX2 15 "CellarPushers$Prices" "queue" "[I", Cond.methodLink RX2 18 yJ7_fill_53178, Cond.static yJ7_fill_53178, Cond.initialized RJ7, Cond.code yJ7_fill_53178 cJ7_fill_53178 4 none, Cond.methodLink RX2 28 yX2_reach, Cond.instanceMethod yX2_reach, Cond.selects RX2 yX2_reach yX2_reach, Cond.code yX2_reach cX2_reach 3 none]
def wsX2_isDead_r2 : List Cond := [Cond.static yX8_isField, Cond.initialized RX8, Cond.code yX8_isField cX8_isField 1 (some .boolean), Cond.methodLink RX2 32 yX2_pushOn, Cond.instanceMethod yX2_pushOn, Cond.selects RX2 yX2_pushOn yX2_pushOn, Cond.code yX2_pushOn cX2_pushOn 7 none, Cond.static yX8_opposite, Cond.code yX8_opposite cX8_opposite 1 (some .int), Cond.methodLink RX2 61 yX0_beside, Cond.instanceMethod yX0_beside, Cond.selects RX0 yX0_beside yX0_beside, Cond.code yX0_beside cX0_beside 3 (some .int), Cond.static yX8_isWay, Cond.code yX8_isWay cX8_isWay 1 (some .boolean), Cond.methodLink RX0 51 yX0_numberOf, Cond.instanceMethod yX0_numberOf, Cond.selects RX0 yX0_numberOf yX0_numberOf, Cond.code yX0_numberOf cX0_numberOf 4 (some .int), Cond.fieldLink RX0 18 "CellarPushers$Ground" "width" "I", Cond.fieldLink RX0 24 "CellarPushers$Ground" "height" "I", Cond.methodLink RX2 65 yX0_isForMan, Cond.instanceMethod yX0_isForMan, Cond.selects RX0 yX0_isForMan yX0_isForMan]
def wsX2_isDead_r3 : List Cond := [Cond.code yX0_isForMan cX0_isForMan 3 (some .boolean), Cond.methodLink RX0 54 yX0_kindNow, Cond.methodLink RX2 68 yX0_manMayCome, Cond.instanceMethod yX0_manMayCome, Cond.selects RX0 yX0_manMayCome yX0_manMayCome, Cond.code yX0_manMayCome cX0_manMayCome 4 (some .boolean), Cond.methodLink RX0 58 yX0_rampWay, Cond.instanceMethod yX0_rampWay, Cond.selects RX0 yX0_rampWay yX0_rampWay, Cond.code yX0_rampWay cX0_rampWay 2 (some .int), Cond.fieldLink RX0 31 "CellarPushers$Ground" "rampWays" "[I", Cond.methodLink RX2 72 yX0_barrelMayCome, Cond.instanceMethod yX0_barrelMayCome, Cond.selects RX0 yX0_barrelMayCome yX0_barrelMayCome, Cond.code yX0_barrelMayCome cX0_barrelMayCome 4 (some .boolean), Cond.methodLink RX2 75 yX2_priceTo, Cond.instanceMethod yX2_priceTo, Cond.selects RX2 yX2_priceTo yX2_priceTo, Cond.code yX2_priceTo cX2_priceTo 2 (some .int), Cond.methodLink RX2 78 yX0_rollsOn, Cond.instanceMethod yX0_rollsOn, Cond.selects RX0 yX0_rollsOn yX0_rollsOn, Cond.code yX0_rollsOn cX0_rollsOn 3 (some .boolean), Cond.static yX8_has]
def wsX2_isDead_r4 : List Cond := [Cond.code yX8_has cX8_has 3 (some .boolean), Cond.methodLink RX8 253 yX8_isField]
def wsX2_isDead : List Cond := .code yX2_isDead cX2_isDead 4 (some .boolean) :: ((wsX2_isDead_r1 ++ (wsX2_isDead_r2 ++ (wsX2_isDead_r3 ++ wsX2_isDead_r4))) ++ wsX00 ++ wsX20)
def wsX3_init : List Cond := .code yX3_init cX3_init 1 none :: ([.methodLink RX3 3 objectInit, .instanceMethod objectInit, .code objectInit ⟨#[0xb1]⟩ 1 none, .fieldLink RX3 9 "CellarPushers$Scene" "manAt" "I"] ++ wsX30)
def wsX3_become : List Cond := .code yX3_become cX3_become 2 none :: ([.fieldLink RX3 9 "CellarPushers$Scene" "manAt" "I", .fieldLink RX3 15 "CellarPushers$Scene" "barrels" "J", .fieldLink RX3 19 "CellarPushers$Scene" "stepsDone" "I", .fieldLink RX3 22 "CellarPushers$Scene" "pushesDone" "I"] ++ wsX30)
def wsX3_hasMan : List Cond := .code yX3_hasMan cX3_hasMan 1 (some .boolean) :: ([.fieldLink RX3 9 "CellarPushers$Scene" "manAt" "I"] ++ wsX30)
def wsX3_hasBarrel : List Cond := .code yX3_hasBarrel cX3_hasBarrel 2 (some .boolean) :: ([.fieldLink RX3 15 "CellarPushers$Scene" "barrels" "J", .static yX8_has, .initialized RX8, .code yX8_has cX8_has 3 (some .boolean), .methodLink RX8 253 yX8_isField, .static yX8_isField, .code yX8_isField cX8_isField 1 (some .boolean)] ++ wsX30)
def wsX3_isTaken : List Cond := .code yX3_isTaken cX3_isTaken 2 (some .boolean) :: ([.fieldLink RX3 9 "CellarPushers$Scene" "manAt" "I", .methodLink RX3 29 yX3_hasBarrel, .instanceMethod yX3_hasBarrel, .selects RX3 yX3_hasBarrel yX3_hasBarrel, .initialized RX3, .code yX3_hasBarrel cX3_hasBarrel 2 (some .boolean), .fieldLink RX3 15 "CellarPushers$Scene" "barrels" "J", .static yX8_has, .initialized RX8, .code yX8_has cX8_has 3 (some .boolean), .methodLink RX8 253 yX8_isField, .static yX8_isField, .code yX8_isField cX8_isField 1 (some .boolean)] ++ wsX30)
def wsX8_with : List Cond := .code yX8_with cX8_with 6 (some .long) :: ([.constantLong RX8 196 (-1), .methodLink RX8 253 yX8_isField, .static yX8_isField, .initialized RX8, .code yX8_isField cX8_isField 1 (some .boolean)])
def wsX3_roll_r1 : List Cond := [Cond.fieldLink RX3 15 "CellarPushers$Scene" "barrels" "J", Cond.methodLink RX3 67 yX0_rollsOn, Cond.instanceMethod yX0_rollsOn, Cond.selects RX0 yX0_rollsOn yX0_rollsOn, Cond.initialized RX0, Cond.code yX0_rollsOn cX0_rollsOn 3 (some .boolean), Cond.methodLink RX0 54 yX0_kindNow, Cond.instanceMethod yX0_kindNow, Cond.selects RX0 yX0_kindNow yX0_kindNow, Cond.code yX0_kindNow cX0_kindNow 2 (some .int), Cond.fieldLink RX0 34 "CellarPushers$Ground" "missing" "[Z", Cond.fieldLink RX0 27 "CellarPushers$Ground" "kinds" "[I", Cond.methodLink RX3 40 yX0_beside, Cond.instanceMethod yX0_beside, Cond.selects RX0 yX0_beside yX0_beside, Cond.code yX0_beside cX0_beside 3 (some .int), Cond.static yX8_isField, Cond.initialized RX8, Cond.code yX8_isField cX8_isField 1 (some .boolean), Cond.static yX8_isWay, Cond.code yX8_isWay cX8_isWay 1 (some .boolean), Cond.methodLink RX0 51 yX0_numberOf, Cond.instanceMethod yX0_numberOf, Cond.selects RX0 yX0_numberOf yX0_numberOf]
def wsX3_roll_r2 : List Cond := [Cond.code yX0_numberOf cX0_numberOf 4 (some .int), Cond.fieldLink RX0 18 "CellarPushers$Ground" "width" "I", Cond.fieldLink RX0 24 "CellarPushers$Ground" "height" "I", Cond.methodLink RX3 29 yX3_hasBarrel, Cond.instanceMethod yX3_hasBarrel, Cond.selects RX3 yX3_hasBarrel yX3_hasBarrel, Cond.initialized RX3, Cond.code yX3_hasBarrel cX3_hasBarrel 2 (some .boolean), Cond.static yX8_has, Cond.code yX8_has cX8_has 3 (some .boolean), Cond.methodLink RX8 253 yX8_isField, Cond.methodLink RX3 70 yX0_barrelMayCome, Cond.instanceMethod yX0_barrelMayCome, Cond.selects RX0 yX0_barrelMayCome yX0_barrelMayCome, Cond.code yX0_barrelMayCome cX0_barrelMayCome 4 (some .boolean), Cond.methodLink RX0 58 yX0_rampWay, Cond.instanceMethod yX0_rampWay, Cond.selects RX0 yX0_rampWay yX0_rampWay, Cond.code yX0_rampWay cX0_rampWay 2 (some .int), Cond.fieldLink RX0 31 "CellarPushers$Ground" "rampWays" "[I", Cond.static yX8_with, Cond.code yX8_with cX8_with 6 (some .long), Cond.constantLong RX8 196 (-1)]
def wsX3_roll : List Cond := .code yX3_roll cX3_roll 7 (some .int) :: ((wsX3_roll_r1 ++ wsX3_roll_r2) ++ wsX30 ++ wsX00)
def wsX3_advance_r1 : List Cond := [Cond.fieldLink RX3 9 "CellarPushers$Scene" "manAt" "I", Cond.fieldLink RX3 19 "CellarPushers$Scene" "stepsDone" "I", Cond.fieldLink RX3 22 "CellarPushers$Scene" "pushesDone" "I", Cond.methodLink RX3 33 yX3_hasMan, Cond.instanceMethod yX3_hasMan, Cond.selects RX3 yX3_hasMan yX3_hasMan, Cond.initialized RX3, Cond.code yX3_hasMan cX3_hasMan 1 (some .boolean), Cond.static yX8_isWay, Cond.initialized RX8, Cond.code yX8_isWay cX8_isWay 1 (some .boolean), Cond.methodLink RX3 40 yX0_beside, Cond.instanceMethod yX0_beside, Cond.selects RX0 yX0_beside yX0_beside, Cond.initialized RX0, Cond.code yX0_beside cX0_beside 3 (some .int), Cond.static yX8_isField, Cond.code yX8_isField cX8_isField 1 (some .boolean), Cond.methodLink RX0 51 yX0_numberOf, Cond.instanceMethod yX0_numberOf, Cond.selects RX0 yX0_numberOf yX0_numberOf, Cond.code yX0_numberOf cX0_numberOf 4 (some .int), Cond.fieldLink RX0 18 "CellarPushers$Ground" "width" "I", Cond.fieldLink RX0 24 "CellarPushers$Ground" "height" "I"]
def wsX3_advance_r2 : List Cond := [Cond.methodLink RX3 29 yX3_hasBarrel, Cond.instanceMethod yX3_hasBarrel, Cond.selects RX3 yX3_hasBarrel yX3_hasBarrel, Cond.code yX3_hasBarrel cX3_hasBarrel 2 (some .boolean), Cond.fieldLink RX3 15 "CellarPushers$Scene" "barrels" "J", Cond.static yX8_has, Cond.code yX8_has cX8_has 3 (some .boolean), Cond.methodLink RX8 253 yX8_isField, Cond.methodLink RX3 46 yX0_manMayCome, Cond.instanceMethod yX0_manMayCome, Cond.selects RX0 yX0_manMayCome yX0_manMayCome, Cond.code yX0_manMayCome cX0_manMayCome 4 (some .boolean), Cond.methodLink RX0 54 yX0_kindNow, Cond.instanceMethod yX0_kindNow, Cond.selects RX0 yX0_kindNow yX0_kindNow, Cond.code yX0_kindNow cX0_kindNow 2 (some .int), Cond.fieldLink RX0 34 "CellarPushers$Ground" "missing" "[Z", Cond.fieldLink RX0 27 "CellarPushers$Ground" "kinds" "[I", Cond.methodLink RX0 58 yX0_rampWay, Cond.instanceMethod yX0_rampWay, Cond.selects RX0 yX0_rampWay yX0_rampWay, Cond.code yX0_rampWay cX0_rampWay 2 (some .int), Cond.fieldLink RX0 31 "CellarPushers$Ground" "rampWays" "[I", Cond.methodLink RX3 50 yX3_roll]
def wsX3_advance_r3 : List Cond := [Cond.instanceMethod yX3_roll, Cond.selects RX3 yX3_roll yX3_roll, Cond.code yX3_roll cX3_roll 7 (some .int), Cond.methodLink RX3 67 yX0_rollsOn, Cond.instanceMethod yX0_rollsOn, Cond.selects RX0 yX0_rollsOn yX0_rollsOn, Cond.code yX0_rollsOn cX0_rollsOn 3 (some .boolean), Cond.methodLink RX3 70 yX0_barrelMayCome, Cond.instanceMethod yX0_barrelMayCome, Cond.selects RX0 yX0_barrelMayCome yX0_barrelMayCome, Cond.code yX0_barrelMayCome cX0_barrelMayCome 4 (some .boolean), Cond.static yX8_with, Cond.code yX8_with cX8_with 6 (some .long), Cond.constantLong RX8 196 (-1)]
def wsX3_advance : List Cond := .code yX3_advance cX3_advance 6 (some .int) :: ((wsX3_advance_r1 ++ (wsX3_advance_r2 ++ wsX3_advance_r3)) ++ wsX30 ++ wsX00)
def wsX7_isIn : List Cond := .code yX7_isIn cX7_isIn 2 (some .boolean) :: ([.fieldLink RX7 19 "CellarPushers$Ways" "size" "I", .fieldLink RX7 9 "CellarPushers$Ways" "ways" "[I"] ++ wsX70)
def wsX7_wayAt : List Cond := .code yX7_wayAt cX7_wayAt 2 (some .int) :: ([.fieldLink RX7 9 "CellarPushers$Ways" "ways" "[I", .methodLink RX7 15 yX7_isIn, .instanceMethod yX7_isIn, .selects RX7 yX7_isIn yX7_isIn, .initialized RX7, .code yX7_isIn cX7_isIn 2 (some .boolean), .fieldLink RX7 19 "CellarPushers$Ways" "size" "I"] ++ wsX70)
def wsX3_advanceBy_r1 : List Cond := [Cond.fieldLink RX3 54 "CellarPushers$Ways" "size" "I", Cond.methodLink RX3 59 yX7_wayAt, Cond.instanceMethod yX7_wayAt, Cond.selects RX7 yX7_wayAt yX7_wayAt, Cond.initialized RX7, Cond.code yX7_wayAt cX7_wayAt 2 (some .int), Cond.fieldLink RX7 9 "CellarPushers$Ways" "ways" "[I", Cond.methodLink RX7 15 yX7_isIn, Cond.instanceMethod yX7_isIn, Cond.selects RX7 yX7_isIn yX7_isIn, Cond.code yX7_isIn cX7_isIn 2 (some .boolean), Cond.fieldLink RX7 19 "CellarPushers$Ways" "size" "I", Cond.methodLink RX3 63 yX3_advance, Cond.instanceMethod yX3_advance, Cond.selects RX3 yX3_advance yX3_advance, Cond.initialized RX3, Cond.code yX3_advance cX3_advance 6 (some .int), Cond.fieldLink RX3 9 "CellarPushers$Scene" "manAt" "I", Cond.fieldLink RX3 19 "CellarPushers$Scene" "stepsDone" "I", Cond.fieldLink RX3 22 "CellarPushers$Scene" "pushesDone" "I", Cond.methodLink RX3 33 yX3_hasMan, Cond.instanceMethod yX3_hasMan, Cond.selects RX3 yX3_hasMan yX3_hasMan, Cond.code yX3_hasMan cX3_hasMan 1 (some .boolean)]
def wsX3_advanceBy_r2 : List Cond := [Cond.static yX8_isWay, Cond.initialized RX8, Cond.code yX8_isWay cX8_isWay 1 (some .boolean), Cond.methodLink RX3 40 yX0_beside, Cond.instanceMethod yX0_beside, Cond.selects RX0 yX0_beside yX0_beside, Cond.initialized RX0, Cond.code yX0_beside cX0_beside 3 (some .int), Cond.static yX8_isField, Cond.code yX8_isField cX8_isField 1 (some .boolean), Cond.methodLink RX0 51 yX0_numberOf, Cond.instanceMethod yX0_numberOf, Cond.selects RX0 yX0_numberOf yX0_numberOf, Cond.code yX0_numberOf cX0_numberOf 4 (some .int), Cond.fieldLink RX0 18 "CellarPushers$Ground" "width" "I", Cond.fieldLink RX0 24 "CellarPushers$Ground" "height" "I", Cond.methodLink RX3 29 yX3_hasBarrel, Cond.instanceMethod yX3_hasBarrel, Cond.selects RX3 yX3_hasBarrel yX3_hasBarrel, Cond.code yX3_hasBarrel cX3_hasBarrel 2 (some .boolean), Cond.fieldLink RX3 15 "CellarPushers$Scene" "barrels" "J", Cond.static yX8_has, Cond.code yX8_has cX8_has 3 (some .boolean), Cond.methodLink RX8 253 yX8_isField]
def wsX3_advanceBy_r3 : List Cond := [Cond.methodLink RX3 46 yX0_manMayCome, Cond.instanceMethod yX0_manMayCome, Cond.selects RX0 yX0_manMayCome yX0_manMayCome, Cond.code yX0_manMayCome cX0_manMayCome 4 (some .boolean), Cond.methodLink RX0 54 yX0_kindNow, Cond.instanceMethod yX0_kindNow, Cond.selects RX0 yX0_kindNow yX0_kindNow, Cond.code yX0_kindNow cX0_kindNow 2 (some .int), Cond.fieldLink RX0 34 "CellarPushers$Ground" "missing" "[Z", Cond.fieldLink RX0 27 "CellarPushers$Ground" "kinds" "[I", Cond.methodLink RX0 58 yX0_rampWay, Cond.instanceMethod yX0_rampWay, Cond.selects RX0 yX0_rampWay yX0_rampWay, Cond.code yX0_rampWay cX0_rampWay 2 (some .int), Cond.fieldLink RX0 31 "CellarPushers$Ground" "rampWays" "[I", Cond.methodLink RX3 50 yX3_roll, Cond.instanceMethod yX3_roll, Cond.selects RX3 yX3_roll yX3_roll, Cond.code yX3_roll cX3_roll 7 (some .int), Cond.methodLink RX3 67 yX0_rollsOn, Cond.instanceMethod yX0_rollsOn, Cond.selects RX0 yX0_rollsOn yX0_rollsOn, Cond.code yX0_rollsOn cX0_rollsOn 3 (some .boolean), Cond.methodLink RX3 70 yX0_barrelMayCome]
def wsX3_advanceBy_r4 : List Cond := [Cond.instanceMethod yX0_barrelMayCome, Cond.selects RX0 yX0_barrelMayCome yX0_barrelMayCome, Cond.code yX0_barrelMayCome cX0_barrelMayCome 4 (some .boolean), Cond.static yX8_with, Cond.code yX8_with cX8_with 6 (some .long), Cond.constantLong RX8 196 (-1)]
def wsX3_advanceBy : List Cond := .code yX3_advanceBy cX3_advanceBy 4 (some .int) :: ((wsX3_advanceBy_r1 ++ (wsX3_advanceBy_r2 ++ (wsX3_advanceBy_r3 ++ wsX3_advanceBy_r4))) ++ wsX70 ++ wsX30 ++ wsX00)
def wsX4_init : List Cond := .code yX4_init cX4_init 1 none :: ([.methodLink RX4 5 objectInit, .instanceMethod objectInit, .code objectInit ⟨#[0xb1]⟩ 1 none, .arrayClass .int, .fieldLink RX4 11 "CellarPushers$Search" "cellOf" "[I", .fieldLink RX4 15 "CellarPushers$Search" "manTo" "[I", .fieldLink RX4 18 "CellarPushers$Search" "barrelTo" "[I", .arrayClass .boolean, .fieldLink RX4 21 "CellarPushers$Search" "rolls" "[Z", .fieldLink RX4 25 "CellarPushers$Search" "sets" "[I", .fieldLink RX4 28 "CellarPushers$Search" "order" "[I", .arrayClass .long, .fieldLink RX4 31 "CellarPushers$Search" "costs" "[J"] ++ wsX40)
def wsX4_numberCells : List Cond := .code yX4_numberCells cX4_numberCells 4 none :: ([.fieldLink RX4 110 "CellarPushers$Search" "cells" "I", .fieldLink RX4 11 "CellarPushers$Search" "cellOf" "[I", .methodLink RX4 113 yX0_kindNow, .instanceMethod yX0_kindNow, .selects RX0 yX0_kindNow yX0_kindNow, .initialized RX0, .code yX0_kindNow cX0_kindNow 2 (some .int), .fieldLink RX0 34 "CellarPushers$Ground" "missing" "[Z", .fieldLink RX0 27 "CellarPushers$Ground" "kinds" "[I"] ++ wsX40 ++ wsX00)
def wsX4_cellAt : List Cond := .code yX4_cellAt cX4_cellAt 2 (some .int) :: ([.fieldLink RX4 11 "CellarPushers$Search" "cellOf" "[I", .static yX8_isField, .initialized RX8, .code yX8_isField cX8_isField 1 (some .boolean)] ++ wsX40)
def wsX4_joinCells_r1 : List Cond := [Cond.fieldLink RX4 21 "CellarPushers$Search" "rolls" "[Z", Cond.fieldLink RX4 15 "CellarPushers$Search" "manTo" "[I", Cond.fieldLink RX4 18 "CellarPushers$Search" "barrelTo" "[I", Cond.methodLink RX4 88 yX4_cellAt, Cond.instanceMethod yX4_cellAt, Cond.selects RX4 yX4_cellAt yX4_cellAt, Cond.initialized RX4, Cond.code yX4_cellAt cX4_cellAt 2 (some .int), Cond.fieldLink RX4 11 "CellarPushers$Search" "cellOf" "[I", Cond.static yX8_isField, Cond.initialized RX8, Cond.code yX8_isField cX8_isField 1 (some .boolean), Cond.methodLink RX4 116 yX0_rollsOn, Cond.instanceMethod yX0_rollsOn, Cond.selects RX0 yX0_rollsOn yX0_rollsOn, Cond.initialized RX0, Cond.code yX0_rollsOn cX0_rollsOn 3 (some .boolean), Cond.methodLink RX0 54 yX0_kindNow, Cond.instanceMethod yX0_kindNow, Cond.selects RX0 yX0_kindNow yX0_kindNow, Cond.code yX0_kindNow cX0_kindNow 2 (some .int), Cond.fieldLink RX0 34 "CellarPushers$Ground" "missing" "[Z", Cond.fieldLink RX0 27 "CellarPushers$Ground" "kinds" "[I", Cond.methodLink RX4 120 yX0_beside]
def wsX4_joinCells_r2 : List Cond := [Cond.instanceMethod yX0_beside, Cond.selects RX0 yX0_beside yX0_beside, Cond.code yX0_beside cX0_beside 3 (some .int), Cond.static yX8_isWay, Cond.code yX8_isWay cX8_isWay 1 (some .boolean), Cond.methodLink RX0 51 yX0_numberOf, Cond.instanceMethod yX0_numberOf, Cond.selects RX0 yX0_numberOf yX0_numberOf, Cond.code yX0_numberOf cX0_numberOf 4 (some .int), Cond.fieldLink RX0 18 "CellarPushers$Ground" "width" "I", Cond.fieldLink RX0 24 "CellarPushers$Ground" "height" "I", Cond.methodLink RX4 123 yX0_manMayCome, Cond.instanceMethod yX0_manMayCome, Cond.selects RX0 yX0_manMayCome yX0_manMayCome, Cond.code yX0_manMayCome cX0_manMayCome 4 (some .boolean), Cond.methodLink RX0 58 yX0_rampWay, Cond.instanceMethod yX0_rampWay, Cond.selects RX0 yX0_rampWay yX0_rampWay, Cond.code yX0_rampWay cX0_rampWay 2 (some .int), Cond.fieldLink RX0 31 "CellarPushers$Ground" "rampWays" "[I", Cond.methodLink RX4 127 yX0_barrelMayCome, Cond.instanceMethod yX0_barrelMayCome, Cond.selects RX0 yX0_barrelMayCome yX0_barrelMayCome, Cond.code yX0_barrelMayCome cX0_barrelMayCome 4 (some .boolean)]
def wsX4_joinCells : List Cond := .code yX4_joinCells cX4_joinCells 6 none :: ((wsX4_joinCells_r1 ++ wsX4_joinCells_r2) ++ wsX40 ++ wsX00)
def wsX4_setOf : List Cond := .code yX4_setOf cX4_setOf 5 (some .int) :: ([.static yX8_has, .initialized RX8, .code yX8_has cX8_has 3 (some .boolean), .methodLink RX8 253 yX8_isField, .static yX8_isField, .code yX8_isField cX8_isField 1 (some .boolean), .methodLink RX4 88 yX4_cellAt, .instanceMethod yX4_cellAt, .selects RX4 yX4_cellAt yX4_cellAt, .initialized RX4, .code yX4_cellAt cX4_cellAt 2 (some .int), .fieldLink RX4 11 "CellarPushers$Search" "cellOf" "[I"] ++ wsX40)
def wsX4_rankOf : List Cond := .code yX4_rankOf cX4_rankOf 6 (some .int) :: ([.methodLink RX4 137 yJ6_bitCount_0f7a4, .static yJ6_bitCount_0f7a4, .initialized RJ6, .code yJ6_bitCount_0f7a4 cJ6_bitCount_0f7a4 1 (some .int), .constant RJ6 265 (1431655765), .constant RJ6 266 (858993459), .constant RJ6 267 (252645135)])
def wsJ13_bitCount_95d88 : List Cond := .code yJ13_bitCount_95d88 cJ13_bitCount_95d88 2 (some .int) :: ([.constantLong RJ13 314 (6148914691236517205), .constantLong RJ13 316 (3689348814741910323), .constantLong RJ13 318 (1085102592571150095)])
def wsX4_makeRoom : List Cond := .code yX4_makeRoom cX4_makeRoom 3 none :: ([.fieldLink RX4 25 "CellarPushers$Search" "sets" "[I", .methodLink RX4 91 Lib.Math.max.name, .static Lib.Math.max.name, .initialized "java/lang/Math", .code Lib.Math.max.name Lib.Math.max.code 2 (some .int), .methodLink RX4 141 Lib.Math.min.name, .static Lib.Math.min.name, .code Lib.Math.min.name Lib.Math.min.code 2 (some .int), .arrayClass .int, .fieldLink RX4 28 "CellarPushers$Search" "order" "[I", .arrayClass .long, .fieldLink RX4 31 "CellarPushers$Search" "costs" "[J"] ++ wsX40)
def wsX4_nextSet : List Cond := .code yX4_nextSet cX4_nextSet 3 (some .int) :: ([.methodLink RX4 137 yJ6_bitCount_0f7a4, .static yJ6_bitCount_0f7a4, .initialized RJ6, .code yJ6_bitCount_0f7a4 cJ6_bitCount_0f7a4 1 (some .int), .constant RJ6 265 (1431655765), .constant RJ6 266 (858993459), .constant RJ6 267 (252645135)])
def wsX4_listSets_r1 : List Cond := [Cond.fieldLink RX4 110 "CellarPushers$Search" "cells" "I", Cond.methodLink RX4 91 Lib.Math.max.name, Cond.static Lib.Math.max.name, Cond.initialized "java/lang/Math", Cond.code Lib.Math.max.name Lib.Math.max.code 2 (some .int), Cond.methodLink RX4 141 Lib.Math.min.name, Cond.static Lib.Math.min.name, Cond.code Lib.Math.min.name Lib.Math.min.code 2 (some .int), Cond.fieldLink RX4 25 "CellarPushers$Search" "sets" "[I", Cond.methodLink RX4 69 yX4_rankOf, Cond.static yX4_rankOf, Cond.initialized RX4, Cond.code yX4_rankOf cX4_rankOf 6 (some .int), Cond.methodLink RX4 137 yJ6_bitCount_0f7a4, Cond.static yJ6_bitCount_0f7a4, Cond.initialized RJ6, Cond.code yJ6_bitCount_0f7a4 cJ6_bitCount_0f7a4 1 (some .int), Cond.constant RJ6 265 (1431655765), Cond.constant RJ6 266 (858993459), Cond.constant RJ6 267 (252645135), Cond.methodLink RX4 144 yX4_makeRoom, Cond.instanceMethod yX4_makeRoom, Cond.selects RX4 yX4_makeRoom yX4_makeRoom, Cond.code yX4_makeRoom cX4_makeRoom 3 none]
def wsX4_listSets_r2 : List Cond := [Cond.arrayClass .int, Cond.fieldLink RX4 28 "CellarPushers$Search" "order" "[I", Cond.arrayClass .long, Cond.fieldLink RX4 31 "CellarPushers$Search" "costs" "[J", Cond.methodLink RX4 147 yX4_nextSet, Cond.static yX4_nextSet, Cond.code yX4_nextSet cX4_nextSet 3 (some .int)]
def wsX4_listSets : List Cond := .code yX4_listSets cX4_listSets 6 none :: ((wsX4_listSets_r1 ++ wsX4_listSets_r2) ++ wsX40)
def wsJ7_fill_d0a16 : List Cond := .code yJ7_fill_d0a16 cJ7_fill_d0a16 5 none :: ([])
def wsX4_reach : List Cond := .code yX4_reach cX4_reach 5 none :: ([.fieldLink RX4 31 "CellarPushers$Search" "costs" "[J", .constantLong RX4 47 (-1), .fieldLink RX4 156 "CellarPushers$Search" "reached" "I", .fieldLink RX4 28 "CellarPushers$Search" "order" "[I", .fieldLink RX4 100 "CellarPushers$Search" "best" "J", .fieldLink RX4 73 "CellarPushers$Search" "doneRank" "I"] ++ wsX40)
def wsX4_costOf : List Cond := .code yX4_costOf cX4_costOf 2 (some .long) :: ([.fieldLink RX4 31 "CellarPushers$Search" "costs" "[J", .constantLong RX4 47 (-1)] ++ wsX40)
def wsX4_cellFrom : List Cond := .code yX4_cellFrom cX4_cellFrom 4 (some .int) :: ([])
def wsX4_setIn : List Cond := .code yX4_setIn cX4_setIn 3 (some .int) :: ([.fieldLink RX4 25 "CellarPushers$Search" "sets" "[I"] ++ wsX40)
def wsX4_walkedTo : List Cond := .code yX4_walkedTo cX4_walkedTo 4 (some .int) :: ([.fieldLink RX4 15 "CellarPushers$Search" "manTo" "[I", .methodLink RX4 186 yX4_cellFrom, .static yX4_cellFrom, .initialized RX4, .code yX4_cellFrom cX4_cellFrom 4 (some .int), .methodLink RX4 190 yX4_setIn, .instanceMethod yX4_setIn, .selects RX4 yX4_setIn yX4_setIn, .code yX4_setIn cX4_setIn 3 (some .int), .fieldLink RX4 25 "CellarPushers$Search" "sets" "[I"] ++ wsX40)
def wsX4_walkFrom : List Cond := .code yX4_walkFrom cX4_walkFrom 5 none :: ([.methodLink RX4 180 yX4_walkedTo, .instanceMethod yX4_walkedTo, .selects RX4 yX4_walkedTo yX4_walkedTo, .initialized RX4, .code yX4_walkedTo cX4_walkedTo 4 (some .int), .fieldLink RX4 15 "CellarPushers$Search" "manTo" "[I", .methodLink RX4 186 yX4_cellFrom, .static yX4_cellFrom, .code yX4_cellFrom cX4_cellFrom 4 (some .int), .methodLink RX4 190 yX4_setIn, .instanceMethod yX4_setIn, .selects RX4 yX4_setIn yX4_setIn, .code yX4_setIn cX4_setIn 3 (some .int), .fieldLink RX4 25 "CellarPushers$Search" "sets" "[I", .methodLink RX4 159 yX4_reach, .instanceMethod yX4_reach, .selects RX4 yX4_reach yX4_reach, .code yX4_reach cX4_reach 5 none, .fieldLink RX4 31 "CellarPushers$Search" "costs" "[J", .constantLong RX4 47 (-1), .fieldLink RX4 156 "CellarPushers$Search" "reached" "I", .fieldLink RX4 28 "CellarPushers$Search" "order" "[I", .fieldLink RX4 100 "CellarPushers$Search" "best" "J", .fieldLink RX4 73 "CellarPushers$Search" "doneRank" "I"] ++ wsX40)
def wsX4_rolledTo : List Cond := .code yX4_rolledTo cX4_rolledTo 7 (some .int) :: ([.fieldLink RX4 18 "CellarPushers$Search" "barrelTo" "[I", .fieldLink RX4 21 "CellarPushers$Search" "rolls" "[Z", .methodLink RX4 186 yX4_cellFrom, .static yX4_cellFrom, .initialized RX4, .code yX4_cellFrom cX4_cellFrom 4 (some .int)] ++ wsX40)
def wsX4_pushedTo_r1 : List Cond := [Cond.fieldLink RX4 15 "CellarPushers$Search" "manTo" "[I", Cond.fieldLink RX4 61 "CellarPushers$Search" "liveCells" "I", Cond.methodLink RX4 190 yX4_setIn, Cond.instanceMethod yX4_setIn, Cond.selects RX4 yX4_setIn yX4_setIn, Cond.initialized RX4, Cond.code yX4_setIn cX4_setIn 3 (some .int), Cond.fieldLink RX4 25 "CellarPushers$Search" "sets" "[I", Cond.methodLink RX4 186 yX4_cellFrom, Cond.static yX4_cellFrom, Cond.code yX4_cellFrom cX4_cellFrom 4 (some .int), Cond.methodLink RX4 193 yX4_rolledTo, Cond.instanceMethod yX4_rolledTo, Cond.selects RX4 yX4_rolledTo yX4_rolledTo, Cond.code yX4_rolledTo cX4_rolledTo 7 (some .int), Cond.fieldLink RX4 18 "CellarPushers$Search" "barrelTo" "[I", Cond.fieldLink RX4 21 "CellarPushers$Search" "rolls" "[Z", Cond.methodLink RX4 69 yX4_rankOf, Cond.static yX4_rankOf, Cond.code yX4_rankOf cX4_rankOf 6 (some .int), Cond.methodLink RX4 137 yJ6_bitCount_0f7a4, Cond.static yJ6_bitCount_0f7a4, Cond.initialized RJ6, Cond.code yJ6_bitCount_0f7a4 cJ6_bitCount_0f7a4 1 (some .int)]
def wsX4_pushedTo_r2 : List Cond := [Cond.constant RJ6 265 (1431655765), Cond.constant RJ6 266 (858993459), Cond.constant RJ6 267 (252645135)]
def wsX4_pushedTo : List Cond := .code yX4_pushedTo cX4_pushedTo 7 (some .int) :: ((wsX4_pushedTo_r1 ++ wsX4_pushedTo_r2) ++ wsX40)
def wsX4_pushFrom_r1 : List Cond := [Cond.methodLink RX4 183 yX4_pushedTo, Cond.instanceMethod yX4_pushedTo, Cond.selects RX4 yX4_pushedTo yX4_pushedTo, Cond.initialized RX4, Cond.code yX4_pushedTo cX4_pushedTo 7 (some .int), Cond.fieldLink RX4 15 "CellarPushers$Search" "manTo" "[I", Cond.fieldLink RX4 61 "CellarPushers$Search" "liveCells" "I", Cond.methodLink RX4 190 yX4_setIn, Cond.instanceMethod yX4_setIn, Cond.selects RX4 yX4_setIn yX4_setIn, Cond.code yX4_setIn cX4_setIn 3 (some .int), Cond.fieldLink RX4 25 "CellarPushers$Search" "sets" "[I", Cond.methodLink RX4 186 yX4_cellFrom, Cond.static yX4_cellFrom, Cond.code yX4_cellFrom cX4_cellFrom 4 (some .int), Cond.methodLink RX4 193 yX4_rolledTo, Cond.instanceMethod yX4_rolledTo, Cond.selects RX4 yX4_rolledTo yX4_rolledTo, Cond.code yX4_rolledTo cX4_rolledTo 7 (some .int), Cond.fieldLink RX4 18 "CellarPushers$Search" "barrelTo" "[I", Cond.fieldLink RX4 21 "CellarPushers$Search" "rolls" "[Z", Cond.methodLink RX4 69 yX4_rankOf, Cond.static yX4_rankOf, Cond.code yX4_rankOf cX4_rankOf 6 (some .int)]
def wsX4_pushFrom_r2 : List Cond := [Cond.methodLink RX4 137 yJ6_bitCount_0f7a4, Cond.static yJ6_bitCount_0f7a4, Cond.initialized RJ6, Cond.code yJ6_bitCount_0f7a4 cJ6_bitCount_0f7a4 1 (some .int), Cond.constant RJ6 265 (1431655765), Cond.constant RJ6 266 (858993459), Cond.constant RJ6 267 (252645135), Cond.methodLink RX4 159 yX4_reach, Cond.instanceMethod yX4_reach, Cond.selects RX4 yX4_reach yX4_reach, Cond.code yX4_reach cX4_reach 5 none, Cond.fieldLink RX4 31 "CellarPushers$Search" "costs" "[J", Cond.constantLong RX4 47 (-1), Cond.fieldLink RX4 156 "CellarPushers$Search" "reached" "I", Cond.fieldLink RX4 28 "CellarPushers$Search" "order" "[I", Cond.fieldLink RX4 100 "CellarPushers$Search" "best" "J", Cond.fieldLink RX4 73 "CellarPushers$Search" "doneRank" "I"]
def wsX4_pushFrom : List Cond := .code yX4_pushFrom cX4_pushFrom 5 none :: ((wsX4_pushFrom_r1 ++ wsX4_pushFrom_r2) ++ wsX40)
def wsX4_explore_r1 : List Cond := [Cond.fieldLink RX4 31 "CellarPushers$Search" "costs" "[J", Cond.constantLong RX4 47 (-1), Cond.fieldLink RX4 156 "CellarPushers$Search" "reached" "I", Cond.fieldLink RX4 100 "CellarPushers$Search" "best" "J", Cond.fieldLink RX4 28 "CellarPushers$Search" "order" "[I", Cond.constantLong RX4 167 (1152921504606846976), Cond.constantLong RX4 169 (1048577), Cond.methodLink RX4 171 Lib.MathLoose.min_long.x, Cond.static Lib.MathLoose.min_long.x, Cond.initialized "java/lang/Math", Cond.code Lib.MathLoose.min_long.x Lib.MathLoose.min_long.code 4 (some .long), Cond.methodLink RX4 150 yJ7_fill_d0a16, Cond.static yJ7_fill_d0a16, Cond.initialized RJ7, Cond.code yJ7_fill_d0a16 cJ7_fill_d0a16 5 none, Cond.methodLink RX4 159 yX4_reach, Cond.instanceMethod yX4_reach, Cond.selects RX4 yX4_reach yX4_reach, Cond.initialized RX4, Cond.code yX4_reach cX4_reach 5 none, Cond.fieldLink RX4 73 "CellarPushers$Search" "doneRank" "I", Cond.methodLink RX4 163 yX4_costOf, Cond.instanceMethod yX4_costOf, Cond.selects RX4 yX4_costOf yX4_costOf]
def wsX4_explore_r2 : List Cond := [Cond.code yX4_costOf cX4_costOf 2 (some .long), Cond.methodLink RX4 174 yX4_walkFrom, Cond.instanceMethod yX4_walkFrom, Cond.selects RX4 yX4_walkFrom yX4_walkFrom, Cond.code yX4_walkFrom cX4_walkFrom 5 none, Cond.methodLink RX4 180 yX4_walkedTo, Cond.instanceMethod yX4_walkedTo, Cond.selects RX4 yX4_walkedTo yX4_walkedTo, Cond.code yX4_walkedTo cX4_walkedTo 4 (some .int), Cond.fieldLink RX4 15 "CellarPushers$Search" "manTo" "[I", Cond.methodLink RX4 186 yX4_cellFrom, Cond.static yX4_cellFrom, Cond.code yX4_cellFrom cX4_cellFrom 4 (some .int), Cond.methodLink RX4 190 yX4_setIn, Cond.instanceMethod yX4_setIn, Cond.selects RX4 yX4_setIn yX4_setIn, Cond.code yX4_setIn cX4_setIn 3 (some .int), Cond.fieldLink RX4 25 "CellarPushers$Search" "sets" "[I", Cond.methodLink RX4 177 yX4_pushFrom, Cond.instanceMethod yX4_pushFrom, Cond.selects RX4 yX4_pushFrom yX4_pushFrom, Cond.code yX4_pushFrom cX4_pushFrom 5 none, Cond.methodLink RX4 183 yX4_pushedTo, Cond.instanceMethod yX4_pushedTo]
def wsX4_explore_r3 : List Cond := [Cond.selects RX4 yX4_pushedTo yX4_pushedTo, Cond.code yX4_pushedTo cX4_pushedTo 7 (some .int), Cond.fieldLink RX4 61 "CellarPushers$Search" "liveCells" "I", Cond.methodLink RX4 193 yX4_rolledTo, Cond.instanceMethod yX4_rolledTo, Cond.selects RX4 yX4_rolledTo yX4_rolledTo, Cond.code yX4_rolledTo cX4_rolledTo 7 (some .int), Cond.fieldLink RX4 18 "CellarPushers$Search" "barrelTo" "[I", Cond.fieldLink RX4 21 "CellarPushers$Search" "rolls" "[Z", Cond.methodLink RX4 69 yX4_rankOf, Cond.static yX4_rankOf, Cond.code yX4_rankOf cX4_rankOf 6 (some .int), Cond.methodLink RX4 137 yJ6_bitCount_0f7a4, Cond.static yJ6_bitCount_0f7a4, Cond.initialized RJ6, Cond.code yJ6_bitCount_0f7a4 cJ6_bitCount_0f7a4 1 (some .int), Cond.constant RJ6 265 (1431655765), Cond.constant RJ6 266 (858993459), Cond.constant RJ6 267 (252645135)]
def wsX4_explore : List Cond := .code yX4_explore cX4_explore 11 none :: ((wsX4_explore_r1 ++ (wsX4_explore_r2 ++ wsX4_explore_r3)) ++ wsX40)
def wsX4_leastWay_r1 : List Cond := [Cond.constantLong RX4 202 (-1125899906842625), Cond.constantLong RX4 200 (1125899906842624), Cond.constantLong RX4 169 (1048577), Cond.methodLink RX4 163 yX4_costOf, Cond.instanceMethod yX4_costOf, Cond.selects RX4 yX4_costOf yX4_costOf, Cond.initialized RX4, Cond.code yX4_costOf cX4_costOf 2 (some .long), Cond.fieldLink RX4 31 "CellarPushers$Search" "costs" "[J", Cond.constantLong RX4 47 (-1), Cond.methodLink RX4 180 yX4_walkedTo, Cond.instanceMethod yX4_walkedTo, Cond.selects RX4 yX4_walkedTo yX4_walkedTo, Cond.code yX4_walkedTo cX4_walkedTo 4 (some .int), Cond.fieldLink RX4 15 "CellarPushers$Search" "manTo" "[I", Cond.methodLink RX4 186 yX4_cellFrom, Cond.static yX4_cellFrom, Cond.code yX4_cellFrom cX4_cellFrom 4 (some .int), Cond.methodLink RX4 190 yX4_setIn, Cond.instanceMethod yX4_setIn, Cond.selects RX4 yX4_setIn yX4_setIn, Cond.code yX4_setIn cX4_setIn 3 (some .int), Cond.fieldLink RX4 25 "CellarPushers$Search" "sets" "[I", Cond.methodLink RX4 183 yX4_pushedTo]
def wsX4_leastWay_r2 : List Cond := [Cond.instanceMethod yX4_pushedTo, Cond.selects RX4 yX4_pushedTo yX4_pushedTo, Cond.code yX4_pushedTo cX4_pushedTo 7 (some .int), Cond.fieldLink RX4 61 "CellarPushers$Search" "liveCells" "I", Cond.methodLink RX4 193 yX4_rolledTo, Cond.instanceMethod yX4_rolledTo, Cond.selects RX4 yX4_rolledTo yX4_rolledTo, Cond.code yX4_rolledTo cX4_rolledTo 7 (some .int), Cond.fieldLink RX4 18 "CellarPushers$Search" "barrelTo" "[I", Cond.fieldLink RX4 21 "CellarPushers$Search" "rolls" "[Z", Cond.methodLink RX4 69 yX4_rankOf, Cond.static yX4_rankOf, Cond.code yX4_rankOf cX4_rankOf 6 (some .int), Cond.methodLink RX4 137 yJ6_bitCount_0f7a4, Cond.static yJ6_bitCount_0f7a4, Cond.initialized RJ6, Cond.code yJ6_bitCount_0f7a4 cJ6_bitCount_0f7a4 1 (some .int), Cond.constant RJ6 265 (1431655765), Cond.constant RJ6 266 (858993459), Cond.constant RJ6 267 (252645135)]
def wsX4_leastWay : List Cond := .code yX4_leastWay cX4_leastWay 6 (some .int) :: ((wsX4_leastWay_r1 ++ wsX4_leastWay_r2) ++ wsX40)
def wsX4_markRows_r1 : List Cond := [Cond.fieldLink RX4 156 "CellarPushers$Search" "reached" "I", Cond.fieldLink RX4 28 "CellarPushers$Search" "order" "[I", Cond.methodLink RX4 141 Lib.Math.min.name, Cond.static Lib.Math.min.name, Cond.initialized "java/lang/Math", Cond.code Lib.Math.min.name Lib.Math.min.code 2 (some .int), Cond.fieldLink RX4 73 "CellarPushers$Search" "doneRank" "I", Cond.fieldLink RX4 31 "CellarPushers$Search" "costs" "[J", Cond.constantLong RX4 200 (1125899906842624), Cond.methodLink RX4 197 yX4_leastWay, Cond.instanceMethod yX4_leastWay, Cond.selects RX4 yX4_leastWay yX4_leastWay, Cond.initialized RX4, Cond.code yX4_leastWay cX4_leastWay 6 (some .int), Cond.constantLong RX4 202 (-1125899906842625), Cond.constantLong RX4 169 (1048577), Cond.methodLink RX4 163 yX4_costOf, Cond.instanceMethod yX4_costOf, Cond.selects RX4 yX4_costOf yX4_costOf, Cond.code yX4_costOf cX4_costOf 2 (some .long), Cond.constantLong RX4 47 (-1), Cond.methodLink RX4 180 yX4_walkedTo, Cond.instanceMethod yX4_walkedTo, Cond.selects RX4 yX4_walkedTo yX4_walkedTo]
def wsX4_markRows_r2 : List Cond := [Cond.code yX4_walkedTo cX4_walkedTo 4 (some .int), Cond.fieldLink RX4 15 "CellarPushers$Search" "manTo" "[I", Cond.methodLink RX4 186 yX4_cellFrom, Cond.static yX4_cellFrom, Cond.code yX4_cellFrom cX4_cellFrom 4 (some .int), Cond.methodLink RX4 190 yX4_setIn, Cond.instanceMethod yX4_setIn, Cond.selects RX4 yX4_setIn yX4_setIn, Cond.code yX4_setIn cX4_setIn 3 (some .int), Cond.fieldLink RX4 25 "CellarPushers$Search" "sets" "[I", Cond.methodLink RX4 183 yX4_pushedTo, Cond.instanceMethod yX4_pushedTo, Cond.selects RX4 yX4_pushedTo yX4_pushedTo, Cond.code yX4_pushedTo cX4_pushedTo 7 (some .int), Cond.fieldLink RX4 61 "CellarPushers$Search" "liveCells" "I", Cond.methodLink RX4 193 yX4_rolledTo, Cond.instanceMethod yX4_rolledTo, Cond.selects RX4 yX4_rolledTo yX4_rolledTo, Cond.code yX4_rolledTo cX4_rolledTo 7 (some .int), Cond.fieldLink RX4 18 "CellarPushers$Search" "barrelTo" "[I", Cond.fieldLink RX4 21 "CellarPushers$Search" "rolls" "[Z", Cond.methodLink RX4 69 yX4_rankOf, Cond.static yX4_rankOf, Cond.code yX4_rankOf cX4_rankOf 6 (some .int)]
def wsX4_markRows_r3 : List Cond := [Cond.methodLink RX4 137 yJ6_bitCount_0f7a4, Cond.static yJ6_bitCount_0f7a4, Cond.initialized RJ6, Cond.code yJ6_bitCount_0f7a4 cJ6_bitCount_0f7a4 1 (some .int), Cond.constant RJ6 265 (1431655765), Cond.constant RJ6 266 (858993459), Cond.constant RJ6 267 (252645135)]
def wsX4_markRows : List Cond := .code yX4_markRows cX4_markRows 4 none :: ((wsX4_markRows_r1 ++ (wsX4_markRows_r2 ++ wsX4_markRows_r3)) ++ wsX40)
def wsJ7_copyOf_59c91 : List Cond := .code yJ7_copyOf_59c91 cJ7_copyOf_59c91 3 (some (.array .int)) :: ([.methodLink RJ7 316 ⟨"[I", "clone", "()Ljava/lang/Object;"⟩, .sameMethod "[I" "java/lang/Object" "clone" "()Ljava/lang/Object;", .native ⟨"java/lang/Object", "clone", "()Ljava/lang/Object;"⟩, .instanceMethod ⟨"java/lang/Object", "clone", "()Ljava/lang/Object;"⟩, .selects "[I" ⟨"[I", "clone", "()Ljava/lang/Object;"⟩ ⟨"java/lang/Object", "clone", "()Ljava/lang/Object;"⟩, .classLink RJ7 317 "[I", .arrayClass .int, .methodLink RJ7 304 Lib.Math.min.name, .static Lib.Math.min.name, .initialized "java/lang/Math", .code Lib.Math.min.name Lib.Math.min.code 2 (some .int), .methodLink RJ7 150 arraycopyName, .native arraycopyName, .static arraycopyName, .initialized "java/lang/System"])
def wsX7_append : List Cond := .code yX7_append cX7_append 2 none :: ([.fieldLink RX7 19 "CellarPushers$Ways" "size" "I", .fieldLink RX7 9 "CellarPushers$Ways" "ways" "[I", .constant RX7 23 (131072), .methodLink RX7 24 yJ7_copyOf_59c91, .static yJ7_copyOf_59c91, .initialized RJ7, .code yJ7_copyOf_59c91 cJ7_copyOf_59c91 3 (some (.array .int)), .methodLink RJ7 316 ⟨"[I", "clone", "()Ljava/lang/Object;"⟩, .sameMethod "[I" "java/lang/Object" "clone" "()Ljava/lang/Object;", .native ⟨"java/lang/Object", "clone", "()Ljava/lang/Object;"⟩, .instanceMethod ⟨"java/lang/Object", "clone", "()Ljava/lang/Object;"⟩, .selects "[I" ⟨"[I", "clone", "()Ljava/lang/Object;"⟩ ⟨"java/lang/Object", "clone", "()Ljava/lang/Object;"⟩, .classLink RJ7 317 "[I", .arrayClass .int, .methodLink RJ7 304 Lib.Math.min.name, .static Lib.Math.min.name, .initialized "java/lang/Math", .code Lib.Math.min.name Lib.Math.min.code 2 (some .int), .methodLink RJ7 150 arraycopyName, .native arraycopyName, .static arraycopyName, .initialized "java/lang/System"] ++ wsX70)
def wsX4_takeRow_r1 : List Cond := [Cond.fieldLink RX4 156 "CellarPushers$Search" "reached" "I", Cond.fieldLink RX4 73 "CellarPushers$Search" "doneRank" "I", Cond.methodLink RX4 197 yX4_leastWay, Cond.instanceMethod yX4_leastWay, Cond.selects RX4 yX4_leastWay yX4_leastWay, Cond.initialized RX4, Cond.code yX4_leastWay cX4_leastWay 6 (some .int), Cond.constantLong RX4 202 (-1125899906842625), Cond.constantLong RX4 200 (1125899906842624), Cond.constantLong RX4 169 (1048577), Cond.methodLink RX4 163 yX4_costOf, Cond.instanceMethod yX4_costOf, Cond.selects RX4 yX4_costOf yX4_costOf, Cond.code yX4_costOf cX4_costOf 2 (some .long), Cond.fieldLink RX4 31 "CellarPushers$Search" "costs" "[J", Cond.constantLong RX4 47 (-1), Cond.methodLink RX4 180 yX4_walkedTo, Cond.instanceMethod yX4_walkedTo, Cond.selects RX4 yX4_walkedTo yX4_walkedTo, Cond.code yX4_walkedTo cX4_walkedTo 4 (some .int), Cond.fieldLink RX4 15 "CellarPushers$Search" "manTo" "[I", Cond.methodLink RX4 186 yX4_cellFrom, Cond.static yX4_cellFrom, Cond.code yX4_cellFrom cX4_cellFrom 4 (some .int)]
def wsX4_takeRow_r2 : List Cond := [Cond.methodLink RX4 190 yX4_setIn, Cond.instanceMethod yX4_setIn, Cond.selects RX4 yX4_setIn yX4_setIn, Cond.code yX4_setIn cX4_setIn 3 (some .int), Cond.fieldLink RX4 25 "CellarPushers$Search" "sets" "[I", Cond.methodLink RX4 183 yX4_pushedTo, Cond.instanceMethod yX4_pushedTo, Cond.selects RX4 yX4_pushedTo yX4_pushedTo, Cond.code yX4_pushedTo cX4_pushedTo 7 (some .int), Cond.fieldLink RX4 61 "CellarPushers$Search" "liveCells" "I", Cond.methodLink RX4 193 yX4_rolledTo, Cond.instanceMethod yX4_rolledTo, Cond.selects RX4 yX4_rolledTo yX4_rolledTo, Cond.code yX4_rolledTo cX4_rolledTo 7 (some .int), Cond.fieldLink RX4 18 "CellarPushers$Search" "barrelTo" "[I", Cond.fieldLink RX4 21 "CellarPushers$Search" "rolls" "[Z", Cond.methodLink RX4 69 yX4_rankOf, Cond.static yX4_rankOf, Cond.code yX4_rankOf cX4_rankOf 6 (some .int), Cond.methodLink RX4 137 yJ6_bitCount_0f7a4, Cond.static yJ6_bitCount_0f7a4, Cond.initialized RJ6, Cond.code yJ6_bitCount_0f7a4 cJ6_bitCount_0f7a4 1 (some .int), Cond.constant RJ6 265 (1431655765)]
def wsX4_takeRow_r3 : List Cond := [Cond.constant RJ6 266 (858993459), Cond.constant RJ6 267 (252645135), Cond.methodLink RX4 204 yX7_append, Cond.instanceMethod yX7_append, Cond.selects RX7 yX7_append yX7_append, Cond.initialized RX7, Cond.code yX7_append cX7_append 2 none, Cond.fieldLink RX7 19 "CellarPushers$Ways" "size" "I", Cond.fieldLink RX7 9 "CellarPushers$Ways" "ways" "[I", Cond.constant RX7 23 (131072), Cond.methodLink RX7 24 yJ7_copyOf_59c91, Cond.static yJ7_copyOf_59c91, Cond.initialized RJ7, Cond.code yJ7_copyOf_59c91 cJ7_copyOf_59c91 3 (some (.array .int)), Cond.methodLink RJ7 316 ⟨"[I", "clone", "()Ljava/lang/Object;"⟩, Cond.sameMethod "[I" "java/lang/Object" "clone" "()Ljava/lang/Object;", Cond.native ⟨"java/lang/Object", "clone", "()Ljava/lang/Object;"⟩, Cond.instanceMethod ⟨"java/lang/Object", "clone", "()Ljava/lang/Object;"⟩, Cond.selects "[I" ⟨"[I", "clone", "()Ljava/lang/Object;"⟩ ⟨"java/lang/Object", "clone", "()Ljava/lang/Object;"⟩, Cond.classLink RJ7 317 "[I", Cond.arrayClass .int, Cond.methodLink RJ7 304 Lib.Math.min.name, Cond.static Lib.Math.min.name, Cond.initialized "java/lang/Math"]
def wsX4_takeRow_r4 : List Cond := [Cond.code Lib.Math.min.name Lib.Math.min.code 2 (some .int), Cond.methodLink RJ7 150 arraycopyName, Cond.native arraycopyName, Cond.static arraycopyName, Cond.initialized "java/lang/System"]
def wsX4_takeRow : List Cond := .code yX4_takeRow cX4_takeRow 7 none :: ((wsX4_takeRow_r1 ++ (wsX4_takeRow_r2 ++ (wsX4_takeRow_r3 ++ wsX4_takeRow_r4))) ++ wsX40 ++ wsX70)
def wsX4_solve_r1 : List Cond := [Cond.fieldLink RX4 35 "CellarPushers$Ways" "size" "I", Cond.fieldLink RX4 41 "CellarPushers$Scene" "barrels" "J", Cond.constantLong RX4 47 (-1), Cond.fieldLink RX4 61 "CellarPushers$Search" "liveCells" "I", Cond.fieldLink RX4 64 "CellarPushers$Ground" "wanted" "J", Cond.fieldLink RX4 73 "CellarPushers$Search" "doneRank" "I", Cond.fieldLink RX4 85 "CellarPushers$Scene" "manAt" "I", Cond.methodLink RX4 91 Lib.Math.max.name, Cond.static Lib.Math.max.name, Cond.initialized "java/lang/Math", Cond.code Lib.Math.max.name Lib.Math.max.code 2 (some .int), Cond.fieldLink RX4 100 "CellarPushers$Search" "best" "J", Cond.methodLink RX4 49 yX4_numberCells, Cond.instanceMethod yX4_numberCells, Cond.selects RX4 yX4_numberCells yX4_numberCells, Cond.initialized RX4, Cond.code yX4_numberCells cX4_numberCells 4 none, Cond.fieldLink RX4 110 "CellarPushers$Search" "cells" "I", Cond.fieldLink RX4 11 "CellarPushers$Search" "cellOf" "[I", Cond.methodLink RX4 113 yX0_kindNow, Cond.instanceMethod yX0_kindNow, Cond.selects RX0 yX0_kindNow yX0_kindNow, Cond.initialized RX0, Cond.code yX0_kindNow cX0_kindNow 2 (some .int)]
def wsX4_solve_r2 : List Cond := [Cond.fieldLink RX0 34 "CellarPushers$Ground" "missing" "[Z", Cond.fieldLink RX0 27 "CellarPushers$Ground" "kinds" "[I", Cond.methodLink RX4 53 yX4_joinCells, Cond.instanceMethod yX4_joinCells, Cond.selects RX4 yX4_joinCells yX4_joinCells, Cond.code yX4_joinCells cX4_joinCells 6 none, Cond.fieldLink RX4 21 "CellarPushers$Search" "rolls" "[Z", Cond.fieldLink RX4 15 "CellarPushers$Search" "manTo" "[I", Cond.fieldLink RX4 18 "CellarPushers$Search" "barrelTo" "[I", Cond.methodLink RX4 88 yX4_cellAt, Cond.instanceMethod yX4_cellAt, Cond.selects RX4 yX4_cellAt yX4_cellAt, Cond.code yX4_cellAt cX4_cellAt 2 (some .int), Cond.static yX8_isField, Cond.initialized RX8, Cond.code yX8_isField cX8_isField 1 (some .boolean), Cond.methodLink RX4 116 yX0_rollsOn, Cond.instanceMethod yX0_rollsOn, Cond.selects RX0 yX0_rollsOn yX0_rollsOn, Cond.code yX0_rollsOn cX0_rollsOn 3 (some .boolean), Cond.methodLink RX0 54 yX0_kindNow, Cond.methodLink RX4 120 yX0_beside, Cond.instanceMethod yX0_beside, Cond.selects RX0 yX0_beside yX0_beside]
def wsX4_solve_r3 : List Cond := [Cond.code yX0_beside cX0_beside 3 (some .int), Cond.static yX8_isWay, Cond.code yX8_isWay cX8_isWay 1 (some .boolean), Cond.methodLink RX0 51 yX0_numberOf, Cond.instanceMethod yX0_numberOf, Cond.selects RX0 yX0_numberOf yX0_numberOf, Cond.code yX0_numberOf cX0_numberOf 4 (some .int), Cond.fieldLink RX0 18 "CellarPushers$Ground" "width" "I", Cond.fieldLink RX0 24 "CellarPushers$Ground" "height" "I", Cond.methodLink RX4 123 yX0_manMayCome, Cond.instanceMethod yX0_manMayCome, Cond.selects RX0 yX0_manMayCome yX0_manMayCome, Cond.code yX0_manMayCome cX0_manMayCome 4 (some .boolean), Cond.methodLink RX0 58 yX0_rampWay, Cond.instanceMethod yX0_rampWay, Cond.selects RX0 yX0_rampWay yX0_rampWay, Cond.code yX0_rampWay cX0_rampWay 2 (some .int), Cond.fieldLink RX0 31 "CellarPushers$Ground" "rampWays" "[I", Cond.methodLink RX4 127 yX0_barrelMayCome, Cond.instanceMethod yX0_barrelMayCome, Cond.selects RX0 yX0_barrelMayCome yX0_barrelMayCome, Cond.code yX0_barrelMayCome cX0_barrelMayCome 4 (some .boolean), Cond.methodLink RX4 57 yX4_setOf, Cond.instanceMethod yX4_setOf]
def wsX4_solve_r4 : List Cond := [Cond.selects RX4 yX4_setOf yX4_setOf, Cond.code yX4_setOf cX4_setOf 5 (some .int), Cond.static yX8_has, Cond.code yX8_has cX8_has 3 (some .boolean), Cond.methodLink RX8 253 yX8_isField, Cond.methodLink RX4 69 yX4_rankOf, Cond.static yX4_rankOf, Cond.code yX4_rankOf cX4_rankOf 6 (some .int), Cond.methodLink RX4 137 yJ6_bitCount_0f7a4, Cond.static yJ6_bitCount_0f7a4, Cond.initialized RJ6, Cond.code yJ6_bitCount_0f7a4 cJ6_bitCount_0f7a4 1 (some .int), Cond.constant RJ6 265 (1431655765), Cond.constant RJ6 266 (858993459), Cond.constant RJ6 267 (252645135), Cond.methodLink RX4 76 yJ13_bitCount_95d88, Cond.static yJ13_bitCount_95d88, Cond.initialized RJ13, Cond.code yJ13_bitCount_95d88 cJ13_bitCount_95d88 2 (some .int), Cond.constantLong RJ13 314 (6148914691236517205), Cond.constantLong RJ13 316 (3689348814741910323), Cond.constantLong RJ13 318 (1085102592571150095), Cond.methodLink RX4 81 yX4_listSets, Cond.instanceMethod yX4_listSets]
def wsX4_solve_r5 : List Cond := [Cond.selects RX4 yX4_listSets yX4_listSets, Cond.code yX4_listSets cX4_listSets 6 none, Cond.methodLink RX4 141 Lib.Math.min.name, Cond.static Lib.Math.min.name, Cond.code Lib.Math.min.name Lib.Math.min.code 2 (some .int), Cond.fieldLink RX4 25 "CellarPushers$Search" "sets" "[I", Cond.methodLink RX4 144 yX4_makeRoom, Cond.instanceMethod yX4_makeRoom, Cond.selects RX4 yX4_makeRoom yX4_makeRoom, Cond.code yX4_makeRoom cX4_makeRoom 3 none, Cond.arrayClass .int, Cond.fieldLink RX4 28 "CellarPushers$Search" "order" "[I", Cond.arrayClass .long, Cond.fieldLink RX4 31 "CellarPushers$Search" "costs" "[J", Cond.methodLink RX4 147 yX4_nextSet, Cond.static yX4_nextSet, Cond.code yX4_nextSet cX4_nextSet 3 (some .int), Cond.methodLink RX4 97 yX4_explore, Cond.instanceMethod yX4_explore, Cond.selects RX4 yX4_explore yX4_explore, Cond.code yX4_explore cX4_explore 11 none, Cond.fieldLink RX4 156 "CellarPushers$Search" "reached" "I", Cond.constantLong RX4 167 (1152921504606846976), Cond.constantLong RX4 169 (1048577)]
def wsX4_solve_r6 : List Cond := [Cond.methodLink RX4 171 Lib.MathLoose.min_long.x, Cond.static Lib.MathLoose.min_long.x, Cond.code Lib.MathLoose.min_long.x Lib.MathLoose.min_long.code 4 (some .long), Cond.methodLink RX4 150 yJ7_fill_d0a16, Cond.static yJ7_fill_d0a16, Cond.initialized RJ7, Cond.code yJ7_fill_d0a16 cJ7_fill_d0a16 5 none, Cond.methodLink RX4 159 yX4_reach, Cond.instanceMethod yX4_reach, Cond.selects RX4 yX4_reach yX4_reach, Cond.code yX4_reach cX4_reach 5 none, Cond.methodLink RX4 163 yX4_costOf, Cond.instanceMethod yX4_costOf, Cond.selects RX4 yX4_costOf yX4_costOf, Cond.code yX4_costOf cX4_costOf 2 (some .long), Cond.methodLink RX4 174 yX4_walkFrom, Cond.instanceMethod yX4_walkFrom, Cond.selects RX4 yX4_walkFrom yX4_walkFrom, Cond.code yX4_walkFrom cX4_walkFrom 5 none, Cond.methodLink RX4 180 yX4_walkedTo, Cond.instanceMethod yX4_walkedTo, Cond.selects RX4 yX4_walkedTo yX4_walkedTo, Cond.code yX4_walkedTo cX4_walkedTo 4 (some .int), Cond.methodLink RX4 186 yX4_cellFrom]
def wsX4_solve_r7 : List Cond := [Cond.static yX4_cellFrom, Cond.code yX4_cellFrom cX4_cellFrom 4 (some .int), Cond.methodLink RX4 190 yX4_setIn, Cond.instanceMethod yX4_setIn, Cond.selects RX4 yX4_setIn yX4_setIn, Cond.code yX4_setIn cX4_setIn 3 (some .int), Cond.methodLink RX4 177 yX4_pushFrom, Cond.instanceMethod yX4_pushFrom, Cond.selects RX4 yX4_pushFrom yX4_pushFrom, Cond.code yX4_pushFrom cX4_pushFrom 5 none, Cond.methodLink RX4 183 yX4_pushedTo, Cond.instanceMethod yX4_pushedTo, Cond.selects RX4 yX4_pushedTo yX4_pushedTo, Cond.code yX4_pushedTo cX4_pushedTo 7 (some .int), Cond.methodLink RX4 193 yX4_rolledTo, Cond.instanceMethod yX4_rolledTo, Cond.selects RX4 yX4_rolledTo yX4_rolledTo, Cond.code yX4_rolledTo cX4_rolledTo 7 (some .int), Cond.methodLink RX4 103 yX4_markRows, Cond.instanceMethod yX4_markRows, Cond.selects RX4 yX4_markRows yX4_markRows, Cond.code yX4_markRows cX4_markRows 4 none, Cond.constantLong RX4 200 (1125899906842624), Cond.methodLink RX4 197 yX4_leastWay]
def wsX4_solve_r8 : List Cond := [Cond.instanceMethod yX4_leastWay, Cond.selects RX4 yX4_leastWay yX4_leastWay, Cond.code yX4_leastWay cX4_leastWay 6 (some .int), Cond.constantLong RX4 202 (-1125899906842625), Cond.methodLink RX4 106 yX4_takeRow, Cond.instanceMethod yX4_takeRow, Cond.selects RX4 yX4_takeRow yX4_takeRow, Cond.code yX4_takeRow cX4_takeRow 7 none, Cond.methodLink RX4 204 yX7_append, Cond.instanceMethod yX7_append, Cond.selects RX7 yX7_append yX7_append, Cond.initialized RX7, Cond.code yX7_append cX7_append 2 none, Cond.fieldLink RX7 19 "CellarPushers$Ways" "size" "I", Cond.fieldLink RX7 9 "CellarPushers$Ways" "ways" "[I", Cond.constant RX7 23 (131072), Cond.methodLink RX7 24 yJ7_copyOf_59c91, Cond.static yJ7_copyOf_59c91, Cond.code yJ7_copyOf_59c91 cJ7_copyOf_59c91 3 (some (.array .int)), Cond.methodLink RJ7 316 ⟨"[I", "clone", "()Ljava/lang/Object;"⟩, Cond.sameMethod "[I" "java/lang/Object" "clone" "()Ljava/lang/Object;", Cond.native ⟨"java/lang/Object", "clone", "()Ljava/lang/Object;"⟩, Cond.instanceMethod ⟨"java/lang/Object", "clone", "()Ljava/lang/Object;"⟩, Cond.selects "[I" ⟨"[I", "clone", "()Ljava/lang/Object;"⟩ ⟨"java/lang/Object", "clone", "()Ljava/lang/Object;"⟩]
def wsX4_solve_r9 : List Cond := [Cond.classLink RJ7 317 "[I", Cond.methodLink RJ7 304 Lib.Math.min.name, Cond.methodLink RJ7 150 arraycopyName, Cond.native arraycopyName, Cond.static arraycopyName, Cond.initialized "java/lang/System"]
def wsX4_solve : List Cond := .code yX4_solve cX4_solve 7 (some .int) :: ((wsX4_solve_r1 ++ (wsX4_solve_r2 ++ (wsX4_solve_r3 ++ (wsX4_solve_r4 ++ (wsX4_solve_r5 ++ (wsX4_solve_r6 ++ (wsX4_solve_r7 ++ (wsX4_solve_r8 ++ wsX4_solve_r9)))))))) ++ wsX70 ++ wsX30 ++ wsX40 ++ wsX00)
def wsX5_init : List Cond := .code yX5_init cX5_init 1 none :: ([.methodLink RX5 3 objectInit, .instanceMethod objectInit, .code objectInit ⟨#[0xb1]⟩ 1 none, .arrayClass .int, .fieldLink RX5 9 "CellarPushers$Timeline" "men" "[I", .arrayClass .long, .fieldLink RX5 15 "CellarPushers$Timeline" "barrels" "[J", .fieldLink RX5 19 "CellarPushers$Timeline" "steps" "[I", .fieldLink RX5 22 "CellarPushers$Timeline" "pushes" "[I"] ++ wsX50)
def wsX5_forget : List Cond := .code yX5_forget cX5_forget 1 none :: ([.fieldLink RX5 25 "CellarPushers$Timeline" "now" "I", .fieldLink RX5 29 "CellarPushers$Timeline" "last" "I"] ++ wsX50)
def wsX5_keep : List Cond := .code yX5_keep cX5_keep 3 none :: ([.fieldLink RX5 9 "CellarPushers$Timeline" "men" "[I", .fieldLink RX5 39 "CellarPushers$Scene" "manAt" "I", .fieldLink RX5 15 "CellarPushers$Timeline" "barrels" "[J", .fieldLink RX5 44 "CellarPushers$Scene" "barrels" "J", .fieldLink RX5 19 "CellarPushers$Timeline" "steps" "[I", .fieldLink RX5 47 "CellarPushers$Scene" "stepsDone" "I", .fieldLink RX5 22 "CellarPushers$Timeline" "pushes" "[I", .fieldLink RX5 50 "CellarPushers$Scene" "pushesDone" "I"] ++ wsX50 ++ wsX30)
def wsX5_record : List Cond := .code yX5_record cX5_record 3 none :: ([.fieldLink RX5 25 "CellarPushers$Timeline" "now" "I", .fieldLink RX5 29 "CellarPushers$Timeline" "last" "I", .methodLink RX5 32 yX5_keep, .instanceMethod yX5_keep, .selects RX5 yX5_keep yX5_keep, .initialized RX5, .code yX5_keep cX5_keep 3 none, .fieldLink RX5 9 "CellarPushers$Timeline" "men" "[I", .fieldLink RX5 39 "CellarPushers$Scene" "manAt" "I", .fieldLink RX5 15 "CellarPushers$Timeline" "barrels" "[J", .fieldLink RX5 44 "CellarPushers$Scene" "barrels" "J", .fieldLink RX5 19 "CellarPushers$Timeline" "steps" "[I", .fieldLink RX5 47 "CellarPushers$Scene" "stepsDone" "I", .fieldLink RX5 22 "CellarPushers$Timeline" "pushes" "[I", .fieldLink RX5 50 "CellarPushers$Scene" "pushesDone" "I"] ++ wsX50 ++ wsX30)
def wsX5_bring : List Cond := .code yX5_bring cX5_bring 3 none :: ([.fieldLink RX5 9 "CellarPushers$Timeline" "men" "[I", .fieldLink RX5 39 "CellarPushers$Scene" "manAt" "I", .fieldLink RX5 15 "CellarPushers$Timeline" "barrels" "[J", .fieldLink RX5 44 "CellarPushers$Scene" "barrels" "J", .fieldLink RX5 19 "CellarPushers$Timeline" "steps" "[I", .fieldLink RX5 47 "CellarPushers$Scene" "stepsDone" "I", .fieldLink RX5 22 "CellarPushers$Timeline" "pushes" "[I", .fieldLink RX5 50 "CellarPushers$Scene" "pushesDone" "I"] ++ wsX50 ++ wsX30)
def wsX5_goBack : List Cond := .code yX5_goBack cX5_goBack 2 (some .int) :: ([.fieldLink RX5 25 "CellarPushers$Timeline" "now" "I", .methodLink RX5 36 yX5_bring, .instanceMethod yX5_bring, .selects RX5 yX5_bring yX5_bring, .initialized RX5, .code yX5_bring cX5_bring 3 none, .fieldLink RX5 9 "CellarPushers$Timeline" "men" "[I", .fieldLink RX5 39 "CellarPushers$Scene" "manAt" "I", .fieldLink RX5 15 "CellarPushers$Timeline" "barrels" "[J", .fieldLink RX5 44 "CellarPushers$Scene" "barrels" "J", .fieldLink RX5 19 "CellarPushers$Timeline" "steps" "[I", .fieldLink RX5 47 "CellarPushers$Scene" "stepsDone" "I", .fieldLink RX5 22 "CellarPushers$Timeline" "pushes" "[I", .fieldLink RX5 50 "CellarPushers$Scene" "pushesDone" "I"] ++ wsX50 ++ wsX30)
def wsX5_goForth : List Cond := .code yX5_goForth cX5_goForth 2 (some .int) :: ([.fieldLink RX5 25 "CellarPushers$Timeline" "now" "I", .fieldLink RX5 29 "CellarPushers$Timeline" "last" "I", .methodLink RX5 36 yX5_bring, .instanceMethod yX5_bring, .selects RX5 yX5_bring yX5_bring, .initialized RX5, .code yX5_bring cX5_bring 3 none, .fieldLink RX5 9 "CellarPushers$Timeline" "men" "[I", .fieldLink RX5 39 "CellarPushers$Scene" "manAt" "I", .fieldLink RX5 15 "CellarPushers$Timeline" "barrels" "[J", .fieldLink RX5 44 "CellarPushers$Scene" "barrels" "J", .fieldLink RX5 19 "CellarPushers$Timeline" "steps" "[I", .fieldLink RX5 47 "CellarPushers$Scene" "stepsDone" "I", .fieldLink RX5 22 "CellarPushers$Timeline" "pushes" "[I", .fieldLink RX5 50 "CellarPushers$Scene" "pushesDone" "I"] ++ wsX50 ++ wsX30)
def wsX6_init : List Cond := .code yX6_init cX6_init 1 none :: ([.methodLink RX6 3 objectInit, .instanceMethod objectInit, .code objectInit ⟨#[0xb1]⟩ 1 none, .arrayClass .int, .fieldLink RX6 9 "CellarPushers$Walks" "far" "[I", .fieldLink RX6 15 "CellarPushers$Walks" "queue" "[I"] ++ wsX60)
def wsX6_reach : List Cond := .code yX6_reach cX6_reach 3 none :: ([.fieldLink RX6 9 "CellarPushers$Walks" "far" "[I", .fieldLink RX6 24 "CellarPushers$Walks" "reached" "I", .fieldLink RX6 15 "CellarPushers$Walks" "queue" "[I", .static yX8_isField, .initialized RX8, .code yX8_isField cX8_isField 1 (some .boolean)] ++ wsX60)
def wsX6_stepsTo : List Cond := .code yX6_stepsTo cX6_stepsTo 2 (some .int) :: ([.fieldLink RX6 9 "CellarPushers$Walks" "far" "[I", .static yX8_isField, .initialized RX8, .code yX8_isField cX8_isField 1 (some .boolean)] ++ wsX60)
def wsX6_measure_r1 : List Cond := [Cond.fieldLink RX6 9 "CellarPushers$Walks" "far" "[I", Cond.fieldLink RX6 24 "CellarPushers$Walks" "reached" "I", Cond.fieldLink RX6 28 "CellarPushers$Scene" "manAt" "I", Cond.fieldLink RX6 15 "CellarPushers$Walks" "queue" "[I", Cond.methodLink RX6 18 yJ7_fill_53178, Cond.static yJ7_fill_53178, Cond.initialized RJ7, Cond.code yJ7_fill_53178 cJ7_fill_53178 4 none, Cond.methodLink RX6 33 yX6_reach, Cond.instanceMethod yX6_reach, Cond.selects RX6 yX6_reach yX6_reach, Cond.initialized RX6, Cond.code yX6_reach cX6_reach 3 none, Cond.static yX8_isField, Cond.initialized RX8, Cond.code yX8_isField cX8_isField 1 (some .boolean), Cond.methodLink RX6 37 yX0_beside, Cond.instanceMethod yX0_beside, Cond.selects RX0 yX0_beside yX0_beside, Cond.initialized RX0, Cond.code yX0_beside cX0_beside 3 (some .int), Cond.static yX8_isWay, Cond.code yX8_isWay cX8_isWay 1 (some .boolean), Cond.methodLink RX0 51 yX0_numberOf]
def wsX6_measure_r2 : List Cond := [Cond.instanceMethod yX0_numberOf, Cond.selects RX0 yX0_numberOf yX0_numberOf, Cond.code yX0_numberOf cX0_numberOf 4 (some .int), Cond.fieldLink RX0 18 "CellarPushers$Ground" "width" "I", Cond.fieldLink RX0 24 "CellarPushers$Ground" "height" "I", Cond.methodLink RX6 43 yX0_manMayCome, Cond.instanceMethod yX0_manMayCome, Cond.selects RX0 yX0_manMayCome yX0_manMayCome, Cond.code yX0_manMayCome cX0_manMayCome 4 (some .boolean), Cond.methodLink RX0 54 yX0_kindNow, Cond.instanceMethod yX0_kindNow, Cond.selects RX0 yX0_kindNow yX0_kindNow, Cond.code yX0_kindNow cX0_kindNow 2 (some .int), Cond.fieldLink RX0 34 "CellarPushers$Ground" "missing" "[Z", Cond.fieldLink RX0 27 "CellarPushers$Ground" "kinds" "[I", Cond.methodLink RX0 58 yX0_rampWay, Cond.instanceMethod yX0_rampWay, Cond.selects RX0 yX0_rampWay yX0_rampWay, Cond.code yX0_rampWay cX0_rampWay 2 (some .int), Cond.fieldLink RX0 31 "CellarPushers$Ground" "rampWays" "[I", Cond.methodLink RX6 47 yX3_hasBarrel, Cond.instanceMethod yX3_hasBarrel, Cond.selects RX3 yX3_hasBarrel yX3_hasBarrel, Cond.initialized RX3]
def wsX6_measure_r3 : List Cond := [Cond.code yX3_hasBarrel cX3_hasBarrel 2 (some .boolean), Cond.fieldLink RX3 15 "CellarPushers$Scene" "barrels" "J", Cond.static yX8_has, Cond.code yX8_has cX8_has 3 (some .boolean), Cond.methodLink RX8 253 yX8_isField, Cond.methodLink RX6 51 yX6_stepsTo, Cond.instanceMethod yX6_stepsTo, Cond.selects RX6 yX6_stepsTo yX6_stepsTo, Cond.code yX6_stepsTo cX6_stepsTo 2 (some .int)]
def wsX6_measure : List Cond := .code yX6_measure cX6_measure 7 none :: ((wsX6_measure_r1 ++ (wsX6_measure_r2 ++ wsX6_measure_r3)) ++ wsX60 ++ wsX30 ++ wsX00)
def wsX7_init : List Cond := .code yX7_init cX7_init 1 none :: ([.methodLink RX7 3 objectInit, .instanceMethod objectInit, .code objectInit ⟨#[0xb1]⟩ 1 none, .arrayClass .int, .fieldLink RX7 9 "CellarPushers$Ways" "ways" "[I"] ++ wsX70)
def wsX7_change : List Cond := .code yX7_change cX7_change 3 none :: ([.fieldLink RX7 9 "CellarPushers$Ways" "ways" "[I", .methodLink RX7 15 yX7_isIn, .instanceMethod yX7_isIn, .selects RX7 yX7_isIn yX7_isIn, .initialized RX7, .code yX7_isIn cX7_isIn 2 (some .boolean), .fieldLink RX7 19 "CellarPushers$Ways" "size" "I"] ++ wsX70)
def wsX7_become_r1 : List Cond := [Cond.fieldLink RX7 19 "CellarPushers$Ways" "size" "I", Cond.methodLink RX7 30 yX7_wayAt, Cond.instanceMethod yX7_wayAt, Cond.selects RX7 yX7_wayAt yX7_wayAt, Cond.initialized RX7, Cond.code yX7_wayAt cX7_wayAt 2 (some .int), Cond.fieldLink RX7 9 "CellarPushers$Ways" "ways" "[I", Cond.methodLink RX7 15 yX7_isIn, Cond.instanceMethod yX7_isIn, Cond.selects RX7 yX7_isIn yX7_isIn, Cond.code yX7_isIn cX7_isIn 2 (some .boolean), Cond.methodLink RX7 34 yX7_append, Cond.instanceMethod yX7_append, Cond.selects RX7 yX7_append yX7_append, Cond.code yX7_append cX7_append 2 none, Cond.constant RX7 23 (131072), Cond.methodLink RX7 24 yJ7_copyOf_59c91, Cond.static yJ7_copyOf_59c91, Cond.initialized RJ7, Cond.code yJ7_copyOf_59c91 cJ7_copyOf_59c91 3 (some (.array .int)), Cond.methodLink RJ7 316 ⟨"[I", "clone", "()Ljava/lang/Object;"⟩, Cond.sameMethod "[I" "java/lang/Object" "clone" "()Ljava/lang/Object;", Cond.native ⟨"java/lang/Object", "clone", "()Ljava/lang/Object;"⟩, Cond.instanceMethod ⟨"java/lang/Object", "clone", "()Ljava/lang/Object;"⟩]
def wsX7_become_r2 : List Cond := [Cond.selects "[I" ⟨"[I", "clone", "()Ljava/lang/Object;"⟩ ⟨"java/lang/Object", "clone", "()Ljava/lang/Object;"⟩, Cond.classLink RJ7 317 "[I", Cond.arrayClass .int, Cond.methodLink RJ7 304 Lib.Math.min.name, Cond.static Lib.Math.min.name, Cond.initialized "java/lang/Math", Cond.code Lib.Math.min.name Lib.Math.min.code 2 (some .int), Cond.methodLink RJ7 150 arraycopyName, Cond.native arraycopyName, Cond.static arraycopyName, Cond.initialized "java/lang/System"]
def wsX7_become : List Cond := .code yX7_become cX7_become 3 none :: ((wsX7_become_r1 ++ wsX7_become_r2) ++ wsX70)
def wsX8_init_r1 : List Cond := [Cond.methodLink RX8 1 objectInit, Cond.instanceMethod objectInit, Cond.code objectInit ⟨#[0xb1]⟩ 1 none, Cond.classLink RX8 7 RX0, Cond.instantiable RX0 6, Cond.initialized RX0, Cond.fieldLink RX8 12 "CellarPushers" "ground" "LCellarPushers$Ground;", Cond.classLink RX8 18 RX3, Cond.instantiable RX3 4, Cond.initialized RX3, Cond.fieldLink RX8 21 "CellarPushers" "scene" "LCellarPushers$Scene;", Cond.fieldLink RX8 25 "CellarPushers" "trial" "LCellarPushers$Scene;", Cond.classLink RX8 28 RX5, Cond.instantiable RX5 6, Cond.initialized RX5, Cond.fieldLink RX8 31 "CellarPushers" "timeline" "LCellarPushers$Timeline;", Cond.classLink RX8 35 RX6, Cond.instantiable RX6 3, Cond.initialized RX6, Cond.fieldLink RX8 38 "CellarPushers" "walks" "LCellarPushers$Walks;", Cond.classLink RX8 42 RX2, Cond.instantiable RX2 3, Cond.initialized RX2, Cond.fieldLink RX8 45 "CellarPushers" "prices" "LCellarPushers$Prices;"]
def wsX8_init_r2 : List Cond := [Cond.classLink RX8 49 RX1, Cond.instantiable RX1 3, Cond.initialized RX1, Cond.fieldLink RX8 52 "CellarPushers" "pairing" "LCellarPushers$Pairing;", Cond.classLink RX8 56 RX4, Cond.instantiable RX4 12, Cond.initialized RX4, Cond.fieldLink RX8 59 "CellarPushers" "search" "LCellarPushers$Search;", Cond.classLink RX8 63 RX7, Cond.instantiable RX7 2, Cond.initialized RX7, Cond.fieldLink RX8 66 "CellarPushers" "thePlan" "LCellarPushers$Ways;", Cond.fieldLink RX8 70 "CellarPushers" "tape" "LCellarPushers$Ways;", Cond.fieldLink RX8 73 "CellarPushers" "spoiltField" "I", Cond.methodLink RX8 9 yX0_init, Cond.instanceMethod yX0_init, Cond.code yX0_init cX0_init 3 none, Cond.methodLink RX0 3 objectInit, Cond.methodLink RX0 9 Lib.Math.min.name, Cond.static Lib.Math.min.name, Cond.initialized "java/lang/Math", Cond.code Lib.Math.min.name Lib.Math.min.code 2 (some .int), Cond.methodLink RX0 15 Lib.Math.max.name, Cond.static Lib.Math.max.name]
def wsX8_init_r3 : List Cond := [Cond.code Lib.Math.max.name Lib.Math.max.code 2 (some .int), Cond.fieldLink RX0 18 "CellarPushers$Ground" "width" "I", Cond.fieldLink RX0 24 "CellarPushers$Ground" "height" "I", Cond.arrayClass .int, Cond.fieldLink RX0 27 "CellarPushers$Ground" "kinds" "[I", Cond.fieldLink RX0 31 "CellarPushers$Ground" "rampWays" "[I", Cond.arrayClass .boolean, Cond.fieldLink RX0 34 "CellarPushers$Ground" "missing" "[Z", Cond.methodLink RX8 20 yX3_init, Cond.instanceMethod yX3_init, Cond.code yX3_init cX3_init 1 none, Cond.methodLink RX3 3 objectInit, Cond.fieldLink RX3 9 "CellarPushers$Scene" "manAt" "I", Cond.methodLink RX8 30 yX5_init, Cond.instanceMethod yX5_init, Cond.code yX5_init cX5_init 1 none, Cond.methodLink RX5 3 objectInit, Cond.fieldLink RX5 9 "CellarPushers$Timeline" "men" "[I", Cond.arrayClass .long, Cond.fieldLink RX5 15 "CellarPushers$Timeline" "barrels" "[J", Cond.fieldLink RX5 19 "CellarPushers$Timeline" "steps" "[I", Cond.fieldLink RX5 22 "CellarPushers$Timeline" "pushes" "[I", Cond.methodLink RX8 37 yX6_init, Cond.instanceMethod yX6_init]
def wsX8_init_r4 : List Cond := [Cond.code yX6_init cX6_init 1 none, Cond.methodLink RX6 3 objectInit, Cond.fieldLink RX6 9 "CellarPushers$Walks" "far" "[I", Cond.fieldLink RX6 15 "CellarPushers$Walks" "queue" "[I", Cond.methodLink RX8 44 yX2_init, Cond.instanceMethod yX2_init, Cond.code yX2_init cX2_init 1 none, Cond.methodLink RX2 3 objectInit, Cond.fieldLink RX2 9 "CellarPushers$Prices" "pushes" "[I", Cond.fieldLink RX2 15 "CellarPushers$Prices" "queue" "[I", Cond.methodLink RX8 51 yX1_init, Cond.instanceMethod yX1_init, Cond.code yX1_init cX1_init 1 none, Cond.methodLink RX1 3 objectInit, Cond.fieldLink RX1 9 "CellarPushers$Pairing" "marks" "[I", Cond.fieldLink RX1 15 "CellarPushers$Pairing" "sums" "[I", Cond.methodLink RX8 58 yX4_init, Cond.instanceMethod yX4_init, Cond.code yX4_init cX4_init 1 none, Cond.methodLink RX4 5 objectInit, Cond.fieldLink RX4 11 "CellarPushers$Search" "cellOf" "[I", Cond.fieldLink RX4 15 "CellarPushers$Search" "manTo" "[I", Cond.fieldLink RX4 18 "CellarPushers$Search" "barrelTo" "[I", Cond.fieldLink RX4 21 "CellarPushers$Search" "rolls" "[Z"]
def wsX8_init_r5 : List Cond := [Cond.fieldLink RX4 25 "CellarPushers$Search" "sets" "[I", Cond.fieldLink RX4 28 "CellarPushers$Search" "order" "[I", Cond.fieldLink RX4 31 "CellarPushers$Search" "costs" "[J", Cond.methodLink RX8 65 yX7_init, Cond.instanceMethod yX7_init, Cond.code yX7_init cX7_init 1 none, Cond.methodLink RX7 3 objectInit, Cond.fieldLink RX7 9 "CellarPushers$Ways" "ways" "[I"]
def wsX8_init : List Cond := .code yX8_init cX8_init 3 none :: ((wsX8_init_r1 ++ (wsX8_init_r2 ++ (wsX8_init_r3 ++ (wsX8_init_r4 ++ wsX8_init_r5)))) ++ wsX00 ++ wsX80 ++ wsX30 ++ wsX50 ++ wsX60 ++ wsX20 ++ wsX10 ++ wsX40 ++ wsX70)
def wsX8_isInUse : List Cond := .code yX8_isInUse cX8_isInUse 2 (some .boolean) :: ([.fieldLink RX8 21 "CellarPushers" "scene" "LCellarPushers$Scene;", .fieldLink RX8 12 "CellarPushers" "ground" "LCellarPushers$Ground;", .fieldLink RX8 133 "CellarPushers$Ground" "wanted" "J", .methodLink RX8 256 yX3_isTaken, .instanceMethod yX3_isTaken, .selects RX3 yX3_isTaken yX3_isTaken, .initialized RX3, .code yX3_isTaken cX3_isTaken 2 (some .boolean), .fieldLink RX3 9 "CellarPushers$Scene" "manAt" "I", .methodLink RX3 29 yX3_hasBarrel, .instanceMethod yX3_hasBarrel, .selects RX3 yX3_hasBarrel yX3_hasBarrel, .code yX3_hasBarrel cX3_hasBarrel 2 (some .boolean), .fieldLink RX3 15 "CellarPushers$Scene" "barrels" "J", .static yX8_has, .initialized RX8, .code yX8_has cX8_has 3 (some .boolean), .methodLink RX8 253 yX8_isField, .static yX8_isField, .code yX8_isField cX8_isField 1 (some .boolean), .methodLink RX8 136 yX8_has] ++ wsX80 ++ wsX00 ++ wsX30)
def wsX8_field_r1 : List Cond := [Cond.fieldLink RX8 12 "CellarPushers" "ground" "LCellarPushers$Ground;", Cond.fieldLink RX8 31 "CellarPushers" "timeline" "LCellarPushers$Timeline;", Cond.methodLink RX8 77 yX0_numberOf, Cond.instanceMethod yX0_numberOf, Cond.selects RX0 yX0_numberOf yX0_numberOf, Cond.initialized RX0, Cond.code yX0_numberOf cX0_numberOf 4 (some .int), Cond.fieldLink RX0 18 "CellarPushers$Ground" "width" "I", Cond.fieldLink RX0 24 "CellarPushers$Ground" "height" "I", Cond.methodLink RX8 81 yX8_isWay, Cond.static yX8_isWay, Cond.initialized RX8, Cond.code yX8_isWay cX8_isWay 1 (some .boolean), Cond.methodLink RX8 85 yX8_isInUse, Cond.instanceMethod yX8_isInUse, Cond.selects RX8 yX8_isInUse yX8_isInUse, Cond.code yX8_isInUse cX8_isInUse 2 (some .boolean), Cond.fieldLink RX8 21 "CellarPushers" "scene" "LCellarPushers$Scene;", Cond.fieldLink RX8 133 "CellarPushers$Ground" "wanted" "J", Cond.methodLink RX8 256 yX3_isTaken, Cond.instanceMethod yX3_isTaken, Cond.selects RX3 yX3_isTaken yX3_isTaken, Cond.initialized RX3, Cond.code yX3_isTaken cX3_isTaken 2 (some .boolean)]
def wsX8_field_r2 : List Cond := [Cond.fieldLink RX3 9 "CellarPushers$Scene" "manAt" "I", Cond.methodLink RX3 29 yX3_hasBarrel, Cond.instanceMethod yX3_hasBarrel, Cond.selects RX3 yX3_hasBarrel yX3_hasBarrel, Cond.code yX3_hasBarrel cX3_hasBarrel 2 (some .boolean), Cond.fieldLink RX3 15 "CellarPushers$Scene" "barrels" "J", Cond.static yX8_has, Cond.code yX8_has cX8_has 3 (some .boolean), Cond.methodLink RX8 253 yX8_isField, Cond.static yX8_isField, Cond.code yX8_isField cX8_isField 1 (some .boolean), Cond.methodLink RX8 136 yX8_has, Cond.methodLink RX8 88 yX5_forget, Cond.instanceMethod yX5_forget, Cond.selects RX5 yX5_forget yX5_forget, Cond.initialized RX5, Cond.code yX5_forget cX5_forget 1 none, Cond.fieldLink RX5 25 "CellarPushers$Timeline" "now" "I", Cond.fieldLink RX5 29 "CellarPushers$Timeline" "last" "I", Cond.methodLink RX8 91 yX0_lay, Cond.instanceMethod yX0_lay, Cond.selects RX0 yX0_lay yX0_lay, Cond.code yX0_lay cX0_lay 5 (some .int), Cond.fieldLink RX0 27 "CellarPushers$Ground" "kinds" "[I"]
def wsX8_field_r3 : List Cond := [Cond.fieldLink RX0 31 "CellarPushers$Ground" "rampWays" "[I"]
def wsX8_field : List Cond := .code yX8_field cX8_field 7 (some .int) :: ((wsX8_field_r1 ++ (wsX8_field_r2 ++ wsX8_field_r3)) ++ wsX80 ++ wsX00 ++ wsX30 ++ wsX50)
def wsX8_line_r1 : List Cond := [Cond.fieldLink RX8 12 "CellarPushers" "ground" "LCellarPushers$Ground;", Cond.fieldLink RX8 95 "CellarPushers$Ground" "height" "I", Cond.fieldLink RX8 98 "CellarPushers$Ground" "width" "I", Cond.fieldLink RX8 31 "CellarPushers" "timeline" "LCellarPushers$Timeline;", Cond.methodLink RX8 77 yX0_numberOf, Cond.instanceMethod yX0_numberOf, Cond.selects RX0 yX0_numberOf yX0_numberOf, Cond.initialized RX0, Cond.code yX0_numberOf cX0_numberOf 4 (some .int), Cond.fieldLink RX0 18 "CellarPushers$Ground" "width" "I", Cond.fieldLink RX0 24 "CellarPushers$Ground" "height" "I", Cond.methodLink RX8 85 yX8_isInUse, Cond.instanceMethod yX8_isInUse, Cond.selects RX8 yX8_isInUse yX8_isInUse, Cond.initialized RX8, Cond.code yX8_isInUse cX8_isInUse 2 (some .boolean), Cond.fieldLink RX8 21 "CellarPushers" "scene" "LCellarPushers$Scene;", Cond.fieldLink RX8 133 "CellarPushers$Ground" "wanted" "J", Cond.methodLink RX8 256 yX3_isTaken, Cond.instanceMethod yX3_isTaken, Cond.selects RX3 yX3_isTaken yX3_isTaken, Cond.initialized RX3, Cond.code yX3_isTaken cX3_isTaken 2 (some .boolean), Cond.fieldLink RX3 9 "CellarPushers$Scene" "manAt" "I"]
def wsX8_line_r2 : List Cond := [Cond.methodLink RX3 29 yX3_hasBarrel, Cond.instanceMethod yX3_hasBarrel, Cond.selects RX3 yX3_hasBarrel yX3_hasBarrel, Cond.code yX3_hasBarrel cX3_hasBarrel 2 (some .boolean), Cond.fieldLink RX3 15 "CellarPushers$Scene" "barrels" "J", Cond.static yX8_has, Cond.code yX8_has cX8_has 3 (some .boolean), Cond.methodLink RX8 253 yX8_isField, Cond.static yX8_isField, Cond.code yX8_isField cX8_isField 1 (some .boolean), Cond.methodLink RX8 136 yX8_has, Cond.methodLink RX8 88 yX5_forget, Cond.instanceMethod yX5_forget, Cond.selects RX5 yX5_forget yX5_forget, Cond.initialized RX5, Cond.code yX5_forget cX5_forget 1 none, Cond.fieldLink RX5 25 "CellarPushers$Timeline" "now" "I", Cond.fieldLink RX5 29 "CellarPushers$Timeline" "last" "I", Cond.methodLink RX8 101 yX0_letMiss, Cond.instanceMethod yX0_letMiss, Cond.selects RX0 yX0_letMiss yX0_letMiss, Cond.code yX0_letMiss cX0_letMiss 4 (some .boolean), Cond.fieldLink RX0 34 "CellarPushers$Ground" "missing" "[Z"]
def wsX8_line : List Cond := .code yX8_line cX8_line 4 (some .int) :: ((wsX8_line_r1 ++ wsX8_line_r2) ++ wsX80 ++ wsX00 ++ wsX30 ++ wsX50)
def wsX8_mayBeSetOn : List Cond := .code yX8_mayBeSetOn cX8_mayBeSetOn 2 (some .boolean) :: ([.fieldLink RX8 12 "CellarPushers" "ground" "LCellarPushers$Ground;", .fieldLink RX8 21 "CellarPushers" "scene" "LCellarPushers$Scene;", .fieldLink RX8 126 "CellarPushers$Scene" "manAt" "I", .fieldLink RX8 111 "CellarPushers$Scene" "barrels" "J", .methodLink RX8 129 yX0_kindNow, .instanceMethod yX0_kindNow, .selects RX0 yX0_kindNow yX0_kindNow, .initialized RX0, .code yX0_kindNow cX0_kindNow 2 (some .int), .fieldLink RX0 34 "CellarPushers$Ground" "missing" "[Z", .fieldLink RX0 27 "CellarPushers$Ground" "kinds" "[I", .methodLink RX8 175 yJ13_bitCount_95d88, .static yJ13_bitCount_95d88, .initialized RJ13, .code yJ13_bitCount_95d88 cJ13_bitCount_95d88 2 (some .int), .constantLong RJ13 314 (6148914691236517205), .constantLong RJ13 316 (3689348814741910323), .constantLong RJ13 318 (1085102592571150095)] ++ wsX80 ++ wsX30 ++ wsX00)
def wsX8_barrel_r1 : List Cond := [Cond.fieldLink RX8 12 "CellarPushers" "ground" "LCellarPushers$Ground;", Cond.fieldLink RX8 31 "CellarPushers" "timeline" "LCellarPushers$Timeline;", Cond.fieldLink RX8 21 "CellarPushers" "scene" "LCellarPushers$Scene;", Cond.fieldLink RX8 111 "CellarPushers$Scene" "barrels" "J", Cond.methodLink RX8 77 yX0_numberOf, Cond.instanceMethod yX0_numberOf, Cond.selects RX0 yX0_numberOf yX0_numberOf, Cond.initialized RX0, Cond.code yX0_numberOf cX0_numberOf 4 (some .int), Cond.fieldLink RX0 18 "CellarPushers$Ground" "width" "I", Cond.fieldLink RX0 24 "CellarPushers$Ground" "height" "I", Cond.methodLink RX8 105 yX8_mayBeSetOn, Cond.instanceMethod yX8_mayBeSetOn, Cond.selects RX8 yX8_mayBeSetOn yX8_mayBeSetOn, Cond.initialized RX8, Cond.code yX8_mayBeSetOn cX8_mayBeSetOn 2 (some .boolean), Cond.fieldLink RX8 126 "CellarPushers$Scene" "manAt" "I", Cond.methodLink RX8 129 yX0_kindNow, Cond.instanceMethod yX0_kindNow, Cond.selects RX0 yX0_kindNow yX0_kindNow, Cond.code yX0_kindNow cX0_kindNow 2 (some .int), Cond.fieldLink RX0 34 "CellarPushers$Ground" "missing" "[Z", Cond.fieldLink RX0 27 "CellarPushers$Ground" "kinds" "[I", Cond.methodLink RX8 175 yJ13_bitCount_95d88]
def wsX8_barrel_r2 : List Cond := [Cond.static yJ13_bitCount_95d88, Cond.initialized RJ13, Cond.code yJ13_bitCount_95d88 cJ13_bitCount_95d88 2 (some .int), Cond.constantLong RJ13 314 (6148914691236517205), Cond.constantLong RJ13 316 (3689348814741910323), Cond.constantLong RJ13 318 (1085102592571150095), Cond.methodLink RX8 88 yX5_forget, Cond.instanceMethod yX5_forget, Cond.selects RX5 yX5_forget yX5_forget, Cond.initialized RX5, Cond.code yX5_forget cX5_forget 1 none, Cond.fieldLink RX5 25 "CellarPushers$Timeline" "now" "I", Cond.fieldLink RX5 29 "CellarPushers$Timeline" "last" "I", Cond.methodLink RX8 108 yX3_hasBarrel, Cond.instanceMethod yX3_hasBarrel, Cond.selects RX3 yX3_hasBarrel yX3_hasBarrel, Cond.initialized RX3, Cond.code yX3_hasBarrel cX3_hasBarrel 2 (some .boolean), Cond.fieldLink RX3 15 "CellarPushers$Scene" "barrels" "J", Cond.static yX8_has, Cond.code yX8_has cX8_has 3 (some .boolean), Cond.methodLink RX8 253 yX8_isField, Cond.static yX8_isField, Cond.code yX8_isField cX8_isField 1 (some .boolean)]
def wsX8_barrel_r3 : List Cond := [Cond.methodLink RX8 115 yX8_with, Cond.static yX8_with, Cond.code yX8_with cX8_with 6 (some .long), Cond.constantLong RX8 196 (-1)]
def wsX8_barrel : List Cond := .code yX8_barrel cX8_barrel 6 (some .int) :: ((wsX8_barrel_r1 ++ (wsX8_barrel_r2 ++ wsX8_barrel_r3)) ++ wsX80 ++ wsX30 ++ wsX00 ++ wsX50)
def wsX8_man_r1 : List Cond := [Cond.fieldLink RX8 12 "CellarPushers" "ground" "LCellarPushers$Ground;", Cond.fieldLink RX8 21 "CellarPushers" "scene" "LCellarPushers$Scene;", Cond.fieldLink RX8 31 "CellarPushers" "timeline" "LCellarPushers$Timeline;", Cond.fieldLink RX8 126 "CellarPushers$Scene" "manAt" "I", Cond.methodLink RX8 77 yX0_numberOf, Cond.instanceMethod yX0_numberOf, Cond.selects RX0 yX0_numberOf yX0_numberOf, Cond.initialized RX0, Cond.code yX0_numberOf cX0_numberOf 4 (some .int), Cond.fieldLink RX0 18 "CellarPushers$Ground" "width" "I", Cond.fieldLink RX0 24 "CellarPushers$Ground" "height" "I", Cond.methodLink RX8 119 yX0_isForMan, Cond.instanceMethod yX0_isForMan, Cond.selects RX0 yX0_isForMan yX0_isForMan, Cond.code yX0_isForMan cX0_isForMan 3 (some .boolean), Cond.methodLink RX0 54 yX0_kindNow, Cond.instanceMethod yX0_kindNow, Cond.selects RX0 yX0_kindNow yX0_kindNow, Cond.code yX0_kindNow cX0_kindNow 2 (some .int), Cond.fieldLink RX0 34 "CellarPushers$Ground" "missing" "[Z", Cond.fieldLink RX0 27 "CellarPushers$Ground" "kinds" "[I", Cond.methodLink RX8 108 yX3_hasBarrel, Cond.instanceMethod yX3_hasBarrel, Cond.selects RX3 yX3_hasBarrel yX3_hasBarrel]
def wsX8_man_r2 : List Cond := [Cond.initialized RX3, Cond.code yX3_hasBarrel cX3_hasBarrel 2 (some .boolean), Cond.fieldLink RX3 15 "CellarPushers$Scene" "barrels" "J", Cond.static yX8_has, Cond.initialized RX8, Cond.code yX8_has cX8_has 3 (some .boolean), Cond.methodLink RX8 253 yX8_isField, Cond.static yX8_isField, Cond.code yX8_isField cX8_isField 1 (some .boolean), Cond.methodLink RX8 88 yX5_forget, Cond.instanceMethod yX5_forget, Cond.selects RX5 yX5_forget yX5_forget, Cond.initialized RX5, Cond.code yX5_forget cX5_forget 1 none, Cond.fieldLink RX5 25 "CellarPushers$Timeline" "now" "I", Cond.fieldLink RX5 29 "CellarPushers$Timeline" "last" "I", Cond.methodLink RX8 122 yX3_hasMan, Cond.instanceMethod yX3_hasMan, Cond.selects RX3 yX3_hasMan yX3_hasMan, Cond.code yX3_hasMan cX3_hasMan 1 (some .boolean), Cond.fieldLink RX3 9 "CellarPushers$Scene" "manAt" "I"]
def wsX8_man : List Cond := .code yX8_man cX8_man 5 (some .int) :: ((wsX8_man_r1 ++ wsX8_man_r2) ++ wsX80 ++ wsX30 ++ wsX00 ++ wsX50)
def wsX8_want_r1 : List Cond := [Cond.fieldLink RX8 12 "CellarPushers" "ground" "LCellarPushers$Ground;", Cond.fieldLink RX8 31 "CellarPushers" "timeline" "LCellarPushers$Timeline;", Cond.fieldLink RX8 133 "CellarPushers$Ground" "wanted" "J", Cond.methodLink RX8 77 yX0_numberOf, Cond.instanceMethod yX0_numberOf, Cond.selects RX0 yX0_numberOf yX0_numberOf, Cond.initialized RX0, Cond.code yX0_numberOf cX0_numberOf 4 (some .int), Cond.fieldLink RX0 18 "CellarPushers$Ground" "width" "I", Cond.fieldLink RX0 24 "CellarPushers$Ground" "height" "I", Cond.methodLink RX8 129 yX0_kindNow, Cond.instanceMethod yX0_kindNow, Cond.selects RX0 yX0_kindNow yX0_kindNow, Cond.code yX0_kindNow cX0_kindNow 2 (some .int), Cond.fieldLink RX0 34 "CellarPushers$Ground" "missing" "[Z", Cond.fieldLink RX0 27 "CellarPushers$Ground" "kinds" "[I", Cond.methodLink RX8 88 yX5_forget, Cond.instanceMethod yX5_forget, Cond.selects RX5 yX5_forget yX5_forget, Cond.initialized RX5, Cond.code yX5_forget cX5_forget 1 none, Cond.fieldLink RX5 25 "CellarPushers$Timeline" "now" "I", Cond.fieldLink RX5 29 "CellarPushers$Timeline" "last" "I", Cond.methodLink RX8 136 yX8_has]
def wsX8_want_r2 : List Cond := [Cond.static yX8_has, Cond.initialized RX8, Cond.code yX8_has cX8_has 3 (some .boolean), Cond.methodLink RX8 253 yX8_isField, Cond.static yX8_isField, Cond.code yX8_isField cX8_isField 1 (some .boolean), Cond.methodLink RX8 115 yX8_with, Cond.static yX8_with, Cond.code yX8_with cX8_with 6 (some .long), Cond.constantLong RX8 196 (-1)]
def wsX8_want : List Cond := .code yX8_want cX8_want 7 (some .int) :: ((wsX8_want_r1 ++ wsX8_want_r2) ++ wsX80 ++ wsX00 ++ wsX50)
def wsX8_act_r1 : List Cond := [Cond.fieldLink RX8 31 "CellarPushers" "timeline" "LCellarPushers$Timeline;", Cond.fieldLink RX8 21 "CellarPushers" "scene" "LCellarPushers$Scene;", Cond.fieldLink RX8 25 "CellarPushers" "trial" "LCellarPushers$Scene;", Cond.methodLink RX8 259 yX5_record, Cond.instanceMethod yX5_record, Cond.selects RX5 yX5_record yX5_record, Cond.initialized RX5, Cond.code yX5_record cX5_record 3 none, Cond.fieldLink RX5 25 "CellarPushers$Timeline" "now" "I", Cond.fieldLink RX5 29 "CellarPushers$Timeline" "last" "I", Cond.methodLink RX5 32 yX5_keep, Cond.instanceMethod yX5_keep, Cond.selects RX5 yX5_keep yX5_keep, Cond.code yX5_keep cX5_keep 3 none, Cond.fieldLink RX5 9 "CellarPushers$Timeline" "men" "[I", Cond.fieldLink RX5 39 "CellarPushers$Scene" "manAt" "I", Cond.fieldLink RX5 15 "CellarPushers$Timeline" "barrels" "[J", Cond.fieldLink RX5 44 "CellarPushers$Scene" "barrels" "J", Cond.fieldLink RX5 19 "CellarPushers$Timeline" "steps" "[I", Cond.fieldLink RX5 47 "CellarPushers$Scene" "stepsDone" "I", Cond.fieldLink RX5 22 "CellarPushers$Timeline" "pushes" "[I", Cond.fieldLink RX5 50 "CellarPushers$Scene" "pushesDone" "I", Cond.methodLink RX8 140 yX3_become, Cond.instanceMethod yX3_become]
def wsX8_act_r2 : List Cond := [Cond.selects RX3 yX3_become yX3_become, Cond.initialized RX3, Cond.code yX3_become cX3_become 2 none, Cond.fieldLink RX3 9 "CellarPushers$Scene" "manAt" "I", Cond.fieldLink RX3 15 "CellarPushers$Scene" "barrels" "J", Cond.fieldLink RX3 19 "CellarPushers$Scene" "stepsDone" "I", Cond.fieldLink RX3 22 "CellarPushers$Scene" "pushesDone" "I"]
def wsX8_act : List Cond := .code yX8_act cX8_act 2 (some .int) :: ((wsX8_act_r1 ++ wsX8_act_r2) ++ wsX80 ++ wsX50 ++ wsX30)
def wsX8_step_r1 : List Cond := [Cond.fieldLink RX8 25 "CellarPushers" "trial" "LCellarPushers$Scene;", Cond.fieldLink RX8 21 "CellarPushers" "scene" "LCellarPushers$Scene;", Cond.fieldLink RX8 12 "CellarPushers" "ground" "LCellarPushers$Ground;", Cond.methodLink RX8 140 yX3_become, Cond.instanceMethod yX3_become, Cond.selects RX3 yX3_become yX3_become, Cond.initialized RX3, Cond.code yX3_become cX3_become 2 none, Cond.fieldLink RX3 9 "CellarPushers$Scene" "manAt" "I", Cond.fieldLink RX3 15 "CellarPushers$Scene" "barrels" "J", Cond.fieldLink RX3 19 "CellarPushers$Scene" "stepsDone" "I", Cond.fieldLink RX3 22 "CellarPushers$Scene" "pushesDone" "I", Cond.methodLink RX8 144 yX3_advance, Cond.instanceMethod yX3_advance, Cond.selects RX3 yX3_advance yX3_advance, Cond.code yX3_advance cX3_advance 6 (some .int), Cond.methodLink RX3 33 yX3_hasMan, Cond.instanceMethod yX3_hasMan, Cond.selects RX3 yX3_hasMan yX3_hasMan, Cond.code yX3_hasMan cX3_hasMan 1 (some .boolean), Cond.static yX8_isWay, Cond.initialized RX8, Cond.code yX8_isWay cX8_isWay 1 (some .boolean), Cond.methodLink RX3 40 yX0_beside]
def wsX8_step_r2 : List Cond := [Cond.instanceMethod yX0_beside, Cond.selects RX0 yX0_beside yX0_beside, Cond.initialized RX0, Cond.code yX0_beside cX0_beside 3 (some .int), Cond.static yX8_isField, Cond.code yX8_isField cX8_isField 1 (some .boolean), Cond.methodLink RX0 51 yX0_numberOf, Cond.instanceMethod yX0_numberOf, Cond.selects RX0 yX0_numberOf yX0_numberOf, Cond.code yX0_numberOf cX0_numberOf 4 (some .int), Cond.fieldLink RX0 18 "CellarPushers$Ground" "width" "I", Cond.fieldLink RX0 24 "CellarPushers$Ground" "height" "I", Cond.methodLink RX3 29 yX3_hasBarrel, Cond.instanceMethod yX3_hasBarrel, Cond.selects RX3 yX3_hasBarrel yX3_hasBarrel, Cond.code yX3_hasBarrel cX3_hasBarrel 2 (some .boolean), Cond.static yX8_has, Cond.code yX8_has cX8_has 3 (some .boolean), Cond.methodLink RX8 253 yX8_isField, Cond.methodLink RX3 46 yX0_manMayCome, Cond.instanceMethod yX0_manMayCome, Cond.selects RX0 yX0_manMayCome yX0_manMayCome, Cond.code yX0_manMayCome cX0_manMayCome 4 (some .boolean), Cond.methodLink RX0 54 yX0_kindNow]
def wsX8_step_r3 : List Cond := [Cond.instanceMethod yX0_kindNow, Cond.selects RX0 yX0_kindNow yX0_kindNow, Cond.code yX0_kindNow cX0_kindNow 2 (some .int), Cond.fieldLink RX0 34 "CellarPushers$Ground" "missing" "[Z", Cond.fieldLink RX0 27 "CellarPushers$Ground" "kinds" "[I", Cond.methodLink RX0 58 yX0_rampWay, Cond.instanceMethod yX0_rampWay, Cond.selects RX0 yX0_rampWay yX0_rampWay, Cond.code yX0_rampWay cX0_rampWay 2 (some .int), Cond.fieldLink RX0 31 "CellarPushers$Ground" "rampWays" "[I", Cond.methodLink RX3 50 yX3_roll, Cond.instanceMethod yX3_roll, Cond.selects RX3 yX3_roll yX3_roll, Cond.code yX3_roll cX3_roll 7 (some .int), Cond.methodLink RX3 67 yX0_rollsOn, Cond.instanceMethod yX0_rollsOn, Cond.selects RX0 yX0_rollsOn yX0_rollsOn, Cond.code yX0_rollsOn cX0_rollsOn 3 (some .boolean), Cond.methodLink RX3 70 yX0_barrelMayCome, Cond.instanceMethod yX0_barrelMayCome, Cond.selects RX0 yX0_barrelMayCome yX0_barrelMayCome, Cond.code yX0_barrelMayCome cX0_barrelMayCome 4 (some .boolean), Cond.static yX8_with, Cond.code yX8_with cX8_with 6 (some .long)]
def wsX8_step_r4 : List Cond := [Cond.constantLong RX8 196 (-1), Cond.methodLink RX8 148 yX8_act, Cond.instanceMethod yX8_act, Cond.selects RX8 yX8_act yX8_act, Cond.code yX8_act cX8_act 2 (some .int), Cond.fieldLink RX8 31 "CellarPushers" "timeline" "LCellarPushers$Timeline;", Cond.methodLink RX8 259 yX5_record, Cond.instanceMethod yX5_record, Cond.selects RX5 yX5_record yX5_record, Cond.initialized RX5, Cond.code yX5_record cX5_record 3 none, Cond.fieldLink RX5 25 "CellarPushers$Timeline" "now" "I", Cond.fieldLink RX5 29 "CellarPushers$Timeline" "last" "I", Cond.methodLink RX5 32 yX5_keep, Cond.instanceMethod yX5_keep, Cond.selects RX5 yX5_keep yX5_keep, Cond.code yX5_keep cX5_keep 3 none, Cond.fieldLink RX5 9 "CellarPushers$Timeline" "men" "[I", Cond.fieldLink RX5 39 "CellarPushers$Scene" "manAt" "I", Cond.fieldLink RX5 15 "CellarPushers$Timeline" "barrels" "[J", Cond.fieldLink RX5 44 "CellarPushers$Scene" "barrels" "J", Cond.fieldLink RX5 19 "CellarPushers$Timeline" "steps" "[I", Cond.fieldLink RX5 47 "CellarPushers$Scene" "stepsDone" "I", Cond.fieldLink RX5 22 "CellarPushers$Timeline" "pushes" "[I"]
def wsX8_step_r5 : List Cond := [Cond.fieldLink RX5 50 "CellarPushers$Scene" "pushesDone" "I"]
def wsX8_step : List Cond := .code yX8_step cX8_step 2 (some .int) :: ((wsX8_step_r1 ++ (wsX8_step_r2 ++ (wsX8_step_r3 ++ (wsX8_step_r4 ++ wsX8_step_r5)))) ++ wsX80 ++ wsX30 ++ wsX00 ++ wsX50)
def wsX8_tryWalk_r1 : List Cond := [Cond.fieldLink RX8 38 "CellarPushers" "walks" "LCellarPushers$Walks;", Cond.fieldLink RX8 12 "CellarPushers" "ground" "LCellarPushers$Ground;", Cond.fieldLink RX8 21 "CellarPushers" "scene" "LCellarPushers$Scene;", Cond.fieldLink RX8 25 "CellarPushers" "trial" "LCellarPushers$Scene;", Cond.fieldLink RX8 126 "CellarPushers$Scene" "manAt" "I", Cond.fieldLink RX8 241 "CellarPushers$Scene" "stepsDone" "I", Cond.methodLink RX8 164 yX6_measure, Cond.instanceMethod yX6_measure, Cond.selects RX6 yX6_measure yX6_measure, Cond.initialized RX6, Cond.code yX6_measure cX6_measure 7 none, Cond.fieldLink RX6 9 "CellarPushers$Walks" "far" "[I", Cond.fieldLink RX6 24 "CellarPushers$Walks" "reached" "I", Cond.fieldLink RX6 28 "CellarPushers$Scene" "manAt" "I", Cond.fieldLink RX6 15 "CellarPushers$Walks" "queue" "[I", Cond.methodLink RX6 18 yJ7_fill_53178, Cond.static yJ7_fill_53178, Cond.initialized RJ7, Cond.code yJ7_fill_53178 cJ7_fill_53178 4 none, Cond.methodLink RX6 33 yX6_reach, Cond.instanceMethod yX6_reach, Cond.selects RX6 yX6_reach yX6_reach, Cond.code yX6_reach cX6_reach 3 none, Cond.static yX8_isField]
def wsX8_tryWalk_r2 : List Cond := [Cond.initialized RX8, Cond.code yX8_isField cX8_isField 1 (some .boolean), Cond.methodLink RX6 37 yX0_beside, Cond.instanceMethod yX0_beside, Cond.selects RX0 yX0_beside yX0_beside, Cond.initialized RX0, Cond.code yX0_beside cX0_beside 3 (some .int), Cond.static yX8_isWay, Cond.code yX8_isWay cX8_isWay 1 (some .boolean), Cond.methodLink RX0 51 yX0_numberOf, Cond.instanceMethod yX0_numberOf, Cond.selects RX0 yX0_numberOf yX0_numberOf, Cond.code yX0_numberOf cX0_numberOf 4 (some .int), Cond.fieldLink RX0 18 "CellarPushers$Ground" "width" "I", Cond.fieldLink RX0 24 "CellarPushers$Ground" "height" "I", Cond.methodLink RX6 43 yX0_manMayCome, Cond.instanceMethod yX0_manMayCome, Cond.selects RX0 yX0_manMayCome yX0_manMayCome, Cond.code yX0_manMayCome cX0_manMayCome 4 (some .boolean), Cond.methodLink RX0 54 yX0_kindNow, Cond.instanceMethod yX0_kindNow, Cond.selects RX0 yX0_kindNow yX0_kindNow, Cond.code yX0_kindNow cX0_kindNow 2 (some .int), Cond.fieldLink RX0 34 "CellarPushers$Ground" "missing" "[Z"]
def wsX8_tryWalk_r3 : List Cond := [Cond.fieldLink RX0 27 "CellarPushers$Ground" "kinds" "[I", Cond.methodLink RX0 58 yX0_rampWay, Cond.instanceMethod yX0_rampWay, Cond.selects RX0 yX0_rampWay yX0_rampWay, Cond.code yX0_rampWay cX0_rampWay 2 (some .int), Cond.fieldLink RX0 31 "CellarPushers$Ground" "rampWays" "[I", Cond.methodLink RX6 47 yX3_hasBarrel, Cond.instanceMethod yX3_hasBarrel, Cond.selects RX3 yX3_hasBarrel yX3_hasBarrel, Cond.initialized RX3, Cond.code yX3_hasBarrel cX3_hasBarrel 2 (some .boolean), Cond.fieldLink RX3 15 "CellarPushers$Scene" "barrels" "J", Cond.static yX8_has, Cond.code yX8_has cX8_has 3 (some .boolean), Cond.methodLink RX8 253 yX8_isField, Cond.methodLink RX6 51 yX6_stepsTo, Cond.instanceMethod yX6_stepsTo, Cond.selects RX6 yX6_stepsTo yX6_stepsTo, Cond.code yX6_stepsTo cX6_stepsTo 2 (some .int), Cond.methodLink RX8 168 yX6_stepsTo, Cond.methodLink RX8 140 yX3_become, Cond.instanceMethod yX3_become, Cond.selects RX3 yX3_become yX3_become, Cond.code yX3_become cX3_become 2 none]
def wsX8_tryWalk_r4 : List Cond := [Cond.fieldLink RX3 9 "CellarPushers$Scene" "manAt" "I", Cond.fieldLink RX3 19 "CellarPushers$Scene" "stepsDone" "I", Cond.fieldLink RX3 22 "CellarPushers$Scene" "pushesDone" "I"]
def wsX8_tryWalk : List Cond := .code yX8_tryWalk cX8_tryWalk 3 (some .int) :: ((wsX8_tryWalk_r1 ++ (wsX8_tryWalk_r2 ++ (wsX8_tryWalk_r3 ++ wsX8_tryWalk_r4))) ++ wsX80 ++ wsX30 ++ wsX60 ++ wsX00)
def wsX8_walk_r1 : List Cond := [Cond.fieldLink RX8 12 "CellarPushers" "ground" "LCellarPushers$Ground;", Cond.fieldLink RX8 21 "CellarPushers" "scene" "LCellarPushers$Scene;", Cond.methodLink RX8 77 yX0_numberOf, Cond.instanceMethod yX0_numberOf, Cond.selects RX0 yX0_numberOf yX0_numberOf, Cond.initialized RX0, Cond.code yX0_numberOf cX0_numberOf 4 (some .int), Cond.fieldLink RX0 18 "CellarPushers$Ground" "width" "I", Cond.fieldLink RX0 24 "CellarPushers$Ground" "height" "I", Cond.methodLink RX8 122 yX3_hasMan, Cond.instanceMethod yX3_hasMan, Cond.selects RX3 yX3_hasMan yX3_hasMan, Cond.initialized RX3, Cond.code yX3_hasMan cX3_hasMan 1 (some .boolean), Cond.fieldLink RX3 9 "CellarPushers$Scene" "manAt" "I", Cond.methodLink RX8 151 yX8_tryWalk, Cond.instanceMethod yX8_tryWalk, Cond.selects RX8 yX8_tryWalk yX8_tryWalk, Cond.initialized RX8, Cond.code yX8_tryWalk cX8_tryWalk 3 (some .int), Cond.fieldLink RX8 38 "CellarPushers" "walks" "LCellarPushers$Walks;", Cond.fieldLink RX8 25 "CellarPushers" "trial" "LCellarPushers$Scene;", Cond.fieldLink RX8 126 "CellarPushers$Scene" "manAt" "I", Cond.fieldLink RX8 241 "CellarPushers$Scene" "stepsDone" "I"]
def wsX8_walk_r2 : List Cond := [Cond.methodLink RX8 164 yX6_measure, Cond.instanceMethod yX6_measure, Cond.selects RX6 yX6_measure yX6_measure, Cond.initialized RX6, Cond.code yX6_measure cX6_measure 7 none, Cond.fieldLink RX6 9 "CellarPushers$Walks" "far" "[I", Cond.fieldLink RX6 24 "CellarPushers$Walks" "reached" "I", Cond.fieldLink RX6 28 "CellarPushers$Scene" "manAt" "I", Cond.fieldLink RX6 15 "CellarPushers$Walks" "queue" "[I", Cond.methodLink RX6 18 yJ7_fill_53178, Cond.static yJ7_fill_53178, Cond.initialized RJ7, Cond.code yJ7_fill_53178 cJ7_fill_53178 4 none, Cond.methodLink RX6 33 yX6_reach, Cond.instanceMethod yX6_reach, Cond.selects RX6 yX6_reach yX6_reach, Cond.code yX6_reach cX6_reach 3 none, Cond.static yX8_isField, Cond.code yX8_isField cX8_isField 1 (some .boolean), Cond.methodLink RX6 37 yX0_beside, Cond.instanceMethod yX0_beside, Cond.selects RX0 yX0_beside yX0_beside, Cond.code yX0_beside cX0_beside 3 (some .int), Cond.static yX8_isWay]
def wsX8_walk_r3 : List Cond := [Cond.code yX8_isWay cX8_isWay 1 (some .boolean), Cond.methodLink RX0 51 yX0_numberOf, Cond.methodLink RX6 43 yX0_manMayCome, Cond.instanceMethod yX0_manMayCome, Cond.selects RX0 yX0_manMayCome yX0_manMayCome, Cond.code yX0_manMayCome cX0_manMayCome 4 (some .boolean), Cond.methodLink RX0 54 yX0_kindNow, Cond.instanceMethod yX0_kindNow, Cond.selects RX0 yX0_kindNow yX0_kindNow, Cond.code yX0_kindNow cX0_kindNow 2 (some .int), Cond.fieldLink RX0 34 "CellarPushers$Ground" "missing" "[Z", Cond.fieldLink RX0 27 "CellarPushers$Ground" "kinds" "[I", Cond.methodLink RX0 58 yX0_rampWay, Cond.instanceMethod yX0_rampWay, Cond.selects RX0 yX0_rampWay yX0_rampWay, Cond.code yX0_rampWay cX0_rampWay 2 (some .int), Cond.fieldLink RX0 31 "CellarPushers$Ground" "rampWays" "[I", Cond.methodLink RX6 47 yX3_hasBarrel, Cond.instanceMethod yX3_hasBarrel, Cond.selects RX3 yX3_hasBarrel yX3_hasBarrel, Cond.code yX3_hasBarrel cX3_hasBarrel 2 (some .boolean), Cond.fieldLink RX3 15 "CellarPushers$Scene" "barrels" "J", Cond.static yX8_has, Cond.code yX8_has cX8_has 3 (some .boolean)]
def wsX8_walk_r4 : List Cond := [Cond.methodLink RX8 253 yX8_isField, Cond.methodLink RX6 51 yX6_stepsTo, Cond.instanceMethod yX6_stepsTo, Cond.selects RX6 yX6_stepsTo yX6_stepsTo, Cond.code yX6_stepsTo cX6_stepsTo 2 (some .int), Cond.methodLink RX8 168 yX6_stepsTo, Cond.methodLink RX8 140 yX3_become, Cond.instanceMethod yX3_become, Cond.selects RX3 yX3_become yX3_become, Cond.code yX3_become cX3_become 2 none, Cond.fieldLink RX3 19 "CellarPushers$Scene" "stepsDone" "I", Cond.fieldLink RX3 22 "CellarPushers$Scene" "pushesDone" "I", Cond.methodLink RX8 148 yX8_act, Cond.instanceMethod yX8_act, Cond.selects RX8 yX8_act yX8_act, Cond.code yX8_act cX8_act 2 (some .int), Cond.fieldLink RX8 31 "CellarPushers" "timeline" "LCellarPushers$Timeline;", Cond.methodLink RX8 259 yX5_record, Cond.instanceMethod yX5_record, Cond.selects RX5 yX5_record yX5_record, Cond.initialized RX5, Cond.code yX5_record cX5_record 3 none, Cond.fieldLink RX5 25 "CellarPushers$Timeline" "now" "I", Cond.fieldLink RX5 29 "CellarPushers$Timeline" "last" "I"]
def wsX8_walk_r5 : List Cond := [Cond.methodLink RX5 32 yX5_keep, Cond.instanceMethod yX5_keep, Cond.selects RX5 yX5_keep yX5_keep, Cond.code yX5_keep cX5_keep 3 none, Cond.fieldLink RX5 9 "CellarPushers$Timeline" "men" "[I", Cond.fieldLink RX5 39 "CellarPushers$Scene" "manAt" "I", Cond.fieldLink RX5 15 "CellarPushers$Timeline" "barrels" "[J", Cond.fieldLink RX5 44 "CellarPushers$Scene" "barrels" "J", Cond.fieldLink RX5 19 "CellarPushers$Timeline" "steps" "[I", Cond.fieldLink RX5 47 "CellarPushers$Scene" "stepsDone" "I", Cond.fieldLink RX5 22 "CellarPushers$Timeline" "pushes" "[I", Cond.fieldLink RX5 50 "CellarPushers$Scene" "pushesDone" "I"]
def wsX8_walk : List Cond := .code yX8_walk cX8_walk 4 (some .int) :: ((wsX8_walk_r1 ++ (wsX8_walk_r2 ++ (wsX8_walk_r3 ++ (wsX8_walk_r4 ++ wsX8_walk_r5)))) ++ wsX80 ++ wsX00 ++ wsX30 ++ wsX60 ++ wsX50)
def wsX8_tryPush_r1 : List Cond := [Cond.fieldLink RX8 12 "CellarPushers" "ground" "LCellarPushers$Ground;", Cond.fieldLink RX8 21 "CellarPushers" "scene" "LCellarPushers$Scene;", Cond.fieldLink RX8 25 "CellarPushers" "trial" "LCellarPushers$Scene;", Cond.methodLink RX8 77 yX0_numberOf, Cond.instanceMethod yX0_numberOf, Cond.selects RX0 yX0_numberOf yX0_numberOf, Cond.initialized RX0, Cond.code yX0_numberOf cX0_numberOf 4 (some .int), Cond.fieldLink RX0 18 "CellarPushers$Ground" "width" "I", Cond.fieldLink RX0 24 "CellarPushers$Ground" "height" "I", Cond.methodLink RX8 122 yX3_hasMan, Cond.instanceMethod yX3_hasMan, Cond.selects RX3 yX3_hasMan yX3_hasMan, Cond.initialized RX3, Cond.code yX3_hasMan cX3_hasMan 1 (some .boolean), Cond.fieldLink RX3 9 "CellarPushers$Scene" "manAt" "I", Cond.methodLink RX8 81 yX8_isWay, Cond.static yX8_isWay, Cond.initialized RX8, Cond.code yX8_isWay cX8_isWay 1 (some .boolean), Cond.methodLink RX8 108 yX3_hasBarrel, Cond.instanceMethod yX3_hasBarrel, Cond.selects RX3 yX3_hasBarrel yX3_hasBarrel, Cond.code yX3_hasBarrel cX3_hasBarrel 2 (some .boolean)]
def wsX8_tryPush_r2 : List Cond := [Cond.fieldLink RX3 15 "CellarPushers$Scene" "barrels" "J", Cond.static yX8_has, Cond.code yX8_has cX8_has 3 (some .boolean), Cond.methodLink RX8 253 yX8_isField, Cond.static yX8_isField, Cond.code yX8_isField cX8_isField 1 (some .boolean), Cond.methodLink RX8 263 yX8_opposite, Cond.static yX8_opposite, Cond.code yX8_opposite cX8_opposite 1 (some .int), Cond.methodLink RX8 266 yX0_beside, Cond.instanceMethod yX0_beside, Cond.selects RX0 yX0_beside yX0_beside, Cond.code yX0_beside cX0_beside 3 (some .int), Cond.methodLink RX0 51 yX0_numberOf, Cond.methodLink RX8 151 yX8_tryWalk, Cond.instanceMethod yX8_tryWalk, Cond.selects RX8 yX8_tryWalk yX8_tryWalk, Cond.code yX8_tryWalk cX8_tryWalk 3 (some .int), Cond.fieldLink RX8 38 "CellarPushers" "walks" "LCellarPushers$Walks;", Cond.fieldLink RX8 126 "CellarPushers$Scene" "manAt" "I", Cond.fieldLink RX8 241 "CellarPushers$Scene" "stepsDone" "I", Cond.methodLink RX8 164 yX6_measure, Cond.instanceMethod yX6_measure, Cond.selects RX6 yX6_measure yX6_measure]
def wsX8_tryPush_r3 : List Cond := [Cond.initialized RX6, Cond.code yX6_measure cX6_measure 7 none, Cond.fieldLink RX6 9 "CellarPushers$Walks" "far" "[I", Cond.fieldLink RX6 24 "CellarPushers$Walks" "reached" "I", Cond.fieldLink RX6 28 "CellarPushers$Scene" "manAt" "I", Cond.fieldLink RX6 15 "CellarPushers$Walks" "queue" "[I", Cond.methodLink RX6 18 yJ7_fill_53178, Cond.static yJ7_fill_53178, Cond.initialized RJ7, Cond.code yJ7_fill_53178 cJ7_fill_53178 4 none, Cond.methodLink RX6 33 yX6_reach, Cond.instanceMethod yX6_reach, Cond.selects RX6 yX6_reach yX6_reach, Cond.code yX6_reach cX6_reach 3 none, Cond.methodLink RX6 37 yX0_beside, Cond.methodLink RX6 43 yX0_manMayCome, Cond.instanceMethod yX0_manMayCome, Cond.selects RX0 yX0_manMayCome yX0_manMayCome, Cond.code yX0_manMayCome cX0_manMayCome 4 (some .boolean), Cond.methodLink RX0 54 yX0_kindNow, Cond.instanceMethod yX0_kindNow, Cond.selects RX0 yX0_kindNow yX0_kindNow, Cond.code yX0_kindNow cX0_kindNow 2 (some .int), Cond.fieldLink RX0 34 "CellarPushers$Ground" "missing" "[Z"]
def wsX8_tryPush_r4 : List Cond := [Cond.fieldLink RX0 27 "CellarPushers$Ground" "kinds" "[I", Cond.methodLink RX0 58 yX0_rampWay, Cond.instanceMethod yX0_rampWay, Cond.selects RX0 yX0_rampWay yX0_rampWay, Cond.code yX0_rampWay cX0_rampWay 2 (some .int), Cond.fieldLink RX0 31 "CellarPushers$Ground" "rampWays" "[I", Cond.methodLink RX6 47 yX3_hasBarrel, Cond.methodLink RX6 51 yX6_stepsTo, Cond.instanceMethod yX6_stepsTo, Cond.selects RX6 yX6_stepsTo yX6_stepsTo, Cond.code yX6_stepsTo cX6_stepsTo 2 (some .int), Cond.methodLink RX8 168 yX6_stepsTo, Cond.methodLink RX8 140 yX3_become, Cond.instanceMethod yX3_become, Cond.selects RX3 yX3_become yX3_become, Cond.code yX3_become cX3_become 2 none, Cond.fieldLink RX3 19 "CellarPushers$Scene" "stepsDone" "I", Cond.fieldLink RX3 22 "CellarPushers$Scene" "pushesDone" "I", Cond.methodLink RX8 144 yX3_advance, Cond.instanceMethod yX3_advance, Cond.selects RX3 yX3_advance yX3_advance, Cond.code yX3_advance cX3_advance 6 (some .int), Cond.methodLink RX3 33 yX3_hasMan, Cond.methodLink RX3 40 yX0_beside]
def wsX8_tryPush_r5 : List Cond := [Cond.methodLink RX3 29 yX3_hasBarrel, Cond.methodLink RX3 46 yX0_manMayCome, Cond.methodLink RX3 50 yX3_roll, Cond.instanceMethod yX3_roll, Cond.selects RX3 yX3_roll yX3_roll, Cond.code yX3_roll cX3_roll 7 (some .int), Cond.methodLink RX3 67 yX0_rollsOn, Cond.instanceMethod yX0_rollsOn, Cond.selects RX0 yX0_rollsOn yX0_rollsOn, Cond.code yX0_rollsOn cX0_rollsOn 3 (some .boolean), Cond.methodLink RX3 70 yX0_barrelMayCome, Cond.instanceMethod yX0_barrelMayCome, Cond.selects RX0 yX0_barrelMayCome yX0_barrelMayCome, Cond.code yX0_barrelMayCome cX0_barrelMayCome 4 (some .boolean), Cond.static yX8_with, Cond.code yX8_with cX8_with 6 (some .long), Cond.constantLong RX8 196 (-1)]
def wsX8_tryPush : List Cond := .code yX8_tryPush cX8_tryPush 5 (some .int) :: ((wsX8_tryPush_r1 ++ (wsX8_tryPush_r2 ++ (wsX8_tryPush_r3 ++ (wsX8_tryPush_r4 ++ wsX8_tryPush_r5)))) ++ wsX80 ++ wsX00 ++ wsX30 ++ wsX60)
def wsX8_push_r1 : List Cond := [Cond.methodLink RX8 154 yX8_tryPush, Cond.instanceMethod yX8_tryPush, Cond.selects RX8 yX8_tryPush yX8_tryPush, Cond.initialized RX8, Cond.code yX8_tryPush cX8_tryPush 5 (some .int), Cond.fieldLink RX8 12 "CellarPushers" "ground" "LCellarPushers$Ground;", Cond.fieldLink RX8 21 "CellarPushers" "scene" "LCellarPushers$Scene;", Cond.fieldLink RX8 25 "CellarPushers" "trial" "LCellarPushers$Scene;", Cond.methodLink RX8 77 yX0_numberOf, Cond.instanceMethod yX0_numberOf, Cond.selects RX0 yX0_numberOf yX0_numberOf, Cond.initialized RX0, Cond.code yX0_numberOf cX0_numberOf 4 (some .int), Cond.fieldLink RX0 18 "CellarPushers$Ground" "width" "I", Cond.fieldLink RX0 24 "CellarPushers$Ground" "height" "I", Cond.methodLink RX8 122 yX3_hasMan, Cond.instanceMethod yX3_hasMan, Cond.selects RX3 yX3_hasMan yX3_hasMan, Cond.initialized RX3, Cond.code yX3_hasMan cX3_hasMan 1 (some .boolean), Cond.fieldLink RX3 9 "CellarPushers$Scene" "manAt" "I", Cond.methodLink RX8 81 yX8_isWay, Cond.static yX8_isWay, Cond.code yX8_isWay cX8_isWay 1 (some .boolean)]
def wsX8_push_r2 : List Cond := [Cond.methodLink RX8 108 yX3_hasBarrel, Cond.instanceMethod yX3_hasBarrel, Cond.selects RX3 yX3_hasBarrel yX3_hasBarrel, Cond.code yX3_hasBarrel cX3_hasBarrel 2 (some .boolean), Cond.fieldLink RX3 15 "CellarPushers$Scene" "barrels" "J", Cond.static yX8_has, Cond.code yX8_has cX8_has 3 (some .boolean), Cond.methodLink RX8 253 yX8_isField, Cond.static yX8_isField, Cond.code yX8_isField cX8_isField 1 (some .boolean), Cond.methodLink RX8 263 yX8_opposite, Cond.static yX8_opposite, Cond.code yX8_opposite cX8_opposite 1 (some .int), Cond.methodLink RX8 266 yX0_beside, Cond.instanceMethod yX0_beside, Cond.selects RX0 yX0_beside yX0_beside, Cond.code yX0_beside cX0_beside 3 (some .int), Cond.methodLink RX0 51 yX0_numberOf, Cond.methodLink RX8 151 yX8_tryWalk, Cond.instanceMethod yX8_tryWalk, Cond.selects RX8 yX8_tryWalk yX8_tryWalk, Cond.code yX8_tryWalk cX8_tryWalk 3 (some .int), Cond.fieldLink RX8 38 "CellarPushers" "walks" "LCellarPushers$Walks;", Cond.fieldLink RX8 126 "CellarPushers$Scene" "manAt" "I"]
def wsX8_push_r3 : List Cond := [Cond.fieldLink RX8 241 "CellarPushers$Scene" "stepsDone" "I", Cond.methodLink RX8 164 yX6_measure, Cond.instanceMethod yX6_measure, Cond.selects RX6 yX6_measure yX6_measure, Cond.initialized RX6, Cond.code yX6_measure cX6_measure 7 none, Cond.fieldLink RX6 9 "CellarPushers$Walks" "far" "[I", Cond.fieldLink RX6 24 "CellarPushers$Walks" "reached" "I", Cond.fieldLink RX6 28 "CellarPushers$Scene" "manAt" "I", Cond.fieldLink RX6 15 "CellarPushers$Walks" "queue" "[I", Cond.methodLink RX6 18 yJ7_fill_53178, Cond.static yJ7_fill_53178, Cond.initialized RJ7, Cond.code yJ7_fill_53178 cJ7_fill_53178 4 none, Cond.methodLink RX6 33 yX6_reach, Cond.instanceMethod yX6_reach, Cond.selects RX6 yX6_reach yX6_reach, Cond.code yX6_reach cX6_reach 3 none, Cond.methodLink RX6 37 yX0_beside, Cond.methodLink RX6 43 yX0_manMayCome, Cond.instanceMethod yX0_manMayCome, Cond.selects RX0 yX0_manMayCome yX0_manMayCome, Cond.code yX0_manMayCome cX0_manMayCome 4 (some .boolean), Cond.methodLink RX0 54 yX0_kindNow]
def wsX8_push_r4 : List Cond := [Cond.instanceMethod yX0_kindNow, Cond.selects RX0 yX0_kindNow yX0_kindNow, Cond.code yX0_kindNow cX0_kindNow 2 (some .int), Cond.fieldLink RX0 34 "CellarPushers$Ground" "missing" "[Z", Cond.fieldLink RX0 27 "CellarPushers$Ground" "kinds" "[I", Cond.methodLink RX0 58 yX0_rampWay, Cond.instanceMethod yX0_rampWay, Cond.selects RX0 yX0_rampWay yX0_rampWay, Cond.code yX0_rampWay cX0_rampWay 2 (some .int), Cond.fieldLink RX0 31 "CellarPushers$Ground" "rampWays" "[I", Cond.methodLink RX6 47 yX3_hasBarrel, Cond.methodLink RX6 51 yX6_stepsTo, Cond.instanceMethod yX6_stepsTo, Cond.selects RX6 yX6_stepsTo yX6_stepsTo, Cond.code yX6_stepsTo cX6_stepsTo 2 (some .int), Cond.methodLink RX8 168 yX6_stepsTo, Cond.methodLink RX8 140 yX3_become, Cond.instanceMethod yX3_become, Cond.selects RX3 yX3_become yX3_become, Cond.code yX3_become cX3_become 2 none, Cond.fieldLink RX3 19 "CellarPushers$Scene" "stepsDone" "I", Cond.fieldLink RX3 22 "CellarPushers$Scene" "pushesDone" "I", Cond.methodLink RX8 144 yX3_advance, Cond.instanceMethod yX3_advance]
def wsX8_push_r5 : List Cond := [Cond.selects RX3 yX3_advance yX3_advance, Cond.code yX3_advance cX3_advance 6 (some .int), Cond.methodLink RX3 33 yX3_hasMan, Cond.methodLink RX3 40 yX0_beside, Cond.methodLink RX3 29 yX3_hasBarrel, Cond.methodLink RX3 46 yX0_manMayCome, Cond.methodLink RX3 50 yX3_roll, Cond.instanceMethod yX3_roll, Cond.selects RX3 yX3_roll yX3_roll, Cond.code yX3_roll cX3_roll 7 (some .int), Cond.methodLink RX3 67 yX0_rollsOn, Cond.instanceMethod yX0_rollsOn, Cond.selects RX0 yX0_rollsOn yX0_rollsOn, Cond.code yX0_rollsOn cX0_rollsOn 3 (some .boolean), Cond.methodLink RX3 70 yX0_barrelMayCome, Cond.instanceMethod yX0_barrelMayCome, Cond.selects RX0 yX0_barrelMayCome yX0_barrelMayCome, Cond.code yX0_barrelMayCome cX0_barrelMayCome 4 (some .boolean), Cond.static yX8_with, Cond.code yX8_with cX8_with 6 (some .long), Cond.constantLong RX8 196 (-1), Cond.methodLink RX8 148 yX8_act, Cond.instanceMethod yX8_act, Cond.selects RX8 yX8_act yX8_act]
def wsX8_push_r6 : List Cond := [Cond.code yX8_act cX8_act 2 (some .int), Cond.fieldLink RX8 31 "CellarPushers" "timeline" "LCellarPushers$Timeline;", Cond.methodLink RX8 259 yX5_record, Cond.instanceMethod yX5_record, Cond.selects RX5 yX5_record yX5_record, Cond.initialized RX5, Cond.code yX5_record cX5_record 3 none, Cond.fieldLink RX5 25 "CellarPushers$Timeline" "now" "I", Cond.fieldLink RX5 29 "CellarPushers$Timeline" "last" "I", Cond.methodLink RX5 32 yX5_keep, Cond.instanceMethod yX5_keep, Cond.selects RX5 yX5_keep yX5_keep, Cond.code yX5_keep cX5_keep 3 none, Cond.fieldLink RX5 9 "CellarPushers$Timeline" "men" "[I", Cond.fieldLink RX5 39 "CellarPushers$Scene" "manAt" "I", Cond.fieldLink RX5 15 "CellarPushers$Timeline" "barrels" "[J", Cond.fieldLink RX5 44 "CellarPushers$Scene" "barrels" "J", Cond.fieldLink RX5 19 "CellarPushers$Timeline" "steps" "[I", Cond.fieldLink RX5 47 "CellarPushers$Scene" "stepsDone" "I", Cond.fieldLink RX5 22 "CellarPushers$Timeline" "pushes" "[I", Cond.fieldLink RX5 50 "CellarPushers$Scene" "pushesDone" "I"]
def wsX8_push : List Cond := .code yX8_push cX8_push 4 (some .int) :: ((wsX8_push_r1 ++ (wsX8_push_r2 ++ (wsX8_push_r3 ++ (wsX8_push_r4 ++ (wsX8_push_r5 ++ wsX8_push_r6))))) ++ wsX80 ++ wsX00 ++ wsX30 ++ wsX60 ++ wsX50)
def wsX8_can_r1 : List Cond := [Cond.methodLink RX8 154 yX8_tryPush, Cond.instanceMethod yX8_tryPush, Cond.selects RX8 yX8_tryPush yX8_tryPush, Cond.initialized RX8, Cond.code yX8_tryPush cX8_tryPush 5 (some .int), Cond.fieldLink RX8 12 "CellarPushers" "ground" "LCellarPushers$Ground;", Cond.fieldLink RX8 21 "CellarPushers" "scene" "LCellarPushers$Scene;", Cond.fieldLink RX8 25 "CellarPushers" "trial" "LCellarPushers$Scene;", Cond.methodLink RX8 77 yX0_numberOf, Cond.instanceMethod yX0_numberOf, Cond.selects RX0 yX0_numberOf yX0_numberOf, Cond.initialized RX0, Cond.code yX0_numberOf cX0_numberOf 4 (some .int), Cond.fieldLink RX0 18 "CellarPushers$Ground" "width" "I", Cond.fieldLink RX0 24 "CellarPushers$Ground" "height" "I", Cond.methodLink RX8 122 yX3_hasMan, Cond.instanceMethod yX3_hasMan, Cond.selects RX3 yX3_hasMan yX3_hasMan, Cond.initialized RX3, Cond.code yX3_hasMan cX3_hasMan 1 (some .boolean), Cond.fieldLink RX3 9 "CellarPushers$Scene" "manAt" "I", Cond.methodLink RX8 81 yX8_isWay, Cond.static yX8_isWay, Cond.code yX8_isWay cX8_isWay 1 (some .boolean)]
def wsX8_can_r2 : List Cond := [Cond.methodLink RX8 108 yX3_hasBarrel, Cond.instanceMethod yX3_hasBarrel, Cond.selects RX3 yX3_hasBarrel yX3_hasBarrel, Cond.code yX3_hasBarrel cX3_hasBarrel 2 (some .boolean), Cond.fieldLink RX3 15 "CellarPushers$Scene" "barrels" "J", Cond.static yX8_has, Cond.code yX8_has cX8_has 3 (some .boolean), Cond.methodLink RX8 253 yX8_isField, Cond.static yX8_isField, Cond.code yX8_isField cX8_isField 1 (some .boolean), Cond.methodLink RX8 263 yX8_opposite, Cond.static yX8_opposite, Cond.code yX8_opposite cX8_opposite 1 (some .int), Cond.methodLink RX8 266 yX0_beside, Cond.instanceMethod yX0_beside, Cond.selects RX0 yX0_beside yX0_beside, Cond.code yX0_beside cX0_beside 3 (some .int), Cond.methodLink RX0 51 yX0_numberOf, Cond.methodLink RX8 151 yX8_tryWalk, Cond.instanceMethod yX8_tryWalk, Cond.selects RX8 yX8_tryWalk yX8_tryWalk, Cond.code yX8_tryWalk cX8_tryWalk 3 (some .int), Cond.fieldLink RX8 38 "CellarPushers" "walks" "LCellarPushers$Walks;", Cond.fieldLink RX8 126 "CellarPushers$Scene" "manAt" "I"]
def wsX8_can_r3 : List Cond := [Cond.fieldLink RX8 241 "CellarPushers$Scene" "stepsDone" "I", Cond.methodLink RX8 164 yX6_measure, Cond.instanceMethod yX6_measure, Cond.selects RX6 yX6_measure yX6_measure, Cond.initialized RX6, Cond.code yX6_measure cX6_measure 7 none, Cond.fieldLink RX6 9 "CellarPushers$Walks" "far" "[I", Cond.fieldLink RX6 24 "CellarPushers$Walks" "reached" "I", Cond.fieldLink RX6 28 "CellarPushers$Scene" "manAt" "I", Cond.fieldLink RX6 15 "CellarPushers$Walks" "queue" "[I", Cond.methodLink RX6 18 yJ7_fill_53178, Cond.static yJ7_fill_53178, Cond.initialized RJ7, Cond.code yJ7_fill_53178 cJ7_fill_53178 4 none, Cond.methodLink RX6 33 yX6_reach, Cond.instanceMethod yX6_reach, Cond.selects RX6 yX6_reach yX6_reach, Cond.code yX6_reach cX6_reach 3 none, Cond.methodLink RX6 37 yX0_beside, Cond.methodLink RX6 43 yX0_manMayCome, Cond.instanceMethod yX0_manMayCome, Cond.selects RX0 yX0_manMayCome yX0_manMayCome, Cond.code yX0_manMayCome cX0_manMayCome 4 (some .boolean), Cond.methodLink RX0 54 yX0_kindNow]
def wsX8_can_r4 : List Cond := [Cond.instanceMethod yX0_kindNow, Cond.selects RX0 yX0_kindNow yX0_kindNow, Cond.code yX0_kindNow cX0_kindNow 2 (some .int), Cond.fieldLink RX0 34 "CellarPushers$Ground" "missing" "[Z", Cond.fieldLink RX0 27 "CellarPushers$Ground" "kinds" "[I", Cond.methodLink RX0 58 yX0_rampWay, Cond.instanceMethod yX0_rampWay, Cond.selects RX0 yX0_rampWay yX0_rampWay, Cond.code yX0_rampWay cX0_rampWay 2 (some .int), Cond.fieldLink RX0 31 "CellarPushers$Ground" "rampWays" "[I", Cond.methodLink RX6 47 yX3_hasBarrel, Cond.methodLink RX6 51 yX6_stepsTo, Cond.instanceMethod yX6_stepsTo, Cond.selects RX6 yX6_stepsTo yX6_stepsTo, Cond.code yX6_stepsTo cX6_stepsTo 2 (some .int), Cond.methodLink RX8 168 yX6_stepsTo, Cond.methodLink RX8 140 yX3_become, Cond.instanceMethod yX3_become, Cond.selects RX3 yX3_become yX3_become, Cond.code yX3_become cX3_become 2 none, Cond.fieldLink RX3 19 "CellarPushers$Scene" "stepsDone" "I", Cond.fieldLink RX3 22 "CellarPushers$Scene" "pushesDone" "I", Cond.methodLink RX8 144 yX3_advance, Cond.instanceMethod yX3_advance]
def wsX8_can_r5 : List Cond := [Cond.selects RX3 yX3_advance yX3_advance, Cond.code yX3_advance cX3_advance 6 (some .int), Cond.methodLink RX3 33 yX3_hasMan, Cond.methodLink RX3 40 yX0_beside, Cond.methodLink RX3 29 yX3_hasBarrel, Cond.methodLink RX3 46 yX0_manMayCome, Cond.methodLink RX3 50 yX3_roll, Cond.instanceMethod yX3_roll, Cond.selects RX3 yX3_roll yX3_roll, Cond.code yX3_roll cX3_roll 7 (some .int), Cond.methodLink RX3 67 yX0_rollsOn, Cond.instanceMethod yX0_rollsOn, Cond.selects RX0 yX0_rollsOn yX0_rollsOn, Cond.code yX0_rollsOn cX0_rollsOn 3 (some .boolean), Cond.methodLink RX3 70 yX0_barrelMayCome, Cond.instanceMethod yX0_barrelMayCome, Cond.selects RX0 yX0_barrelMayCome yX0_barrelMayCome, Cond.code yX0_barrelMayCome cX0_barrelMayCome 4 (some .boolean), Cond.static yX8_with, Cond.code yX8_with cX8_with 6 (some .long), Cond.constantLong RX8 196 (-1)]
def wsX8_can : List Cond := .code yX8_can cX8_can 4 (some .int) :: ((wsX8_can_r1 ++ (wsX8_can_r2 ++ (wsX8_can_r3 ++ (wsX8_can_r4 ++ wsX8_can_r5)))) ++ wsX80 ++ wsX00 ++ wsX30 ++ wsX60)
def wsX8_undo : List Cond := .code yX8_undo cX8_undo 1 (some .int) :: ([.fieldLink RX8 31 "CellarPushers" "timeline" "LCellarPushers$Timeline;", .fieldLink RX8 21 "CellarPushers" "scene" "LCellarPushers$Scene;", .methodLink RX8 157 yX5_goBack, .instanceMethod yX5_goBack, .selects RX5 yX5_goBack yX5_goBack, .initialized RX5, .code yX5_goBack cX5_goBack 2 (some .int), .fieldLink RX5 25 "CellarPushers$Timeline" "now" "I", .methodLink RX5 36 yX5_bring, .instanceMethod yX5_bring, .selects RX5 yX5_bring yX5_bring, .code yX5_bring cX5_bring 3 none, .fieldLink RX5 9 "CellarPushers$Timeline" "men" "[I", .fieldLink RX5 39 "CellarPushers$Scene" "manAt" "I", .fieldLink RX5 15 "CellarPushers$Timeline" "barrels" "[J", .fieldLink RX5 44 "CellarPushers$Scene" "barrels" "J", .fieldLink RX5 19 "CellarPushers$Timeline" "steps" "[I", .fieldLink RX5 47 "CellarPushers$Scene" "stepsDone" "I", .fieldLink RX5 22 "CellarPushers$Timeline" "pushes" "[I", .fieldLink RX5 50 "CellarPushers$Scene" "pushesDone" "I"] ++ wsX80 ++ wsX50 ++ wsX30)
def wsX8_redo : List Cond := .code yX8_redo cX8_redo 1 (some .int) :: ([.fieldLink RX8 31 "CellarPushers" "timeline" "LCellarPushers$Timeline;", .fieldLink RX8 21 "CellarPushers" "scene" "LCellarPushers$Scene;", .methodLink RX8 161 yX5_goForth, .instanceMethod yX5_goForth, .selects RX5 yX5_goForth yX5_goForth, .initialized RX5, .code yX5_goForth cX5_goForth 2 (some .int), .fieldLink RX5 25 "CellarPushers$Timeline" "now" "I", .fieldLink RX5 29 "CellarPushers$Timeline" "last" "I", .methodLink RX5 36 yX5_bring, .instanceMethod yX5_bring, .selects RX5 yX5_bring yX5_bring, .code yX5_bring cX5_bring 3 none, .fieldLink RX5 9 "CellarPushers$Timeline" "men" "[I", .fieldLink RX5 39 "CellarPushers$Scene" "manAt" "I", .fieldLink RX5 15 "CellarPushers$Timeline" "barrels" "[J", .fieldLink RX5 44 "CellarPushers$Scene" "barrels" "J", .fieldLink RX5 19 "CellarPushers$Timeline" "steps" "[I", .fieldLink RX5 47 "CellarPushers$Scene" "stepsDone" "I", .fieldLink RX5 22 "CellarPushers$Timeline" "pushes" "[I", .fieldLink RX5 50 "CellarPushers$Scene" "pushesDone" "I"] ++ wsX80 ++ wsX50 ++ wsX30)
def wsX8_kind : List Cond := .code yX8_kind cX8_kind 4 (some .int) :: ([.fieldLink RX8 12 "CellarPushers" "ground" "LCellarPushers$Ground;", .methodLink RX8 77 yX0_numberOf, .instanceMethod yX0_numberOf, .selects RX0 yX0_numberOf yX0_numberOf, .initialized RX0, .code yX0_numberOf cX0_numberOf 4 (some .int), .fieldLink RX0 18 "CellarPushers$Ground" "width" "I", .fieldLink RX0 24 "CellarPushers$Ground" "height" "I", .methodLink RX8 129 yX0_kindNow, .instanceMethod yX0_kindNow, .selects RX0 yX0_kindNow yX0_kindNow, .code yX0_kindNow cX0_kindNow 2 (some .int), .fieldLink RX0 34 "CellarPushers$Ground" "missing" "[Z", .fieldLink RX0 27 "CellarPushers$Ground" "kinds" "[I"] ++ wsX80 ++ wsX00)
def wsX8_on : List Cond := .code yX8_on cX8_on 5 (some .int) :: ([.fieldLink RX8 12 "CellarPushers" "ground" "LCellarPushers$Ground;", .fieldLink RX8 21 "CellarPushers" "scene" "LCellarPushers$Scene;", .fieldLink RX8 126 "CellarPushers$Scene" "manAt" "I", .fieldLink RX8 133 "CellarPushers$Ground" "wanted" "J", .methodLink RX8 77 yX0_numberOf, .instanceMethod yX0_numberOf, .selects RX0 yX0_numberOf yX0_numberOf, .initialized RX0, .code yX0_numberOf cX0_numberOf 4 (some .int), .fieldLink RX0 18 "CellarPushers$Ground" "width" "I", .fieldLink RX0 24 "CellarPushers$Ground" "height" "I", .methodLink RX8 108 yX3_hasBarrel, .instanceMethod yX3_hasBarrel, .selects RX3 yX3_hasBarrel yX3_hasBarrel, .initialized RX3, .code yX3_hasBarrel cX3_hasBarrel 2 (some .boolean), .fieldLink RX3 15 "CellarPushers$Scene" "barrels" "J", .static yX8_has, .initialized RX8, .code yX8_has cX8_has 3 (some .boolean), .methodLink RX8 253 yX8_isField, .static yX8_isField, .code yX8_isField cX8_isField 1 (some .boolean), .methodLink RX8 136 yX8_has] ++ wsX80 ++ wsX30 ++ wsX00)
def wsX8_far_r1 : List Cond := [Cond.fieldLink RX8 12 "CellarPushers" "ground" "LCellarPushers$Ground;", Cond.fieldLink RX8 21 "CellarPushers" "scene" "LCellarPushers$Scene;", Cond.fieldLink RX8 38 "CellarPushers" "walks" "LCellarPushers$Walks;", Cond.methodLink RX8 77 yX0_numberOf, Cond.instanceMethod yX0_numberOf, Cond.selects RX0 yX0_numberOf yX0_numberOf, Cond.initialized RX0, Cond.code yX0_numberOf cX0_numberOf 4 (some .int), Cond.fieldLink RX0 18 "CellarPushers$Ground" "width" "I", Cond.fieldLink RX0 24 "CellarPushers$Ground" "height" "I", Cond.methodLink RX8 122 yX3_hasMan, Cond.instanceMethod yX3_hasMan, Cond.selects RX3 yX3_hasMan yX3_hasMan, Cond.initialized RX3, Cond.code yX3_hasMan cX3_hasMan 1 (some .boolean), Cond.fieldLink RX3 9 "CellarPushers$Scene" "manAt" "I", Cond.methodLink RX8 164 yX6_measure, Cond.instanceMethod yX6_measure, Cond.selects RX6 yX6_measure yX6_measure, Cond.initialized RX6, Cond.code yX6_measure cX6_measure 7 none, Cond.fieldLink RX6 9 "CellarPushers$Walks" "far" "[I", Cond.fieldLink RX6 24 "CellarPushers$Walks" "reached" "I", Cond.fieldLink RX6 28 "CellarPushers$Scene" "manAt" "I"]
def wsX8_far_r2 : List Cond := [Cond.fieldLink RX6 15 "CellarPushers$Walks" "queue" "[I", Cond.methodLink RX6 18 yJ7_fill_53178, Cond.static yJ7_fill_53178, Cond.initialized RJ7, Cond.code yJ7_fill_53178 cJ7_fill_53178 4 none, Cond.methodLink RX6 33 yX6_reach, Cond.instanceMethod yX6_reach, Cond.selects RX6 yX6_reach yX6_reach, Cond.code yX6_reach cX6_reach 3 none, Cond.static yX8_isField, Cond.initialized RX8, Cond.code yX8_isField cX8_isField 1 (some .boolean), Cond.methodLink RX6 37 yX0_beside, Cond.instanceMethod yX0_beside, Cond.selects RX0 yX0_beside yX0_beside, Cond.code yX0_beside cX0_beside 3 (some .int), Cond.static yX8_isWay, Cond.code yX8_isWay cX8_isWay 1 (some .boolean), Cond.methodLink RX0 51 yX0_numberOf, Cond.methodLink RX6 43 yX0_manMayCome, Cond.instanceMethod yX0_manMayCome, Cond.selects RX0 yX0_manMayCome yX0_manMayCome, Cond.code yX0_manMayCome cX0_manMayCome 4 (some .boolean), Cond.methodLink RX0 54 yX0_kindNow]
def wsX8_far_r3 : List Cond := [Cond.instanceMethod yX0_kindNow, Cond.selects RX0 yX0_kindNow yX0_kindNow, Cond.code yX0_kindNow cX0_kindNow 2 (some .int), Cond.fieldLink RX0 34 "CellarPushers$Ground" "missing" "[Z", Cond.fieldLink RX0 27 "CellarPushers$Ground" "kinds" "[I", Cond.methodLink RX0 58 yX0_rampWay, Cond.instanceMethod yX0_rampWay, Cond.selects RX0 yX0_rampWay yX0_rampWay, Cond.code yX0_rampWay cX0_rampWay 2 (some .int), Cond.fieldLink RX0 31 "CellarPushers$Ground" "rampWays" "[I", Cond.methodLink RX6 47 yX3_hasBarrel, Cond.instanceMethod yX3_hasBarrel, Cond.selects RX3 yX3_hasBarrel yX3_hasBarrel, Cond.code yX3_hasBarrel cX3_hasBarrel 2 (some .boolean), Cond.fieldLink RX3 15 "CellarPushers$Scene" "barrels" "J", Cond.static yX8_has, Cond.code yX8_has cX8_has 3 (some .boolean), Cond.methodLink RX8 253 yX8_isField, Cond.methodLink RX6 51 yX6_stepsTo, Cond.instanceMethod yX6_stepsTo, Cond.selects RX6 yX6_stepsTo yX6_stepsTo, Cond.code yX6_stepsTo cX6_stepsTo 2 (some .int), Cond.methodLink RX8 168 yX6_stepsTo]
def wsX8_far : List Cond := .code yX8_far cX8_far 4 (some .int) :: ((wsX8_far_r1 ++ (wsX8_far_r2 ++ wsX8_far_r3)) ++ wsX80 ++ wsX00 ++ wsX30 ++ wsX60)
def wsX8_isDoneIn : List Cond := .code yX8_isDoneIn cX8_isDoneIn 2 (some .boolean) :: ([.fieldLink RX8 12 "CellarPushers" "ground" "LCellarPushers$Ground;", .fieldLink RX8 133 "CellarPushers$Ground" "wanted" "J", .fieldLink RX8 111 "CellarPushers$Scene" "barrels" "J", .constantLong RX8 196 (-1)] ++ wsX80 ++ wsX00 ++ wsX30)
def wsX8_isDone : List Cond := .code yX8_isDone cX8_isDone 1 (some .boolean) :: ([.fieldLink RX8 21 "CellarPushers" "scene" "LCellarPushers$Scene;", .methodLink RX8 171 yX8_isDoneIn, .instanceMethod yX8_isDoneIn, .selects RX8 yX8_isDoneIn yX8_isDoneIn, .initialized RX8, .code yX8_isDoneIn cX8_isDoneIn 2 (some .boolean), .fieldLink RX8 12 "CellarPushers" "ground" "LCellarPushers$Ground;", .fieldLink RX8 133 "CellarPushers$Ground" "wanted" "J", .fieldLink RX8 111 "CellarPushers$Scene" "barrels" "J", .constantLong RX8 196 (-1)] ++ wsX80 ++ wsX00 ++ wsX30)
def wsX8_isReady : List Cond := .code yX8_isReady cX8_isReady 2 (some .boolean) :: ([.fieldLink RX8 21 "CellarPushers" "scene" "LCellarPushers$Scene;", .fieldLink RX8 111 "CellarPushers$Scene" "barrels" "J", .fieldLink RX8 12 "CellarPushers" "ground" "LCellarPushers$Ground;", .fieldLink RX8 133 "CellarPushers$Ground" "wanted" "J", .methodLink RX8 175 yJ13_bitCount_95d88, .static yJ13_bitCount_95d88, .initialized RJ13, .code yJ13_bitCount_95d88 cJ13_bitCount_95d88 2 (some .int), .constantLong RJ13 314 (6148914691236517205), .constantLong RJ13 316 (3689348814741910323), .constantLong RJ13 318 (1085102592571150095), .methodLink RX8 122 yX3_hasMan, .instanceMethod yX3_hasMan, .selects RX3 yX3_hasMan yX3_hasMan, .initialized RX3, .code yX3_hasMan cX3_hasMan 1 (some .boolean), .fieldLink RX3 9 "CellarPushers$Scene" "manAt" "I"] ++ wsX80 ++ wsX30 ++ wsX00)
def wsX8_dead_r1 : List Cond := [Cond.fieldLink RX8 12 "CellarPushers" "ground" "LCellarPushers$Ground;", Cond.fieldLink RX8 45 "CellarPushers" "prices" "LCellarPushers$Prices;", Cond.methodLink RX8 77 yX0_numberOf, Cond.instanceMethod yX0_numberOf, Cond.selects RX0 yX0_numberOf yX0_numberOf, Cond.initialized RX0, Cond.code yX0_numberOf cX0_numberOf 4 (some .int), Cond.fieldLink RX0 18 "CellarPushers$Ground" "width" "I", Cond.fieldLink RX0 24 "CellarPushers$Ground" "height" "I", Cond.methodLink RX8 181 yX2_isDead, Cond.instanceMethod yX2_isDead, Cond.selects RX2 yX2_isDead yX2_isDead, Cond.initialized RX2, Cond.code yX2_isDead cX2_isDead 4 (some .boolean), Cond.fieldLink RX2 50 "CellarPushers$Ground" "wanted" "J", Cond.fieldLink RX2 9 "CellarPushers$Prices" "pushes" "[I", Cond.methodLink RX2 40 yX0_kindNow, Cond.instanceMethod yX0_kindNow, Cond.selects RX0 yX0_kindNow yX0_kindNow, Cond.code yX0_kindNow cX0_kindNow 2 (some .int), Cond.fieldLink RX0 34 "CellarPushers$Ground" "missing" "[Z", Cond.fieldLink RX0 27 "CellarPushers$Ground" "kinds" "[I", Cond.methodLink RX2 46 yX2_measure, Cond.instanceMethod yX2_measure]
def wsX8_dead_r2 : List Cond := [Cond.selects RX2 yX2_measure yX2_measure, Cond.code yX2_measure cX2_measure 5 none, Cond.fieldLink RX2 24 "CellarPushers$Prices" "reached" "I", Cond.fieldLink RX2 15 "CellarPushers$Prices" "queue" "[I", Cond.methodLink RX2 18 yJ7_fill_53178, Cond.static yJ7_fill_53178, Cond.initialized RJ7, Cond.code yJ7_fill_53178 cJ7_fill_53178 4 none, Cond.methodLink RX2 28 yX2_reach, Cond.instanceMethod yX2_reach, Cond.selects RX2 yX2_reach yX2_reach, Cond.code yX2_reach cX2_reach 3 none, Cond.static yX8_isField, Cond.initialized RX8, Cond.code yX8_isField cX8_isField 1 (some .boolean), Cond.methodLink RX2 32 yX2_pushOn, Cond.instanceMethod yX2_pushOn, Cond.selects RX2 yX2_pushOn yX2_pushOn, Cond.code yX2_pushOn cX2_pushOn 7 none, Cond.static yX8_opposite, Cond.code yX8_opposite cX8_opposite 1 (some .int), Cond.methodLink RX2 61 yX0_beside, Cond.instanceMethod yX0_beside, Cond.selects RX0 yX0_beside yX0_beside]
def wsX8_dead_r3 : List Cond := [Cond.code yX0_beside cX0_beside 3 (some .int), Cond.static yX8_isWay, Cond.code yX8_isWay cX8_isWay 1 (some .boolean), Cond.methodLink RX0 51 yX0_numberOf, Cond.methodLink RX2 65 yX0_isForMan, Cond.instanceMethod yX0_isForMan, Cond.selects RX0 yX0_isForMan yX0_isForMan, Cond.code yX0_isForMan cX0_isForMan 3 (some .boolean), Cond.methodLink RX0 54 yX0_kindNow, Cond.methodLink RX2 68 yX0_manMayCome, Cond.instanceMethod yX0_manMayCome, Cond.selects RX0 yX0_manMayCome yX0_manMayCome, Cond.code yX0_manMayCome cX0_manMayCome 4 (some .boolean), Cond.methodLink RX0 58 yX0_rampWay, Cond.instanceMethod yX0_rampWay, Cond.selects RX0 yX0_rampWay yX0_rampWay, Cond.code yX0_rampWay cX0_rampWay 2 (some .int), Cond.fieldLink RX0 31 "CellarPushers$Ground" "rampWays" "[I", Cond.methodLink RX2 72 yX0_barrelMayCome, Cond.instanceMethod yX0_barrelMayCome, Cond.selects RX0 yX0_barrelMayCome yX0_barrelMayCome, Cond.code yX0_barrelMayCome cX0_barrelMayCome 4 (some .boolean), Cond.methodLink RX2 75 yX2_priceTo, Cond.instanceMethod yX2_priceTo]
def wsX8_dead_r4 : List Cond := [Cond.selects RX2 yX2_priceTo yX2_priceTo, Cond.code yX2_priceTo cX2_priceTo 2 (some .int), Cond.methodLink RX2 78 yX0_rollsOn, Cond.instanceMethod yX0_rollsOn, Cond.selects RX0 yX0_rollsOn yX0_rollsOn, Cond.code yX0_rollsOn cX0_rollsOn 3 (some .boolean), Cond.static yX8_has, Cond.code yX8_has cX8_has 3 (some .boolean), Cond.methodLink RX8 253 yX8_isField]
def wsX8_dead : List Cond := .code yX8_dead cX8_dead 4 (some .int) :: ((wsX8_dead_r1 ++ (wsX8_dead_r2 ++ (wsX8_dead_r3 ++ wsX8_dead_r4))) ++ wsX80 ++ wsX00 ++ wsX20)
def wsX8_holds_r1 : List Cond := [Cond.fieldLink RX8 12 "CellarPushers" "ground" "LCellarPushers$Ground;", Cond.methodLink RX8 266 yX0_beside, Cond.instanceMethod yX0_beside, Cond.selects RX0 yX0_beside yX0_beside, Cond.initialized RX0, Cond.code yX0_beside cX0_beside 3 (some .int), Cond.static yX8_isField, Cond.initialized RX8, Cond.code yX8_isField cX8_isField 1 (some .boolean), Cond.static yX8_isWay, Cond.code yX8_isWay cX8_isWay 1 (some .boolean), Cond.methodLink RX0 51 yX0_numberOf, Cond.instanceMethod yX0_numberOf, Cond.selects RX0 yX0_numberOf yX0_numberOf, Cond.code yX0_numberOf cX0_numberOf 4 (some .int), Cond.fieldLink RX0 18 "CellarPushers$Ground" "width" "I", Cond.fieldLink RX0 24 "CellarPushers$Ground" "height" "I", Cond.methodLink RX8 129 yX0_kindNow, Cond.instanceMethod yX0_kindNow, Cond.selects RX0 yX0_kindNow yX0_kindNow, Cond.code yX0_kindNow cX0_kindNow 2 (some .int), Cond.fieldLink RX0 34 "CellarPushers$Ground" "missing" "[Z", Cond.fieldLink RX0 27 "CellarPushers$Ground" "kinds" "[I", Cond.methodLink RX8 136 yX8_has]
def wsX8_holds_r2 : List Cond := [Cond.static yX8_has, Cond.code yX8_has cX8_has 3 (some .boolean), Cond.methodLink RX8 253 yX8_isField]
def wsX8_holds : List Cond := .code yX8_holds cX8_holds 6 (some .boolean) :: ((wsX8_holds_r1 ++ wsX8_holds_r2) ++ wsX80 ++ wsX00)
def wsX8_isHeldBy_r1 : List Cond := [Cond.fieldLink RX8 12 "CellarPushers" "ground" "LCellarPushers$Ground;", Cond.methodLink RX8 129 yX0_kindNow, Cond.instanceMethod yX0_kindNow, Cond.selects RX0 yX0_kindNow yX0_kindNow, Cond.initialized RX0, Cond.code yX0_kindNow cX0_kindNow 2 (some .int), Cond.fieldLink RX0 34 "CellarPushers$Ground" "missing" "[Z", Cond.fieldLink RX0 27 "CellarPushers$Ground" "kinds" "[I", Cond.methodLink RX8 272 yX8_holds, Cond.instanceMethod yX8_holds, Cond.selects RX8 yX8_holds yX8_holds, Cond.initialized RX8, Cond.code yX8_holds cX8_holds 6 (some .boolean), Cond.methodLink RX8 266 yX0_beside, Cond.instanceMethod yX0_beside, Cond.selects RX0 yX0_beside yX0_beside, Cond.code yX0_beside cX0_beside 3 (some .int), Cond.static yX8_isField, Cond.code yX8_isField cX8_isField 1 (some .boolean), Cond.static yX8_isWay, Cond.code yX8_isWay cX8_isWay 1 (some .boolean), Cond.methodLink RX0 51 yX0_numberOf, Cond.instanceMethod yX0_numberOf, Cond.selects RX0 yX0_numberOf yX0_numberOf]
def wsX8_isHeldBy_r2 : List Cond := [Cond.code yX0_numberOf cX0_numberOf 4 (some .int), Cond.fieldLink RX0 18 "CellarPushers$Ground" "width" "I", Cond.fieldLink RX0 24 "CellarPushers$Ground" "height" "I", Cond.methodLink RX8 136 yX8_has, Cond.static yX8_has, Cond.code yX8_has cX8_has 3 (some .boolean), Cond.methodLink RX8 253 yX8_isField]
def wsX8_isHeldBy : List Cond := .code yX8_isHeldBy cX8_isHeldBy 6 (some .boolean) :: ((wsX8_isHeldBy_r1 ++ wsX8_isHeldBy_r2) ++ wsX80 ++ wsX00)
def wsX8_heldBarrels_r1 : List Cond := [Cond.fieldLink RX8 21 "CellarPushers" "scene" "LCellarPushers$Scene;", Cond.fieldLink RX8 111 "CellarPushers$Scene" "barrels" "J", Cond.methodLink RX8 136 yX8_has, Cond.static yX8_has, Cond.initialized RX8, Cond.code yX8_has cX8_has 3 (some .boolean), Cond.methodLink RX8 253 yX8_isField, Cond.static yX8_isField, Cond.code yX8_isField cX8_isField 1 (some .boolean), Cond.methodLink RX8 269 yX8_isHeldBy, Cond.instanceMethod yX8_isHeldBy, Cond.selects RX8 yX8_isHeldBy yX8_isHeldBy, Cond.code yX8_isHeldBy cX8_isHeldBy 6 (some .boolean), Cond.fieldLink RX8 12 "CellarPushers" "ground" "LCellarPushers$Ground;", Cond.methodLink RX8 129 yX0_kindNow, Cond.instanceMethod yX0_kindNow, Cond.selects RX0 yX0_kindNow yX0_kindNow, Cond.initialized RX0, Cond.code yX0_kindNow cX0_kindNow 2 (some .int), Cond.fieldLink RX0 34 "CellarPushers$Ground" "missing" "[Z", Cond.fieldLink RX0 27 "CellarPushers$Ground" "kinds" "[I", Cond.methodLink RX8 272 yX8_holds, Cond.instanceMethod yX8_holds, Cond.selects RX8 yX8_holds yX8_holds]
def wsX8_heldBarrels_r2 : List Cond := [Cond.code yX8_holds cX8_holds 6 (some .boolean), Cond.methodLink RX8 266 yX0_beside, Cond.instanceMethod yX0_beside, Cond.selects RX0 yX0_beside yX0_beside, Cond.code yX0_beside cX0_beside 3 (some .int), Cond.static yX8_isWay, Cond.code yX8_isWay cX8_isWay 1 (some .boolean), Cond.methodLink RX0 51 yX0_numberOf, Cond.instanceMethod yX0_numberOf, Cond.selects RX0 yX0_numberOf yX0_numberOf, Cond.code yX0_numberOf cX0_numberOf 4 (some .int), Cond.fieldLink RX0 18 "CellarPushers$Ground" "width" "I", Cond.fieldLink RX0 24 "CellarPushers$Ground" "height" "I", Cond.methodLink RX8 115 yX8_with, Cond.static yX8_with, Cond.code yX8_with cX8_with 6 (some .long), Cond.constantLong RX8 196 (-1)]
def wsX8_heldBarrels : List Cond := .code yX8_heldBarrels cX8_heldBarrels 7 (some .long) :: ((wsX8_heldBarrels_r1 ++ wsX8_heldBarrels_r2) ++ wsX80 ++ wsX30 ++ wsX00)
def wsX8_held_r1 : List Cond := [Cond.fieldLink RX8 12 "CellarPushers" "ground" "LCellarPushers$Ground;", Cond.methodLink RX8 77 yX0_numberOf, Cond.instanceMethod yX0_numberOf, Cond.selects RX0 yX0_numberOf yX0_numberOf, Cond.initialized RX0, Cond.code yX0_numberOf cX0_numberOf 4 (some .int), Cond.fieldLink RX0 18 "CellarPushers$Ground" "width" "I", Cond.fieldLink RX0 24 "CellarPushers$Ground" "height" "I", Cond.methodLink RX8 185 yX8_heldBarrels, Cond.instanceMethod yX8_heldBarrels, Cond.selects RX8 yX8_heldBarrels yX8_heldBarrels, Cond.initialized RX8, Cond.code yX8_heldBarrels cX8_heldBarrels 7 (some .long), Cond.fieldLink RX8 21 "CellarPushers" "scene" "LCellarPushers$Scene;", Cond.fieldLink RX8 111 "CellarPushers$Scene" "barrels" "J", Cond.methodLink RX8 136 yX8_has, Cond.static yX8_has, Cond.code yX8_has cX8_has 3 (some .boolean), Cond.methodLink RX8 253 yX8_isField, Cond.static yX8_isField, Cond.code yX8_isField cX8_isField 1 (some .boolean), Cond.methodLink RX8 269 yX8_isHeldBy, Cond.instanceMethod yX8_isHeldBy, Cond.selects RX8 yX8_isHeldBy yX8_isHeldBy]
def wsX8_held_r2 : List Cond := [Cond.code yX8_isHeldBy cX8_isHeldBy 6 (some .boolean), Cond.methodLink RX8 129 yX0_kindNow, Cond.instanceMethod yX0_kindNow, Cond.selects RX0 yX0_kindNow yX0_kindNow, Cond.code yX0_kindNow cX0_kindNow 2 (some .int), Cond.fieldLink RX0 34 "CellarPushers$Ground" "missing" "[Z", Cond.fieldLink RX0 27 "CellarPushers$Ground" "kinds" "[I", Cond.methodLink RX8 272 yX8_holds, Cond.instanceMethod yX8_holds, Cond.selects RX8 yX8_holds yX8_holds, Cond.code yX8_holds cX8_holds 6 (some .boolean), Cond.methodLink RX8 266 yX0_beside, Cond.instanceMethod yX0_beside, Cond.selects RX0 yX0_beside yX0_beside, Cond.code yX0_beside cX0_beside 3 (some .int), Cond.static yX8_isWay, Cond.code yX8_isWay cX8_isWay 1 (some .boolean), Cond.methodLink RX0 51 yX0_numberOf, Cond.methodLink RX8 115 yX8_with, Cond.static yX8_with, Cond.code yX8_with cX8_with 6 (some .long), Cond.constantLong RX8 196 (-1)]
def wsX8_held : List Cond := .code yX8_held cX8_held 4 (some .int) :: ((wsX8_held_r1 ++ wsX8_held_r2) ++ wsX80 ++ wsX00 ++ wsX30)
def wsX8_leastDeadBarrel_r1 : List Cond := [Cond.fieldLink RX8 21 "CellarPushers" "scene" "LCellarPushers$Scene;", Cond.fieldLink RX8 45 "CellarPushers" "prices" "LCellarPushers$Prices;", Cond.fieldLink RX8 12 "CellarPushers" "ground" "LCellarPushers$Ground;", Cond.methodLink RX8 108 yX3_hasBarrel, Cond.instanceMethod yX3_hasBarrel, Cond.selects RX3 yX3_hasBarrel yX3_hasBarrel, Cond.initialized RX3, Cond.code yX3_hasBarrel cX3_hasBarrel 2 (some .boolean), Cond.fieldLink RX3 15 "CellarPushers$Scene" "barrels" "J", Cond.static yX8_has, Cond.initialized RX8, Cond.code yX8_has cX8_has 3 (some .boolean), Cond.methodLink RX8 253 yX8_isField, Cond.static yX8_isField, Cond.code yX8_isField cX8_isField 1 (some .boolean), Cond.methodLink RX8 181 yX2_isDead, Cond.instanceMethod yX2_isDead, Cond.selects RX2 yX2_isDead yX2_isDead, Cond.initialized RX2, Cond.code yX2_isDead cX2_isDead 4 (some .boolean), Cond.fieldLink RX2 50 "CellarPushers$Ground" "wanted" "J", Cond.fieldLink RX2 9 "CellarPushers$Prices" "pushes" "[I", Cond.methodLink RX2 40 yX0_kindNow, Cond.instanceMethod yX0_kindNow]
def wsX8_leastDeadBarrel_r2 : List Cond := [Cond.selects RX0 yX0_kindNow yX0_kindNow, Cond.initialized RX0, Cond.code yX0_kindNow cX0_kindNow 2 (some .int), Cond.fieldLink RX0 34 "CellarPushers$Ground" "missing" "[Z", Cond.fieldLink RX0 27 "CellarPushers$Ground" "kinds" "[I", Cond.methodLink RX2 46 yX2_measure, Cond.instanceMethod yX2_measure, Cond.selects RX2 yX2_measure yX2_measure, Cond.code yX2_measure cX2_measure 5 none, Cond.fieldLink RX2 24 "CellarPushers$Prices" "reached" "I", Cond.fieldLink RX2 15 "CellarPushers$Prices" "queue" "[I", Cond.methodLink RX2 18 yJ7_fill_53178, Cond.static yJ7_fill_53178, Cond.initialized RJ7, Cond.code yJ7_fill_53178 cJ7_fill_53178 4 none, Cond.methodLink RX2 28 yX2_reach, Cond.instanceMethod yX2_reach, Cond.selects RX2 yX2_reach yX2_reach, Cond.code yX2_reach cX2_reach 3 none, Cond.methodLink RX2 32 yX2_pushOn, Cond.instanceMethod yX2_pushOn, Cond.selects RX2 yX2_pushOn yX2_pushOn, Cond.code yX2_pushOn cX2_pushOn 7 none, Cond.static yX8_opposite]
def wsX8_leastDeadBarrel_r3 : List Cond := [Cond.code yX8_opposite cX8_opposite 1 (some .int), Cond.methodLink RX2 61 yX0_beside, Cond.instanceMethod yX0_beside, Cond.selects RX0 yX0_beside yX0_beside, Cond.code yX0_beside cX0_beside 3 (some .int), Cond.static yX8_isWay, Cond.code yX8_isWay cX8_isWay 1 (some .boolean), Cond.methodLink RX0 51 yX0_numberOf, Cond.instanceMethod yX0_numberOf, Cond.selects RX0 yX0_numberOf yX0_numberOf, Cond.code yX0_numberOf cX0_numberOf 4 (some .int), Cond.fieldLink RX0 18 "CellarPushers$Ground" "width" "I", Cond.fieldLink RX0 24 "CellarPushers$Ground" "height" "I", Cond.methodLink RX2 65 yX0_isForMan, Cond.instanceMethod yX0_isForMan, Cond.selects RX0 yX0_isForMan yX0_isForMan, Cond.code yX0_isForMan cX0_isForMan 3 (some .boolean), Cond.methodLink RX0 54 yX0_kindNow, Cond.methodLink RX2 68 yX0_manMayCome, Cond.instanceMethod yX0_manMayCome, Cond.selects RX0 yX0_manMayCome yX0_manMayCome, Cond.code yX0_manMayCome cX0_manMayCome 4 (some .boolean), Cond.methodLink RX0 58 yX0_rampWay, Cond.instanceMethod yX0_rampWay]
def wsX8_leastDeadBarrel_r4 : List Cond := [Cond.selects RX0 yX0_rampWay yX0_rampWay, Cond.code yX0_rampWay cX0_rampWay 2 (some .int), Cond.fieldLink RX0 31 "CellarPushers$Ground" "rampWays" "[I", Cond.methodLink RX2 72 yX0_barrelMayCome, Cond.instanceMethod yX0_barrelMayCome, Cond.selects RX0 yX0_barrelMayCome yX0_barrelMayCome, Cond.code yX0_barrelMayCome cX0_barrelMayCome 4 (some .boolean), Cond.methodLink RX2 75 yX2_priceTo, Cond.instanceMethod yX2_priceTo, Cond.selects RX2 yX2_priceTo yX2_priceTo, Cond.code yX2_priceTo cX2_priceTo 2 (some .int), Cond.methodLink RX2 78 yX0_rollsOn, Cond.instanceMethod yX0_rollsOn, Cond.selects RX0 yX0_rollsOn yX0_rollsOn, Cond.code yX0_rollsOn cX0_rollsOn 3 (some .boolean)]
def wsX8_leastDeadBarrel : List Cond := .code yX8_leastDeadBarrel cX8_leastDeadBarrel 2 (some .int) :: ((wsX8_leastDeadBarrel_r1 ++ (wsX8_leastDeadBarrel_r2 ++ (wsX8_leastDeadBarrel_r3 ++ wsX8_leastDeadBarrel_r4))) ++ wsX80 ++ wsX30 ++ wsX00 ++ wsX20)
def wsX8_leastOf : List Cond := .code yX8_leastOf cX8_leastOf 3 (some .int) :: ([.methodLink RX8 136 yX8_has, .static yX8_has, .initialized RX8, .code yX8_has cX8_has 3 (some .boolean), .methodLink RX8 253 yX8_isField, .static yX8_isField, .code yX8_isField cX8_isField 1 (some .boolean)])
def wsX8_spoilt_r1 : List Cond := [Cond.fieldLink RX8 73 "CellarPushers" "spoiltField" "I", Cond.fieldLink RX8 12 "CellarPushers" "ground" "LCellarPushers$Ground;", Cond.fieldLink RX8 133 "CellarPushers$Ground" "wanted" "J", Cond.constantLong RX8 196 (-1), Cond.methodLink RX8 189 yX8_isReady, Cond.instanceMethod yX8_isReady, Cond.selects RX8 yX8_isReady yX8_isReady, Cond.initialized RX8, Cond.code yX8_isReady cX8_isReady 2 (some .boolean), Cond.fieldLink RX8 21 "CellarPushers" "scene" "LCellarPushers$Scene;", Cond.fieldLink RX8 111 "CellarPushers$Scene" "barrels" "J", Cond.methodLink RX8 175 yJ13_bitCount_95d88, Cond.static yJ13_bitCount_95d88, Cond.initialized RJ13, Cond.code yJ13_bitCount_95d88 cJ13_bitCount_95d88 2 (some .int), Cond.constantLong RJ13 314 (6148914691236517205), Cond.constantLong RJ13 316 (3689348814741910323), Cond.constantLong RJ13 318 (1085102592571150095), Cond.methodLink RX8 122 yX3_hasMan, Cond.instanceMethod yX3_hasMan, Cond.selects RX3 yX3_hasMan yX3_hasMan, Cond.initialized RX3, Cond.code yX3_hasMan cX3_hasMan 1 (some .boolean), Cond.fieldLink RX3 9 "CellarPushers$Scene" "manAt" "I"]
def wsX8_spoilt_r2 : List Cond := [Cond.methodLink RX8 192 yX8_leastDeadBarrel, Cond.instanceMethod yX8_leastDeadBarrel, Cond.selects RX8 yX8_leastDeadBarrel yX8_leastDeadBarrel, Cond.code yX8_leastDeadBarrel cX8_leastDeadBarrel 2 (some .int), Cond.fieldLink RX8 45 "CellarPushers" "prices" "LCellarPushers$Prices;", Cond.methodLink RX8 108 yX3_hasBarrel, Cond.instanceMethod yX3_hasBarrel, Cond.selects RX3 yX3_hasBarrel yX3_hasBarrel, Cond.code yX3_hasBarrel cX3_hasBarrel 2 (some .boolean), Cond.fieldLink RX3 15 "CellarPushers$Scene" "barrels" "J", Cond.static yX8_has, Cond.code yX8_has cX8_has 3 (some .boolean), Cond.methodLink RX8 253 yX8_isField, Cond.static yX8_isField, Cond.code yX8_isField cX8_isField 1 (some .boolean), Cond.methodLink RX8 181 yX2_isDead, Cond.instanceMethod yX2_isDead, Cond.selects RX2 yX2_isDead yX2_isDead, Cond.initialized RX2, Cond.code yX2_isDead cX2_isDead 4 (some .boolean), Cond.fieldLink RX2 50 "CellarPushers$Ground" "wanted" "J", Cond.fieldLink RX2 9 "CellarPushers$Prices" "pushes" "[I", Cond.methodLink RX2 40 yX0_kindNow, Cond.instanceMethod yX0_kindNow]
def wsX8_spoilt_r3 : List Cond := [Cond.selects RX0 yX0_kindNow yX0_kindNow, Cond.initialized RX0, Cond.code yX0_kindNow cX0_kindNow 2 (some .int), Cond.fieldLink RX0 34 "CellarPushers$Ground" "missing" "[Z", Cond.fieldLink RX0 27 "CellarPushers$Ground" "kinds" "[I", Cond.methodLink RX2 46 yX2_measure, Cond.instanceMethod yX2_measure, Cond.selects RX2 yX2_measure yX2_measure, Cond.code yX2_measure cX2_measure 5 none, Cond.fieldLink RX2 24 "CellarPushers$Prices" "reached" "I", Cond.fieldLink RX2 15 "CellarPushers$Prices" "queue" "[I", Cond.methodLink RX2 18 yJ7_fill_53178, Cond.static yJ7_fill_53178, Cond.initialized RJ7, Cond.code yJ7_fill_53178 cJ7_fill_53178 4 none, Cond.methodLink RX2 28 yX2_reach, Cond.instanceMethod yX2_reach, Cond.selects RX2 yX2_reach yX2_reach, Cond.code yX2_reach cX2_reach 3 none, Cond.methodLink RX2 32 yX2_pushOn, Cond.instanceMethod yX2_pushOn, Cond.selects RX2 yX2_pushOn yX2_pushOn, Cond.code yX2_pushOn cX2_pushOn 7 none, Cond.static yX8_opposite]
def wsX8_spoilt_r4 : List Cond := [Cond.code yX8_opposite cX8_opposite 1 (some .int), Cond.methodLink RX2 61 yX0_beside, Cond.instanceMethod yX0_beside, Cond.selects RX0 yX0_beside yX0_beside, Cond.code yX0_beside cX0_beside 3 (some .int), Cond.static yX8_isWay, Cond.code yX8_isWay cX8_isWay 1 (some .boolean), Cond.methodLink RX0 51 yX0_numberOf, Cond.instanceMethod yX0_numberOf, Cond.selects RX0 yX0_numberOf yX0_numberOf, Cond.code yX0_numberOf cX0_numberOf 4 (some .int), Cond.fieldLink RX0 18 "CellarPushers$Ground" "width" "I", Cond.fieldLink RX0 24 "CellarPushers$Ground" "height" "I", Cond.methodLink RX2 65 yX0_isForMan, Cond.instanceMethod yX0_isForMan, Cond.selects RX0 yX0_isForMan yX0_isForMan, Cond.code yX0_isForMan cX0_isForMan 3 (some .boolean), Cond.methodLink RX0 54 yX0_kindNow, Cond.methodLink RX2 68 yX0_manMayCome, Cond.instanceMethod yX0_manMayCome, Cond.selects RX0 yX0_manMayCome yX0_manMayCome, Cond.code yX0_manMayCome cX0_manMayCome 4 (some .boolean), Cond.methodLink RX0 58 yX0_rampWay, Cond.instanceMethod yX0_rampWay]
def wsX8_spoilt_r5 : List Cond := [Cond.selects RX0 yX0_rampWay yX0_rampWay, Cond.code yX0_rampWay cX0_rampWay 2 (some .int), Cond.fieldLink RX0 31 "CellarPushers$Ground" "rampWays" "[I", Cond.methodLink RX2 72 yX0_barrelMayCome, Cond.instanceMethod yX0_barrelMayCome, Cond.selects RX0 yX0_barrelMayCome yX0_barrelMayCome, Cond.code yX0_barrelMayCome cX0_barrelMayCome 4 (some .boolean), Cond.methodLink RX2 75 yX2_priceTo, Cond.instanceMethod yX2_priceTo, Cond.selects RX2 yX2_priceTo yX2_priceTo, Cond.code yX2_priceTo cX2_priceTo 2 (some .int), Cond.methodLink RX2 78 yX0_rollsOn, Cond.instanceMethod yX0_rollsOn, Cond.selects RX0 yX0_rollsOn yX0_rollsOn, Cond.code yX0_rollsOn cX0_rollsOn 3 (some .boolean), Cond.methodLink RX8 185 yX8_heldBarrels, Cond.instanceMethod yX8_heldBarrels, Cond.selects RX8 yX8_heldBarrels yX8_heldBarrels, Cond.code yX8_heldBarrels cX8_heldBarrels 7 (some .long), Cond.methodLink RX8 136 yX8_has, Cond.methodLink RX8 269 yX8_isHeldBy, Cond.instanceMethod yX8_isHeldBy, Cond.selects RX8 yX8_isHeldBy yX8_isHeldBy, Cond.code yX8_isHeldBy cX8_isHeldBy 6 (some .boolean)]
def wsX8_spoilt_r6 : List Cond := [Cond.methodLink RX8 129 yX0_kindNow, Cond.methodLink RX8 272 yX8_holds, Cond.instanceMethod yX8_holds, Cond.selects RX8 yX8_holds yX8_holds, Cond.code yX8_holds cX8_holds 6 (some .boolean), Cond.methodLink RX8 266 yX0_beside, Cond.methodLink RX8 115 yX8_with, Cond.static yX8_with, Cond.code yX8_with cX8_with 6 (some .long), Cond.methodLink RX8 198 yX8_leastOf, Cond.static yX8_leastOf, Cond.code yX8_leastOf cX8_leastOf 3 (some .int)]
def wsX8_spoilt : List Cond := .code yX8_spoilt cX8_spoilt 1 (some .int) :: ((wsX8_spoilt_r1 ++ (wsX8_spoilt_r2 ++ (wsX8_spoilt_r3 ++ (wsX8_spoilt_r4 ++ (wsX8_spoilt_r5 ++ wsX8_spoilt_r6))))) ++ wsX80 ++ wsX00 ++ wsX30 ++ wsX20)
def wsX8_why : List Cond := .code yX8_why cX8_why 1 (some .int) :: ([.fieldLink RX8 73 "CellarPushers" "spoiltField" "I"] ++ wsX80)
def wsX8_low_r1 : List Cond := [Cond.fieldLink RX8 52 "CellarPushers" "pairing" "LCellarPushers$Pairing;", Cond.fieldLink RX8 12 "CellarPushers" "ground" "LCellarPushers$Ground;", Cond.fieldLink RX8 45 "CellarPushers" "prices" "LCellarPushers$Prices;", Cond.fieldLink RX8 21 "CellarPushers" "scene" "LCellarPushers$Scene;", Cond.fieldLink RX8 111 "CellarPushers$Scene" "barrels" "J", Cond.methodLink RX8 189 yX8_isReady, Cond.instanceMethod yX8_isReady, Cond.selects RX8 yX8_isReady yX8_isReady, Cond.initialized RX8, Cond.code yX8_isReady cX8_isReady 2 (some .boolean), Cond.fieldLink RX8 133 "CellarPushers$Ground" "wanted" "J", Cond.methodLink RX8 175 yJ13_bitCount_95d88, Cond.static yJ13_bitCount_95d88, Cond.initialized RJ13, Cond.code yJ13_bitCount_95d88 cJ13_bitCount_95d88 2 (some .int), Cond.constantLong RJ13 314 (6148914691236517205), Cond.constantLong RJ13 316 (3689348814741910323), Cond.constantLong RJ13 318 (1085102592571150095), Cond.methodLink RX8 122 yX3_hasMan, Cond.instanceMethod yX3_hasMan, Cond.selects RX3 yX3_hasMan yX3_hasMan, Cond.initialized RX3, Cond.code yX3_hasMan cX3_hasMan 1 (some .boolean), Cond.fieldLink RX3 9 "CellarPushers$Scene" "manAt" "I"]
def wsX8_low_r2 : List Cond := [Cond.methodLink RX8 201 yX1_leastSum, Cond.instanceMethod yX1_leastSum, Cond.selects RX1 yX1_leastSum yX1_leastSum, Cond.initialized RX1, Cond.code yX1_leastSum cX1_leastSum 8 (some .int), Cond.fieldLink RX1 18 "CellarPushers$Ground" "wanted" "J", Cond.fieldLink RX1 15 "CellarPushers$Pairing" "sums" "[I", Cond.constant RX1 28 (268435456), Cond.fieldLink RX1 49 "CellarPushers$Pairing" "size" "I", Cond.methodLink RX1 24 yX1_listMarks, Cond.instanceMethod yX1_listMarks, Cond.selects RX1 yX1_listMarks yX1_listMarks, Cond.code yX1_listMarks cX1_listMarks 4 none, Cond.fieldLink RX1 9 "CellarPushers$Pairing" "marks" "[I", Cond.static yX8_has, Cond.code yX8_has cX8_has 3 (some .boolean), Cond.methodLink RX8 253 yX8_isField, Cond.static yX8_isField, Cond.code yX8_isField cX8_isField 1 (some .boolean), Cond.methodLink RX1 29 yJ7_fill_53178, Cond.static yJ7_fill_53178, Cond.initialized RJ7, Cond.code yJ7_fill_53178 cJ7_fill_53178 4 none, Cond.methodLink RX1 39 yX2_measure]
def wsX8_low_r3 : List Cond := [Cond.instanceMethod yX2_measure, Cond.selects RX2 yX2_measure yX2_measure, Cond.initialized RX2, Cond.code yX2_measure cX2_measure 5 none, Cond.fieldLink RX2 9 "CellarPushers$Prices" "pushes" "[I", Cond.fieldLink RX2 24 "CellarPushers$Prices" "reached" "I", Cond.fieldLink RX2 15 "CellarPushers$Prices" "queue" "[I", Cond.methodLink RX2 18 yJ7_fill_53178, Cond.methodLink RX2 28 yX2_reach, Cond.instanceMethod yX2_reach, Cond.selects RX2 yX2_reach yX2_reach, Cond.code yX2_reach cX2_reach 3 none, Cond.methodLink RX2 32 yX2_pushOn, Cond.instanceMethod yX2_pushOn, Cond.selects RX2 yX2_pushOn yX2_pushOn, Cond.code yX2_pushOn cX2_pushOn 7 none, Cond.static yX8_opposite, Cond.code yX8_opposite cX8_opposite 1 (some .int), Cond.methodLink RX2 61 yX0_beside, Cond.instanceMethod yX0_beside, Cond.selects RX0 yX0_beside yX0_beside, Cond.initialized RX0, Cond.code yX0_beside cX0_beside 3 (some .int), Cond.static yX8_isWay]
def wsX8_low_r4 : List Cond := [Cond.code yX8_isWay cX8_isWay 1 (some .boolean), Cond.methodLink RX0 51 yX0_numberOf, Cond.instanceMethod yX0_numberOf, Cond.selects RX0 yX0_numberOf yX0_numberOf, Cond.code yX0_numberOf cX0_numberOf 4 (some .int), Cond.fieldLink RX0 18 "CellarPushers$Ground" "width" "I", Cond.fieldLink RX0 24 "CellarPushers$Ground" "height" "I", Cond.methodLink RX2 65 yX0_isForMan, Cond.instanceMethod yX0_isForMan, Cond.selects RX0 yX0_isForMan yX0_isForMan, Cond.code yX0_isForMan cX0_isForMan 3 (some .boolean), Cond.methodLink RX0 54 yX0_kindNow, Cond.instanceMethod yX0_kindNow, Cond.selects RX0 yX0_kindNow yX0_kindNow, Cond.code yX0_kindNow cX0_kindNow 2 (some .int), Cond.fieldLink RX0 34 "CellarPushers$Ground" "missing" "[Z", Cond.fieldLink RX0 27 "CellarPushers$Ground" "kinds" "[I", Cond.methodLink RX2 68 yX0_manMayCome, Cond.instanceMethod yX0_manMayCome, Cond.selects RX0 yX0_manMayCome yX0_manMayCome, Cond.code yX0_manMayCome cX0_manMayCome 4 (some .boolean), Cond.methodLink RX0 58 yX0_rampWay, Cond.instanceMethod yX0_rampWay, Cond.selects RX0 yX0_rampWay yX0_rampWay]
def wsX8_low_r5 : List Cond := [Cond.code yX0_rampWay cX0_rampWay 2 (some .int), Cond.fieldLink RX0 31 "CellarPushers$Ground" "rampWays" "[I", Cond.methodLink RX2 72 yX0_barrelMayCome, Cond.instanceMethod yX0_barrelMayCome, Cond.selects RX0 yX0_barrelMayCome yX0_barrelMayCome, Cond.code yX0_barrelMayCome cX0_barrelMayCome 4 (some .boolean), Cond.methodLink RX2 75 yX2_priceTo, Cond.instanceMethod yX2_priceTo, Cond.selects RX2 yX2_priceTo yX2_priceTo, Cond.code yX2_priceTo cX2_priceTo 2 (some .int), Cond.methodLink RX2 78 yX0_rollsOn, Cond.instanceMethod yX0_rollsOn, Cond.selects RX0 yX0_rollsOn yX0_rollsOn, Cond.code yX0_rollsOn cX0_rollsOn 3 (some .boolean), Cond.methodLink RX1 45 yX1_pairNext, Cond.instanceMethod yX1_pairNext, Cond.selects RX1 yX1_pairNext yX1_pairNext, Cond.code yX1_pairNext cX1_pairNext 4 none, Cond.methodLink RX1 53 yJ6_bitCount_0f7a4, Cond.static yJ6_bitCount_0f7a4, Cond.initialized RJ6, Cond.code yJ6_bitCount_0f7a4 cJ6_bitCount_0f7a4 1 (some .int), Cond.constant RJ6 265 (1431655765), Cond.constant RJ6 266 (858993459)]
def wsX8_low_r6 : List Cond := [Cond.constant RJ6 267 (252645135), Cond.methodLink RX1 59 yX1_pairWithEach, Cond.instanceMethod yX1_pairWithEach, Cond.selects RX1 yX1_pairWithEach yX1_pairWithEach, Cond.code yX1_pairWithEach cX1_pairWithEach 6 none, Cond.methodLink RX1 65 Lib.Math.min.name, Cond.static Lib.Math.min.name, Cond.initialized "java/lang/Math", Cond.code Lib.Math.min.name Lib.Math.min.code 2 (some .int), Cond.methodLink RX1 62 yX2_priceTo]
def wsX8_low : List Cond := .code yX8_low cX8_low 1 (some .int) :: ((wsX8_low_r1 ++ (wsX8_low_r2 ++ (wsX8_low_r3 ++ (wsX8_low_r4 ++ (wsX8_low_r5 ++ wsX8_low_r6))))) ++ wsX80 ++ wsX30 ++ wsX00 ++ wsX10 ++ wsX20)
def wsX8_price_r1 : List Cond := [Cond.fieldLink RX8 12 "CellarPushers" "ground" "LCellarPushers$Ground;", Cond.fieldLink RX8 45 "CellarPushers" "prices" "LCellarPushers$Prices;", Cond.methodLink RX8 77 yX0_numberOf, Cond.instanceMethod yX0_numberOf, Cond.selects RX0 yX0_numberOf yX0_numberOf, Cond.initialized RX0, Cond.code yX0_numberOf cX0_numberOf 4 (some .int), Cond.fieldLink RX0 18 "CellarPushers$Ground" "width" "I", Cond.fieldLink RX0 24 "CellarPushers$Ground" "height" "I", Cond.methodLink RX8 129 yX0_kindNow, Cond.instanceMethod yX0_kindNow, Cond.selects RX0 yX0_kindNow yX0_kindNow, Cond.code yX0_kindNow cX0_kindNow 2 (some .int), Cond.fieldLink RX0 34 "CellarPushers$Ground" "missing" "[Z", Cond.fieldLink RX0 27 "CellarPushers$Ground" "kinds" "[I", Cond.methodLink RX8 205 yX2_measure, Cond.instanceMethod yX2_measure, Cond.selects RX2 yX2_measure yX2_measure, Cond.initialized RX2, Cond.code yX2_measure cX2_measure 5 none, Cond.fieldLink RX2 9 "CellarPushers$Prices" "pushes" "[I", Cond.fieldLink RX2 24 "CellarPushers$Prices" "reached" "I", Cond.fieldLink RX2 15 "CellarPushers$Prices" "queue" "[I", Cond.methodLink RX2 18 yJ7_fill_53178]
def wsX8_price_r2 : List Cond := [Cond.static yJ7_fill_53178, Cond.initialized RJ7, Cond.code yJ7_fill_53178 cJ7_fill_53178 4 none, Cond.methodLink RX2 28 yX2_reach, Cond.instanceMethod yX2_reach, Cond.selects RX2 yX2_reach yX2_reach, Cond.code yX2_reach cX2_reach 3 none, Cond.static yX8_isField, Cond.initialized RX8, Cond.code yX8_isField cX8_isField 1 (some .boolean), Cond.methodLink RX2 32 yX2_pushOn, Cond.instanceMethod yX2_pushOn, Cond.selects RX2 yX2_pushOn yX2_pushOn, Cond.code yX2_pushOn cX2_pushOn 7 none, Cond.static yX8_opposite, Cond.code yX8_opposite cX8_opposite 1 (some .int), Cond.methodLink RX2 61 yX0_beside, Cond.instanceMethod yX0_beside, Cond.selects RX0 yX0_beside yX0_beside, Cond.code yX0_beside cX0_beside 3 (some .int), Cond.static yX8_isWay, Cond.code yX8_isWay cX8_isWay 1 (some .boolean), Cond.methodLink RX0 51 yX0_numberOf, Cond.methodLink RX2 65 yX0_isForMan]
def wsX8_price_r3 : List Cond := [Cond.instanceMethod yX0_isForMan, Cond.selects RX0 yX0_isForMan yX0_isForMan, Cond.code yX0_isForMan cX0_isForMan 3 (some .boolean), Cond.methodLink RX0 54 yX0_kindNow, Cond.methodLink RX2 68 yX0_manMayCome, Cond.instanceMethod yX0_manMayCome, Cond.selects RX0 yX0_manMayCome yX0_manMayCome, Cond.code yX0_manMayCome cX0_manMayCome 4 (some .boolean), Cond.methodLink RX0 58 yX0_rampWay, Cond.instanceMethod yX0_rampWay, Cond.selects RX0 yX0_rampWay yX0_rampWay, Cond.code yX0_rampWay cX0_rampWay 2 (some .int), Cond.fieldLink RX0 31 "CellarPushers$Ground" "rampWays" "[I", Cond.methodLink RX2 72 yX0_barrelMayCome, Cond.instanceMethod yX0_barrelMayCome, Cond.selects RX0 yX0_barrelMayCome yX0_barrelMayCome, Cond.code yX0_barrelMayCome cX0_barrelMayCome 4 (some .boolean), Cond.methodLink RX2 75 yX2_priceTo, Cond.instanceMethod yX2_priceTo, Cond.selects RX2 yX2_priceTo yX2_priceTo, Cond.code yX2_priceTo cX2_priceTo 2 (some .int), Cond.methodLink RX2 78 yX0_rollsOn, Cond.instanceMethod yX0_rollsOn, Cond.selects RX0 yX0_rollsOn yX0_rollsOn]
def wsX8_price_r4 : List Cond := [Cond.code yX0_rollsOn cX0_rollsOn 3 (some .boolean), Cond.methodLink RX8 208 yX2_priceTo]
def wsX8_price : List Cond := .code yX8_price cX8_price 7 (some .int) :: ((wsX8_price_r1 ++ (wsX8_price_r2 ++ (wsX8_price_r3 ++ wsX8_price_r4))) ++ wsX80 ++ wsX00 ++ wsX20)
def wsX8_liveFields_r1 : List Cond := [Cond.fieldLink RX8 12 "CellarPushers" "ground" "LCellarPushers$Ground;", Cond.fieldLink RX8 45 "CellarPushers" "prices" "LCellarPushers$Prices;", Cond.methodLink RX8 129 yX0_kindNow, Cond.instanceMethod yX0_kindNow, Cond.selects RX0 yX0_kindNow yX0_kindNow, Cond.initialized RX0, Cond.code yX0_kindNow cX0_kindNow 2 (some .int), Cond.fieldLink RX0 34 "CellarPushers$Ground" "missing" "[Z", Cond.fieldLink RX0 27 "CellarPushers$Ground" "kinds" "[I", Cond.methodLink RX8 181 yX2_isDead, Cond.instanceMethod yX2_isDead, Cond.selects RX2 yX2_isDead yX2_isDead, Cond.initialized RX2, Cond.code yX2_isDead cX2_isDead 4 (some .boolean), Cond.fieldLink RX2 50 "CellarPushers$Ground" "wanted" "J", Cond.fieldLink RX2 9 "CellarPushers$Prices" "pushes" "[I", Cond.methodLink RX2 40 yX0_kindNow, Cond.methodLink RX2 46 yX2_measure, Cond.instanceMethod yX2_measure, Cond.selects RX2 yX2_measure yX2_measure, Cond.code yX2_measure cX2_measure 5 none, Cond.fieldLink RX2 24 "CellarPushers$Prices" "reached" "I", Cond.fieldLink RX2 15 "CellarPushers$Prices" "queue" "[I", Cond.methodLink RX2 18 yJ7_fill_53178]
def wsX8_liveFields_r2 : List Cond := [Cond.static yJ7_fill_53178, Cond.initialized RJ7, Cond.code yJ7_fill_53178 cJ7_fill_53178 4 none, Cond.methodLink RX2 28 yX2_reach, Cond.instanceMethod yX2_reach, Cond.selects RX2 yX2_reach yX2_reach, Cond.code yX2_reach cX2_reach 3 none, Cond.static yX8_isField, Cond.initialized RX8, Cond.code yX8_isField cX8_isField 1 (some .boolean), Cond.methodLink RX2 32 yX2_pushOn, Cond.instanceMethod yX2_pushOn, Cond.selects RX2 yX2_pushOn yX2_pushOn, Cond.code yX2_pushOn cX2_pushOn 7 none, Cond.static yX8_opposite, Cond.code yX8_opposite cX8_opposite 1 (some .int), Cond.methodLink RX2 61 yX0_beside, Cond.instanceMethod yX0_beside, Cond.selects RX0 yX0_beside yX0_beside, Cond.code yX0_beside cX0_beside 3 (some .int), Cond.static yX8_isWay, Cond.code yX8_isWay cX8_isWay 1 (some .boolean), Cond.methodLink RX0 51 yX0_numberOf, Cond.instanceMethod yX0_numberOf]
def wsX8_liveFields_r3 : List Cond := [Cond.selects RX0 yX0_numberOf yX0_numberOf, Cond.code yX0_numberOf cX0_numberOf 4 (some .int), Cond.fieldLink RX0 18 "CellarPushers$Ground" "width" "I", Cond.fieldLink RX0 24 "CellarPushers$Ground" "height" "I", Cond.methodLink RX2 65 yX0_isForMan, Cond.instanceMethod yX0_isForMan, Cond.selects RX0 yX0_isForMan yX0_isForMan, Cond.code yX0_isForMan cX0_isForMan 3 (some .boolean), Cond.methodLink RX0 54 yX0_kindNow, Cond.methodLink RX2 68 yX0_manMayCome, Cond.instanceMethod yX0_manMayCome, Cond.selects RX0 yX0_manMayCome yX0_manMayCome, Cond.code yX0_manMayCome cX0_manMayCome 4 (some .boolean), Cond.methodLink RX0 58 yX0_rampWay, Cond.instanceMethod yX0_rampWay, Cond.selects RX0 yX0_rampWay yX0_rampWay, Cond.code yX0_rampWay cX0_rampWay 2 (some .int), Cond.fieldLink RX0 31 "CellarPushers$Ground" "rampWays" "[I", Cond.methodLink RX2 72 yX0_barrelMayCome, Cond.instanceMethod yX0_barrelMayCome, Cond.selects RX0 yX0_barrelMayCome yX0_barrelMayCome, Cond.code yX0_barrelMayCome cX0_barrelMayCome 4 (some .boolean), Cond.methodLink RX2 75 yX2_priceTo, Cond.instanceMethod yX2_priceTo]
def wsX8_liveFields_r4 : List Cond := [Cond.selects RX2 yX2_priceTo yX2_priceTo, Cond.code yX2_priceTo cX2_priceTo 2 (some .int), Cond.methodLink RX2 78 yX0_rollsOn, Cond.instanceMethod yX0_rollsOn, Cond.selects RX0 yX0_rollsOn yX0_rollsOn, Cond.code yX0_rollsOn cX0_rollsOn 3 (some .boolean), Cond.static yX8_has, Cond.code yX8_has cX8_has 3 (some .boolean), Cond.methodLink RX8 253 yX8_isField, Cond.methodLink RX8 115 yX8_with, Cond.static yX8_with, Cond.code yX8_with cX8_with 6 (some .long), Cond.constantLong RX8 196 (-1)]
def wsX8_liveFields : List Cond := .code yX8_liveFields cX8_liveFields 5 (some .long) :: ((wsX8_liveFields_r1 ++ (wsX8_liveFields_r2 ++ (wsX8_liveFields_r3 ++ wsX8_liveFields_r4))) ++ wsX80 ++ wsX00 ++ wsX20)
def wsX8_fewest_r1 : List Cond := [Cond.fieldLink RX8 21 "CellarPushers" "scene" "LCellarPushers$Scene;", Cond.fieldLink RX8 111 "CellarPushers$Scene" "barrels" "J", Cond.fieldLink RX8 12 "CellarPushers" "ground" "LCellarPushers$Ground;", Cond.fieldLink RX8 59 "CellarPushers" "search" "LCellarPushers$Search;", Cond.fieldLink RX8 66 "CellarPushers" "thePlan" "LCellarPushers$Ways;", Cond.methodLink RX8 189 yX8_isReady, Cond.instanceMethod yX8_isReady, Cond.selects RX8 yX8_isReady yX8_isReady, Cond.initialized RX8, Cond.code yX8_isReady cX8_isReady 2 (some .boolean), Cond.fieldLink RX8 133 "CellarPushers$Ground" "wanted" "J", Cond.methodLink RX8 175 yJ13_bitCount_95d88, Cond.static yJ13_bitCount_95d88, Cond.initialized RJ13, Cond.code yJ13_bitCount_95d88 cJ13_bitCount_95d88 2 (some .int), Cond.constantLong RJ13 314 (6148914691236517205), Cond.constantLong RJ13 316 (3689348814741910323), Cond.constantLong RJ13 318 (1085102592571150095), Cond.methodLink RX8 122 yX3_hasMan, Cond.instanceMethod yX3_hasMan, Cond.selects RX3 yX3_hasMan yX3_hasMan, Cond.initialized RX3, Cond.code yX3_hasMan cX3_hasMan 1 (some .boolean), Cond.fieldLink RX3 9 "CellarPushers$Scene" "manAt" "I"]
def wsX8_fewest_r2 : List Cond := [Cond.methodLink RX8 211 yX0_openFields, Cond.instanceMethod yX0_openFields, Cond.selects RX0 yX0_openFields yX0_openFields, Cond.initialized RX0, Cond.code yX0_openFields cX0_openFields 3 (some .int), Cond.methodLink RX0 54 yX0_kindNow, Cond.instanceMethod yX0_kindNow, Cond.selects RX0 yX0_kindNow yX0_kindNow, Cond.code yX0_kindNow cX0_kindNow 2 (some .int), Cond.fieldLink RX0 34 "CellarPushers$Ground" "missing" "[Z", Cond.fieldLink RX0 27 "CellarPushers$Ground" "kinds" "[I", Cond.methodLink RX8 214 yX8_liveFields, Cond.instanceMethod yX8_liveFields, Cond.selects RX8 yX8_liveFields yX8_liveFields, Cond.code yX8_liveFields cX8_liveFields 5 (some .long), Cond.fieldLink RX8 45 "CellarPushers" "prices" "LCellarPushers$Prices;", Cond.methodLink RX8 129 yX0_kindNow, Cond.methodLink RX8 181 yX2_isDead, Cond.instanceMethod yX2_isDead, Cond.selects RX2 yX2_isDead yX2_isDead, Cond.initialized RX2, Cond.code yX2_isDead cX2_isDead 4 (some .boolean), Cond.fieldLink RX2 50 "CellarPushers$Ground" "wanted" "J", Cond.fieldLink RX2 9 "CellarPushers$Prices" "pushes" "[I"]
def wsX8_fewest_r3 : List Cond := [Cond.methodLink RX2 40 yX0_kindNow, Cond.methodLink RX2 46 yX2_measure, Cond.instanceMethod yX2_measure, Cond.selects RX2 yX2_measure yX2_measure, Cond.code yX2_measure cX2_measure 5 none, Cond.fieldLink RX2 24 "CellarPushers$Prices" "reached" "I", Cond.fieldLink RX2 15 "CellarPushers$Prices" "queue" "[I", Cond.methodLink RX2 18 yJ7_fill_53178, Cond.static yJ7_fill_53178, Cond.initialized RJ7, Cond.code yJ7_fill_53178 cJ7_fill_53178 4 none, Cond.methodLink RX2 28 yX2_reach, Cond.instanceMethod yX2_reach, Cond.selects RX2 yX2_reach yX2_reach, Cond.code yX2_reach cX2_reach 3 none, Cond.static yX8_isField, Cond.code yX8_isField cX8_isField 1 (some .boolean), Cond.methodLink RX2 32 yX2_pushOn, Cond.instanceMethod yX2_pushOn, Cond.selects RX2 yX2_pushOn yX2_pushOn, Cond.code yX2_pushOn cX2_pushOn 7 none, Cond.static yX8_opposite, Cond.code yX8_opposite cX8_opposite 1 (some .int), Cond.methodLink RX2 61 yX0_beside]
def wsX8_fewest_r4 : List Cond := [Cond.instanceMethod yX0_beside, Cond.selects RX0 yX0_beside yX0_beside, Cond.code yX0_beside cX0_beside 3 (some .int), Cond.static yX8_isWay, Cond.code yX8_isWay cX8_isWay 1 (some .boolean), Cond.methodLink RX0 51 yX0_numberOf, Cond.instanceMethod yX0_numberOf, Cond.selects RX0 yX0_numberOf yX0_numberOf, Cond.code yX0_numberOf cX0_numberOf 4 (some .int), Cond.fieldLink RX0 18 "CellarPushers$Ground" "width" "I", Cond.fieldLink RX0 24 "CellarPushers$Ground" "height" "I", Cond.methodLink RX2 65 yX0_isForMan, Cond.instanceMethod yX0_isForMan, Cond.selects RX0 yX0_isForMan yX0_isForMan, Cond.code yX0_isForMan cX0_isForMan 3 (some .boolean), Cond.methodLink RX2 68 yX0_manMayCome, Cond.instanceMethod yX0_manMayCome, Cond.selects RX0 yX0_manMayCome yX0_manMayCome, Cond.code yX0_manMayCome cX0_manMayCome 4 (some .boolean), Cond.methodLink RX0 58 yX0_rampWay, Cond.instanceMethod yX0_rampWay, Cond.selects RX0 yX0_rampWay yX0_rampWay, Cond.code yX0_rampWay cX0_rampWay 2 (some .int), Cond.fieldLink RX0 31 "CellarPushers$Ground" "rampWays" "[I"]
def wsX8_fewest_r5 : List Cond := [Cond.methodLink RX2 72 yX0_barrelMayCome, Cond.instanceMethod yX0_barrelMayCome, Cond.selects RX0 yX0_barrelMayCome yX0_barrelMayCome, Cond.code yX0_barrelMayCome cX0_barrelMayCome 4 (some .boolean), Cond.methodLink RX2 75 yX2_priceTo, Cond.instanceMethod yX2_priceTo, Cond.selects RX2 yX2_priceTo yX2_priceTo, Cond.code yX2_priceTo cX2_priceTo 2 (some .int), Cond.methodLink RX2 78 yX0_rollsOn, Cond.instanceMethod yX0_rollsOn, Cond.selects RX0 yX0_rollsOn yX0_rollsOn, Cond.code yX0_rollsOn cX0_rollsOn 3 (some .boolean), Cond.static yX8_has, Cond.code yX8_has cX8_has 3 (some .boolean), Cond.methodLink RX8 253 yX8_isField, Cond.methodLink RX8 115 yX8_with, Cond.static yX8_with, Cond.code yX8_with cX8_with 6 (some .long), Cond.constantLong RX8 196 (-1), Cond.methodLink RX8 217 yX4_solve, Cond.instanceMethod yX4_solve, Cond.selects RX4 yX4_solve yX4_solve, Cond.initialized RX4, Cond.code yX4_solve cX4_solve 7 (some .int)]
def wsX8_fewest_r6 : List Cond := [Cond.fieldLink RX4 35 "CellarPushers$Ways" "size" "I", Cond.fieldLink RX4 41 "CellarPushers$Scene" "barrels" "J", Cond.constantLong RX4 47 (-1), Cond.fieldLink RX4 61 "CellarPushers$Search" "liveCells" "I", Cond.fieldLink RX4 64 "CellarPushers$Ground" "wanted" "J", Cond.fieldLink RX4 73 "CellarPushers$Search" "doneRank" "I", Cond.fieldLink RX4 85 "CellarPushers$Scene" "manAt" "I", Cond.methodLink RX4 91 Lib.Math.max.name, Cond.static Lib.Math.max.name, Cond.initialized "java/lang/Math", Cond.code Lib.Math.max.name Lib.Math.max.code 2 (some .int), Cond.fieldLink RX4 100 "CellarPushers$Search" "best" "J", Cond.methodLink RX4 49 yX4_numberCells, Cond.instanceMethod yX4_numberCells, Cond.selects RX4 yX4_numberCells yX4_numberCells, Cond.code yX4_numberCells cX4_numberCells 4 none, Cond.fieldLink RX4 110 "CellarPushers$Search" "cells" "I", Cond.fieldLink RX4 11 "CellarPushers$Search" "cellOf" "[I", Cond.methodLink RX4 113 yX0_kindNow, Cond.methodLink RX4 53 yX4_joinCells, Cond.instanceMethod yX4_joinCells, Cond.selects RX4 yX4_joinCells yX4_joinCells, Cond.code yX4_joinCells cX4_joinCells 6 none, Cond.fieldLink RX4 21 "CellarPushers$Search" "rolls" "[Z"]
def wsX8_fewest_r7 : List Cond := [Cond.fieldLink RX4 15 "CellarPushers$Search" "manTo" "[I", Cond.fieldLink RX4 18 "CellarPushers$Search" "barrelTo" "[I", Cond.methodLink RX4 88 yX4_cellAt, Cond.instanceMethod yX4_cellAt, Cond.selects RX4 yX4_cellAt yX4_cellAt, Cond.code yX4_cellAt cX4_cellAt 2 (some .int), Cond.methodLink RX4 116 yX0_rollsOn, Cond.methodLink RX4 120 yX0_beside, Cond.methodLink RX4 123 yX0_manMayCome, Cond.methodLink RX4 127 yX0_barrelMayCome, Cond.methodLink RX4 57 yX4_setOf, Cond.instanceMethod yX4_setOf, Cond.selects RX4 yX4_setOf yX4_setOf, Cond.code yX4_setOf cX4_setOf 5 (some .int), Cond.methodLink RX4 69 yX4_rankOf, Cond.static yX4_rankOf, Cond.code yX4_rankOf cX4_rankOf 6 (some .int), Cond.methodLink RX4 137 yJ6_bitCount_0f7a4, Cond.static yJ6_bitCount_0f7a4, Cond.initialized RJ6, Cond.code yJ6_bitCount_0f7a4 cJ6_bitCount_0f7a4 1 (some .int), Cond.constant RJ6 265 (1431655765), Cond.constant RJ6 266 (858993459), Cond.constant RJ6 267 (252645135)]
def wsX8_fewest_r8 : List Cond := [Cond.methodLink RX4 76 yJ13_bitCount_95d88, Cond.methodLink RX4 81 yX4_listSets, Cond.instanceMethod yX4_listSets, Cond.selects RX4 yX4_listSets yX4_listSets, Cond.code yX4_listSets cX4_listSets 6 none, Cond.methodLink RX4 141 Lib.Math.min.name, Cond.static Lib.Math.min.name, Cond.code Lib.Math.min.name Lib.Math.min.code 2 (some .int), Cond.fieldLink RX4 25 "CellarPushers$Search" "sets" "[I", Cond.methodLink RX4 144 yX4_makeRoom, Cond.instanceMethod yX4_makeRoom, Cond.selects RX4 yX4_makeRoom yX4_makeRoom, Cond.code yX4_makeRoom cX4_makeRoom 3 none, Cond.arrayClass .int, Cond.fieldLink RX4 28 "CellarPushers$Search" "order" "[I", Cond.arrayClass .long, Cond.fieldLink RX4 31 "CellarPushers$Search" "costs" "[J", Cond.methodLink RX4 147 yX4_nextSet, Cond.static yX4_nextSet, Cond.code yX4_nextSet cX4_nextSet 3 (some .int), Cond.methodLink RX4 97 yX4_explore, Cond.instanceMethod yX4_explore, Cond.selects RX4 yX4_explore yX4_explore, Cond.code yX4_explore cX4_explore 11 none]
def wsX8_fewest_r9 : List Cond := [Cond.fieldLink RX4 156 "CellarPushers$Search" "reached" "I", Cond.constantLong RX4 167 (1152921504606846976), Cond.constantLong RX4 169 (1048577), Cond.methodLink RX4 171 Lib.MathLoose.min_long.x, Cond.static Lib.MathLoose.min_long.x, Cond.code Lib.MathLoose.min_long.x Lib.MathLoose.min_long.code 4 (some .long), Cond.methodLink RX4 150 yJ7_fill_d0a16, Cond.static yJ7_fill_d0a16, Cond.code yJ7_fill_d0a16 cJ7_fill_d0a16 5 none, Cond.methodLink RX4 159 yX4_reach, Cond.instanceMethod yX4_reach, Cond.selects RX4 yX4_reach yX4_reach, Cond.code yX4_reach cX4_reach 5 none, Cond.methodLink RX4 163 yX4_costOf, Cond.instanceMethod yX4_costOf, Cond.selects RX4 yX4_costOf yX4_costOf, Cond.code yX4_costOf cX4_costOf 2 (some .long), Cond.methodLink RX4 174 yX4_walkFrom, Cond.instanceMethod yX4_walkFrom, Cond.selects RX4 yX4_walkFrom yX4_walkFrom, Cond.code yX4_walkFrom cX4_walkFrom 5 none, Cond.methodLink RX4 180 yX4_walkedTo, Cond.instanceMethod yX4_walkedTo, Cond.selects RX4 yX4_walkedTo yX4_walkedTo]
def wsX8_fewest_r10 : List Cond := [Cond.code yX4_walkedTo cX4_walkedTo 4 (some .int), Cond.methodLink RX4 186 yX4_cellFrom, Cond.static yX4_cellFrom, Cond.code yX4_cellFrom cX4_cellFrom 4 (some .int), Cond.methodLink RX4 190 yX4_setIn, Cond.instanceMethod yX4_setIn, Cond.selects RX4 yX4_setIn yX4_setIn, Cond.code yX4_setIn cX4_setIn 3 (some .int), Cond.methodLink RX4 177 yX4_pushFrom, Cond.instanceMethod yX4_pushFrom, Cond.selects RX4 yX4_pushFrom yX4_pushFrom, Cond.code yX4_pushFrom cX4_pushFrom 5 none, Cond.methodLink RX4 183 yX4_pushedTo, Cond.instanceMethod yX4_pushedTo, Cond.selects RX4 yX4_pushedTo yX4_pushedTo, Cond.code yX4_pushedTo cX4_pushedTo 7 (some .int), Cond.methodLink RX4 193 yX4_rolledTo, Cond.instanceMethod yX4_rolledTo, Cond.selects RX4 yX4_rolledTo yX4_rolledTo, Cond.code yX4_rolledTo cX4_rolledTo 7 (some .int), Cond.methodLink RX4 103 yX4_markRows, Cond.instanceMethod yX4_markRows, Cond.selects RX4 yX4_markRows yX4_markRows, Cond.code yX4_markRows cX4_markRows 4 none]
def wsX8_fewest_r11 : List Cond := [Cond.constantLong RX4 200 (1125899906842624), Cond.methodLink RX4 197 yX4_leastWay, Cond.instanceMethod yX4_leastWay, Cond.selects RX4 yX4_leastWay yX4_leastWay, Cond.code yX4_leastWay cX4_leastWay 6 (some .int), Cond.constantLong RX4 202 (-1125899906842625), Cond.methodLink RX4 106 yX4_takeRow, Cond.instanceMethod yX4_takeRow, Cond.selects RX4 yX4_takeRow yX4_takeRow, Cond.code yX4_takeRow cX4_takeRow 7 none, Cond.methodLink RX4 204 yX7_append, Cond.instanceMethod yX7_append, Cond.selects RX7 yX7_append yX7_append, Cond.initialized RX7, Cond.code yX7_append cX7_append 2 none, Cond.fieldLink RX7 19 "CellarPushers$Ways" "size" "I", Cond.fieldLink RX7 9 "CellarPushers$Ways" "ways" "[I", Cond.constant RX7 23 (131072), Cond.methodLink RX7 24 yJ7_copyOf_59c91, Cond.static yJ7_copyOf_59c91, Cond.code yJ7_copyOf_59c91 cJ7_copyOf_59c91 3 (some (.array .int)), Cond.methodLink RJ7 316 ⟨"[I", "clone", "()Ljava/lang/Object;"⟩, Cond.sameMethod "[I" "java/lang/Object" "clone" "()Ljava/lang/Object;", Cond.native ⟨"java/lang/Object", "clone", "()Ljava/lang/Object;"⟩]
def wsX8_fewest_r12 : List Cond := [Cond.instanceMethod ⟨"java/lang/Object", "clone", "()Ljava/lang/Object;"⟩, Cond.selects "[I" ⟨"[I", "clone", "()Ljava/lang/Object;"⟩ ⟨"java/lang/Object", "clone", "()Ljava/lang/Object;"⟩, Cond.classLink RJ7 317 "[I", Cond.methodLink RJ7 304 Lib.Math.min.name, Cond.methodLink RJ7 150 arraycopyName, Cond.native arraycopyName, Cond.static arraycopyName, Cond.initialized "java/lang/System"]
def wsX8_fewest : List Cond := .code yX8_fewest cX8_fewest 1 (some .int) :: ((wsX8_fewest_r1 ++ (wsX8_fewest_r2 ++ (wsX8_fewest_r3 ++ (wsX8_fewest_r4 ++ (wsX8_fewest_r5 ++ (wsX8_fewest_r6 ++ (wsX8_fewest_r7 ++ (wsX8_fewest_r8 ++ (wsX8_fewest_r9 ++ (wsX8_fewest_r10 ++ (wsX8_fewest_r11 ++ wsX8_fewest_r12))))))))))) ++ wsX80 ++ wsX30 ++ wsX00 ++ wsX20 ++ wsX70 ++ wsX40)
def wsX8_steps : List Cond := .code yX8_steps cX8_steps 1 (some .int) :: ([.fieldLink RX8 66 "CellarPushers" "thePlan" "LCellarPushers$Ways;", .fieldLink RX8 221 "CellarPushers$Ways" "size" "I"] ++ wsX80 ++ wsX70)
def wsX8_plan : List Cond := .code yX8_plan cX8_plan 2 (some .int) :: ([.fieldLink RX8 66 "CellarPushers" "thePlan" "LCellarPushers$Ways;", .methodLink RX8 224 yX7_wayAt, .instanceMethod yX7_wayAt, .selects RX7 yX7_wayAt yX7_wayAt, .initialized RX7, .code yX7_wayAt cX7_wayAt 2 (some .int), .fieldLink RX7 9 "CellarPushers$Ways" "ways" "[I", .methodLink RX7 15 yX7_isIn, .instanceMethod yX7_isIn, .selects RX7 yX7_isIn yX7_isIn, .code yX7_isIn cX7_isIn 2 (some .boolean), .fieldLink RX7 19 "CellarPushers$Ways" "size" "I"] ++ wsX80 ++ wsX70)
def wsX8_follow_r1 : List Cond := [Cond.fieldLink RX8 25 "CellarPushers" "trial" "LCellarPushers$Scene;", Cond.fieldLink RX8 21 "CellarPushers" "scene" "LCellarPushers$Scene;", Cond.fieldLink RX8 12 "CellarPushers" "ground" "LCellarPushers$Ground;", Cond.fieldLink RX8 66 "CellarPushers" "thePlan" "LCellarPushers$Ways;", Cond.fieldLink RX8 221 "CellarPushers$Ways" "size" "I", Cond.methodLink RX8 140 yX3_become, Cond.instanceMethod yX3_become, Cond.selects RX3 yX3_become yX3_become, Cond.initialized RX3, Cond.code yX3_become cX3_become 2 none, Cond.fieldLink RX3 9 "CellarPushers$Scene" "manAt" "I", Cond.fieldLink RX3 15 "CellarPushers$Scene" "barrels" "J", Cond.fieldLink RX3 19 "CellarPushers$Scene" "stepsDone" "I", Cond.fieldLink RX3 22 "CellarPushers$Scene" "pushesDone" "I", Cond.methodLink RX8 227 yX3_advanceBy, Cond.instanceMethod yX3_advanceBy, Cond.selects RX3 yX3_advanceBy yX3_advanceBy, Cond.code yX3_advanceBy cX3_advanceBy 4 (some .int), Cond.fieldLink RX3 54 "CellarPushers$Ways" "size" "I", Cond.methodLink RX3 59 yX7_wayAt, Cond.instanceMethod yX7_wayAt, Cond.selects RX7 yX7_wayAt yX7_wayAt, Cond.initialized RX7, Cond.code yX7_wayAt cX7_wayAt 2 (some .int)]
def wsX8_follow_r2 : List Cond := [Cond.fieldLink RX7 9 "CellarPushers$Ways" "ways" "[I", Cond.methodLink RX7 15 yX7_isIn, Cond.instanceMethod yX7_isIn, Cond.selects RX7 yX7_isIn yX7_isIn, Cond.code yX7_isIn cX7_isIn 2 (some .boolean), Cond.fieldLink RX7 19 "CellarPushers$Ways" "size" "I", Cond.methodLink RX3 63 yX3_advance, Cond.instanceMethod yX3_advance, Cond.selects RX3 yX3_advance yX3_advance, Cond.code yX3_advance cX3_advance 6 (some .int), Cond.methodLink RX3 33 yX3_hasMan, Cond.instanceMethod yX3_hasMan, Cond.selects RX3 yX3_hasMan yX3_hasMan, Cond.code yX3_hasMan cX3_hasMan 1 (some .boolean), Cond.static yX8_isWay, Cond.initialized RX8, Cond.code yX8_isWay cX8_isWay 1 (some .boolean), Cond.methodLink RX3 40 yX0_beside, Cond.instanceMethod yX0_beside, Cond.selects RX0 yX0_beside yX0_beside, Cond.initialized RX0, Cond.code yX0_beside cX0_beside 3 (some .int), Cond.static yX8_isField, Cond.code yX8_isField cX8_isField 1 (some .boolean)]
def wsX8_follow_r3 : List Cond := [Cond.methodLink RX0 51 yX0_numberOf, Cond.instanceMethod yX0_numberOf, Cond.selects RX0 yX0_numberOf yX0_numberOf, Cond.code yX0_numberOf cX0_numberOf 4 (some .int), Cond.fieldLink RX0 18 "CellarPushers$Ground" "width" "I", Cond.fieldLink RX0 24 "CellarPushers$Ground" "height" "I", Cond.methodLink RX3 29 yX3_hasBarrel, Cond.instanceMethod yX3_hasBarrel, Cond.selects RX3 yX3_hasBarrel yX3_hasBarrel, Cond.code yX3_hasBarrel cX3_hasBarrel 2 (some .boolean), Cond.static yX8_has, Cond.code yX8_has cX8_has 3 (some .boolean), Cond.methodLink RX8 253 yX8_isField, Cond.methodLink RX3 46 yX0_manMayCome, Cond.instanceMethod yX0_manMayCome, Cond.selects RX0 yX0_manMayCome yX0_manMayCome, Cond.code yX0_manMayCome cX0_manMayCome 4 (some .boolean), Cond.methodLink RX0 54 yX0_kindNow, Cond.instanceMethod yX0_kindNow, Cond.selects RX0 yX0_kindNow yX0_kindNow, Cond.code yX0_kindNow cX0_kindNow 2 (some .int), Cond.fieldLink RX0 34 "CellarPushers$Ground" "missing" "[Z", Cond.fieldLink RX0 27 "CellarPushers$Ground" "kinds" "[I", Cond.methodLink RX0 58 yX0_rampWay]
def wsX8_follow_r4 : List Cond := [Cond.instanceMethod yX0_rampWay, Cond.selects RX0 yX0_rampWay yX0_rampWay, Cond.code yX0_rampWay cX0_rampWay 2 (some .int), Cond.fieldLink RX0 31 "CellarPushers$Ground" "rampWays" "[I", Cond.methodLink RX3 50 yX3_roll, Cond.instanceMethod yX3_roll, Cond.selects RX3 yX3_roll yX3_roll, Cond.code yX3_roll cX3_roll 7 (some .int), Cond.methodLink RX3 67 yX0_rollsOn, Cond.instanceMethod yX0_rollsOn, Cond.selects RX0 yX0_rollsOn yX0_rollsOn, Cond.code yX0_rollsOn cX0_rollsOn 3 (some .boolean), Cond.methodLink RX3 70 yX0_barrelMayCome, Cond.instanceMethod yX0_barrelMayCome, Cond.selects RX0 yX0_barrelMayCome yX0_barrelMayCome, Cond.code yX0_barrelMayCome cX0_barrelMayCome 4 (some .boolean), Cond.static yX8_with, Cond.code yX8_with cX8_with 6 (some .long), Cond.constantLong RX8 196 (-1), Cond.methodLink RX8 148 yX8_act, Cond.instanceMethod yX8_act, Cond.selects RX8 yX8_act yX8_act, Cond.code yX8_act cX8_act 2 (some .int), Cond.fieldLink RX8 31 "CellarPushers" "timeline" "LCellarPushers$Timeline;"]
def wsX8_follow_r5 : List Cond := [Cond.methodLink RX8 259 yX5_record, Cond.instanceMethod yX5_record, Cond.selects RX5 yX5_record yX5_record, Cond.initialized RX5, Cond.code yX5_record cX5_record 3 none, Cond.fieldLink RX5 25 "CellarPushers$Timeline" "now" "I", Cond.fieldLink RX5 29 "CellarPushers$Timeline" "last" "I", Cond.methodLink RX5 32 yX5_keep, Cond.instanceMethod yX5_keep, Cond.selects RX5 yX5_keep yX5_keep, Cond.code yX5_keep cX5_keep 3 none, Cond.fieldLink RX5 9 "CellarPushers$Timeline" "men" "[I", Cond.fieldLink RX5 39 "CellarPushers$Scene" "manAt" "I", Cond.fieldLink RX5 15 "CellarPushers$Timeline" "barrels" "[J", Cond.fieldLink RX5 44 "CellarPushers$Scene" "barrels" "J", Cond.fieldLink RX5 19 "CellarPushers$Timeline" "steps" "[I", Cond.fieldLink RX5 47 "CellarPushers$Scene" "stepsDone" "I", Cond.fieldLink RX5 22 "CellarPushers$Timeline" "pushes" "[I", Cond.fieldLink RX5 50 "CellarPushers$Scene" "pushesDone" "I"]
def wsX8_follow : List Cond := .code yX8_follow cX8_follow 2 (some .int) :: ((wsX8_follow_r1 ++ (wsX8_follow_r2 ++ (wsX8_follow_r3 ++ (wsX8_follow_r4 ++ wsX8_follow_r5)))) ++ wsX80 ++ wsX70 ++ wsX30 ++ wsX00 ++ wsX50)
def wsX8_tell_r1 : List Cond := [Cond.fieldLink RX8 70 "CellarPushers" "tape" "LCellarPushers$Ways;", Cond.fieldLink RX8 221 "CellarPushers$Ways" "size" "I", Cond.methodLink RX8 81 yX8_isWay, Cond.static yX8_isWay, Cond.initialized RX8, Cond.code yX8_isWay cX8_isWay 1 (some .boolean), Cond.methodLink RX8 231 yX7_append, Cond.instanceMethod yX7_append, Cond.selects RX7 yX7_append yX7_append, Cond.initialized RX7, Cond.code yX7_append cX7_append 2 none, Cond.fieldLink RX7 19 "CellarPushers$Ways" "size" "I", Cond.fieldLink RX7 9 "CellarPushers$Ways" "ways" "[I", Cond.constant RX7 23 (131072), Cond.methodLink RX7 24 yJ7_copyOf_59c91, Cond.static yJ7_copyOf_59c91, Cond.initialized RJ7, Cond.code yJ7_copyOf_59c91 cJ7_copyOf_59c91 3 (some (.array .int)), Cond.methodLink RJ7 316 ⟨"[I", "clone", "()Ljava/lang/Object;"⟩, Cond.sameMethod "[I" "java/lang/Object" "clone" "()Ljava/lang/Object;", Cond.native ⟨"java/lang/Object", "clone", "()Ljava/lang/Object;"⟩, Cond.instanceMethod ⟨"java/lang/Object", "clone", "()Ljava/lang/Object;"⟩, Cond.selects "[I" ⟨"[I", "clone", "()Ljava/lang/Object;"⟩ ⟨"java/lang/Object", "clone", "()Ljava/lang/Object;"⟩, Cond.classLink RJ7 317 "[I"]
def wsX8_tell_r2 : List Cond := [Cond.arrayClass .int, Cond.methodLink RJ7 304 Lib.Math.min.name, Cond.static Lib.Math.min.name, Cond.initialized "java/lang/Math", Cond.code Lib.Math.min.name Lib.Math.min.code 2 (some .int), Cond.methodLink RJ7 150 arraycopyName, Cond.native arraycopyName, Cond.static arraycopyName, Cond.initialized "java/lang/System"]
def wsX8_tell : List Cond := .code yX8_tell cX8_tell 2 (some .int) :: ((wsX8_tell_r1 ++ wsX8_tell_r2) ++ wsX80 ++ wsX70)
def wsX8_copy_r1 : List Cond := [Cond.fieldLink RX8 66 "CellarPushers" "thePlan" "LCellarPushers$Ways;", Cond.fieldLink RX8 221 "CellarPushers$Ways" "size" "I", Cond.fieldLink RX8 70 "CellarPushers" "tape" "LCellarPushers$Ways;", Cond.methodLink RX8 235 yX7_become, Cond.instanceMethod yX7_become, Cond.selects RX7 yX7_become yX7_become, Cond.initialized RX7, Cond.code yX7_become cX7_become 3 none, Cond.fieldLink RX7 19 "CellarPushers$Ways" "size" "I", Cond.methodLink RX7 30 yX7_wayAt, Cond.instanceMethod yX7_wayAt, Cond.selects RX7 yX7_wayAt yX7_wayAt, Cond.code yX7_wayAt cX7_wayAt 2 (some .int), Cond.fieldLink RX7 9 "CellarPushers$Ways" "ways" "[I", Cond.methodLink RX7 15 yX7_isIn, Cond.instanceMethod yX7_isIn, Cond.selects RX7 yX7_isIn yX7_isIn, Cond.code yX7_isIn cX7_isIn 2 (some .boolean), Cond.methodLink RX7 34 yX7_append, Cond.instanceMethod yX7_append, Cond.selects RX7 yX7_append yX7_append, Cond.code yX7_append cX7_append 2 none, Cond.constant RX7 23 (131072), Cond.methodLink RX7 24 yJ7_copyOf_59c91]
def wsX8_copy_r2 : List Cond := [Cond.static yJ7_copyOf_59c91, Cond.initialized RJ7, Cond.code yJ7_copyOf_59c91 cJ7_copyOf_59c91 3 (some (.array .int)), Cond.methodLink RJ7 316 ⟨"[I", "clone", "()Ljava/lang/Object;"⟩, Cond.sameMethod "[I" "java/lang/Object" "clone" "()Ljava/lang/Object;", Cond.native ⟨"java/lang/Object", "clone", "()Ljava/lang/Object;"⟩, Cond.instanceMethod ⟨"java/lang/Object", "clone", "()Ljava/lang/Object;"⟩, Cond.selects "[I" ⟨"[I", "clone", "()Ljava/lang/Object;"⟩ ⟨"java/lang/Object", "clone", "()Ljava/lang/Object;"⟩, Cond.classLink RJ7 317 "[I", Cond.arrayClass .int, Cond.methodLink RJ7 304 Lib.Math.min.name, Cond.static Lib.Math.min.name, Cond.initialized "java/lang/Math", Cond.code Lib.Math.min.name Lib.Math.min.code 2 (some .int), Cond.methodLink RJ7 150 arraycopyName, Cond.native arraycopyName, Cond.static arraycopyName, Cond.initialized "java/lang/System"]
def wsX8_copy : List Cond := .code yX8_copy cX8_copy 1 (some .int) :: ((wsX8_copy_r1 ++ wsX8_copy_r2) ++ wsX80 ++ wsX70)
def wsX8_forge : List Cond := .code yX8_forge cX8_forge 4 (some .int) :: ([.fieldLink RX8 70 "CellarPushers" "tape" "LCellarPushers$Ways;", .methodLink RX8 224 yX7_wayAt, .instanceMethod yX7_wayAt, .selects RX7 yX7_wayAt yX7_wayAt, .initialized RX7, .code yX7_wayAt cX7_wayAt 2 (some .int), .fieldLink RX7 9 "CellarPushers$Ways" "ways" "[I", .methodLink RX7 15 yX7_isIn, .instanceMethod yX7_isIn, .selects RX7 yX7_isIn yX7_isIn, .code yX7_isIn cX7_isIn 2 (some .boolean), .fieldLink RX7 19 "CellarPushers$Ways" "size" "I", .methodLink RX8 81 yX8_isWay, .static yX8_isWay, .initialized RX8, .code yX8_isWay cX8_isWay 1 (some .boolean), .methodLink RX8 238 yX7_change, .instanceMethod yX7_change, .selects RX7 yX7_change yX7_change, .code yX7_change cX7_change 3 none] ++ wsX80 ++ wsX70)
def wsX8_hush : List Cond := .code yX8_hush cX8_hush 2 (some .int) :: ([.fieldLink RX8 70 "CellarPushers" "tape" "LCellarPushers$Ways;", .fieldLink RX8 221 "CellarPushers$Ways" "size" "I"] ++ wsX80 ++ wsX70)
def wsX8_check_r1 : List Cond := [Cond.fieldLink RX8 21 "CellarPushers" "scene" "LCellarPushers$Scene;", Cond.fieldLink RX8 25 "CellarPushers" "trial" "LCellarPushers$Scene;", Cond.fieldLink RX8 12 "CellarPushers" "ground" "LCellarPushers$Ground;", Cond.fieldLink RX8 70 "CellarPushers" "tape" "LCellarPushers$Ways;", Cond.fieldLink RX8 221 "CellarPushers$Ways" "size" "I", Cond.methodLink RX8 122 yX3_hasMan, Cond.instanceMethod yX3_hasMan, Cond.selects RX3 yX3_hasMan yX3_hasMan, Cond.initialized RX3, Cond.code yX3_hasMan cX3_hasMan 1 (some .boolean), Cond.fieldLink RX3 9 "CellarPushers$Scene" "manAt" "I", Cond.methodLink RX8 140 yX3_become, Cond.instanceMethod yX3_become, Cond.selects RX3 yX3_become yX3_become, Cond.code yX3_become cX3_become 2 none, Cond.fieldLink RX3 15 "CellarPushers$Scene" "barrels" "J", Cond.fieldLink RX3 19 "CellarPushers$Scene" "stepsDone" "I", Cond.fieldLink RX3 22 "CellarPushers$Scene" "pushesDone" "I", Cond.methodLink RX8 227 yX3_advanceBy, Cond.instanceMethod yX3_advanceBy, Cond.selects RX3 yX3_advanceBy yX3_advanceBy, Cond.code yX3_advanceBy cX3_advanceBy 4 (some .int), Cond.fieldLink RX3 54 "CellarPushers$Ways" "size" "I", Cond.methodLink RX3 59 yX7_wayAt]
def wsX8_check_r2 : List Cond := [Cond.instanceMethod yX7_wayAt, Cond.selects RX7 yX7_wayAt yX7_wayAt, Cond.initialized RX7, Cond.code yX7_wayAt cX7_wayAt 2 (some .int), Cond.fieldLink RX7 9 "CellarPushers$Ways" "ways" "[I", Cond.methodLink RX7 15 yX7_isIn, Cond.instanceMethod yX7_isIn, Cond.selects RX7 yX7_isIn yX7_isIn, Cond.code yX7_isIn cX7_isIn 2 (some .boolean), Cond.fieldLink RX7 19 "CellarPushers$Ways" "size" "I", Cond.methodLink RX3 63 yX3_advance, Cond.instanceMethod yX3_advance, Cond.selects RX3 yX3_advance yX3_advance, Cond.code yX3_advance cX3_advance 6 (some .int), Cond.methodLink RX3 33 yX3_hasMan, Cond.static yX8_isWay, Cond.initialized RX8, Cond.code yX8_isWay cX8_isWay 1 (some .boolean), Cond.methodLink RX3 40 yX0_beside, Cond.instanceMethod yX0_beside, Cond.selects RX0 yX0_beside yX0_beside, Cond.initialized RX0, Cond.code yX0_beside cX0_beside 3 (some .int), Cond.static yX8_isField]
def wsX8_check_r3 : List Cond := [Cond.code yX8_isField cX8_isField 1 (some .boolean), Cond.methodLink RX0 51 yX0_numberOf, Cond.instanceMethod yX0_numberOf, Cond.selects RX0 yX0_numberOf yX0_numberOf, Cond.code yX0_numberOf cX0_numberOf 4 (some .int), Cond.fieldLink RX0 18 "CellarPushers$Ground" "width" "I", Cond.fieldLink RX0 24 "CellarPushers$Ground" "height" "I", Cond.methodLink RX3 29 yX3_hasBarrel, Cond.instanceMethod yX3_hasBarrel, Cond.selects RX3 yX3_hasBarrel yX3_hasBarrel, Cond.code yX3_hasBarrel cX3_hasBarrel 2 (some .boolean), Cond.static yX8_has, Cond.code yX8_has cX8_has 3 (some .boolean), Cond.methodLink RX8 253 yX8_isField, Cond.methodLink RX3 46 yX0_manMayCome, Cond.instanceMethod yX0_manMayCome, Cond.selects RX0 yX0_manMayCome yX0_manMayCome, Cond.code yX0_manMayCome cX0_manMayCome 4 (some .boolean), Cond.methodLink RX0 54 yX0_kindNow, Cond.instanceMethod yX0_kindNow, Cond.selects RX0 yX0_kindNow yX0_kindNow, Cond.code yX0_kindNow cX0_kindNow 2 (some .int), Cond.fieldLink RX0 34 "CellarPushers$Ground" "missing" "[Z", Cond.fieldLink RX0 27 "CellarPushers$Ground" "kinds" "[I"]
def wsX8_check_r4 : List Cond := [Cond.methodLink RX0 58 yX0_rampWay, Cond.instanceMethod yX0_rampWay, Cond.selects RX0 yX0_rampWay yX0_rampWay, Cond.code yX0_rampWay cX0_rampWay 2 (some .int), Cond.fieldLink RX0 31 "CellarPushers$Ground" "rampWays" "[I", Cond.methodLink RX3 50 yX3_roll, Cond.instanceMethod yX3_roll, Cond.selects RX3 yX3_roll yX3_roll, Cond.code yX3_roll cX3_roll 7 (some .int), Cond.methodLink RX3 67 yX0_rollsOn, Cond.instanceMethod yX0_rollsOn, Cond.selects RX0 yX0_rollsOn yX0_rollsOn, Cond.code yX0_rollsOn cX0_rollsOn 3 (some .boolean), Cond.methodLink RX3 70 yX0_barrelMayCome, Cond.instanceMethod yX0_barrelMayCome, Cond.selects RX0 yX0_barrelMayCome yX0_barrelMayCome, Cond.code yX0_barrelMayCome cX0_barrelMayCome 4 (some .boolean), Cond.static yX8_with, Cond.code yX8_with cX8_with 6 (some .long), Cond.constantLong RX8 196 (-1), Cond.methodLink RX8 171 yX8_isDoneIn, Cond.instanceMethod yX8_isDoneIn, Cond.selects RX8 yX8_isDoneIn yX8_isDoneIn, Cond.code yX8_isDoneIn cX8_isDoneIn 2 (some .boolean)]
def wsX8_check_r5 : List Cond := [Cond.fieldLink RX8 133 "CellarPushers$Ground" "wanted" "J", Cond.fieldLink RX8 111 "CellarPushers$Scene" "barrels" "J"]
def wsX8_check : List Cond := .code yX8_check cX8_check 3 (some .int) :: ((wsX8_check_r1 ++ (wsX8_check_r2 ++ (wsX8_check_r3 ++ (wsX8_check_r4 ++ wsX8_check_r5)))) ++ wsX80 ++ wsX70 ++ wsX30 ++ wsX00)
def wsX8_count_r1 : List Cond := [Cond.fieldLink RX8 12 "CellarPushers" "ground" "LCellarPushers$Ground;", Cond.fieldLink RX8 21 "CellarPushers" "scene" "LCellarPushers$Scene;", Cond.fieldLink RX8 111 "CellarPushers$Scene" "barrels" "J", Cond.fieldLink RX8 133 "CellarPushers$Ground" "wanted" "J", Cond.fieldLink RX8 241 "CellarPushers$Scene" "stepsDone" "I", Cond.fieldLink RX8 244 "CellarPushers$Scene" "pushesDone" "I", Cond.fieldLink RX8 38 "CellarPushers" "walks" "LCellarPushers$Walks;", Cond.fieldLink RX8 247 "CellarPushers$Walks" "reached" "I", Cond.fieldLink RX8 31 "CellarPushers" "timeline" "LCellarPushers$Timeline;", Cond.fieldLink RX8 250 "CellarPushers$Timeline" "now" "I", Cond.fieldLink RX8 70 "CellarPushers" "tape" "LCellarPushers$Ways;", Cond.fieldLink RX8 221 "CellarPushers$Ways" "size" "I", Cond.fieldLink RX8 126 "CellarPushers$Scene" "manAt" "I", Cond.methodLink RX8 211 yX0_openFields, Cond.instanceMethod yX0_openFields, Cond.selects RX0 yX0_openFields yX0_openFields, Cond.initialized RX0, Cond.code yX0_openFields cX0_openFields 3 (some .int), Cond.methodLink RX0 54 yX0_kindNow, Cond.instanceMethod yX0_kindNow, Cond.selects RX0 yX0_kindNow yX0_kindNow, Cond.code yX0_kindNow cX0_kindNow 2 (some .int), Cond.fieldLink RX0 34 "CellarPushers$Ground" "missing" "[Z", Cond.fieldLink RX0 27 "CellarPushers$Ground" "kinds" "[I"]
def wsX8_count_r2 : List Cond := [Cond.methodLink RX8 175 yJ13_bitCount_95d88, Cond.static yJ13_bitCount_95d88, Cond.initialized RJ13, Cond.code yJ13_bitCount_95d88 cJ13_bitCount_95d88 2 (some .int), Cond.constantLong RJ13 314 (6148914691236517205), Cond.constantLong RJ13 316 (3689348814741910323), Cond.constantLong RJ13 318 (1085102592571150095), Cond.methodLink RX8 164 yX6_measure, Cond.instanceMethod yX6_measure, Cond.selects RX6 yX6_measure yX6_measure, Cond.initialized RX6, Cond.code yX6_measure cX6_measure 7 none, Cond.fieldLink RX6 9 "CellarPushers$Walks" "far" "[I", Cond.fieldLink RX6 24 "CellarPushers$Walks" "reached" "I", Cond.fieldLink RX6 28 "CellarPushers$Scene" "manAt" "I", Cond.fieldLink RX6 15 "CellarPushers$Walks" "queue" "[I", Cond.methodLink RX6 18 yJ7_fill_53178, Cond.static yJ7_fill_53178, Cond.initialized RJ7, Cond.code yJ7_fill_53178 cJ7_fill_53178 4 none, Cond.methodLink RX6 33 yX6_reach, Cond.instanceMethod yX6_reach, Cond.selects RX6 yX6_reach yX6_reach, Cond.code yX6_reach cX6_reach 3 none]
def wsX8_count_r3 : List Cond := [Cond.static yX8_isField, Cond.initialized RX8, Cond.code yX8_isField cX8_isField 1 (some .boolean), Cond.methodLink RX6 37 yX0_beside, Cond.instanceMethod yX0_beside, Cond.selects RX0 yX0_beside yX0_beside, Cond.code yX0_beside cX0_beside 3 (some .int), Cond.static yX8_isWay, Cond.code yX8_isWay cX8_isWay 1 (some .boolean), Cond.methodLink RX0 51 yX0_numberOf, Cond.instanceMethod yX0_numberOf, Cond.selects RX0 yX0_numberOf yX0_numberOf, Cond.code yX0_numberOf cX0_numberOf 4 (some .int), Cond.fieldLink RX0 18 "CellarPushers$Ground" "width" "I", Cond.fieldLink RX0 24 "CellarPushers$Ground" "height" "I", Cond.methodLink RX6 43 yX0_manMayCome, Cond.instanceMethod yX0_manMayCome, Cond.selects RX0 yX0_manMayCome yX0_manMayCome, Cond.code yX0_manMayCome cX0_manMayCome 4 (some .boolean), Cond.methodLink RX0 58 yX0_rampWay, Cond.instanceMethod yX0_rampWay, Cond.selects RX0 yX0_rampWay yX0_rampWay, Cond.code yX0_rampWay cX0_rampWay 2 (some .int), Cond.fieldLink RX0 31 "CellarPushers$Ground" "rampWays" "[I"]
def wsX8_count_r4 : List Cond := [Cond.methodLink RX6 47 yX3_hasBarrel, Cond.instanceMethod yX3_hasBarrel, Cond.selects RX3 yX3_hasBarrel yX3_hasBarrel, Cond.initialized RX3, Cond.code yX3_hasBarrel cX3_hasBarrel 2 (some .boolean), Cond.fieldLink RX3 15 "CellarPushers$Scene" "barrels" "J", Cond.static yX8_has, Cond.code yX8_has cX8_has 3 (some .boolean), Cond.methodLink RX8 253 yX8_isField, Cond.methodLink RX6 51 yX6_stepsTo, Cond.instanceMethod yX6_stepsTo, Cond.selects RX6 yX6_stepsTo yX6_stepsTo, Cond.code yX6_stepsTo cX6_stepsTo 2 (some .int)]
def wsX8_count : List Cond := .code yX8_count cX8_count 2 (some .int) :: ((wsX8_count_r1 ++ (wsX8_count_r2 ++ (wsX8_count_r3 ++ wsX8_count_r4))) ++ wsX80 ++ wsX30 ++ wsX00 ++ wsX60 ++ wsX50 ++ wsX70)
def wsX9_init_r1 : List Cond := [Cond.methodLink RX9 1 objectInit, Cond.instanceMethod objectInit, Cond.code objectInit ⟨#[0xb1]⟩ 1 none, Cond.arrayClass .int, Cond.fieldLink RX9 7 "CellarPushersModel" "kinds" "[I", Cond.fieldLink RX9 13 "CellarPushersModel" "ramps" "[I", Cond.arrayClass .boolean, Cond.fieldLink RX9 16 "CellarPushersModel" "missing" "[Z", Cond.fieldLink RX9 20 "CellarPushersModel" "barrels" "[Z", Cond.fieldLink RX9 23 "CellarPushersModel" "wanted" "[Z", Cond.fieldLink RX9 26 "CellarPushersModel" "man" "I", Cond.fieldLink RX9 30 "CellarPushersModel" "manThen" "[I", Cond.fieldLink RX9 33 "CellarPushersModel" "stepsThen" "[I", Cond.fieldLink RX9 36 "CellarPushersModel" "pushesThen" "[I", Cond.arrayClass .long, Cond.fieldLink RX9 39 "CellarPushersModel" "barrelsThen" "[J", Cond.fieldLink RX9 43 "CellarPushersModel" "plan" "[I", Cond.fieldLink RX9 46 "CellarPushersModel" "tape" "[I", Cond.fieldLink RX9 49 "CellarPushersModel" "why" "I", Cond.fieldLink RX9 52 "CellarPushersModel" "walks" "[I", Cond.fieldLink RX9 55 "CellarPushersModel" "prices" "[I", Cond.fieldLink RX9 58 "CellarPushersModel" "isHeld" "[Z", Cond.fieldLink RX9 61 "CellarPushersModel" "sums" "[I", Cond.fieldLink RX9 64 "CellarPushersModel" "then" "[I"]
def wsX9_init_r2 : List Cond := [Cond.fieldLink RX9 67 "CellarPushersModel" "order" "[I", Cond.fieldLink RX9 70 "CellarPushersModel" "fieldOf" "[I", Cond.constant RX9 73 (810000), Cond.fieldLink RX9 74 "CellarPushersModel" "cost" "[I", Cond.fieldLink RX9 77 "CellarPushersModel" "queue" "[I", Cond.fieldLink RX9 80 "CellarPushersModel" "path" "[I", Cond.fieldLink RX9 83 "CellarPushersModel" "tried" "[I", Cond.fieldLink RX9 86 "CellarPushersModel" "waits" "[Z", Cond.fieldLink RX9 89 "CellarPushersModel" "idle" "[Z", Cond.fieldLink RX9 92 "CellarPushersModel" "width" "I", Cond.fieldLink RX9 95 "CellarPushersModel" "height" "I"]
def wsX9_init : List Cond := .code yX9_init cX9_init 3 none :: ((wsX9_init_r1 ++ wsX9_init_r2) ++ wsX90)
def wsX9_isField : List Cond := .code yX9_isField cX9_isField 3 (some .boolean) :: ([.fieldLink RX9 92 "CellarPushersModel" "width" "I", .fieldLink RX9 95 "CellarPushersModel" "height" "I"] ++ wsX90)
def wsX9_beside : List Cond := .code yX9_beside cX9_beside 5 (some .int) :: ([.methodLink RX9 98 yX9_isField, .instanceMethod yX9_isField, .selects RX9 yX9_isField yX9_isField, .initialized RX9, .code yX9_isField cX9_isField 3 (some .boolean), .fieldLink RX9 92 "CellarPushersModel" "width" "I", .fieldLink RX9 95 "CellarPushersModel" "height" "I"] ++ wsX90)
def wsX9_kindOf : List Cond := .code yX9_kindOf cX9_kindOf 2 (some .int) :: ([.fieldLink RX9 16 "CellarPushersModel" "missing" "[Z", .fieldLink RX9 7 "CellarPushersModel" "kinds" "[I"] ++ wsX90)
def wsX9_lets : List Cond := .code yX9_lets cX9_lets 4 (some .boolean) :: ([.fieldLink RX9 13 "CellarPushersModel" "ramps" "[I", .methodLink RX9 102 yX9_kindOf, .instanceMethod yX9_kindOf, .selects RX9 yX9_kindOf yX9_kindOf, .initialized RX9, .code yX9_kindOf cX9_kindOf 2 (some .int), .fieldLink RX9 16 "CellarPushersModel" "missing" "[Z", .fieldLink RX9 7 "CellarPushersModel" "kinds" "[I"] ++ wsX90)
def wsX9_letsMan : List Cond := .code yX9_letsMan cX9_letsMan 3 (some .boolean) :: ([.methodLink RX9 106 yX9_lets, .instanceMethod yX9_lets, .selects RX9 yX9_lets yX9_lets, .initialized RX9, .code yX9_lets cX9_lets 4 (some .boolean), .fieldLink RX9 13 "CellarPushersModel" "ramps" "[I", .methodLink RX9 102 yX9_kindOf, .instanceMethod yX9_kindOf, .selects RX9 yX9_kindOf yX9_kindOf, .code yX9_kindOf cX9_kindOf 2 (some .int), .fieldLink RX9 16 "CellarPushersModel" "missing" "[Z", .fieldLink RX9 7 "CellarPushersModel" "kinds" "[I"] ++ wsX90)
def wsX9_mayMan : List Cond := .code yX9_mayMan cX9_mayMan 3 (some .boolean) :: ([.fieldLink RX9 20 "CellarPushersModel" "barrels" "[Z", .methodLink RX9 109 yX9_letsMan, .instanceMethod yX9_letsMan, .selects RX9 yX9_letsMan yX9_letsMan, .initialized RX9, .code yX9_letsMan cX9_letsMan 3 (some .boolean), .methodLink RX9 106 yX9_lets, .instanceMethod yX9_lets, .selects RX9 yX9_lets yX9_lets, .code yX9_lets cX9_lets 4 (some .boolean), .fieldLink RX9 13 "CellarPushersModel" "ramps" "[I", .methodLink RX9 102 yX9_kindOf, .instanceMethod yX9_kindOf, .selects RX9 yX9_kindOf yX9_kindOf, .code yX9_kindOf cX9_kindOf 2 (some .int), .fieldLink RX9 16 "CellarPushersModel" "missing" "[Z", .fieldLink RX9 7 "CellarPushersModel" "kinds" "[I"] ++ wsX90)
def wsX9_mayBarrel : List Cond := .code yX9_mayBarrel cX9_mayBarrel 3 (some .boolean) :: ([.fieldLink RX9 20 "CellarPushersModel" "barrels" "[Z", .methodLink RX9 106 yX9_lets, .instanceMethod yX9_lets, .selects RX9 yX9_lets yX9_lets, .initialized RX9, .code yX9_lets cX9_lets 4 (some .boolean), .fieldLink RX9 13 "CellarPushersModel" "ramps" "[I", .methodLink RX9 102 yX9_kindOf, .instanceMethod yX9_kindOf, .selects RX9 yX9_kindOf yX9_kindOf, .code yX9_kindOf cX9_kindOf 2 (some .int), .fieldLink RX9 16 "CellarPushersModel" "missing" "[Z", .fieldLink RX9 7 "CellarPushersModel" "kinds" "[I"] ++ wsX90)
def wsX9_isWay : List Cond := .code yX9_isWay cX9_isWay 1 (some .boolean) :: ([])
def wsX9_number : List Cond := .code yX9_number cX9_number 4 (some .int) :: ([])
def wsX9_forget : List Cond := .code yX9_forget cX9_forget 1 none :: ([.fieldLink RX9 112 "CellarPushersModel" "acts" "I", .fieldLink RX9 115 "CellarPushersModel" "undone" "I"] ++ wsX90)
def wsX9_field : List Cond := .code yX9_field cX9_field 7 (some .int) :: ([.fieldLink RX9 20 "CellarPushersModel" "barrels" "[Z", .fieldLink RX9 26 "CellarPushersModel" "man" "I", .fieldLink RX9 23 "CellarPushersModel" "wanted" "[Z", .fieldLink RX9 7 "CellarPushersModel" "kinds" "[I", .fieldLink RX9 13 "CellarPushersModel" "ramps" "[I", .methodLink RX9 98 yX9_isField, .instanceMethod yX9_isField, .selects RX9 yX9_isField yX9_isField, .initialized RX9, .code yX9_isField cX9_isField 3 (some .boolean), .fieldLink RX9 92 "CellarPushersModel" "width" "I", .fieldLink RX9 95 "CellarPushersModel" "height" "I", .methodLink RX9 118 yX9_isWay, .static yX9_isWay, .code yX9_isWay cX9_isWay 1 (some .boolean), .methodLink RX9 122 yX9_forget, .instanceMethod yX9_forget, .selects RX9 yX9_forget yX9_forget, .code yX9_forget cX9_forget 1 none, .fieldLink RX9 112 "CellarPushersModel" "acts" "I", .fieldLink RX9 115 "CellarPushersModel" "undone" "I"] ++ wsX90)
def wsX9_line : List Cond := .code yX9_line cX9_line 4 (some .int) :: ([.fieldLink RX9 95 "CellarPushersModel" "height" "I", .fieldLink RX9 20 "CellarPushersModel" "barrels" "[Z", .fieldLink RX9 26 "CellarPushersModel" "man" "I", .fieldLink RX9 23 "CellarPushersModel" "wanted" "[Z", .fieldLink RX9 16 "CellarPushersModel" "missing" "[Z", .methodLink RX9 122 yX9_forget, .instanceMethod yX9_forget, .selects RX9 yX9_forget yX9_forget, .initialized RX9, .code yX9_forget cX9_forget 1 none, .fieldLink RX9 112 "CellarPushersModel" "acts" "I", .fieldLink RX9 115 "CellarPushersModel" "undone" "I"] ++ wsX90)
def wsX9_barrel_r1 : List Cond := [Cond.fieldLink RX9 26 "CellarPushersModel" "man" "I", Cond.fieldLink RX9 20 "CellarPushersModel" "barrels" "[Z", Cond.methodLink RX9 98 yX9_isField, Cond.instanceMethod yX9_isField, Cond.selects RX9 yX9_isField yX9_isField, Cond.initialized RX9, Cond.code yX9_isField cX9_isField 3 (some .boolean), Cond.fieldLink RX9 92 "CellarPushersModel" "width" "I", Cond.fieldLink RX9 95 "CellarPushersModel" "height" "I", Cond.methodLink RX9 102 yX9_kindOf, Cond.instanceMethod yX9_kindOf, Cond.selects RX9 yX9_kindOf yX9_kindOf, Cond.code yX9_kindOf cX9_kindOf 2 (some .int), Cond.fieldLink RX9 16 "CellarPushersModel" "missing" "[Z", Cond.fieldLink RX9 7 "CellarPushersModel" "kinds" "[I", Cond.methodLink RX9 125 yX9_number, Cond.instanceMethod yX9_number, Cond.selects RX9 yX9_number yX9_number, Cond.code yX9_number cX9_number 4 (some .int), Cond.methodLink RX9 122 yX9_forget, Cond.instanceMethod yX9_forget, Cond.selects RX9 yX9_forget yX9_forget, Cond.code yX9_forget cX9_forget 1 none, Cond.fieldLink RX9 112 "CellarPushersModel" "acts" "I"]
def wsX9_barrel_r2 : List Cond := [Cond.fieldLink RX9 115 "CellarPushersModel" "undone" "I"]
def wsX9_barrel : List Cond := .code yX9_barrel cX9_barrel 6 (some .int) :: ((wsX9_barrel_r1 ++ wsX9_barrel_r2) ++ wsX90)
def wsX9_man : List Cond := .code yX9_man cX9_man 5 (some .int) :: ([.fieldLink RX9 20 "CellarPushersModel" "barrels" "[Z", .fieldLink RX9 26 "CellarPushersModel" "man" "I", .methodLink RX9 98 yX9_isField, .instanceMethod yX9_isField, .selects RX9 yX9_isField yX9_isField, .initialized RX9, .code yX9_isField cX9_isField 3 (some .boolean), .fieldLink RX9 92 "CellarPushersModel" "width" "I", .fieldLink RX9 95 "CellarPushersModel" "height" "I", .methodLink RX9 102 yX9_kindOf, .instanceMethod yX9_kindOf, .selects RX9 yX9_kindOf yX9_kindOf, .code yX9_kindOf cX9_kindOf 2 (some .int), .fieldLink RX9 16 "CellarPushersModel" "missing" "[Z", .fieldLink RX9 7 "CellarPushersModel" "kinds" "[I", .methodLink RX9 122 yX9_forget, .instanceMethod yX9_forget, .selects RX9 yX9_forget yX9_forget, .code yX9_forget cX9_forget 1 none, .fieldLink RX9 112 "CellarPushersModel" "acts" "I", .fieldLink RX9 115 "CellarPushersModel" "undone" "I"] ++ wsX90)
def wsX9_want : List Cond := .code yX9_want cX9_want 6 (some .int) :: ([.fieldLink RX9 23 "CellarPushersModel" "wanted" "[Z", .methodLink RX9 98 yX9_isField, .instanceMethod yX9_isField, .selects RX9 yX9_isField yX9_isField, .initialized RX9, .code yX9_isField cX9_isField 3 (some .boolean), .fieldLink RX9 92 "CellarPushersModel" "width" "I", .fieldLink RX9 95 "CellarPushersModel" "height" "I", .methodLink RX9 102 yX9_kindOf, .instanceMethod yX9_kindOf, .selects RX9 yX9_kindOf yX9_kindOf, .code yX9_kindOf cX9_kindOf 2 (some .int), .fieldLink RX9 16 "CellarPushersModel" "missing" "[Z", .fieldLink RX9 7 "CellarPushersModel" "kinds" "[I", .methodLink RX9 122 yX9_forget, .instanceMethod yX9_forget, .selects RX9 yX9_forget yX9_forget, .code yX9_forget cX9_forget 1 none, .fieldLink RX9 112 "CellarPushersModel" "acts" "I", .fieldLink RX9 115 "CellarPushersModel" "undone" "I"] ++ wsX90)
def wsX9_wouldStep_r1 : List Cond := [Cond.fieldLink RX9 26 "CellarPushersModel" "man" "I", Cond.fieldLink RX9 20 "CellarPushersModel" "barrels" "[Z", Cond.methodLink RX9 129 yX9_beside, Cond.instanceMethod yX9_beside, Cond.selects RX9 yX9_beside yX9_beside, Cond.initialized RX9, Cond.code yX9_beside cX9_beside 5 (some .int), Cond.methodLink RX9 98 yX9_isField, Cond.instanceMethod yX9_isField, Cond.selects RX9 yX9_isField yX9_isField, Cond.code yX9_isField cX9_isField 3 (some .boolean), Cond.fieldLink RX9 92 "CellarPushersModel" "width" "I", Cond.fieldLink RX9 95 "CellarPushersModel" "height" "I", Cond.methodLink RX9 133 yX9_mayMan, Cond.instanceMethod yX9_mayMan, Cond.selects RX9 yX9_mayMan yX9_mayMan, Cond.code yX9_mayMan cX9_mayMan 3 (some .boolean), Cond.methodLink RX9 109 yX9_letsMan, Cond.instanceMethod yX9_letsMan, Cond.selects RX9 yX9_letsMan yX9_letsMan, Cond.code yX9_letsMan cX9_letsMan 3 (some .boolean), Cond.methodLink RX9 106 yX9_lets, Cond.instanceMethod yX9_lets, Cond.selects RX9 yX9_lets yX9_lets]
def wsX9_wouldStep_r2 : List Cond := [Cond.code yX9_lets cX9_lets 4 (some .boolean), Cond.fieldLink RX9 13 "CellarPushersModel" "ramps" "[I", Cond.methodLink RX9 102 yX9_kindOf, Cond.instanceMethod yX9_kindOf, Cond.selects RX9 yX9_kindOf yX9_kindOf, Cond.code yX9_kindOf cX9_kindOf 2 (some .int), Cond.fieldLink RX9 16 "CellarPushersModel" "missing" "[Z", Cond.fieldLink RX9 7 "CellarPushersModel" "kinds" "[I", Cond.methodLink RX9 136 yX9_mayBarrel, Cond.instanceMethod yX9_mayBarrel, Cond.selects RX9 yX9_mayBarrel yX9_mayBarrel, Cond.code yX9_mayBarrel cX9_mayBarrel 3 (some .boolean)]
def wsX9_wouldStep : List Cond := .code yX9_wouldStep cX9_wouldStep 6 (some .int) :: ((wsX9_wouldStep_r1 ++ wsX9_wouldStep_r2) ++ wsX90)
def wsX9_does_r1 : List Cond := [Cond.fieldLink RX9 26 "CellarPushersModel" "man" "I", Cond.fieldLink RX9 20 "CellarPushersModel" "barrels" "[Z", Cond.fieldLink RX9 142 "CellarPushersModel" "pushes" "I", Cond.fieldLink RX9 145 "CellarPushersModel" "steps" "I", Cond.methodLink RX9 139 yX9_wouldStep, Cond.instanceMethod yX9_wouldStep, Cond.selects RX9 yX9_wouldStep yX9_wouldStep, Cond.initialized RX9, Cond.code yX9_wouldStep cX9_wouldStep 6 (some .int), Cond.methodLink RX9 129 yX9_beside, Cond.instanceMethod yX9_beside, Cond.selects RX9 yX9_beside yX9_beside, Cond.code yX9_beside cX9_beside 5 (some .int), Cond.methodLink RX9 98 yX9_isField, Cond.instanceMethod yX9_isField, Cond.selects RX9 yX9_isField yX9_isField, Cond.code yX9_isField cX9_isField 3 (some .boolean), Cond.fieldLink RX9 92 "CellarPushersModel" "width" "I", Cond.fieldLink RX9 95 "CellarPushersModel" "height" "I", Cond.methodLink RX9 133 yX9_mayMan, Cond.instanceMethod yX9_mayMan, Cond.selects RX9 yX9_mayMan yX9_mayMan, Cond.code yX9_mayMan cX9_mayMan 3 (some .boolean), Cond.methodLink RX9 109 yX9_letsMan]
def wsX9_does_r2 : List Cond := [Cond.instanceMethod yX9_letsMan, Cond.selects RX9 yX9_letsMan yX9_letsMan, Cond.code yX9_letsMan cX9_letsMan 3 (some .boolean), Cond.methodLink RX9 106 yX9_lets, Cond.instanceMethod yX9_lets, Cond.selects RX9 yX9_lets yX9_lets, Cond.code yX9_lets cX9_lets 4 (some .boolean), Cond.fieldLink RX9 13 "CellarPushersModel" "ramps" "[I", Cond.methodLink RX9 102 yX9_kindOf, Cond.instanceMethod yX9_kindOf, Cond.selects RX9 yX9_kindOf yX9_kindOf, Cond.code yX9_kindOf cX9_kindOf 2 (some .int), Cond.fieldLink RX9 16 "CellarPushersModel" "missing" "[Z", Cond.fieldLink RX9 7 "CellarPushersModel" "kinds" "[I", Cond.methodLink RX9 136 yX9_mayBarrel, Cond.instanceMethod yX9_mayBarrel, Cond.selects RX9 yX9_mayBarrel yX9_mayBarrel, Cond.code yX9_mayBarrel cX9_mayBarrel 3 (some .boolean)]
def wsX9_does : List Cond := .code yX9_does cX9_does 6 (some .int) :: ((wsX9_does_r1 ++ wsX9_does_r2) ++ wsX90)
def wsX9_bits : List Cond := .code yX9_bits cX9_bits 4 (some .long) :: ([.fieldLink RX9 20 "CellarPushersModel" "barrels" "[Z"] ++ wsX90)
def wsX9_keep : List Cond := .code yX9_keep cX9_keep 2 none :: ([.fieldLink RX9 30 "CellarPushersModel" "manThen" "[I", .fieldLink RX9 26 "CellarPushersModel" "man" "I", .fieldLink RX9 33 "CellarPushersModel" "stepsThen" "[I", .fieldLink RX9 145 "CellarPushersModel" "steps" "I", .fieldLink RX9 36 "CellarPushersModel" "pushesThen" "[I", .fieldLink RX9 142 "CellarPushersModel" "pushes" "I", .fieldLink RX9 39 "CellarPushersModel" "barrelsThen" "[J", .methodLink RX9 148 yX9_bits, .instanceMethod yX9_bits, .selects RX9 yX9_bits yX9_bits, .initialized RX9, .code yX9_bits cX9_bits 4 (some .long), .fieldLink RX9 20 "CellarPushersModel" "barrels" "[Z"] ++ wsX90)
def wsX9_back : List Cond := .code yX9_back cX9_back 3 none :: ([.fieldLink RX9 30 "CellarPushersModel" "manThen" "[I", .fieldLink RX9 26 "CellarPushersModel" "man" "I", .fieldLink RX9 33 "CellarPushersModel" "stepsThen" "[I", .fieldLink RX9 145 "CellarPushersModel" "steps" "I", .fieldLink RX9 36 "CellarPushersModel" "pushesThen" "[I", .fieldLink RX9 142 "CellarPushersModel" "pushes" "I", .fieldLink RX9 20 "CellarPushersModel" "barrels" "[Z", .fieldLink RX9 39 "CellarPushersModel" "barrelsThen" "[J"] ++ wsX90)
def wsX9_begins : List Cond := .code yX9_begins cX9_begins 1 none :: ([.fieldLink RX9 112 "CellarPushersModel" "acts" "I", .fieldLink RX9 115 "CellarPushersModel" "undone" "I", .methodLink RX9 152 yX9_keep, .instanceMethod yX9_keep, .selects RX9 yX9_keep yX9_keep, .initialized RX9, .code yX9_keep cX9_keep 2 none, .fieldLink RX9 30 "CellarPushersModel" "manThen" "[I", .fieldLink RX9 26 "CellarPushersModel" "man" "I", .fieldLink RX9 33 "CellarPushersModel" "stepsThen" "[I", .fieldLink RX9 145 "CellarPushersModel" "steps" "I", .fieldLink RX9 36 "CellarPushersModel" "pushesThen" "[I", .fieldLink RX9 142 "CellarPushersModel" "pushes" "I", .fieldLink RX9 39 "CellarPushersModel" "barrelsThen" "[J", .methodLink RX9 148 yX9_bits, .instanceMethod yX9_bits, .selects RX9 yX9_bits yX9_bits, .code yX9_bits cX9_bits 4 (some .long), .fieldLink RX9 20 "CellarPushersModel" "barrels" "[Z"] ++ wsX90)
def wsX9_ends : List Cond := .code yX9_ends cX9_ends 1 none :: ([.fieldLink RX9 112 "CellarPushersModel" "acts" "I", .methodLink RX9 152 yX9_keep, .instanceMethod yX9_keep, .selects RX9 yX9_keep yX9_keep, .initialized RX9, .code yX9_keep cX9_keep 2 none, .fieldLink RX9 30 "CellarPushersModel" "manThen" "[I", .fieldLink RX9 26 "CellarPushersModel" "man" "I", .fieldLink RX9 33 "CellarPushersModel" "stepsThen" "[I", .fieldLink RX9 145 "CellarPushersModel" "steps" "I", .fieldLink RX9 36 "CellarPushersModel" "pushesThen" "[I", .fieldLink RX9 142 "CellarPushersModel" "pushes" "I", .fieldLink RX9 39 "CellarPushersModel" "barrelsThen" "[J", .methodLink RX9 148 yX9_bits, .instanceMethod yX9_bits, .selects RX9 yX9_bits yX9_bits, .code yX9_bits cX9_bits 4 (some .long), .fieldLink RX9 20 "CellarPushersModel" "barrels" "[Z"] ++ wsX90)
def wsX9_step_r1 : List Cond := [Cond.fieldLink RX9 26 "CellarPushersModel" "man" "I", Cond.methodLink RX9 118 yX9_isWay, Cond.static yX9_isWay, Cond.initialized RX9, Cond.code yX9_isWay cX9_isWay 1 (some .boolean), Cond.methodLink RX9 139 yX9_wouldStep, Cond.instanceMethod yX9_wouldStep, Cond.selects RX9 yX9_wouldStep yX9_wouldStep, Cond.code yX9_wouldStep cX9_wouldStep 6 (some .int), Cond.fieldLink RX9 20 "CellarPushersModel" "barrels" "[Z", Cond.methodLink RX9 129 yX9_beside, Cond.instanceMethod yX9_beside, Cond.selects RX9 yX9_beside yX9_beside, Cond.code yX9_beside cX9_beside 5 (some .int), Cond.methodLink RX9 98 yX9_isField, Cond.instanceMethod yX9_isField, Cond.selects RX9 yX9_isField yX9_isField, Cond.code yX9_isField cX9_isField 3 (some .boolean), Cond.fieldLink RX9 92 "CellarPushersModel" "width" "I", Cond.fieldLink RX9 95 "CellarPushersModel" "height" "I", Cond.methodLink RX9 133 yX9_mayMan, Cond.instanceMethod yX9_mayMan, Cond.selects RX9 yX9_mayMan yX9_mayMan, Cond.code yX9_mayMan cX9_mayMan 3 (some .boolean)]
def wsX9_step_r2 : List Cond := [Cond.methodLink RX9 109 yX9_letsMan, Cond.instanceMethod yX9_letsMan, Cond.selects RX9 yX9_letsMan yX9_letsMan, Cond.code yX9_letsMan cX9_letsMan 3 (some .boolean), Cond.methodLink RX9 106 yX9_lets, Cond.instanceMethod yX9_lets, Cond.selects RX9 yX9_lets yX9_lets, Cond.code yX9_lets cX9_lets 4 (some .boolean), Cond.fieldLink RX9 13 "CellarPushersModel" "ramps" "[I", Cond.methodLink RX9 102 yX9_kindOf, Cond.instanceMethod yX9_kindOf, Cond.selects RX9 yX9_kindOf yX9_kindOf, Cond.code yX9_kindOf cX9_kindOf 2 (some .int), Cond.fieldLink RX9 16 "CellarPushersModel" "missing" "[Z", Cond.fieldLink RX9 7 "CellarPushersModel" "kinds" "[I", Cond.methodLink RX9 136 yX9_mayBarrel, Cond.instanceMethod yX9_mayBarrel, Cond.selects RX9 yX9_mayBarrel yX9_mayBarrel, Cond.code yX9_mayBarrel cX9_mayBarrel 3 (some .boolean), Cond.methodLink RX9 156 yX9_begins, Cond.instanceMethod yX9_begins, Cond.selects RX9 yX9_begins yX9_begins, Cond.code yX9_begins cX9_begins 1 none, Cond.fieldLink RX9 112 "CellarPushersModel" "acts" "I"]
def wsX9_step_r3 : List Cond := [Cond.fieldLink RX9 115 "CellarPushersModel" "undone" "I", Cond.methodLink RX9 152 yX9_keep, Cond.instanceMethod yX9_keep, Cond.selects RX9 yX9_keep yX9_keep, Cond.code yX9_keep cX9_keep 2 none, Cond.fieldLink RX9 30 "CellarPushersModel" "manThen" "[I", Cond.fieldLink RX9 33 "CellarPushersModel" "stepsThen" "[I", Cond.fieldLink RX9 145 "CellarPushersModel" "steps" "I", Cond.fieldLink RX9 36 "CellarPushersModel" "pushesThen" "[I", Cond.fieldLink RX9 142 "CellarPushersModel" "pushes" "I", Cond.fieldLink RX9 39 "CellarPushersModel" "barrelsThen" "[J", Cond.methodLink RX9 148 yX9_bits, Cond.instanceMethod yX9_bits, Cond.selects RX9 yX9_bits yX9_bits, Cond.code yX9_bits cX9_bits 4 (some .long), Cond.methodLink RX9 159 yX9_does, Cond.instanceMethod yX9_does, Cond.selects RX9 yX9_does yX9_does, Cond.code yX9_does cX9_does 6 (some .int), Cond.methodLink RX9 162 yX9_ends, Cond.instanceMethod yX9_ends, Cond.selects RX9 yX9_ends yX9_ends, Cond.code yX9_ends cX9_ends 1 none]
def wsX9_step : List Cond := .code yX9_step cX9_step 4 (some .int) :: ((wsX9_step_r1 ++ (wsX9_step_r2 ++ wsX9_step_r3)) ++ wsX90)
def wsX9_walkOut_r1 : List Cond := [Cond.fieldLink RX9 52 "CellarPushersModel" "walks" "[I", Cond.fieldLink RX9 26 "CellarPushersModel" "man" "I", Cond.methodLink RX9 129 yX9_beside, Cond.instanceMethod yX9_beside, Cond.selects RX9 yX9_beside yX9_beside, Cond.initialized RX9, Cond.code yX9_beside cX9_beside 5 (some .int), Cond.methodLink RX9 98 yX9_isField, Cond.instanceMethod yX9_isField, Cond.selects RX9 yX9_isField yX9_isField, Cond.code yX9_isField cX9_isField 3 (some .boolean), Cond.fieldLink RX9 92 "CellarPushersModel" "width" "I", Cond.fieldLink RX9 95 "CellarPushersModel" "height" "I", Cond.methodLink RX9 133 yX9_mayMan, Cond.instanceMethod yX9_mayMan, Cond.selects RX9 yX9_mayMan yX9_mayMan, Cond.code yX9_mayMan cX9_mayMan 3 (some .boolean), Cond.fieldLink RX9 20 "CellarPushersModel" "barrels" "[Z", Cond.methodLink RX9 109 yX9_letsMan, Cond.instanceMethod yX9_letsMan, Cond.selects RX9 yX9_letsMan yX9_letsMan, Cond.code yX9_letsMan cX9_letsMan 3 (some .boolean), Cond.methodLink RX9 106 yX9_lets, Cond.instanceMethod yX9_lets]
def wsX9_walkOut_r2 : List Cond := [Cond.selects RX9 yX9_lets yX9_lets, Cond.code yX9_lets cX9_lets 4 (some .boolean), Cond.fieldLink RX9 13 "CellarPushersModel" "ramps" "[I", Cond.methodLink RX9 102 yX9_kindOf, Cond.instanceMethod yX9_kindOf, Cond.selects RX9 yX9_kindOf yX9_kindOf, Cond.code yX9_kindOf cX9_kindOf 2 (some .int), Cond.fieldLink RX9 16 "CellarPushersModel" "missing" "[Z", Cond.fieldLink RX9 7 "CellarPushersModel" "kinds" "[I"]
def wsX9_walkOut : List Cond := .code yX9_walkOut cX9_walkOut 6 none :: ((wsX9_walkOut_r1 ++ wsX9_walkOut_r2) ++ wsX90)
def wsX9_walk_r1 : List Cond := [Cond.fieldLink RX9 26 "CellarPushersModel" "man" "I", Cond.fieldLink RX9 52 "CellarPushersModel" "walks" "[I", Cond.fieldLink RX9 145 "CellarPushersModel" "steps" "I", Cond.methodLink RX9 98 yX9_isField, Cond.instanceMethod yX9_isField, Cond.selects RX9 yX9_isField yX9_isField, Cond.initialized RX9, Cond.code yX9_isField cX9_isField 3 (some .boolean), Cond.fieldLink RX9 92 "CellarPushersModel" "width" "I", Cond.fieldLink RX9 95 "CellarPushersModel" "height" "I", Cond.methodLink RX9 165 yX9_walkOut, Cond.instanceMethod yX9_walkOut, Cond.selects RX9 yX9_walkOut yX9_walkOut, Cond.code yX9_walkOut cX9_walkOut 6 none, Cond.methodLink RX9 129 yX9_beside, Cond.instanceMethod yX9_beside, Cond.selects RX9 yX9_beside yX9_beside, Cond.code yX9_beside cX9_beside 5 (some .int), Cond.methodLink RX9 133 yX9_mayMan, Cond.instanceMethod yX9_mayMan, Cond.selects RX9 yX9_mayMan yX9_mayMan, Cond.code yX9_mayMan cX9_mayMan 3 (some .boolean), Cond.fieldLink RX9 20 "CellarPushersModel" "barrels" "[Z", Cond.methodLink RX9 109 yX9_letsMan]
def wsX9_walk_r2 : List Cond := [Cond.instanceMethod yX9_letsMan, Cond.selects RX9 yX9_letsMan yX9_letsMan, Cond.code yX9_letsMan cX9_letsMan 3 (some .boolean), Cond.methodLink RX9 106 yX9_lets, Cond.instanceMethod yX9_lets, Cond.selects RX9 yX9_lets yX9_lets, Cond.code yX9_lets cX9_lets 4 (some .boolean), Cond.fieldLink RX9 13 "CellarPushersModel" "ramps" "[I", Cond.methodLink RX9 102 yX9_kindOf, Cond.instanceMethod yX9_kindOf, Cond.selects RX9 yX9_kindOf yX9_kindOf, Cond.code yX9_kindOf cX9_kindOf 2 (some .int), Cond.fieldLink RX9 16 "CellarPushersModel" "missing" "[Z", Cond.fieldLink RX9 7 "CellarPushersModel" "kinds" "[I", Cond.methodLink RX9 156 yX9_begins, Cond.instanceMethod yX9_begins, Cond.selects RX9 yX9_begins yX9_begins, Cond.code yX9_begins cX9_begins 1 none, Cond.fieldLink RX9 112 "CellarPushersModel" "acts" "I", Cond.fieldLink RX9 115 "CellarPushersModel" "undone" "I", Cond.methodLink RX9 152 yX9_keep, Cond.instanceMethod yX9_keep, Cond.selects RX9 yX9_keep yX9_keep, Cond.code yX9_keep cX9_keep 2 none]
def wsX9_walk_r3 : List Cond := [Cond.fieldLink RX9 30 "CellarPushersModel" "manThen" "[I", Cond.fieldLink RX9 33 "CellarPushersModel" "stepsThen" "[I", Cond.fieldLink RX9 36 "CellarPushersModel" "pushesThen" "[I", Cond.fieldLink RX9 142 "CellarPushersModel" "pushes" "I", Cond.fieldLink RX9 39 "CellarPushersModel" "barrelsThen" "[J", Cond.methodLink RX9 148 yX9_bits, Cond.instanceMethod yX9_bits, Cond.selects RX9 yX9_bits yX9_bits, Cond.code yX9_bits cX9_bits 4 (some .long), Cond.methodLink RX9 162 yX9_ends, Cond.instanceMethod yX9_ends, Cond.selects RX9 yX9_ends yX9_ends, Cond.code yX9_ends cX9_ends 1 none]
def wsX9_walk : List Cond := .code yX9_walk cX9_walk 4 (some .int) :: ((wsX9_walk_r1 ++ (wsX9_walk_r2 ++ wsX9_walk_r3)) ++ wsX90)
def wsX9_can_r1 : List Cond := [Cond.fieldLink RX9 26 "CellarPushersModel" "man" "I", Cond.fieldLink RX9 20 "CellarPushersModel" "barrels" "[Z", Cond.fieldLink RX9 52 "CellarPushersModel" "walks" "[I", Cond.methodLink RX9 98 yX9_isField, Cond.instanceMethod yX9_isField, Cond.selects RX9 yX9_isField yX9_isField, Cond.initialized RX9, Cond.code yX9_isField cX9_isField 3 (some .boolean), Cond.fieldLink RX9 92 "CellarPushersModel" "width" "I", Cond.fieldLink RX9 95 "CellarPushersModel" "height" "I", Cond.methodLink RX9 118 yX9_isWay, Cond.static yX9_isWay, Cond.code yX9_isWay cX9_isWay 1 (some .boolean), Cond.methodLink RX9 129 yX9_beside, Cond.instanceMethod yX9_beside, Cond.selects RX9 yX9_beside yX9_beside, Cond.code yX9_beside cX9_beside 5 (some .int), Cond.methodLink RX9 165 yX9_walkOut, Cond.instanceMethod yX9_walkOut, Cond.selects RX9 yX9_walkOut yX9_walkOut, Cond.code yX9_walkOut cX9_walkOut 6 none, Cond.methodLink RX9 133 yX9_mayMan, Cond.instanceMethod yX9_mayMan, Cond.selects RX9 yX9_mayMan yX9_mayMan]
def wsX9_can_r2 : List Cond := [Cond.code yX9_mayMan cX9_mayMan 3 (some .boolean), Cond.methodLink RX9 109 yX9_letsMan, Cond.instanceMethod yX9_letsMan, Cond.selects RX9 yX9_letsMan yX9_letsMan, Cond.code yX9_letsMan cX9_letsMan 3 (some .boolean), Cond.methodLink RX9 106 yX9_lets, Cond.instanceMethod yX9_lets, Cond.selects RX9 yX9_lets yX9_lets, Cond.code yX9_lets cX9_lets 4 (some .boolean), Cond.fieldLink RX9 13 "CellarPushersModel" "ramps" "[I", Cond.methodLink RX9 102 yX9_kindOf, Cond.instanceMethod yX9_kindOf, Cond.selects RX9 yX9_kindOf yX9_kindOf, Cond.code yX9_kindOf cX9_kindOf 2 (some .int), Cond.fieldLink RX9 16 "CellarPushersModel" "missing" "[Z", Cond.fieldLink RX9 7 "CellarPushersModel" "kinds" "[I", Cond.methodLink RX9 139 yX9_wouldStep, Cond.instanceMethod yX9_wouldStep, Cond.selects RX9 yX9_wouldStep yX9_wouldStep, Cond.code yX9_wouldStep cX9_wouldStep 6 (some .int), Cond.methodLink RX9 136 yX9_mayBarrel, Cond.instanceMethod yX9_mayBarrel, Cond.selects RX9 yX9_mayBarrel yX9_mayBarrel, Cond.code yX9_mayBarrel cX9_mayBarrel 3 (some .boolean)]
def wsX9_can : List Cond := .code yX9_can cX9_can 7 (some .int) :: ((wsX9_can_r1 ++ wsX9_can_r2) ++ wsX90)
def wsX9_push_r1 : List Cond := [Cond.fieldLink RX9 145 "CellarPushersModel" "steps" "I", Cond.fieldLink RX9 52 "CellarPushersModel" "walks" "[I", Cond.fieldLink RX9 26 "CellarPushersModel" "man" "I", Cond.methodLink RX9 168 yX9_can, Cond.instanceMethod yX9_can, Cond.selects RX9 yX9_can yX9_can, Cond.initialized RX9, Cond.code yX9_can cX9_can 7 (some .int), Cond.fieldLink RX9 20 "CellarPushersModel" "barrels" "[Z", Cond.methodLink RX9 98 yX9_isField, Cond.instanceMethod yX9_isField, Cond.selects RX9 yX9_isField yX9_isField, Cond.code yX9_isField cX9_isField 3 (some .boolean), Cond.fieldLink RX9 92 "CellarPushersModel" "width" "I", Cond.fieldLink RX9 95 "CellarPushersModel" "height" "I", Cond.methodLink RX9 118 yX9_isWay, Cond.static yX9_isWay, Cond.code yX9_isWay cX9_isWay 1 (some .boolean), Cond.methodLink RX9 129 yX9_beside, Cond.instanceMethod yX9_beside, Cond.selects RX9 yX9_beside yX9_beside, Cond.code yX9_beside cX9_beside 5 (some .int), Cond.methodLink RX9 165 yX9_walkOut, Cond.instanceMethod yX9_walkOut]
def wsX9_push_r2 : List Cond := [Cond.selects RX9 yX9_walkOut yX9_walkOut, Cond.code yX9_walkOut cX9_walkOut 6 none, Cond.methodLink RX9 133 yX9_mayMan, Cond.instanceMethod yX9_mayMan, Cond.selects RX9 yX9_mayMan yX9_mayMan, Cond.code yX9_mayMan cX9_mayMan 3 (some .boolean), Cond.methodLink RX9 109 yX9_letsMan, Cond.instanceMethod yX9_letsMan, Cond.selects RX9 yX9_letsMan yX9_letsMan, Cond.code yX9_letsMan cX9_letsMan 3 (some .boolean), Cond.methodLink RX9 106 yX9_lets, Cond.instanceMethod yX9_lets, Cond.selects RX9 yX9_lets yX9_lets, Cond.code yX9_lets cX9_lets 4 (some .boolean), Cond.fieldLink RX9 13 "CellarPushersModel" "ramps" "[I", Cond.methodLink RX9 102 yX9_kindOf, Cond.instanceMethod yX9_kindOf, Cond.selects RX9 yX9_kindOf yX9_kindOf, Cond.code yX9_kindOf cX9_kindOf 2 (some .int), Cond.fieldLink RX9 16 "CellarPushersModel" "missing" "[Z", Cond.fieldLink RX9 7 "CellarPushersModel" "kinds" "[I", Cond.methodLink RX9 139 yX9_wouldStep, Cond.instanceMethod yX9_wouldStep, Cond.selects RX9 yX9_wouldStep yX9_wouldStep]
def wsX9_push_r3 : List Cond := [Cond.code yX9_wouldStep cX9_wouldStep 6 (some .int), Cond.methodLink RX9 136 yX9_mayBarrel, Cond.instanceMethod yX9_mayBarrel, Cond.selects RX9 yX9_mayBarrel yX9_mayBarrel, Cond.code yX9_mayBarrel cX9_mayBarrel 3 (some .boolean), Cond.methodLink RX9 156 yX9_begins, Cond.instanceMethod yX9_begins, Cond.selects RX9 yX9_begins yX9_begins, Cond.code yX9_begins cX9_begins 1 none, Cond.fieldLink RX9 112 "CellarPushersModel" "acts" "I", Cond.fieldLink RX9 115 "CellarPushersModel" "undone" "I", Cond.methodLink RX9 152 yX9_keep, Cond.instanceMethod yX9_keep, Cond.selects RX9 yX9_keep yX9_keep, Cond.code yX9_keep cX9_keep 2 none, Cond.fieldLink RX9 30 "CellarPushersModel" "manThen" "[I", Cond.fieldLink RX9 33 "CellarPushersModel" "stepsThen" "[I", Cond.fieldLink RX9 36 "CellarPushersModel" "pushesThen" "[I", Cond.fieldLink RX9 142 "CellarPushersModel" "pushes" "I", Cond.fieldLink RX9 39 "CellarPushersModel" "barrelsThen" "[J", Cond.methodLink RX9 148 yX9_bits, Cond.instanceMethod yX9_bits, Cond.selects RX9 yX9_bits yX9_bits, Cond.code yX9_bits cX9_bits 4 (some .long)]
def wsX9_push_r4 : List Cond := [Cond.methodLink RX9 159 yX9_does, Cond.instanceMethod yX9_does, Cond.selects RX9 yX9_does yX9_does, Cond.code yX9_does cX9_does 6 (some .int), Cond.methodLink RX9 162 yX9_ends, Cond.instanceMethod yX9_ends, Cond.selects RX9 yX9_ends yX9_ends, Cond.code yX9_ends cX9_ends 1 none]
def wsX9_push : List Cond := .code yX9_push cX9_push 7 (some .int) :: ((wsX9_push_r1 ++ (wsX9_push_r2 ++ (wsX9_push_r3 ++ wsX9_push_r4))) ++ wsX90)
def wsX9_undo : List Cond := .code yX9_undo cX9_undo 1 (some .int) :: ([.fieldLink RX9 112 "CellarPushersModel" "acts" "I", .fieldLink RX9 115 "CellarPushersModel" "undone" "I", .methodLink RX9 172 yX9_back, .instanceMethod yX9_back, .selects RX9 yX9_back yX9_back, .initialized RX9, .code yX9_back cX9_back 3 none, .fieldLink RX9 30 "CellarPushersModel" "manThen" "[I", .fieldLink RX9 26 "CellarPushersModel" "man" "I", .fieldLink RX9 33 "CellarPushersModel" "stepsThen" "[I", .fieldLink RX9 145 "CellarPushersModel" "steps" "I", .fieldLink RX9 36 "CellarPushersModel" "pushesThen" "[I", .fieldLink RX9 142 "CellarPushersModel" "pushes" "I", .fieldLink RX9 20 "CellarPushersModel" "barrels" "[Z", .fieldLink RX9 39 "CellarPushersModel" "barrelsThen" "[J"] ++ wsX90)
def wsX9_redo : List Cond := .code yX9_redo cX9_redo 1 (some .int) :: ([.fieldLink RX9 115 "CellarPushersModel" "undone" "I", .fieldLink RX9 112 "CellarPushersModel" "acts" "I", .methodLink RX9 172 yX9_back, .instanceMethod yX9_back, .selects RX9 yX9_back yX9_back, .initialized RX9, .code yX9_back cX9_back 3 none, .fieldLink RX9 30 "CellarPushersModel" "manThen" "[I", .fieldLink RX9 26 "CellarPushersModel" "man" "I", .fieldLink RX9 33 "CellarPushersModel" "stepsThen" "[I", .fieldLink RX9 145 "CellarPushersModel" "steps" "I", .fieldLink RX9 36 "CellarPushersModel" "pushesThen" "[I", .fieldLink RX9 142 "CellarPushersModel" "pushes" "I", .fieldLink RX9 20 "CellarPushersModel" "barrels" "[Z", .fieldLink RX9 39 "CellarPushersModel" "barrelsThen" "[J"] ++ wsX90)
def wsX9_kind : List Cond := .code yX9_kind cX9_kind 3 (some .int) :: ([.methodLink RX9 98 yX9_isField, .instanceMethod yX9_isField, .selects RX9 yX9_isField yX9_isField, .initialized RX9, .code yX9_isField cX9_isField 3 (some .boolean), .fieldLink RX9 92 "CellarPushersModel" "width" "I", .fieldLink RX9 95 "CellarPushersModel" "height" "I", .methodLink RX9 102 yX9_kindOf, .instanceMethod yX9_kindOf, .selects RX9 yX9_kindOf yX9_kindOf, .code yX9_kindOf cX9_kindOf 2 (some .int), .fieldLink RX9 16 "CellarPushersModel" "missing" "[Z", .fieldLink RX9 7 "CellarPushersModel" "kinds" "[I"] ++ wsX90)
def wsX9_on : List Cond := .code yX9_on cX9_on 4 (some .int) :: ([.fieldLink RX9 20 "CellarPushersModel" "barrels" "[Z", .fieldLink RX9 26 "CellarPushersModel" "man" "I", .fieldLink RX9 23 "CellarPushersModel" "wanted" "[Z", .methodLink RX9 98 yX9_isField, .instanceMethod yX9_isField, .selects RX9 yX9_isField yX9_isField, .initialized RX9, .code yX9_isField cX9_isField 3 (some .boolean), .fieldLink RX9 92 "CellarPushersModel" "width" "I", .fieldLink RX9 95 "CellarPushersModel" "height" "I"] ++ wsX90)
def wsX9_far_r1 : List Cond := [Cond.fieldLink RX9 26 "CellarPushersModel" "man" "I", Cond.fieldLink RX9 52 "CellarPushersModel" "walks" "[I", Cond.methodLink RX9 98 yX9_isField, Cond.instanceMethod yX9_isField, Cond.selects RX9 yX9_isField yX9_isField, Cond.initialized RX9, Cond.code yX9_isField cX9_isField 3 (some .boolean), Cond.fieldLink RX9 92 "CellarPushersModel" "width" "I", Cond.fieldLink RX9 95 "CellarPushersModel" "height" "I", Cond.methodLink RX9 165 yX9_walkOut, Cond.instanceMethod yX9_walkOut, Cond.selects RX9 yX9_walkOut yX9_walkOut, Cond.code yX9_walkOut cX9_walkOut 6 none, Cond.methodLink RX9 129 yX9_beside, Cond.instanceMethod yX9_beside, Cond.selects RX9 yX9_beside yX9_beside, Cond.code yX9_beside cX9_beside 5 (some .int), Cond.methodLink RX9 133 yX9_mayMan, Cond.instanceMethod yX9_mayMan, Cond.selects RX9 yX9_mayMan yX9_mayMan, Cond.code yX9_mayMan cX9_mayMan 3 (some .boolean), Cond.fieldLink RX9 20 "CellarPushersModel" "barrels" "[Z", Cond.methodLink RX9 109 yX9_letsMan, Cond.instanceMethod yX9_letsMan]
def wsX9_far_r2 : List Cond := [Cond.selects RX9 yX9_letsMan yX9_letsMan, Cond.code yX9_letsMan cX9_letsMan 3 (some .boolean), Cond.methodLink RX9 106 yX9_lets, Cond.instanceMethod yX9_lets, Cond.selects RX9 yX9_lets yX9_lets, Cond.code yX9_lets cX9_lets 4 (some .boolean), Cond.fieldLink RX9 13 "CellarPushersModel" "ramps" "[I", Cond.methodLink RX9 102 yX9_kindOf, Cond.instanceMethod yX9_kindOf, Cond.selects RX9 yX9_kindOf yX9_kindOf, Cond.code yX9_kindOf cX9_kindOf 2 (some .int), Cond.fieldLink RX9 16 "CellarPushersModel" "missing" "[Z", Cond.fieldLink RX9 7 "CellarPushersModel" "kinds" "[I"]
def wsX9_far : List Cond := .code yX9_far cX9_far 3 (some .int) :: ((wsX9_far_r1 ++ wsX9_far_r2) ++ wsX90)
def wsX9_isDone : List Cond := .code yX9_isDone cX9_isDone 2 (some .boolean) :: ([.fieldLink RX9 23 "CellarPushersModel" "wanted" "[Z", .fieldLink RX9 20 "CellarPushersModel" "barrels" "[Z"] ++ wsX90)
def wsX9_isReady : List Cond := .code yX9_isReady cX9_isReady 1 (some .boolean) :: ([.fieldLink RX9 26 "CellarPushersModel" "man" "I", .fieldLink RX9 20 "CellarPushersModel" "barrels" "[Z", .fieldLink RX9 23 "CellarPushersModel" "wanted" "[Z", .methodLink RX9 125 yX9_number, .instanceMethod yX9_number, .selects RX9 yX9_number yX9_number, .initialized RX9, .code yX9_number cX9_number 4 (some .int)] ++ wsX90)
def wsX9_pushOut_r1 : List Cond := [Cond.fieldLink RX9 55 "CellarPushersModel" "prices" "[I", Cond.methodLink RX9 129 yX9_beside, Cond.instanceMethod yX9_beside, Cond.selects RX9 yX9_beside yX9_beside, Cond.initialized RX9, Cond.code yX9_beside cX9_beside 5 (some .int), Cond.methodLink RX9 98 yX9_isField, Cond.instanceMethod yX9_isField, Cond.selects RX9 yX9_isField yX9_isField, Cond.code yX9_isField cX9_isField 3 (some .boolean), Cond.fieldLink RX9 92 "CellarPushersModel" "width" "I", Cond.fieldLink RX9 95 "CellarPushersModel" "height" "I", Cond.methodLink RX9 102 yX9_kindOf, Cond.instanceMethod yX9_kindOf, Cond.selects RX9 yX9_kindOf yX9_kindOf, Cond.code yX9_kindOf cX9_kindOf 2 (some .int), Cond.fieldLink RX9 16 "CellarPushersModel" "missing" "[Z", Cond.fieldLink RX9 7 "CellarPushersModel" "kinds" "[I", Cond.methodLink RX9 109 yX9_letsMan, Cond.instanceMethod yX9_letsMan, Cond.selects RX9 yX9_letsMan yX9_letsMan, Cond.code yX9_letsMan cX9_letsMan 3 (some .boolean), Cond.methodLink RX9 106 yX9_lets, Cond.instanceMethod yX9_lets]
def wsX9_pushOut_r2 : List Cond := [Cond.selects RX9 yX9_lets yX9_lets, Cond.code yX9_lets cX9_lets 4 (some .boolean), Cond.fieldLink RX9 13 "CellarPushersModel" "ramps" "[I"]
def wsX9_pushOut : List Cond := .code yX9_pushOut cX9_pushOut 9 none :: ((wsX9_pushOut_r1 ++ wsX9_pushOut_r2) ++ wsX90)
def wsX9_isDead_r1 : List Cond := [Cond.fieldLink RX9 23 "CellarPushersModel" "wanted" "[Z", Cond.fieldLink RX9 55 "CellarPushersModel" "prices" "[I", Cond.methodLink RX9 102 yX9_kindOf, Cond.instanceMethod yX9_kindOf, Cond.selects RX9 yX9_kindOf yX9_kindOf, Cond.initialized RX9, Cond.code yX9_kindOf cX9_kindOf 2 (some .int), Cond.fieldLink RX9 16 "CellarPushersModel" "missing" "[Z", Cond.fieldLink RX9 7 "CellarPushersModel" "kinds" "[I", Cond.methodLink RX9 175 yX9_pushOut, Cond.instanceMethod yX9_pushOut, Cond.selects RX9 yX9_pushOut yX9_pushOut, Cond.code yX9_pushOut cX9_pushOut 9 none, Cond.methodLink RX9 129 yX9_beside, Cond.instanceMethod yX9_beside, Cond.selects RX9 yX9_beside yX9_beside, Cond.code yX9_beside cX9_beside 5 (some .int), Cond.methodLink RX9 98 yX9_isField, Cond.instanceMethod yX9_isField, Cond.selects RX9 yX9_isField yX9_isField, Cond.code yX9_isField cX9_isField 3 (some .boolean), Cond.fieldLink RX9 92 "CellarPushersModel" "width" "I", Cond.fieldLink RX9 95 "CellarPushersModel" "height" "I", Cond.methodLink RX9 109 yX9_letsMan]
def wsX9_isDead_r2 : List Cond := [Cond.instanceMethod yX9_letsMan, Cond.selects RX9 yX9_letsMan yX9_letsMan, Cond.code yX9_letsMan cX9_letsMan 3 (some .boolean), Cond.methodLink RX9 106 yX9_lets, Cond.instanceMethod yX9_lets, Cond.selects RX9 yX9_lets yX9_lets, Cond.code yX9_lets cX9_lets 4 (some .boolean), Cond.fieldLink RX9 13 "CellarPushersModel" "ramps" "[I"]
def wsX9_isDead : List Cond := .code yX9_isDead cX9_isDead 3 (some .boolean) :: ((wsX9_isDead_r1 ++ wsX9_isDead_r2) ++ wsX90)
def wsX9_dead_r1 : List Cond := [Cond.methodLink RX9 98 yX9_isField, Cond.instanceMethod yX9_isField, Cond.selects RX9 yX9_isField yX9_isField, Cond.initialized RX9, Cond.code yX9_isField cX9_isField 3 (some .boolean), Cond.fieldLink RX9 92 "CellarPushersModel" "width" "I", Cond.fieldLink RX9 95 "CellarPushersModel" "height" "I", Cond.methodLink RX9 178 yX9_isDead, Cond.instanceMethod yX9_isDead, Cond.selects RX9 yX9_isDead yX9_isDead, Cond.code yX9_isDead cX9_isDead 3 (some .boolean), Cond.fieldLink RX9 23 "CellarPushersModel" "wanted" "[Z", Cond.fieldLink RX9 55 "CellarPushersModel" "prices" "[I", Cond.methodLink RX9 102 yX9_kindOf, Cond.instanceMethod yX9_kindOf, Cond.selects RX9 yX9_kindOf yX9_kindOf, Cond.code yX9_kindOf cX9_kindOf 2 (some .int), Cond.fieldLink RX9 16 "CellarPushersModel" "missing" "[Z", Cond.fieldLink RX9 7 "CellarPushersModel" "kinds" "[I", Cond.methodLink RX9 175 yX9_pushOut, Cond.instanceMethod yX9_pushOut, Cond.selects RX9 yX9_pushOut yX9_pushOut, Cond.code yX9_pushOut cX9_pushOut 9 none, Cond.methodLink RX9 129 yX9_beside]
def wsX9_dead_r2 : List Cond := [Cond.instanceMethod yX9_beside, Cond.selects RX9 yX9_beside yX9_beside, Cond.code yX9_beside cX9_beside 5 (some .int), Cond.methodLink RX9 109 yX9_letsMan, Cond.instanceMethod yX9_letsMan, Cond.selects RX9 yX9_letsMan yX9_letsMan, Cond.code yX9_letsMan cX9_letsMan 3 (some .boolean), Cond.methodLink RX9 106 yX9_lets, Cond.instanceMethod yX9_lets, Cond.selects RX9 yX9_lets yX9_lets, Cond.code yX9_lets cX9_lets 4 (some .boolean), Cond.fieldLink RX9 13 "CellarPushersModel" "ramps" "[I"]
def wsX9_dead : List Cond := .code yX9_dead cX9_dead 3 (some .int) :: ((wsX9_dead_r1 ++ wsX9_dead_r2) ++ wsX90)
def wsX9_bars : List Cond := .code yX9_bars cX9_bars 2 (some .boolean) :: ([.fieldLink RX9 58 "CellarPushersModel" "isHeld" "[Z", .methodLink RX9 102 yX9_kindOf, .instanceMethod yX9_kindOf, .selects RX9 yX9_kindOf yX9_kindOf, .initialized RX9, .code yX9_kindOf cX9_kindOf 2 (some .int), .fieldLink RX9 16 "CellarPushersModel" "missing" "[Z", .fieldLink RX9 7 "CellarPushersModel" "kinds" "[I"] ++ wsX90)
def wsX9_hold : List Cond := .code yX9_hold cX9_hold 4 none :: ([.fieldLink RX9 58 "CellarPushersModel" "isHeld" "[Z", .fieldLink RX9 20 "CellarPushersModel" "barrels" "[Z", .methodLink RX9 102 yX9_kindOf, .instanceMethod yX9_kindOf, .selects RX9 yX9_kindOf yX9_kindOf, .initialized RX9, .code yX9_kindOf cX9_kindOf 2 (some .int), .fieldLink RX9 16 "CellarPushersModel" "missing" "[Z", .fieldLink RX9 7 "CellarPushersModel" "kinds" "[I", .methodLink RX9 129 yX9_beside, .instanceMethod yX9_beside, .selects RX9 yX9_beside yX9_beside, .code yX9_beside cX9_beside 5 (some .int), .methodLink RX9 98 yX9_isField, .instanceMethod yX9_isField, .selects RX9 yX9_isField yX9_isField, .code yX9_isField cX9_isField 3 (some .boolean), .fieldLink RX9 92 "CellarPushersModel" "width" "I", .fieldLink RX9 95 "CellarPushersModel" "height" "I", .methodLink RX9 181 yX9_bars, .instanceMethod yX9_bars, .selects RX9 yX9_bars yX9_bars, .code yX9_bars cX9_bars 2 (some .boolean)] ++ wsX90)
def wsX9_held_r1 : List Cond := [Cond.fieldLink RX9 58 "CellarPushersModel" "isHeld" "[Z", Cond.methodLink RX9 98 yX9_isField, Cond.instanceMethod yX9_isField, Cond.selects RX9 yX9_isField yX9_isField, Cond.initialized RX9, Cond.code yX9_isField cX9_isField 3 (some .boolean), Cond.fieldLink RX9 92 "CellarPushersModel" "width" "I", Cond.fieldLink RX9 95 "CellarPushersModel" "height" "I", Cond.methodLink RX9 184 yX9_hold, Cond.instanceMethod yX9_hold, Cond.selects RX9 yX9_hold yX9_hold, Cond.code yX9_hold cX9_hold 4 none, Cond.fieldLink RX9 20 "CellarPushersModel" "barrels" "[Z", Cond.methodLink RX9 102 yX9_kindOf, Cond.instanceMethod yX9_kindOf, Cond.selects RX9 yX9_kindOf yX9_kindOf, Cond.code yX9_kindOf cX9_kindOf 2 (some .int), Cond.fieldLink RX9 16 "CellarPushersModel" "missing" "[Z", Cond.fieldLink RX9 7 "CellarPushersModel" "kinds" "[I", Cond.methodLink RX9 129 yX9_beside, Cond.instanceMethod yX9_beside, Cond.selects RX9 yX9_beside yX9_beside, Cond.code yX9_beside cX9_beside 5 (some .int), Cond.methodLink RX9 181 yX9_bars]
def wsX9_held_r2 : List Cond := [Cond.instanceMethod yX9_bars, Cond.selects RX9 yX9_bars yX9_bars, Cond.code yX9_bars cX9_bars 2 (some .boolean)]
def wsX9_held : List Cond := .code yX9_held cX9_held 3 (some .int) :: ((wsX9_held_r1 ++ wsX9_held_r2) ++ wsX90)
def wsX9_spoilt_r1 : List Cond := [Cond.fieldLink RX9 49 "CellarPushersModel" "why" "I", Cond.fieldLink RX9 20 "CellarPushersModel" "barrels" "[Z", Cond.fieldLink RX9 58 "CellarPushersModel" "isHeld" "[Z", Cond.fieldLink RX9 23 "CellarPushersModel" "wanted" "[Z", Cond.methodLink RX9 187 yX9_isReady, Cond.instanceMethod yX9_isReady, Cond.selects RX9 yX9_isReady yX9_isReady, Cond.initialized RX9, Cond.code yX9_isReady cX9_isReady 1 (some .boolean), Cond.fieldLink RX9 26 "CellarPushersModel" "man" "I", Cond.methodLink RX9 125 yX9_number, Cond.instanceMethod yX9_number, Cond.selects RX9 yX9_number yX9_number, Cond.code yX9_number cX9_number 4 (some .int), Cond.methodLink RX9 178 yX9_isDead, Cond.instanceMethod yX9_isDead, Cond.selects RX9 yX9_isDead yX9_isDead, Cond.code yX9_isDead cX9_isDead 3 (some .boolean), Cond.fieldLink RX9 55 "CellarPushersModel" "prices" "[I", Cond.methodLink RX9 102 yX9_kindOf, Cond.instanceMethod yX9_kindOf, Cond.selects RX9 yX9_kindOf yX9_kindOf, Cond.code yX9_kindOf cX9_kindOf 2 (some .int), Cond.fieldLink RX9 16 "CellarPushersModel" "missing" "[Z"]
def wsX9_spoilt_r2 : List Cond := [Cond.fieldLink RX9 7 "CellarPushersModel" "kinds" "[I", Cond.methodLink RX9 175 yX9_pushOut, Cond.instanceMethod yX9_pushOut, Cond.selects RX9 yX9_pushOut yX9_pushOut, Cond.code yX9_pushOut cX9_pushOut 9 none, Cond.methodLink RX9 129 yX9_beside, Cond.instanceMethod yX9_beside, Cond.selects RX9 yX9_beside yX9_beside, Cond.code yX9_beside cX9_beside 5 (some .int), Cond.methodLink RX9 98 yX9_isField, Cond.instanceMethod yX9_isField, Cond.selects RX9 yX9_isField yX9_isField, Cond.code yX9_isField cX9_isField 3 (some .boolean), Cond.fieldLink RX9 92 "CellarPushersModel" "width" "I", Cond.fieldLink RX9 95 "CellarPushersModel" "height" "I", Cond.methodLink RX9 109 yX9_letsMan, Cond.instanceMethod yX9_letsMan, Cond.selects RX9 yX9_letsMan yX9_letsMan, Cond.code yX9_letsMan cX9_letsMan 3 (some .boolean), Cond.methodLink RX9 106 yX9_lets, Cond.instanceMethod yX9_lets, Cond.selects RX9 yX9_lets yX9_lets, Cond.code yX9_lets cX9_lets 4 (some .boolean), Cond.fieldLink RX9 13 "CellarPushersModel" "ramps" "[I"]
def wsX9_spoilt_r3 : List Cond := [Cond.methodLink RX9 184 yX9_hold, Cond.instanceMethod yX9_hold, Cond.selects RX9 yX9_hold yX9_hold, Cond.code yX9_hold cX9_hold 4 none, Cond.methodLink RX9 181 yX9_bars, Cond.instanceMethod yX9_bars, Cond.selects RX9 yX9_bars yX9_bars, Cond.code yX9_bars cX9_bars 2 (some .boolean)]
def wsX9_spoilt : List Cond := .code yX9_spoilt cX9_spoilt 2 (some .int) :: ((wsX9_spoilt_r1 ++ (wsX9_spoilt_r2 ++ wsX9_spoilt_r3)) ++ wsX90)
def wsX9_why : List Cond := .code yX9_why cX9_why 1 (some .int) :: ([.fieldLink RX9 49 "CellarPushersModel" "why" "I"] ++ wsX90)
def wsX9_low_r1 : List Cond := [Cond.fieldLink RX9 61 "CellarPushersModel" "sums" "[I", Cond.constant RX9 191 (2000000000), Cond.fieldLink RX9 23 "CellarPushersModel" "wanted" "[Z", Cond.fieldLink RX9 20 "CellarPushersModel" "barrels" "[Z", Cond.fieldLink RX9 64 "CellarPushersModel" "then" "[I", Cond.fieldLink RX9 55 "CellarPushersModel" "prices" "[I", Cond.methodLink RX9 187 yX9_isReady, Cond.instanceMethod yX9_isReady, Cond.selects RX9 yX9_isReady yX9_isReady, Cond.initialized RX9, Cond.code yX9_isReady cX9_isReady 1 (some .boolean), Cond.fieldLink RX9 26 "CellarPushersModel" "man" "I", Cond.methodLink RX9 125 yX9_number, Cond.instanceMethod yX9_number, Cond.selects RX9 yX9_number yX9_number, Cond.code yX9_number cX9_number 4 (some .int), Cond.methodLink RX9 175 yX9_pushOut, Cond.instanceMethod yX9_pushOut, Cond.selects RX9 yX9_pushOut yX9_pushOut, Cond.code yX9_pushOut cX9_pushOut 9 none, Cond.methodLink RX9 129 yX9_beside, Cond.instanceMethod yX9_beside, Cond.selects RX9 yX9_beside yX9_beside, Cond.code yX9_beside cX9_beside 5 (some .int)]
def wsX9_low_r2 : List Cond := [Cond.methodLink RX9 98 yX9_isField, Cond.instanceMethod yX9_isField, Cond.selects RX9 yX9_isField yX9_isField, Cond.code yX9_isField cX9_isField 3 (some .boolean), Cond.fieldLink RX9 92 "CellarPushersModel" "width" "I", Cond.fieldLink RX9 95 "CellarPushersModel" "height" "I", Cond.methodLink RX9 102 yX9_kindOf, Cond.instanceMethod yX9_kindOf, Cond.selects RX9 yX9_kindOf yX9_kindOf, Cond.code yX9_kindOf cX9_kindOf 2 (some .int), Cond.fieldLink RX9 16 "CellarPushersModel" "missing" "[Z", Cond.fieldLink RX9 7 "CellarPushersModel" "kinds" "[I", Cond.methodLink RX9 109 yX9_letsMan, Cond.instanceMethod yX9_letsMan, Cond.selects RX9 yX9_letsMan yX9_letsMan, Cond.code yX9_letsMan cX9_letsMan 3 (some .boolean), Cond.methodLink RX9 106 yX9_lets, Cond.instanceMethod yX9_lets, Cond.selects RX9 yX9_lets yX9_lets, Cond.code yX9_lets cX9_lets 4 (some .boolean), Cond.fieldLink RX9 13 "CellarPushersModel" "ramps" "[I"]
def wsX9_low : List Cond := .code yX9_low cX9_low 6 (some .int) :: ((wsX9_low_r1 ++ wsX9_low_r2) ++ wsX90)
def wsX9_price_r1 : List Cond := [Cond.fieldLink RX9 55 "CellarPushersModel" "prices" "[I", Cond.methodLink RX9 98 yX9_isField, Cond.instanceMethod yX9_isField, Cond.selects RX9 yX9_isField yX9_isField, Cond.initialized RX9, Cond.code yX9_isField cX9_isField 3 (some .boolean), Cond.fieldLink RX9 92 "CellarPushersModel" "width" "I", Cond.fieldLink RX9 95 "CellarPushersModel" "height" "I", Cond.methodLink RX9 102 yX9_kindOf, Cond.instanceMethod yX9_kindOf, Cond.selects RX9 yX9_kindOf yX9_kindOf, Cond.code yX9_kindOf cX9_kindOf 2 (some .int), Cond.fieldLink RX9 16 "CellarPushersModel" "missing" "[Z", Cond.fieldLink RX9 7 "CellarPushersModel" "kinds" "[I", Cond.methodLink RX9 175 yX9_pushOut, Cond.instanceMethod yX9_pushOut, Cond.selects RX9 yX9_pushOut yX9_pushOut, Cond.code yX9_pushOut cX9_pushOut 9 none, Cond.methodLink RX9 129 yX9_beside, Cond.instanceMethod yX9_beside, Cond.selects RX9 yX9_beside yX9_beside, Cond.code yX9_beside cX9_beside 5 (some .int), Cond.methodLink RX9 109 yX9_letsMan, Cond.instanceMethod yX9_letsMan]
def wsX9_price_r2 : List Cond := [Cond.selects RX9 yX9_letsMan yX9_letsMan, Cond.code yX9_letsMan cX9_letsMan 3 (some .boolean), Cond.methodLink RX9 106 yX9_lets, Cond.instanceMethod yX9_lets, Cond.selects RX9 yX9_lets yX9_lets, Cond.code yX9_lets cX9_lets 4 (some .boolean), Cond.fieldLink RX9 13 "CellarPushersModel" "ramps" "[I"]
def wsX9_price : List Cond := .code yX9_price cX9_price 5 (some .int) :: ((wsX9_price_r1 ++ wsX9_price_r2) ++ wsX90)
def wsX9_fields : List Cond := .code yX9_fields cX9_fields 3 (some .int) :: ([.fieldLink RX9 67 "CellarPushersModel" "order" "[I", .fieldLink RX9 95 "CellarPushersModel" "height" "I", .fieldLink RX9 92 "CellarPushersModel" "width" "I", .fieldLink RX9 70 "CellarPushersModel" "fieldOf" "[I", .methodLink RX9 102 yX9_kindOf, .instanceMethod yX9_kindOf, .selects RX9 yX9_kindOf yX9_kindOf, .initialized RX9, .code yX9_kindOf cX9_kindOf 2 (some .int), .fieldLink RX9 16 "CellarPushersModel" "missing" "[Z", .fieldLink RX9 7 "CellarPushersModel" "kinds" "[I"] ++ wsX90)
def wsX9_stand : List Cond := .code yX9_stand cX9_stand 3 (some .int) :: ([.fieldLink RX9 20 "CellarPushersModel" "barrels" "[Z", .fieldLink RX9 67 "CellarPushersModel" "order" "[I", .fieldLink RX9 26 "CellarPushersModel" "man" "I"] ++ wsX90)
def wsX9_setUp : List Cond := .code yX9_setUp cX9_setUp 4 none :: ([.fieldLink RX9 20 "CellarPushersModel" "barrels" "[Z", .fieldLink RX9 70 "CellarPushersModel" "fieldOf" "[I", .fieldLink RX9 26 "CellarPushersModel" "man" "I", .fieldLink RX9 192 "CellarPushersModel" "three" "I"] ++ wsX90)
def wsX9_behind_r1 : List Cond := [Cond.constant RX9 195 (1048577), Cond.fieldLink RX9 196 "CellarPushersModel" "stepCost" "I", Cond.methodLink RX9 139 yX9_wouldStep, Cond.instanceMethod yX9_wouldStep, Cond.selects RX9 yX9_wouldStep yX9_wouldStep, Cond.initialized RX9, Cond.code yX9_wouldStep cX9_wouldStep 6 (some .int), Cond.fieldLink RX9 26 "CellarPushersModel" "man" "I", Cond.fieldLink RX9 20 "CellarPushersModel" "barrels" "[Z", Cond.methodLink RX9 129 yX9_beside, Cond.instanceMethod yX9_beside, Cond.selects RX9 yX9_beside yX9_beside, Cond.code yX9_beside cX9_beside 5 (some .int), Cond.methodLink RX9 98 yX9_isField, Cond.instanceMethod yX9_isField, Cond.selects RX9 yX9_isField yX9_isField, Cond.code yX9_isField cX9_isField 3 (some .boolean), Cond.fieldLink RX9 92 "CellarPushersModel" "width" "I", Cond.fieldLink RX9 95 "CellarPushersModel" "height" "I", Cond.methodLink RX9 133 yX9_mayMan, Cond.instanceMethod yX9_mayMan, Cond.selects RX9 yX9_mayMan yX9_mayMan, Cond.code yX9_mayMan cX9_mayMan 3 (some .boolean), Cond.methodLink RX9 109 yX9_letsMan]
def wsX9_behind_r2 : List Cond := [Cond.instanceMethod yX9_letsMan, Cond.selects RX9 yX9_letsMan yX9_letsMan, Cond.code yX9_letsMan cX9_letsMan 3 (some .boolean), Cond.methodLink RX9 106 yX9_lets, Cond.instanceMethod yX9_lets, Cond.selects RX9 yX9_lets yX9_lets, Cond.code yX9_lets cX9_lets 4 (some .boolean), Cond.fieldLink RX9 13 "CellarPushersModel" "ramps" "[I", Cond.methodLink RX9 102 yX9_kindOf, Cond.instanceMethod yX9_kindOf, Cond.selects RX9 yX9_kindOf yX9_kindOf, Cond.code yX9_kindOf cX9_kindOf 2 (some .int), Cond.fieldLink RX9 16 "CellarPushersModel" "missing" "[Z", Cond.fieldLink RX9 7 "CellarPushersModel" "kinds" "[I", Cond.methodLink RX9 136 yX9_mayBarrel, Cond.instanceMethod yX9_mayBarrel, Cond.selects RX9 yX9_mayBarrel yX9_mayBarrel, Cond.code yX9_mayBarrel cX9_mayBarrel 3 (some .boolean), Cond.methodLink RX9 159 yX9_does, Cond.instanceMethod yX9_does, Cond.selects RX9 yX9_does yX9_does, Cond.code yX9_does cX9_does 6 (some .int), Cond.fieldLink RX9 142 "CellarPushersModel" "pushes" "I", Cond.fieldLink RX9 145 "CellarPushersModel" "steps" "I"]
def wsX9_behind_r3 : List Cond := [Cond.methodLink RX9 199 yX9_stand, Cond.instanceMethod yX9_stand, Cond.selects RX9 yX9_stand yX9_stand, Cond.code yX9_stand cX9_stand 3 (some .int), Cond.fieldLink RX9 67 "CellarPushersModel" "order" "[I", Cond.methodLink RX9 203 yX9_setUp, Cond.instanceMethod yX9_setUp, Cond.selects RX9 yX9_setUp yX9_setUp, Cond.code yX9_setUp cX9_setUp 4 none, Cond.fieldLink RX9 70 "CellarPushersModel" "fieldOf" "[I", Cond.fieldLink RX9 192 "CellarPushersModel" "three" "I"]
def wsX9_behind : List Cond := .code yX9_behind cX9_behind 6 (some .int) :: ((wsX9_behind_r1 ++ (wsX9_behind_r2 ++ wsX9_behind_r3)) ++ wsX90)
def wsX9_spread_r1 : List Cond := [Cond.constant RX9 73 (810000), Cond.fieldLink RX9 74 "CellarPushersModel" "cost" "[I", Cond.constant RX9 191 (2000000000), Cond.fieldLink RX9 77 "CellarPushersModel" "queue" "[I", Cond.fieldLink RX9 86 "CellarPushersModel" "waits" "[Z", Cond.fieldLink RX9 196 "CellarPushersModel" "stepCost" "I", Cond.methodLink RX9 203 yX9_setUp, Cond.instanceMethod yX9_setUp, Cond.selects RX9 yX9_setUp yX9_setUp, Cond.initialized RX9, Cond.code yX9_setUp cX9_setUp 4 none, Cond.fieldLink RX9 20 "CellarPushersModel" "barrels" "[Z", Cond.fieldLink RX9 70 "CellarPushersModel" "fieldOf" "[I", Cond.fieldLink RX9 26 "CellarPushersModel" "man" "I", Cond.fieldLink RX9 192 "CellarPushersModel" "three" "I", Cond.methodLink RX9 223 yX9_behind, Cond.instanceMethod yX9_behind, Cond.selects RX9 yX9_behind yX9_behind, Cond.code yX9_behind cX9_behind 6 (some .int), Cond.constant RX9 195 (1048577), Cond.methodLink RX9 139 yX9_wouldStep, Cond.instanceMethod yX9_wouldStep, Cond.selects RX9 yX9_wouldStep yX9_wouldStep, Cond.code yX9_wouldStep cX9_wouldStep 6 (some .int)]
def wsX9_spread_r2 : List Cond := [Cond.methodLink RX9 129 yX9_beside, Cond.instanceMethod yX9_beside, Cond.selects RX9 yX9_beside yX9_beside, Cond.code yX9_beside cX9_beside 5 (some .int), Cond.methodLink RX9 98 yX9_isField, Cond.instanceMethod yX9_isField, Cond.selects RX9 yX9_isField yX9_isField, Cond.code yX9_isField cX9_isField 3 (some .boolean), Cond.fieldLink RX9 92 "CellarPushersModel" "width" "I", Cond.fieldLink RX9 95 "CellarPushersModel" "height" "I", Cond.methodLink RX9 133 yX9_mayMan, Cond.instanceMethod yX9_mayMan, Cond.selects RX9 yX9_mayMan yX9_mayMan, Cond.code yX9_mayMan cX9_mayMan 3 (some .boolean), Cond.methodLink RX9 109 yX9_letsMan, Cond.instanceMethod yX9_letsMan, Cond.selects RX9 yX9_letsMan yX9_letsMan, Cond.code yX9_letsMan cX9_letsMan 3 (some .boolean), Cond.methodLink RX9 106 yX9_lets, Cond.instanceMethod yX9_lets, Cond.selects RX9 yX9_lets yX9_lets, Cond.code yX9_lets cX9_lets 4 (some .boolean), Cond.fieldLink RX9 13 "CellarPushersModel" "ramps" "[I", Cond.methodLink RX9 102 yX9_kindOf]
def wsX9_spread_r3 : List Cond := [Cond.instanceMethod yX9_kindOf, Cond.selects RX9 yX9_kindOf yX9_kindOf, Cond.code yX9_kindOf cX9_kindOf 2 (some .int), Cond.fieldLink RX9 16 "CellarPushersModel" "missing" "[Z", Cond.fieldLink RX9 7 "CellarPushersModel" "kinds" "[I", Cond.methodLink RX9 136 yX9_mayBarrel, Cond.instanceMethod yX9_mayBarrel, Cond.selects RX9 yX9_mayBarrel yX9_mayBarrel, Cond.code yX9_mayBarrel cX9_mayBarrel 3 (some .boolean), Cond.methodLink RX9 159 yX9_does, Cond.instanceMethod yX9_does, Cond.selects RX9 yX9_does yX9_does, Cond.code yX9_does cX9_does 6 (some .int), Cond.fieldLink RX9 142 "CellarPushersModel" "pushes" "I", Cond.fieldLink RX9 145 "CellarPushersModel" "steps" "I", Cond.methodLink RX9 199 yX9_stand, Cond.instanceMethod yX9_stand, Cond.selects RX9 yX9_stand yX9_stand, Cond.code yX9_stand cX9_stand 3 (some .int), Cond.fieldLink RX9 67 "CellarPushersModel" "order" "[I"]
def wsX9_spread : List Cond := .code yX9_spread cX9_spread 7 none :: ((wsX9_spread_r1 ++ (wsX9_spread_r2 ++ wsX9_spread_r3)) ++ wsX90)
def wsX9_goAlong_r1 : List Cond := [Cond.constant RX9 73 (810000), Cond.fieldLink RX9 89 "CellarPushersModel" "idle" "[Z", Cond.fieldLink RX9 80 "CellarPushersModel" "path" "[I", Cond.fieldLink RX9 83 "CellarPushersModel" "tried" "[I", Cond.fieldLink RX9 215 "CellarPushersModel" "planned" "I", Cond.fieldLink RX9 74 "CellarPushersModel" "cost" "[I", Cond.fieldLink RX9 196 "CellarPushersModel" "stepCost" "I", Cond.fieldLink RX9 43 "CellarPushersModel" "plan" "[I", Cond.methodLink RX9 203 yX9_setUp, Cond.instanceMethod yX9_setUp, Cond.selects RX9 yX9_setUp yX9_setUp, Cond.initialized RX9, Cond.code yX9_setUp cX9_setUp 4 none, Cond.fieldLink RX9 20 "CellarPushersModel" "barrels" "[Z", Cond.fieldLink RX9 70 "CellarPushersModel" "fieldOf" "[I", Cond.fieldLink RX9 26 "CellarPushersModel" "man" "I", Cond.fieldLink RX9 192 "CellarPushersModel" "three" "I", Cond.methodLink RX9 212 yX9_isDone, Cond.instanceMethod yX9_isDone, Cond.selects RX9 yX9_isDone yX9_isDone, Cond.code yX9_isDone cX9_isDone 2 (some .boolean), Cond.fieldLink RX9 23 "CellarPushersModel" "wanted" "[Z", Cond.methodLink RX9 223 yX9_behind, Cond.instanceMethod yX9_behind]
def wsX9_goAlong_r2 : List Cond := [Cond.selects RX9 yX9_behind yX9_behind, Cond.code yX9_behind cX9_behind 6 (some .int), Cond.constant RX9 195 (1048577), Cond.methodLink RX9 139 yX9_wouldStep, Cond.instanceMethod yX9_wouldStep, Cond.selects RX9 yX9_wouldStep yX9_wouldStep, Cond.code yX9_wouldStep cX9_wouldStep 6 (some .int), Cond.methodLink RX9 129 yX9_beside, Cond.instanceMethod yX9_beside, Cond.selects RX9 yX9_beside yX9_beside, Cond.code yX9_beside cX9_beside 5 (some .int), Cond.methodLink RX9 98 yX9_isField, Cond.instanceMethod yX9_isField, Cond.selects RX9 yX9_isField yX9_isField, Cond.code yX9_isField cX9_isField 3 (some .boolean), Cond.fieldLink RX9 92 "CellarPushersModel" "width" "I", Cond.fieldLink RX9 95 "CellarPushersModel" "height" "I", Cond.methodLink RX9 133 yX9_mayMan, Cond.instanceMethod yX9_mayMan, Cond.selects RX9 yX9_mayMan yX9_mayMan, Cond.code yX9_mayMan cX9_mayMan 3 (some .boolean), Cond.methodLink RX9 109 yX9_letsMan, Cond.instanceMethod yX9_letsMan, Cond.selects RX9 yX9_letsMan yX9_letsMan]
def wsX9_goAlong_r3 : List Cond := [Cond.code yX9_letsMan cX9_letsMan 3 (some .boolean), Cond.methodLink RX9 106 yX9_lets, Cond.instanceMethod yX9_lets, Cond.selects RX9 yX9_lets yX9_lets, Cond.code yX9_lets cX9_lets 4 (some .boolean), Cond.fieldLink RX9 13 "CellarPushersModel" "ramps" "[I", Cond.methodLink RX9 102 yX9_kindOf, Cond.instanceMethod yX9_kindOf, Cond.selects RX9 yX9_kindOf yX9_kindOf, Cond.code yX9_kindOf cX9_kindOf 2 (some .int), Cond.fieldLink RX9 16 "CellarPushersModel" "missing" "[Z", Cond.fieldLink RX9 7 "CellarPushersModel" "kinds" "[I", Cond.methodLink RX9 136 yX9_mayBarrel, Cond.instanceMethod yX9_mayBarrel, Cond.selects RX9 yX9_mayBarrel yX9_mayBarrel, Cond.code yX9_mayBarrel cX9_mayBarrel 3 (some .boolean), Cond.methodLink RX9 159 yX9_does, Cond.instanceMethod yX9_does, Cond.selects RX9 yX9_does yX9_does, Cond.code yX9_does cX9_does 6 (some .int), Cond.fieldLink RX9 142 "CellarPushersModel" "pushes" "I", Cond.fieldLink RX9 145 "CellarPushersModel" "steps" "I", Cond.methodLink RX9 199 yX9_stand, Cond.instanceMethod yX9_stand]
def wsX9_goAlong_r4 : List Cond := [Cond.selects RX9 yX9_stand yX9_stand, Cond.code yX9_stand cX9_stand 3 (some .int), Cond.fieldLink RX9 67 "CellarPushersModel" "order" "[I"]
def wsX9_goAlong : List Cond := .code yX9_goAlong cX9_goAlong 6 none :: ((wsX9_goAlong_r1 ++ (wsX9_goAlong_r2 ++ (wsX9_goAlong_r3 ++ wsX9_goAlong_r4))) ++ wsX90)
def wsX9_fewest_r1 : List Cond := [Cond.fieldLink RX9 20 "CellarPushersModel" "barrels" "[Z", Cond.fieldLink RX9 192 "CellarPushersModel" "three" "I", Cond.constant RX9 191 (2000000000), Cond.constant RX9 73 (810000), Cond.fieldLink RX9 74 "CellarPushersModel" "cost" "[I", Cond.fieldLink RX9 215 "CellarPushersModel" "planned" "I", Cond.constant RX9 222 (1048576), Cond.methodLink RX9 187 yX9_isReady, Cond.instanceMethod yX9_isReady, Cond.selects RX9 yX9_isReady yX9_isReady, Cond.initialized RX9, Cond.code yX9_isReady cX9_isReady 1 (some .boolean), Cond.fieldLink RX9 26 "CellarPushersModel" "man" "I", Cond.fieldLink RX9 23 "CellarPushersModel" "wanted" "[Z", Cond.methodLink RX9 125 yX9_number, Cond.instanceMethod yX9_number, Cond.selects RX9 yX9_number yX9_number, Cond.code yX9_number cX9_number 4 (some .int), Cond.methodLink RX9 206 yX9_fields, Cond.instanceMethod yX9_fields, Cond.selects RX9 yX9_fields yX9_fields, Cond.code yX9_fields cX9_fields 3 (some .int), Cond.fieldLink RX9 67 "CellarPushersModel" "order" "[I", Cond.fieldLink RX9 95 "CellarPushersModel" "height" "I"]
def wsX9_fewest_r2 : List Cond := [Cond.fieldLink RX9 92 "CellarPushersModel" "width" "I", Cond.fieldLink RX9 70 "CellarPushersModel" "fieldOf" "[I", Cond.methodLink RX9 102 yX9_kindOf, Cond.instanceMethod yX9_kindOf, Cond.selects RX9 yX9_kindOf yX9_kindOf, Cond.code yX9_kindOf cX9_kindOf 2 (some .int), Cond.fieldLink RX9 16 "CellarPushersModel" "missing" "[Z", Cond.fieldLink RX9 7 "CellarPushersModel" "kinds" "[I", Cond.methodLink RX9 152 yX9_keep, Cond.instanceMethod yX9_keep, Cond.selects RX9 yX9_keep yX9_keep, Cond.code yX9_keep cX9_keep 2 none, Cond.fieldLink RX9 30 "CellarPushersModel" "manThen" "[I", Cond.fieldLink RX9 33 "CellarPushersModel" "stepsThen" "[I", Cond.fieldLink RX9 145 "CellarPushersModel" "steps" "I", Cond.fieldLink RX9 36 "CellarPushersModel" "pushesThen" "[I", Cond.fieldLink RX9 142 "CellarPushersModel" "pushes" "I", Cond.fieldLink RX9 39 "CellarPushersModel" "barrelsThen" "[J", Cond.methodLink RX9 148 yX9_bits, Cond.instanceMethod yX9_bits, Cond.selects RX9 yX9_bits yX9_bits, Cond.code yX9_bits cX9_bits 4 (some .long), Cond.methodLink RX9 199 yX9_stand, Cond.instanceMethod yX9_stand]
def wsX9_fewest_r3 : List Cond := [Cond.selects RX9 yX9_stand yX9_stand, Cond.code yX9_stand cX9_stand 3 (some .int), Cond.methodLink RX9 209 yX9_spread, Cond.instanceMethod yX9_spread, Cond.selects RX9 yX9_spread yX9_spread, Cond.code yX9_spread cX9_spread 7 none, Cond.fieldLink RX9 77 "CellarPushersModel" "queue" "[I", Cond.fieldLink RX9 86 "CellarPushersModel" "waits" "[Z", Cond.fieldLink RX9 196 "CellarPushersModel" "stepCost" "I", Cond.methodLink RX9 203 yX9_setUp, Cond.instanceMethod yX9_setUp, Cond.selects RX9 yX9_setUp yX9_setUp, Cond.code yX9_setUp cX9_setUp 4 none, Cond.methodLink RX9 223 yX9_behind, Cond.instanceMethod yX9_behind, Cond.selects RX9 yX9_behind yX9_behind, Cond.code yX9_behind cX9_behind 6 (some .int), Cond.constant RX9 195 (1048577), Cond.methodLink RX9 139 yX9_wouldStep, Cond.instanceMethod yX9_wouldStep, Cond.selects RX9 yX9_wouldStep yX9_wouldStep, Cond.code yX9_wouldStep cX9_wouldStep 6 (some .int), Cond.methodLink RX9 129 yX9_beside, Cond.instanceMethod yX9_beside]
def wsX9_fewest_r4 : List Cond := [Cond.selects RX9 yX9_beside yX9_beside, Cond.code yX9_beside cX9_beside 5 (some .int), Cond.methodLink RX9 98 yX9_isField, Cond.instanceMethod yX9_isField, Cond.selects RX9 yX9_isField yX9_isField, Cond.code yX9_isField cX9_isField 3 (some .boolean), Cond.methodLink RX9 133 yX9_mayMan, Cond.instanceMethod yX9_mayMan, Cond.selects RX9 yX9_mayMan yX9_mayMan, Cond.code yX9_mayMan cX9_mayMan 3 (some .boolean), Cond.methodLink RX9 109 yX9_letsMan, Cond.instanceMethod yX9_letsMan, Cond.selects RX9 yX9_letsMan yX9_letsMan, Cond.code yX9_letsMan cX9_letsMan 3 (some .boolean), Cond.methodLink RX9 106 yX9_lets, Cond.instanceMethod yX9_lets, Cond.selects RX9 yX9_lets yX9_lets, Cond.code yX9_lets cX9_lets 4 (some .boolean), Cond.fieldLink RX9 13 "CellarPushersModel" "ramps" "[I", Cond.methodLink RX9 136 yX9_mayBarrel, Cond.instanceMethod yX9_mayBarrel, Cond.selects RX9 yX9_mayBarrel yX9_mayBarrel, Cond.code yX9_mayBarrel cX9_mayBarrel 3 (some .boolean), Cond.methodLink RX9 159 yX9_does]
def wsX9_fewest_r5 : List Cond := [Cond.instanceMethod yX9_does, Cond.selects RX9 yX9_does yX9_does, Cond.code yX9_does cX9_does 6 (some .int), Cond.methodLink RX9 212 yX9_isDone, Cond.instanceMethod yX9_isDone, Cond.selects RX9 yX9_isDone yX9_isDone, Cond.code yX9_isDone cX9_isDone 2 (some .boolean), Cond.methodLink RX9 218 yX9_goAlong, Cond.instanceMethod yX9_goAlong, Cond.selects RX9 yX9_goAlong yX9_goAlong, Cond.code yX9_goAlong cX9_goAlong 6 none, Cond.fieldLink RX9 89 "CellarPushersModel" "idle" "[Z", Cond.fieldLink RX9 80 "CellarPushersModel" "path" "[I", Cond.fieldLink RX9 83 "CellarPushersModel" "tried" "[I", Cond.fieldLink RX9 43 "CellarPushersModel" "plan" "[I", Cond.methodLink RX9 172 yX9_back, Cond.instanceMethod yX9_back, Cond.selects RX9 yX9_back yX9_back, Cond.code yX9_back cX9_back 3 none]
def wsX9_fewest : List Cond := .code yX9_fewest cX9_fewest 4 (some .int) :: ((wsX9_fewest_r1 ++ (wsX9_fewest_r2 ++ (wsX9_fewest_r3 ++ (wsX9_fewest_r4 ++ wsX9_fewest_r5)))) ++ wsX90)
def wsX9_steps : List Cond := .code yX9_steps cX9_steps 1 (some .int) :: ([.fieldLink RX9 215 "CellarPushersModel" "planned" "I"] ++ wsX90)
def wsX9_plan : List Cond := .code yX9_plan cX9_plan 2 (some .int) :: ([.fieldLink RX9 215 "CellarPushersModel" "planned" "I", .fieldLink RX9 43 "CellarPushersModel" "plan" "[I"] ++ wsX90)
def wsX9_goes_r1 : List Cond := [Cond.fieldLink RX9 26 "CellarPushersModel" "man" "I", Cond.methodLink RX9 139 yX9_wouldStep, Cond.instanceMethod yX9_wouldStep, Cond.selects RX9 yX9_wouldStep yX9_wouldStep, Cond.initialized RX9, Cond.code yX9_wouldStep cX9_wouldStep 6 (some .int), Cond.fieldLink RX9 20 "CellarPushersModel" "barrels" "[Z", Cond.methodLink RX9 129 yX9_beside, Cond.instanceMethod yX9_beside, Cond.selects RX9 yX9_beside yX9_beside, Cond.code yX9_beside cX9_beside 5 (some .int), Cond.methodLink RX9 98 yX9_isField, Cond.instanceMethod yX9_isField, Cond.selects RX9 yX9_isField yX9_isField, Cond.code yX9_isField cX9_isField 3 (some .boolean), Cond.fieldLink RX9 92 "CellarPushersModel" "width" "I", Cond.fieldLink RX9 95 "CellarPushersModel" "height" "I", Cond.methodLink RX9 133 yX9_mayMan, Cond.instanceMethod yX9_mayMan, Cond.selects RX9 yX9_mayMan yX9_mayMan, Cond.code yX9_mayMan cX9_mayMan 3 (some .boolean), Cond.methodLink RX9 109 yX9_letsMan, Cond.instanceMethod yX9_letsMan, Cond.selects RX9 yX9_letsMan yX9_letsMan]
def wsX9_goes_r2 : List Cond := [Cond.code yX9_letsMan cX9_letsMan 3 (some .boolean), Cond.methodLink RX9 106 yX9_lets, Cond.instanceMethod yX9_lets, Cond.selects RX9 yX9_lets yX9_lets, Cond.code yX9_lets cX9_lets 4 (some .boolean), Cond.fieldLink RX9 13 "CellarPushersModel" "ramps" "[I", Cond.methodLink RX9 102 yX9_kindOf, Cond.instanceMethod yX9_kindOf, Cond.selects RX9 yX9_kindOf yX9_kindOf, Cond.code yX9_kindOf cX9_kindOf 2 (some .int), Cond.fieldLink RX9 16 "CellarPushersModel" "missing" "[Z", Cond.fieldLink RX9 7 "CellarPushersModel" "kinds" "[I", Cond.methodLink RX9 136 yX9_mayBarrel, Cond.instanceMethod yX9_mayBarrel, Cond.selects RX9 yX9_mayBarrel yX9_mayBarrel, Cond.code yX9_mayBarrel cX9_mayBarrel 3 (some .boolean), Cond.methodLink RX9 159 yX9_does, Cond.instanceMethod yX9_does, Cond.selects RX9 yX9_does yX9_does, Cond.code yX9_does cX9_does 6 (some .int), Cond.fieldLink RX9 142 "CellarPushersModel" "pushes" "I", Cond.fieldLink RX9 145 "CellarPushersModel" "steps" "I"]
def wsX9_goes : List Cond := .code yX9_goes cX9_goes 5 (some .int) :: ((wsX9_goes_r1 ++ wsX9_goes_r2) ++ wsX90)
def wsX9_follow_r1 : List Cond := [Cond.fieldLink RX9 26 "CellarPushersModel" "man" "I", Cond.fieldLink RX9 215 "CellarPushersModel" "planned" "I", Cond.fieldLink RX9 43 "CellarPushersModel" "plan" "[I", Cond.methodLink RX9 152 yX9_keep, Cond.instanceMethod yX9_keep, Cond.selects RX9 yX9_keep yX9_keep, Cond.initialized RX9, Cond.code yX9_keep cX9_keep 2 none, Cond.fieldLink RX9 30 "CellarPushersModel" "manThen" "[I", Cond.fieldLink RX9 33 "CellarPushersModel" "stepsThen" "[I", Cond.fieldLink RX9 145 "CellarPushersModel" "steps" "I", Cond.fieldLink RX9 36 "CellarPushersModel" "pushesThen" "[I", Cond.fieldLink RX9 142 "CellarPushersModel" "pushes" "I", Cond.fieldLink RX9 39 "CellarPushersModel" "barrelsThen" "[J", Cond.methodLink RX9 148 yX9_bits, Cond.instanceMethod yX9_bits, Cond.selects RX9 yX9_bits yX9_bits, Cond.code yX9_bits cX9_bits 4 (some .long), Cond.fieldLink RX9 20 "CellarPushersModel" "barrels" "[Z", Cond.methodLink RX9 226 yX9_goes, Cond.instanceMethod yX9_goes, Cond.selects RX9 yX9_goes yX9_goes, Cond.code yX9_goes cX9_goes 5 (some .int), Cond.methodLink RX9 139 yX9_wouldStep]
def wsX9_follow_r2 : List Cond := [Cond.instanceMethod yX9_wouldStep, Cond.selects RX9 yX9_wouldStep yX9_wouldStep, Cond.code yX9_wouldStep cX9_wouldStep 6 (some .int), Cond.methodLink RX9 129 yX9_beside, Cond.instanceMethod yX9_beside, Cond.selects RX9 yX9_beside yX9_beside, Cond.code yX9_beside cX9_beside 5 (some .int), Cond.methodLink RX9 98 yX9_isField, Cond.instanceMethod yX9_isField, Cond.selects RX9 yX9_isField yX9_isField, Cond.code yX9_isField cX9_isField 3 (some .boolean), Cond.fieldLink RX9 92 "CellarPushersModel" "width" "I", Cond.fieldLink RX9 95 "CellarPushersModel" "height" "I", Cond.methodLink RX9 133 yX9_mayMan, Cond.instanceMethod yX9_mayMan, Cond.selects RX9 yX9_mayMan yX9_mayMan, Cond.code yX9_mayMan cX9_mayMan 3 (some .boolean), Cond.methodLink RX9 109 yX9_letsMan, Cond.instanceMethod yX9_letsMan, Cond.selects RX9 yX9_letsMan yX9_letsMan, Cond.code yX9_letsMan cX9_letsMan 3 (some .boolean), Cond.methodLink RX9 106 yX9_lets, Cond.instanceMethod yX9_lets, Cond.selects RX9 yX9_lets yX9_lets]
def wsX9_follow_r3 : List Cond := [Cond.code yX9_lets cX9_lets 4 (some .boolean), Cond.fieldLink RX9 13 "CellarPushersModel" "ramps" "[I", Cond.methodLink RX9 102 yX9_kindOf, Cond.instanceMethod yX9_kindOf, Cond.selects RX9 yX9_kindOf yX9_kindOf, Cond.code yX9_kindOf cX9_kindOf 2 (some .int), Cond.fieldLink RX9 16 "CellarPushersModel" "missing" "[Z", Cond.fieldLink RX9 7 "CellarPushersModel" "kinds" "[I", Cond.methodLink RX9 136 yX9_mayBarrel, Cond.instanceMethod yX9_mayBarrel, Cond.selects RX9 yX9_mayBarrel yX9_mayBarrel, Cond.code yX9_mayBarrel cX9_mayBarrel 3 (some .boolean), Cond.methodLink RX9 159 yX9_does, Cond.instanceMethod yX9_does, Cond.selects RX9 yX9_does yX9_does, Cond.code yX9_does cX9_does 6 (some .int), Cond.methodLink RX9 172 yX9_back, Cond.instanceMethod yX9_back, Cond.selects RX9 yX9_back yX9_back, Cond.code yX9_back cX9_back 3 none, Cond.methodLink RX9 156 yX9_begins, Cond.instanceMethod yX9_begins, Cond.selects RX9 yX9_begins yX9_begins, Cond.code yX9_begins cX9_begins 1 none]
def wsX9_follow_r4 : List Cond := [Cond.fieldLink RX9 112 "CellarPushersModel" "acts" "I", Cond.fieldLink RX9 115 "CellarPushersModel" "undone" "I", Cond.methodLink RX9 162 yX9_ends, Cond.instanceMethod yX9_ends, Cond.selects RX9 yX9_ends yX9_ends, Cond.code yX9_ends cX9_ends 1 none]
def wsX9_follow : List Cond := .code yX9_follow cX9_follow 2 (some .int) :: ((wsX9_follow_r1 ++ (wsX9_follow_r2 ++ (wsX9_follow_r3 ++ wsX9_follow_r4))) ++ wsX90)
def wsX9_tell : List Cond := .code yX9_tell cX9_tell 2 (some .int) :: ([.fieldLink RX9 230 "CellarPushersModel" "taped" "I", .fieldLink RX9 46 "CellarPushersModel" "tape" "[I", .methodLink RX9 118 yX9_isWay, .static yX9_isWay, .initialized RX9, .code yX9_isWay cX9_isWay 1 (some .boolean)] ++ wsX90)
def wsX9_copy : List Cond := .code yX9_copy cX9_copy 2 (some .int) :: ([.fieldLink RX9 215 "CellarPushersModel" "planned" "I", .fieldLink RX9 46 "CellarPushersModel" "tape" "[I", .fieldLink RX9 43 "CellarPushersModel" "plan" "[I", .fieldLink RX9 230 "CellarPushersModel" "taped" "I"] ++ wsX90)
def wsX9_forge : List Cond := .code yX9_forge cX9_forge 4 (some .int) :: ([.fieldLink RX9 230 "CellarPushersModel" "taped" "I", .fieldLink RX9 46 "CellarPushersModel" "tape" "[I", .methodLink RX9 118 yX9_isWay, .static yX9_isWay, .initialized RX9, .code yX9_isWay cX9_isWay 1 (some .boolean)] ++ wsX90)
def wsX9_hush : List Cond := .code yX9_hush cX9_hush 2 (some .int) :: ([.fieldLink RX9 230 "CellarPushersModel" "taped" "I"] ++ wsX90)
def wsX9_check_r1 : List Cond := [Cond.fieldLink RX9 26 "CellarPushersModel" "man" "I", Cond.fieldLink RX9 46 "CellarPushersModel" "tape" "[I", Cond.fieldLink RX9 230 "CellarPushersModel" "taped" "I", Cond.methodLink RX9 152 yX9_keep, Cond.instanceMethod yX9_keep, Cond.selects RX9 yX9_keep yX9_keep, Cond.initialized RX9, Cond.code yX9_keep cX9_keep 2 none, Cond.fieldLink RX9 30 "CellarPushersModel" "manThen" "[I", Cond.fieldLink RX9 33 "CellarPushersModel" "stepsThen" "[I", Cond.fieldLink RX9 145 "CellarPushersModel" "steps" "I", Cond.fieldLink RX9 36 "CellarPushersModel" "pushesThen" "[I", Cond.fieldLink RX9 142 "CellarPushersModel" "pushes" "I", Cond.fieldLink RX9 39 "CellarPushersModel" "barrelsThen" "[J", Cond.methodLink RX9 148 yX9_bits, Cond.instanceMethod yX9_bits, Cond.selects RX9 yX9_bits yX9_bits, Cond.code yX9_bits cX9_bits 4 (some .long), Cond.fieldLink RX9 20 "CellarPushersModel" "barrels" "[Z", Cond.methodLink RX9 226 yX9_goes, Cond.instanceMethod yX9_goes, Cond.selects RX9 yX9_goes yX9_goes, Cond.code yX9_goes cX9_goes 5 (some .int), Cond.methodLink RX9 139 yX9_wouldStep]
def wsX9_check_r2 : List Cond := [Cond.instanceMethod yX9_wouldStep, Cond.selects RX9 yX9_wouldStep yX9_wouldStep, Cond.code yX9_wouldStep cX9_wouldStep 6 (some .int), Cond.methodLink RX9 129 yX9_beside, Cond.instanceMethod yX9_beside, Cond.selects RX9 yX9_beside yX9_beside, Cond.code yX9_beside cX9_beside 5 (some .int), Cond.methodLink RX9 98 yX9_isField, Cond.instanceMethod yX9_isField, Cond.selects RX9 yX9_isField yX9_isField, Cond.code yX9_isField cX9_isField 3 (some .boolean), Cond.fieldLink RX9 92 "CellarPushersModel" "width" "I", Cond.fieldLink RX9 95 "CellarPushersModel" "height" "I", Cond.methodLink RX9 133 yX9_mayMan, Cond.instanceMethod yX9_mayMan, Cond.selects RX9 yX9_mayMan yX9_mayMan, Cond.code yX9_mayMan cX9_mayMan 3 (some .boolean), Cond.methodLink RX9 109 yX9_letsMan, Cond.instanceMethod yX9_letsMan, Cond.selects RX9 yX9_letsMan yX9_letsMan, Cond.code yX9_letsMan cX9_letsMan 3 (some .boolean), Cond.methodLink RX9 106 yX9_lets, Cond.instanceMethod yX9_lets, Cond.selects RX9 yX9_lets yX9_lets]
def wsX9_check_r3 : List Cond := [Cond.code yX9_lets cX9_lets 4 (some .boolean), Cond.fieldLink RX9 13 "CellarPushersModel" "ramps" "[I", Cond.methodLink RX9 102 yX9_kindOf, Cond.instanceMethod yX9_kindOf, Cond.selects RX9 yX9_kindOf yX9_kindOf, Cond.code yX9_kindOf cX9_kindOf 2 (some .int), Cond.fieldLink RX9 16 "CellarPushersModel" "missing" "[Z", Cond.fieldLink RX9 7 "CellarPushersModel" "kinds" "[I", Cond.methodLink RX9 136 yX9_mayBarrel, Cond.instanceMethod yX9_mayBarrel, Cond.selects RX9 yX9_mayBarrel yX9_mayBarrel, Cond.code yX9_mayBarrel cX9_mayBarrel 3 (some .boolean), Cond.methodLink RX9 159 yX9_does, Cond.instanceMethod yX9_does, Cond.selects RX9 yX9_does yX9_does, Cond.code yX9_does cX9_does 6 (some .int), Cond.methodLink RX9 212 yX9_isDone, Cond.instanceMethod yX9_isDone, Cond.selects RX9 yX9_isDone yX9_isDone, Cond.code yX9_isDone cX9_isDone 2 (some .boolean), Cond.fieldLink RX9 23 "CellarPushersModel" "wanted" "[Z", Cond.methodLink RX9 172 yX9_back, Cond.instanceMethod yX9_back, Cond.selects RX9 yX9_back yX9_back]
def wsX9_check_r4 : List Cond := [Cond.code yX9_back cX9_back 3 none]
def wsX9_check : List Cond := .code yX9_check cX9_check 3 (some .int) :: ((wsX9_check_r1 ++ (wsX9_check_r2 ++ (wsX9_check_r3 ++ wsX9_check_r4))) ++ wsX90)
def wsX9_count_r1 : List Cond := [Cond.fieldLink RX9 20 "CellarPushersModel" "barrels" "[Z", Cond.fieldLink RX9 23 "CellarPushersModel" "wanted" "[Z", Cond.fieldLink RX9 145 "CellarPushersModel" "steps" "I", Cond.fieldLink RX9 142 "CellarPushersModel" "pushes" "I", Cond.fieldLink RX9 26 "CellarPushersModel" "man" "I", Cond.fieldLink RX9 52 "CellarPushersModel" "walks" "[I", Cond.fieldLink RX9 112 "CellarPushersModel" "acts" "I", Cond.fieldLink RX9 230 "CellarPushersModel" "taped" "I", Cond.methodLink RX9 206 yX9_fields, Cond.instanceMethod yX9_fields, Cond.selects RX9 yX9_fields yX9_fields, Cond.initialized RX9, Cond.code yX9_fields cX9_fields 3 (some .int), Cond.fieldLink RX9 67 "CellarPushersModel" "order" "[I", Cond.fieldLink RX9 95 "CellarPushersModel" "height" "I", Cond.fieldLink RX9 92 "CellarPushersModel" "width" "I", Cond.fieldLink RX9 70 "CellarPushersModel" "fieldOf" "[I", Cond.methodLink RX9 102 yX9_kindOf, Cond.instanceMethod yX9_kindOf, Cond.selects RX9 yX9_kindOf yX9_kindOf, Cond.code yX9_kindOf cX9_kindOf 2 (some .int), Cond.fieldLink RX9 16 "CellarPushersModel" "missing" "[Z", Cond.fieldLink RX9 7 "CellarPushersModel" "kinds" "[I", Cond.methodLink RX9 125 yX9_number]
def wsX9_count_r2 : List Cond := [Cond.instanceMethod yX9_number, Cond.selects RX9 yX9_number yX9_number, Cond.code yX9_number cX9_number 4 (some .int), Cond.methodLink RX9 165 yX9_walkOut, Cond.instanceMethod yX9_walkOut, Cond.selects RX9 yX9_walkOut yX9_walkOut, Cond.code yX9_walkOut cX9_walkOut 6 none, Cond.methodLink RX9 129 yX9_beside, Cond.instanceMethod yX9_beside, Cond.selects RX9 yX9_beside yX9_beside, Cond.code yX9_beside cX9_beside 5 (some .int), Cond.methodLink RX9 98 yX9_isField, Cond.instanceMethod yX9_isField, Cond.selects RX9 yX9_isField yX9_isField, Cond.code yX9_isField cX9_isField 3 (some .boolean), Cond.methodLink RX9 133 yX9_mayMan, Cond.instanceMethod yX9_mayMan, Cond.selects RX9 yX9_mayMan yX9_mayMan, Cond.code yX9_mayMan cX9_mayMan 3 (some .boolean), Cond.methodLink RX9 109 yX9_letsMan, Cond.instanceMethod yX9_letsMan, Cond.selects RX9 yX9_letsMan yX9_letsMan, Cond.code yX9_letsMan cX9_letsMan 3 (some .boolean), Cond.methodLink RX9 106 yX9_lets]
def wsX9_count_r3 : List Cond := [Cond.instanceMethod yX9_lets, Cond.selects RX9 yX9_lets yX9_lets, Cond.code yX9_lets cX9_lets 4 (some .boolean), Cond.fieldLink RX9 13 "CellarPushersModel" "ramps" "[I"]
def wsX9_count : List Cond := .code yX9_count cX9_count 4 (some .int) :: ((wsX9_count_r1 ++ (wsX9_count_r2 ++ wsX9_count_r3)) ++ wsX90)
def wsJ9_max_7cf53 : List Cond := .code yJ9_max_7cf53 cJ9_max_7cf53 2 (some .int) :: ([])
def wsJ9_min_7cf53 : List Cond := .code yJ9_min_7cf53 cJ9_min_7cf53 2 (some .int) :: ([])
def wsJ9_min_f86c9 : List Cond := .code yJ9_min_f86c9 cJ9_min_f86c9 4 (some .long) :: ([])
def wsL_cell : List Cond := .code yL_cell cL_cell 2 (some .int) :: ([])
def wsL_law_r1 : List Cond := [Cond.classLink RL 7 RX8, Cond.instantiable RX8 11, Cond.initialized RX8, Cond.classLink RL 18 RX9, Cond.instantiable RX9 36, Cond.initialized RX9, Cond.methodLink RL 9 yL_cell, Cond.static yL_cell, Cond.initialized RL, Cond.code yL_cell cL_cell 2 (some .int), Cond.methodLink RL 15 yX8_init, Cond.instanceMethod yX8_init, Cond.code yX8_init cX8_init 3 none, Cond.methodLink RX8 1 objectInit, Cond.instanceMethod objectInit, Cond.code objectInit ⟨#[0xb1]⟩ 1 none, Cond.classLink RX8 7 RX0, Cond.instantiable RX0 6, Cond.initialized RX0, Cond.fieldLink RX8 12 "CellarPushers" "ground" "LCellarPushers$Ground;", Cond.classLink RX8 18 RX3, Cond.instantiable RX3 4, Cond.initialized RX3, Cond.fieldLink RX8 21 "CellarPushers" "scene" "LCellarPushers$Scene;"]
def wsL_law_r2 : List Cond := [Cond.fieldLink RX8 25 "CellarPushers" "trial" "LCellarPushers$Scene;", Cond.classLink RX8 28 RX5, Cond.instantiable RX5 6, Cond.initialized RX5, Cond.fieldLink RX8 31 "CellarPushers" "timeline" "LCellarPushers$Timeline;", Cond.classLink RX8 35 RX6, Cond.instantiable RX6 3, Cond.initialized RX6, Cond.fieldLink RX8 38 "CellarPushers" "walks" "LCellarPushers$Walks;", Cond.classLink RX8 42 RX2, Cond.instantiable RX2 3, Cond.initialized RX2, Cond.fieldLink RX8 45 "CellarPushers" "prices" "LCellarPushers$Prices;", Cond.classLink RX8 49 RX1, Cond.instantiable RX1 3, Cond.initialized RX1, Cond.fieldLink RX8 52 "CellarPushers" "pairing" "LCellarPushers$Pairing;", Cond.classLink RX8 56 RX4, Cond.instantiable RX4 12, Cond.initialized RX4, Cond.fieldLink RX8 59 "CellarPushers" "search" "LCellarPushers$Search;", Cond.classLink RX8 63 RX7, Cond.instantiable RX7 2, Cond.initialized RX7]
def wsL_law_r3 : List Cond := [Cond.fieldLink RX8 66 "CellarPushers" "thePlan" "LCellarPushers$Ways;", Cond.fieldLink RX8 70 "CellarPushers" "tape" "LCellarPushers$Ways;", Cond.fieldLink RX8 73 "CellarPushers" "spoiltField" "I", Cond.methodLink RX8 9 yX0_init, Cond.instanceMethod yX0_init, Cond.code yX0_init cX0_init 3 none, Cond.methodLink RX0 3 objectInit, Cond.methodLink RX0 9 Lib.Math.min.name, Cond.static Lib.Math.min.name, Cond.initialized "java/lang/Math", Cond.code Lib.Math.min.name Lib.Math.min.code 2 (some .int), Cond.methodLink RX0 15 Lib.Math.max.name, Cond.static Lib.Math.max.name, Cond.code Lib.Math.max.name Lib.Math.max.code 2 (some .int), Cond.fieldLink RX0 18 "CellarPushers$Ground" "width" "I", Cond.fieldLink RX0 24 "CellarPushers$Ground" "height" "I", Cond.arrayClass .int, Cond.fieldLink RX0 27 "CellarPushers$Ground" "kinds" "[I", Cond.fieldLink RX0 31 "CellarPushers$Ground" "rampWays" "[I", Cond.arrayClass .boolean, Cond.fieldLink RX0 34 "CellarPushers$Ground" "missing" "[Z", Cond.methodLink RX8 20 yX3_init, Cond.instanceMethod yX3_init, Cond.code yX3_init cX3_init 1 none]
def wsL_law_r4 : List Cond := [Cond.methodLink RX3 3 objectInit, Cond.fieldLink RX3 9 "CellarPushers$Scene" "manAt" "I", Cond.methodLink RX8 30 yX5_init, Cond.instanceMethod yX5_init, Cond.code yX5_init cX5_init 1 none, Cond.methodLink RX5 3 objectInit, Cond.fieldLink RX5 9 "CellarPushers$Timeline" "men" "[I", Cond.arrayClass .long, Cond.fieldLink RX5 15 "CellarPushers$Timeline" "barrels" "[J", Cond.fieldLink RX5 19 "CellarPushers$Timeline" "steps" "[I", Cond.fieldLink RX5 22 "CellarPushers$Timeline" "pushes" "[I", Cond.methodLink RX8 37 yX6_init, Cond.instanceMethod yX6_init, Cond.code yX6_init cX6_init 1 none, Cond.methodLink RX6 3 objectInit, Cond.fieldLink RX6 9 "CellarPushers$Walks" "far" "[I", Cond.fieldLink RX6 15 "CellarPushers$Walks" "queue" "[I", Cond.methodLink RX8 44 yX2_init, Cond.instanceMethod yX2_init, Cond.code yX2_init cX2_init 1 none, Cond.methodLink RX2 3 objectInit, Cond.fieldLink RX2 9 "CellarPushers$Prices" "pushes" "[I", Cond.fieldLink RX2 15 "CellarPushers$Prices" "queue" "[I", Cond.methodLink RX8 51 yX1_init]
def wsL_law_r5 : List Cond := [Cond.instanceMethod yX1_init, Cond.code yX1_init cX1_init 1 none, Cond.methodLink RX1 3 objectInit, Cond.fieldLink RX1 9 "CellarPushers$Pairing" "marks" "[I", Cond.fieldLink RX1 15 "CellarPushers$Pairing" "sums" "[I", Cond.methodLink RX8 58 yX4_init, Cond.instanceMethod yX4_init, Cond.code yX4_init cX4_init 1 none, Cond.methodLink RX4 5 objectInit, Cond.fieldLink RX4 11 "CellarPushers$Search" "cellOf" "[I", Cond.fieldLink RX4 15 "CellarPushers$Search" "manTo" "[I", Cond.fieldLink RX4 18 "CellarPushers$Search" "barrelTo" "[I", Cond.fieldLink RX4 21 "CellarPushers$Search" "rolls" "[Z", Cond.fieldLink RX4 25 "CellarPushers$Search" "sets" "[I", Cond.fieldLink RX4 28 "CellarPushers$Search" "order" "[I", Cond.fieldLink RX4 31 "CellarPushers$Search" "costs" "[J", Cond.methodLink RX8 65 yX7_init, Cond.instanceMethod yX7_init, Cond.code yX7_init cX7_init 1 none, Cond.methodLink RX7 3 objectInit, Cond.fieldLink RX7 9 "CellarPushers$Ways" "ways" "[I", Cond.methodLink RL 20 yX9_init, Cond.instanceMethod yX9_init, Cond.code yX9_init cX9_init 3 none]
def wsL_law_r6 : List Cond := [Cond.methodLink RX9 1 objectInit, Cond.fieldLink RX9 7 "CellarPushersModel" "kinds" "[I", Cond.fieldLink RX9 13 "CellarPushersModel" "ramps" "[I", Cond.fieldLink RX9 16 "CellarPushersModel" "missing" "[Z", Cond.fieldLink RX9 20 "CellarPushersModel" "barrels" "[Z", Cond.fieldLink RX9 23 "CellarPushersModel" "wanted" "[Z", Cond.fieldLink RX9 26 "CellarPushersModel" "man" "I", Cond.fieldLink RX9 30 "CellarPushersModel" "manThen" "[I", Cond.fieldLink RX9 33 "CellarPushersModel" "stepsThen" "[I", Cond.fieldLink RX9 36 "CellarPushersModel" "pushesThen" "[I", Cond.fieldLink RX9 39 "CellarPushersModel" "barrelsThen" "[J", Cond.fieldLink RX9 43 "CellarPushersModel" "plan" "[I", Cond.fieldLink RX9 46 "CellarPushersModel" "tape" "[I", Cond.fieldLink RX9 49 "CellarPushersModel" "why" "I", Cond.fieldLink RX9 52 "CellarPushersModel" "walks" "[I", Cond.fieldLink RX9 55 "CellarPushersModel" "prices" "[I", Cond.fieldLink RX9 58 "CellarPushersModel" "isHeld" "[Z", Cond.fieldLink RX9 61 "CellarPushersModel" "sums" "[I", Cond.fieldLink RX9 64 "CellarPushersModel" "then" "[I", Cond.fieldLink RX9 67 "CellarPushersModel" "order" "[I", Cond.fieldLink RX9 70 "CellarPushersModel" "fieldOf" "[I", Cond.constant RX9 73 (810000), Cond.fieldLink RX9 74 "CellarPushersModel" "cost" "[I", Cond.fieldLink RX9 77 "CellarPushersModel" "queue" "[I"]
def wsL_law_r7 : List Cond := [Cond.fieldLink RX9 80 "CellarPushersModel" "path" "[I", Cond.fieldLink RX9 83 "CellarPushersModel" "tried" "[I", Cond.fieldLink RX9 86 "CellarPushersModel" "waits" "[Z", Cond.fieldLink RX9 89 "CellarPushersModel" "idle" "[Z", Cond.fieldLink RX9 92 "CellarPushersModel" "width" "I", Cond.fieldLink RX9 95 "CellarPushersModel" "height" "I", Cond.methodLink RL 21 yX8_field, Cond.instanceMethod yX8_field, Cond.selects RX8 yX8_field yX8_field, Cond.code yX8_field cX8_field 7 (some .int), Cond.methodLink RX8 77 yX0_numberOf, Cond.instanceMethod yX0_numberOf, Cond.selects RX0 yX0_numberOf yX0_numberOf, Cond.code yX0_numberOf cX0_numberOf 4 (some .int), Cond.methodLink RX8 81 yX8_isWay, Cond.static yX8_isWay, Cond.code yX8_isWay cX8_isWay 1 (some .boolean), Cond.methodLink RX8 85 yX8_isInUse, Cond.instanceMethod yX8_isInUse, Cond.selects RX8 yX8_isInUse yX8_isInUse, Cond.code yX8_isInUse cX8_isInUse 2 (some .boolean), Cond.fieldLink RX8 133 "CellarPushers$Ground" "wanted" "J", Cond.methodLink RX8 256 yX3_isTaken, Cond.instanceMethod yX3_isTaken]
def wsL_law_r8 : List Cond := [Cond.selects RX3 yX3_isTaken yX3_isTaken, Cond.code yX3_isTaken cX3_isTaken 2 (some .boolean), Cond.methodLink RX3 29 yX3_hasBarrel, Cond.instanceMethod yX3_hasBarrel, Cond.selects RX3 yX3_hasBarrel yX3_hasBarrel, Cond.code yX3_hasBarrel cX3_hasBarrel 2 (some .boolean), Cond.fieldLink RX3 15 "CellarPushers$Scene" "barrels" "J", Cond.static yX8_has, Cond.code yX8_has cX8_has 3 (some .boolean), Cond.methodLink RX8 253 yX8_isField, Cond.static yX8_isField, Cond.code yX8_isField cX8_isField 1 (some .boolean), Cond.methodLink RX8 136 yX8_has, Cond.methodLink RX8 88 yX5_forget, Cond.instanceMethod yX5_forget, Cond.selects RX5 yX5_forget yX5_forget, Cond.code yX5_forget cX5_forget 1 none, Cond.fieldLink RX5 25 "CellarPushers$Timeline" "now" "I", Cond.fieldLink RX5 29 "CellarPushers$Timeline" "last" "I", Cond.methodLink RX8 91 yX0_lay, Cond.instanceMethod yX0_lay, Cond.selects RX0 yX0_lay yX0_lay, Cond.code yX0_lay cX0_lay 5 (some .int), Cond.methodLink RL 25 yX9_field]
def wsL_law_r9 : List Cond := [Cond.instanceMethod yX9_field, Cond.selects RX9 yX9_field yX9_field, Cond.code yX9_field cX9_field 7 (some .int), Cond.methodLink RX9 98 yX9_isField, Cond.instanceMethod yX9_isField, Cond.selects RX9 yX9_isField yX9_isField, Cond.code yX9_isField cX9_isField 3 (some .boolean), Cond.methodLink RX9 118 yX9_isWay, Cond.static yX9_isWay, Cond.code yX9_isWay cX9_isWay 1 (some .boolean), Cond.methodLink RX9 122 yX9_forget, Cond.instanceMethod yX9_forget, Cond.selects RX9 yX9_forget yX9_forget, Cond.code yX9_forget cX9_forget 1 none, Cond.fieldLink RX9 112 "CellarPushersModel" "acts" "I", Cond.fieldLink RX9 115 "CellarPushersModel" "undone" "I", Cond.methodLink RL 26 yX8_line, Cond.instanceMethod yX8_line, Cond.selects RX8 yX8_line yX8_line, Cond.code yX8_line cX8_line 4 (some .int), Cond.fieldLink RX8 95 "CellarPushers$Ground" "height" "I", Cond.fieldLink RX8 98 "CellarPushers$Ground" "width" "I", Cond.methodLink RX8 101 yX0_letMiss, Cond.instanceMethod yX0_letMiss]
def wsL_law_r10 : List Cond := [Cond.selects RX0 yX0_letMiss yX0_letMiss, Cond.code yX0_letMiss cX0_letMiss 4 (some .boolean), Cond.methodLink RL 30 yX9_line, Cond.instanceMethod yX9_line, Cond.selects RX9 yX9_line yX9_line, Cond.code yX9_line cX9_line 4 (some .int), Cond.methodLink RL 31 yX8_barrel, Cond.instanceMethod yX8_barrel, Cond.selects RX8 yX8_barrel yX8_barrel, Cond.code yX8_barrel cX8_barrel 6 (some .int), Cond.fieldLink RX8 111 "CellarPushers$Scene" "barrels" "J", Cond.methodLink RX8 105 yX8_mayBeSetOn, Cond.instanceMethod yX8_mayBeSetOn, Cond.selects RX8 yX8_mayBeSetOn yX8_mayBeSetOn, Cond.code yX8_mayBeSetOn cX8_mayBeSetOn 2 (some .boolean), Cond.fieldLink RX8 126 "CellarPushers$Scene" "manAt" "I", Cond.methodLink RX8 129 yX0_kindNow, Cond.instanceMethod yX0_kindNow, Cond.selects RX0 yX0_kindNow yX0_kindNow, Cond.code yX0_kindNow cX0_kindNow 2 (some .int), Cond.methodLink RX8 175 yJ13_bitCount_95d88, Cond.static yJ13_bitCount_95d88, Cond.initialized RJ13, Cond.code yJ13_bitCount_95d88 cJ13_bitCount_95d88 2 (some .int)]
def wsL_law_r11 : List Cond := [Cond.constantLong RJ13 314 (6148914691236517205), Cond.constantLong RJ13 316 (3689348814741910323), Cond.constantLong RJ13 318 (1085102592571150095), Cond.methodLink RX8 108 yX3_hasBarrel, Cond.methodLink RX8 115 yX8_with, Cond.static yX8_with, Cond.code yX8_with cX8_with 6 (some .long), Cond.constantLong RX8 196 (-1), Cond.methodLink RL 35 yX9_barrel, Cond.instanceMethod yX9_barrel, Cond.selects RX9 yX9_barrel yX9_barrel, Cond.code yX9_barrel cX9_barrel 6 (some .int), Cond.methodLink RX9 102 yX9_kindOf, Cond.instanceMethod yX9_kindOf, Cond.selects RX9 yX9_kindOf yX9_kindOf, Cond.code yX9_kindOf cX9_kindOf 2 (some .int), Cond.methodLink RX9 125 yX9_number, Cond.instanceMethod yX9_number, Cond.selects RX9 yX9_number yX9_number, Cond.code yX9_number cX9_number 4 (some .int), Cond.methodLink RL 36 yX8_man, Cond.instanceMethod yX8_man, Cond.selects RX8 yX8_man yX8_man, Cond.code yX8_man cX8_man 5 (some .int)]
def wsL_law_r12 : List Cond := [Cond.methodLink RX8 119 yX0_isForMan, Cond.instanceMethod yX0_isForMan, Cond.selects RX0 yX0_isForMan yX0_isForMan, Cond.code yX0_isForMan cX0_isForMan 3 (some .boolean), Cond.methodLink RX0 54 yX0_kindNow, Cond.methodLink RX8 122 yX3_hasMan, Cond.instanceMethod yX3_hasMan, Cond.selects RX3 yX3_hasMan yX3_hasMan, Cond.code yX3_hasMan cX3_hasMan 1 (some .boolean), Cond.methodLink RL 40 yX9_man, Cond.instanceMethod yX9_man, Cond.selects RX9 yX9_man yX9_man, Cond.code yX9_man cX9_man 5 (some .int), Cond.methodLink RL 41 yX8_want, Cond.instanceMethod yX8_want, Cond.selects RX8 yX8_want yX8_want, Cond.code yX8_want cX8_want 7 (some .int), Cond.methodLink RL 44 yX9_want, Cond.instanceMethod yX9_want, Cond.selects RX9 yX9_want yX9_want, Cond.code yX9_want cX9_want 6 (some .int), Cond.methodLink RL 45 yX8_step, Cond.instanceMethod yX8_step, Cond.selects RX8 yX8_step yX8_step]
def wsL_law_r13 : List Cond := [Cond.code yX8_step cX8_step 2 (some .int), Cond.methodLink RX8 140 yX3_become, Cond.instanceMethod yX3_become, Cond.selects RX3 yX3_become yX3_become, Cond.code yX3_become cX3_become 2 none, Cond.fieldLink RX3 19 "CellarPushers$Scene" "stepsDone" "I", Cond.fieldLink RX3 22 "CellarPushers$Scene" "pushesDone" "I", Cond.methodLink RX8 144 yX3_advance, Cond.instanceMethod yX3_advance, Cond.selects RX3 yX3_advance yX3_advance, Cond.code yX3_advance cX3_advance 6 (some .int), Cond.methodLink RX3 33 yX3_hasMan, Cond.methodLink RX3 40 yX0_beside, Cond.instanceMethod yX0_beside, Cond.selects RX0 yX0_beside yX0_beside, Cond.code yX0_beside cX0_beside 3 (some .int), Cond.methodLink RX0 51 yX0_numberOf, Cond.methodLink RX3 46 yX0_manMayCome, Cond.instanceMethod yX0_manMayCome, Cond.selects RX0 yX0_manMayCome yX0_manMayCome, Cond.code yX0_manMayCome cX0_manMayCome 4 (some .boolean), Cond.methodLink RX0 58 yX0_rampWay, Cond.instanceMethod yX0_rampWay, Cond.selects RX0 yX0_rampWay yX0_rampWay]
def wsL_law_r14 : List Cond := [Cond.code yX0_rampWay cX0_rampWay 2 (some .int), Cond.methodLink RX3 50 yX3_roll, Cond.instanceMethod yX3_roll, Cond.selects RX3 yX3_roll yX3_roll, Cond.code yX3_roll cX3_roll 7 (some .int), Cond.methodLink RX3 67 yX0_rollsOn, Cond.instanceMethod yX0_rollsOn, Cond.selects RX0 yX0_rollsOn yX0_rollsOn, Cond.code yX0_rollsOn cX0_rollsOn 3 (some .boolean), Cond.methodLink RX3 70 yX0_barrelMayCome, Cond.instanceMethod yX0_barrelMayCome, Cond.selects RX0 yX0_barrelMayCome yX0_barrelMayCome, Cond.code yX0_barrelMayCome cX0_barrelMayCome 4 (some .boolean), Cond.methodLink RX8 148 yX8_act, Cond.instanceMethod yX8_act, Cond.selects RX8 yX8_act yX8_act, Cond.code yX8_act cX8_act 2 (some .int), Cond.methodLink RX8 259 yX5_record, Cond.instanceMethod yX5_record, Cond.selects RX5 yX5_record yX5_record, Cond.code yX5_record cX5_record 3 none, Cond.methodLink RX5 32 yX5_keep, Cond.instanceMethod yX5_keep, Cond.selects RX5 yX5_keep yX5_keep]
def wsL_law_r15 : List Cond := [Cond.code yX5_keep cX5_keep 3 none, Cond.fieldLink RX5 39 "CellarPushers$Scene" "manAt" "I", Cond.fieldLink RX5 44 "CellarPushers$Scene" "barrels" "J", Cond.fieldLink RX5 47 "CellarPushers$Scene" "stepsDone" "I", Cond.fieldLink RX5 50 "CellarPushers$Scene" "pushesDone" "I", Cond.methodLink RL 49 yX9_step, Cond.instanceMethod yX9_step, Cond.selects RX9 yX9_step yX9_step, Cond.code yX9_step cX9_step 4 (some .int), Cond.methodLink RX9 139 yX9_wouldStep, Cond.instanceMethod yX9_wouldStep, Cond.selects RX9 yX9_wouldStep yX9_wouldStep, Cond.code yX9_wouldStep cX9_wouldStep 6 (some .int), Cond.methodLink RX9 129 yX9_beside, Cond.instanceMethod yX9_beside, Cond.selects RX9 yX9_beside yX9_beside, Cond.code yX9_beside cX9_beside 5 (some .int), Cond.methodLink RX9 133 yX9_mayMan, Cond.instanceMethod yX9_mayMan, Cond.selects RX9 yX9_mayMan yX9_mayMan, Cond.code yX9_mayMan cX9_mayMan 3 (some .boolean), Cond.methodLink RX9 109 yX9_letsMan, Cond.instanceMethod yX9_letsMan, Cond.selects RX9 yX9_letsMan yX9_letsMan]
def wsL_law_r16 : List Cond := [Cond.code yX9_letsMan cX9_letsMan 3 (some .boolean), Cond.methodLink RX9 106 yX9_lets, Cond.instanceMethod yX9_lets, Cond.selects RX9 yX9_lets yX9_lets, Cond.code yX9_lets cX9_lets 4 (some .boolean), Cond.methodLink RX9 136 yX9_mayBarrel, Cond.instanceMethod yX9_mayBarrel, Cond.selects RX9 yX9_mayBarrel yX9_mayBarrel, Cond.code yX9_mayBarrel cX9_mayBarrel 3 (some .boolean), Cond.methodLink RX9 156 yX9_begins, Cond.instanceMethod yX9_begins, Cond.selects RX9 yX9_begins yX9_begins, Cond.code yX9_begins cX9_begins 1 none, Cond.methodLink RX9 152 yX9_keep, Cond.instanceMethod yX9_keep, Cond.selects RX9 yX9_keep yX9_keep, Cond.code yX9_keep cX9_keep 2 none, Cond.fieldLink RX9 145 "CellarPushersModel" "steps" "I", Cond.fieldLink RX9 142 "CellarPushersModel" "pushes" "I", Cond.methodLink RX9 148 yX9_bits, Cond.instanceMethod yX9_bits, Cond.selects RX9 yX9_bits yX9_bits, Cond.code yX9_bits cX9_bits 4 (some .long), Cond.methodLink RX9 159 yX9_does]
def wsL_law_r17 : List Cond := [Cond.instanceMethod yX9_does, Cond.selects RX9 yX9_does yX9_does, Cond.code yX9_does cX9_does 6 (some .int), Cond.methodLink RX9 162 yX9_ends, Cond.instanceMethod yX9_ends, Cond.selects RX9 yX9_ends yX9_ends, Cond.code yX9_ends cX9_ends 1 none, Cond.methodLink RL 50 yX8_walk, Cond.instanceMethod yX8_walk, Cond.selects RX8 yX8_walk yX8_walk, Cond.code yX8_walk cX8_walk 4 (some .int), Cond.methodLink RX8 151 yX8_tryWalk, Cond.instanceMethod yX8_tryWalk, Cond.selects RX8 yX8_tryWalk yX8_tryWalk, Cond.code yX8_tryWalk cX8_tryWalk 3 (some .int), Cond.fieldLink RX8 241 "CellarPushers$Scene" "stepsDone" "I", Cond.methodLink RX8 164 yX6_measure, Cond.instanceMethod yX6_measure, Cond.selects RX6 yX6_measure yX6_measure, Cond.code yX6_measure cX6_measure 7 none, Cond.fieldLink RX6 24 "CellarPushers$Walks" "reached" "I", Cond.fieldLink RX6 28 "CellarPushers$Scene" "manAt" "I", Cond.methodLink RX6 18 yJ7_fill_53178, Cond.static yJ7_fill_53178]
def wsL_law_r18 : List Cond := [Cond.initialized RJ7, Cond.code yJ7_fill_53178 cJ7_fill_53178 4 none, Cond.methodLink RX6 33 yX6_reach, Cond.instanceMethod yX6_reach, Cond.selects RX6 yX6_reach yX6_reach, Cond.code yX6_reach cX6_reach 3 none, Cond.methodLink RX6 37 yX0_beside, Cond.methodLink RX6 43 yX0_manMayCome, Cond.methodLink RX6 47 yX3_hasBarrel, Cond.methodLink RX6 51 yX6_stepsTo, Cond.instanceMethod yX6_stepsTo, Cond.selects RX6 yX6_stepsTo yX6_stepsTo, Cond.code yX6_stepsTo cX6_stepsTo 2 (some .int), Cond.methodLink RX8 168 yX6_stepsTo, Cond.methodLink RL 53 yX9_walk, Cond.instanceMethod yX9_walk, Cond.selects RX9 yX9_walk yX9_walk, Cond.code yX9_walk cX9_walk 4 (some .int), Cond.methodLink RX9 165 yX9_walkOut, Cond.instanceMethod yX9_walkOut, Cond.selects RX9 yX9_walkOut yX9_walkOut, Cond.code yX9_walkOut cX9_walkOut 6 none, Cond.methodLink RL 54 yX8_push, Cond.instanceMethod yX8_push]
def wsL_law_r19 : List Cond := [Cond.selects RX8 yX8_push yX8_push, Cond.code yX8_push cX8_push 4 (some .int), Cond.methodLink RX8 154 yX8_tryPush, Cond.instanceMethod yX8_tryPush, Cond.selects RX8 yX8_tryPush yX8_tryPush, Cond.code yX8_tryPush cX8_tryPush 5 (some .int), Cond.methodLink RX8 263 yX8_opposite, Cond.static yX8_opposite, Cond.code yX8_opposite cX8_opposite 1 (some .int), Cond.methodLink RX8 266 yX0_beside, Cond.methodLink RL 58 yX9_push, Cond.instanceMethod yX9_push, Cond.selects RX9 yX9_push yX9_push, Cond.code yX9_push cX9_push 7 (some .int), Cond.methodLink RX9 168 yX9_can, Cond.instanceMethod yX9_can, Cond.selects RX9 yX9_can yX9_can, Cond.code yX9_can cX9_can 7 (some .int), Cond.methodLink RL 59 yX8_can, Cond.instanceMethod yX8_can, Cond.selects RX8 yX8_can yX8_can, Cond.code yX8_can cX8_can 4 (some .int), Cond.methodLink RL 62 yX9_can, Cond.methodLink RL 63 yX8_undo]
def wsL_law_r20 : List Cond := [Cond.instanceMethod yX8_undo, Cond.selects RX8 yX8_undo yX8_undo, Cond.code yX8_undo cX8_undo 1 (some .int), Cond.methodLink RX8 157 yX5_goBack, Cond.instanceMethod yX5_goBack, Cond.selects RX5 yX5_goBack yX5_goBack, Cond.code yX5_goBack cX5_goBack 2 (some .int), Cond.methodLink RX5 36 yX5_bring, Cond.instanceMethod yX5_bring, Cond.selects RX5 yX5_bring yX5_bring, Cond.code yX5_bring cX5_bring 3 none, Cond.methodLink RL 67 yX9_undo, Cond.instanceMethod yX9_undo, Cond.selects RX9 yX9_undo yX9_undo, Cond.code yX9_undo cX9_undo 1 (some .int), Cond.methodLink RX9 172 yX9_back, Cond.instanceMethod yX9_back, Cond.selects RX9 yX9_back yX9_back, Cond.code yX9_back cX9_back 3 none, Cond.methodLink RL 68 yX8_redo, Cond.instanceMethod yX8_redo, Cond.selects RX8 yX8_redo yX8_redo, Cond.code yX8_redo cX8_redo 1 (some .int), Cond.methodLink RX8 161 yX5_goForth]
def wsL_law_r21 : List Cond := [Cond.instanceMethod yX5_goForth, Cond.selects RX5 yX5_goForth yX5_goForth, Cond.code yX5_goForth cX5_goForth 2 (some .int), Cond.methodLink RL 71 yX9_redo, Cond.instanceMethod yX9_redo, Cond.selects RX9 yX9_redo yX9_redo, Cond.code yX9_redo cX9_redo 1 (some .int), Cond.methodLink RL 72 yX8_kind, Cond.instanceMethod yX8_kind, Cond.selects RX8 yX8_kind yX8_kind, Cond.code yX8_kind cX8_kind 4 (some .int), Cond.methodLink RL 75 yX9_kind, Cond.instanceMethod yX9_kind, Cond.selects RX9 yX9_kind yX9_kind, Cond.code yX9_kind cX9_kind 3 (some .int), Cond.methodLink RL 76 yX8_on, Cond.instanceMethod yX8_on, Cond.selects RX8 yX8_on yX8_on, Cond.code yX8_on cX8_on 5 (some .int), Cond.methodLink RL 79 yX9_on, Cond.instanceMethod yX9_on, Cond.selects RX9 yX9_on yX9_on, Cond.code yX9_on cX9_on 4 (some .int), Cond.methodLink RL 80 yX8_far]
def wsL_law_r22 : List Cond := [Cond.instanceMethod yX8_far, Cond.selects RX8 yX8_far yX8_far, Cond.code yX8_far cX8_far 4 (some .int), Cond.methodLink RL 83 yX9_far, Cond.instanceMethod yX9_far, Cond.selects RX9 yX9_far yX9_far, Cond.code yX9_far cX9_far 3 (some .int), Cond.methodLink RL 84 yX8_isDone, Cond.instanceMethod yX8_isDone, Cond.selects RX8 yX8_isDone yX8_isDone, Cond.code yX8_isDone cX8_isDone 1 (some .boolean), Cond.methodLink RX8 171 yX8_isDoneIn, Cond.instanceMethod yX8_isDoneIn, Cond.selects RX8 yX8_isDoneIn yX8_isDoneIn, Cond.code yX8_isDoneIn cX8_isDoneIn 2 (some .boolean), Cond.methodLink RL 88 yX9_isDone, Cond.instanceMethod yX9_isDone, Cond.selects RX9 yX9_isDone yX9_isDone, Cond.code yX9_isDone cX9_isDone 2 (some .boolean), Cond.methodLink RL 89 yX8_isReady, Cond.instanceMethod yX8_isReady, Cond.selects RX8 yX8_isReady yX8_isReady, Cond.code yX8_isReady cX8_isReady 2 (some .boolean), Cond.methodLink RL 92 yX9_isReady]
def wsL_law_r23 : List Cond := [Cond.instanceMethod yX9_isReady, Cond.selects RX9 yX9_isReady yX9_isReady, Cond.code yX9_isReady cX9_isReady 1 (some .boolean), Cond.methodLink RL 93 yX8_dead, Cond.instanceMethod yX8_dead, Cond.selects RX8 yX8_dead yX8_dead, Cond.code yX8_dead cX8_dead 4 (some .int), Cond.methodLink RX8 181 yX2_isDead, Cond.instanceMethod yX2_isDead, Cond.selects RX2 yX2_isDead yX2_isDead, Cond.code yX2_isDead cX2_isDead 4 (some .boolean), Cond.fieldLink RX2 50 "CellarPushers$Ground" "wanted" "J", Cond.methodLink RX2 40 yX0_kindNow, Cond.methodLink RX2 46 yX2_measure, Cond.instanceMethod yX2_measure, Cond.selects RX2 yX2_measure yX2_measure, Cond.code yX2_measure cX2_measure 5 none, Cond.fieldLink RX2 24 "CellarPushers$Prices" "reached" "I", Cond.methodLink RX2 18 yJ7_fill_53178, Cond.methodLink RX2 28 yX2_reach, Cond.instanceMethod yX2_reach, Cond.selects RX2 yX2_reach yX2_reach, Cond.code yX2_reach cX2_reach 3 none, Cond.methodLink RX2 32 yX2_pushOn]
def wsL_law_r24 : List Cond := [Cond.instanceMethod yX2_pushOn, Cond.selects RX2 yX2_pushOn yX2_pushOn, Cond.code yX2_pushOn cX2_pushOn 7 none, Cond.methodLink RX2 61 yX0_beside, Cond.methodLink RX2 65 yX0_isForMan, Cond.methodLink RX2 68 yX0_manMayCome, Cond.methodLink RX2 72 yX0_barrelMayCome, Cond.methodLink RX2 75 yX2_priceTo, Cond.instanceMethod yX2_priceTo, Cond.selects RX2 yX2_priceTo yX2_priceTo, Cond.code yX2_priceTo cX2_priceTo 2 (some .int), Cond.methodLink RX2 78 yX0_rollsOn, Cond.methodLink RL 96 yX9_dead, Cond.instanceMethod yX9_dead, Cond.selects RX9 yX9_dead yX9_dead, Cond.code yX9_dead cX9_dead 3 (some .int), Cond.methodLink RX9 178 yX9_isDead, Cond.instanceMethod yX9_isDead, Cond.selects RX9 yX9_isDead yX9_isDead, Cond.code yX9_isDead cX9_isDead 3 (some .boolean), Cond.methodLink RX9 175 yX9_pushOut, Cond.instanceMethod yX9_pushOut, Cond.selects RX9 yX9_pushOut yX9_pushOut, Cond.code yX9_pushOut cX9_pushOut 9 none]
def wsL_law_r25 : List Cond := [Cond.methodLink RL 97 yX8_held, Cond.instanceMethod yX8_held, Cond.selects RX8 yX8_held yX8_held, Cond.code yX8_held cX8_held 4 (some .int), Cond.methodLink RX8 185 yX8_heldBarrels, Cond.instanceMethod yX8_heldBarrels, Cond.selects RX8 yX8_heldBarrels yX8_heldBarrels, Cond.code yX8_heldBarrels cX8_heldBarrels 7 (some .long), Cond.methodLink RX8 269 yX8_isHeldBy, Cond.instanceMethod yX8_isHeldBy, Cond.selects RX8 yX8_isHeldBy yX8_isHeldBy, Cond.code yX8_isHeldBy cX8_isHeldBy 6 (some .boolean), Cond.methodLink RX8 272 yX8_holds, Cond.instanceMethod yX8_holds, Cond.selects RX8 yX8_holds yX8_holds, Cond.code yX8_holds cX8_holds 6 (some .boolean), Cond.methodLink RL 100 yX9_held, Cond.instanceMethod yX9_held, Cond.selects RX9 yX9_held yX9_held, Cond.code yX9_held cX9_held 3 (some .int), Cond.methodLink RX9 184 yX9_hold, Cond.instanceMethod yX9_hold, Cond.selects RX9 yX9_hold yX9_hold, Cond.code yX9_hold cX9_hold 4 none]
def wsL_law_r26 : List Cond := [Cond.methodLink RX9 181 yX9_bars, Cond.instanceMethod yX9_bars, Cond.selects RX9 yX9_bars yX9_bars, Cond.code yX9_bars cX9_bars 2 (some .boolean), Cond.methodLink RL 101 yX8_spoilt, Cond.instanceMethod yX8_spoilt, Cond.selects RX8 yX8_spoilt yX8_spoilt, Cond.code yX8_spoilt cX8_spoilt 1 (some .int), Cond.methodLink RX8 189 yX8_isReady, Cond.methodLink RX8 192 yX8_leastDeadBarrel, Cond.instanceMethod yX8_leastDeadBarrel, Cond.selects RX8 yX8_leastDeadBarrel yX8_leastDeadBarrel, Cond.code yX8_leastDeadBarrel cX8_leastDeadBarrel 2 (some .int), Cond.methodLink RX8 198 yX8_leastOf, Cond.static yX8_leastOf, Cond.code yX8_leastOf cX8_leastOf 3 (some .int), Cond.methodLink RL 104 yX9_spoilt, Cond.instanceMethod yX9_spoilt, Cond.selects RX9 yX9_spoilt yX9_spoilt, Cond.code yX9_spoilt cX9_spoilt 2 (some .int), Cond.methodLink RX9 187 yX9_isReady, Cond.methodLink RL 105 yX8_why, Cond.instanceMethod yX8_why, Cond.selects RX8 yX8_why yX8_why]
def wsL_law_r27 : List Cond := [Cond.code yX8_why cX8_why 1 (some .int), Cond.methodLink RL 108 yX9_why, Cond.instanceMethod yX9_why, Cond.selects RX9 yX9_why yX9_why, Cond.code yX9_why cX9_why 1 (some .int), Cond.methodLink RL 109 yX8_low, Cond.instanceMethod yX8_low, Cond.selects RX8 yX8_low yX8_low, Cond.code yX8_low cX8_low 1 (some .int), Cond.methodLink RX8 201 yX1_leastSum, Cond.instanceMethod yX1_leastSum, Cond.selects RX1 yX1_leastSum yX1_leastSum, Cond.code yX1_leastSum cX1_leastSum 8 (some .int), Cond.fieldLink RX1 18 "CellarPushers$Ground" "wanted" "J", Cond.constant RX1 28 (268435456), Cond.fieldLink RX1 49 "CellarPushers$Pairing" "size" "I", Cond.methodLink RX1 24 yX1_listMarks, Cond.instanceMethod yX1_listMarks, Cond.selects RX1 yX1_listMarks yX1_listMarks, Cond.code yX1_listMarks cX1_listMarks 4 none, Cond.methodLink RX1 29 yJ7_fill_53178, Cond.methodLink RX1 39 yX2_measure, Cond.methodLink RX1 45 yX1_pairNext, Cond.instanceMethod yX1_pairNext]
def wsL_law_r28 : List Cond := [Cond.selects RX1 yX1_pairNext yX1_pairNext, Cond.code yX1_pairNext cX1_pairNext 4 none, Cond.methodLink RX1 53 yJ6_bitCount_0f7a4, Cond.static yJ6_bitCount_0f7a4, Cond.initialized RJ6, Cond.code yJ6_bitCount_0f7a4 cJ6_bitCount_0f7a4 1 (some .int), Cond.constant RJ6 265 (1431655765), Cond.constant RJ6 266 (858993459), Cond.constant RJ6 267 (252645135), Cond.methodLink RX1 59 yX1_pairWithEach, Cond.instanceMethod yX1_pairWithEach, Cond.selects RX1 yX1_pairWithEach yX1_pairWithEach, Cond.code yX1_pairWithEach cX1_pairWithEach 6 none, Cond.methodLink RX1 65 Lib.Math.min.name, Cond.methodLink RX1 62 yX2_priceTo, Cond.methodLink RL 112 yX9_low, Cond.instanceMethod yX9_low, Cond.selects RX9 yX9_low yX9_low, Cond.code yX9_low cX9_low 6 (some .int), Cond.constant RX9 191 (2000000000), Cond.methodLink RL 113 yX8_price, Cond.instanceMethod yX8_price, Cond.selects RX8 yX8_price yX8_price, Cond.code yX8_price cX8_price 7 (some .int)]
def wsL_law_r29 : List Cond := [Cond.methodLink RX8 205 yX2_measure, Cond.methodLink RX8 208 yX2_priceTo, Cond.methodLink RL 116 yX9_price, Cond.instanceMethod yX9_price, Cond.selects RX9 yX9_price yX9_price, Cond.code yX9_price cX9_price 5 (some .int), Cond.methodLink RL 117 yX8_fewest, Cond.instanceMethod yX8_fewest, Cond.selects RX8 yX8_fewest yX8_fewest, Cond.code yX8_fewest cX8_fewest 1 (some .int), Cond.methodLink RX8 211 yX0_openFields, Cond.instanceMethod yX0_openFields, Cond.selects RX0 yX0_openFields yX0_openFields, Cond.code yX0_openFields cX0_openFields 3 (some .int), Cond.methodLink RX8 214 yX8_liveFields, Cond.instanceMethod yX8_liveFields, Cond.selects RX8 yX8_liveFields yX8_liveFields, Cond.code yX8_liveFields cX8_liveFields 5 (some .long), Cond.methodLink RX8 217 yX4_solve, Cond.instanceMethod yX4_solve, Cond.selects RX4 yX4_solve yX4_solve, Cond.code yX4_solve cX4_solve 7 (some .int), Cond.fieldLink RX4 35 "CellarPushers$Ways" "size" "I", Cond.fieldLink RX4 41 "CellarPushers$Scene" "barrels" "J"]
def wsL_law_r30 : List Cond := [Cond.constantLong RX4 47 (-1), Cond.fieldLink RX4 61 "CellarPushers$Search" "liveCells" "I", Cond.fieldLink RX4 64 "CellarPushers$Ground" "wanted" "J", Cond.fieldLink RX4 73 "CellarPushers$Search" "doneRank" "I", Cond.fieldLink RX4 85 "CellarPushers$Scene" "manAt" "I", Cond.methodLink RX4 91 Lib.Math.max.name, Cond.fieldLink RX4 100 "CellarPushers$Search" "best" "J", Cond.methodLink RX4 49 yX4_numberCells, Cond.instanceMethod yX4_numberCells, Cond.selects RX4 yX4_numberCells yX4_numberCells, Cond.code yX4_numberCells cX4_numberCells 4 none, Cond.fieldLink RX4 110 "CellarPushers$Search" "cells" "I", Cond.methodLink RX4 113 yX0_kindNow, Cond.methodLink RX4 53 yX4_joinCells, Cond.instanceMethod yX4_joinCells, Cond.selects RX4 yX4_joinCells yX4_joinCells, Cond.code yX4_joinCells cX4_joinCells 6 none, Cond.methodLink RX4 88 yX4_cellAt, Cond.instanceMethod yX4_cellAt, Cond.selects RX4 yX4_cellAt yX4_cellAt, Cond.code yX4_cellAt cX4_cellAt 2 (some .int), Cond.methodLink RX4 116 yX0_rollsOn, Cond.methodLink RX4 120 yX0_beside, Cond.methodLink RX4 123 yX0_manMayCome]
def wsL_law_r31 : List Cond := [Cond.methodLink RX4 127 yX0_barrelMayCome, Cond.methodLink RX4 57 yX4_setOf, Cond.instanceMethod yX4_setOf, Cond.selects RX4 yX4_setOf yX4_setOf, Cond.code yX4_setOf cX4_setOf 5 (some .int), Cond.methodLink RX4 69 yX4_rankOf, Cond.static yX4_rankOf, Cond.code yX4_rankOf cX4_rankOf 6 (some .int), Cond.methodLink RX4 137 yJ6_bitCount_0f7a4, Cond.methodLink RX4 76 yJ13_bitCount_95d88, Cond.methodLink RX4 81 yX4_listSets, Cond.instanceMethod yX4_listSets, Cond.selects RX4 yX4_listSets yX4_listSets, Cond.code yX4_listSets cX4_listSets 6 none, Cond.methodLink RX4 141 Lib.Math.min.name, Cond.methodLink RX4 144 yX4_makeRoom, Cond.instanceMethod yX4_makeRoom, Cond.selects RX4 yX4_makeRoom yX4_makeRoom, Cond.code yX4_makeRoom cX4_makeRoom 3 none, Cond.methodLink RX4 147 yX4_nextSet, Cond.static yX4_nextSet, Cond.code yX4_nextSet cX4_nextSet 3 (some .int), Cond.methodLink RX4 97 yX4_explore, Cond.instanceMethod yX4_explore]
def wsL_law_r32 : List Cond := [Cond.selects RX4 yX4_explore yX4_explore, Cond.code yX4_explore cX4_explore 11 none, Cond.fieldLink RX4 156 "CellarPushers$Search" "reached" "I", Cond.constantLong RX4 167 (1152921504606846976), Cond.constantLong RX4 169 (1048577), Cond.methodLink RX4 171 Lib.MathLoose.min_long.x, Cond.static Lib.MathLoose.min_long.x, Cond.code Lib.MathLoose.min_long.x Lib.MathLoose.min_long.code 4 (some .long), Cond.methodLink RX4 150 yJ7_fill_d0a16, Cond.static yJ7_fill_d0a16, Cond.code yJ7_fill_d0a16 cJ7_fill_d0a16 5 none, Cond.methodLink RX4 159 yX4_reach, Cond.instanceMethod yX4_reach, Cond.selects RX4 yX4_reach yX4_reach, Cond.code yX4_reach cX4_reach 5 none, Cond.methodLink RX4 163 yX4_costOf, Cond.instanceMethod yX4_costOf, Cond.selects RX4 yX4_costOf yX4_costOf, Cond.code yX4_costOf cX4_costOf 2 (some .long), Cond.methodLink RX4 174 yX4_walkFrom, Cond.instanceMethod yX4_walkFrom, Cond.selects RX4 yX4_walkFrom yX4_walkFrom, Cond.code yX4_walkFrom cX4_walkFrom 5 none, Cond.methodLink RX4 180 yX4_walkedTo]
def wsL_law_r33 : List Cond := [Cond.instanceMethod yX4_walkedTo, Cond.selects RX4 yX4_walkedTo yX4_walkedTo, Cond.code yX4_walkedTo cX4_walkedTo 4 (some .int), Cond.methodLink RX4 186 yX4_cellFrom, Cond.static yX4_cellFrom, Cond.code yX4_cellFrom cX4_cellFrom 4 (some .int), Cond.methodLink RX4 190 yX4_setIn, Cond.instanceMethod yX4_setIn, Cond.selects RX4 yX4_setIn yX4_setIn, Cond.code yX4_setIn cX4_setIn 3 (some .int), Cond.methodLink RX4 177 yX4_pushFrom, Cond.instanceMethod yX4_pushFrom, Cond.selects RX4 yX4_pushFrom yX4_pushFrom, Cond.code yX4_pushFrom cX4_pushFrom 5 none, Cond.methodLink RX4 183 yX4_pushedTo, Cond.instanceMethod yX4_pushedTo, Cond.selects RX4 yX4_pushedTo yX4_pushedTo, Cond.code yX4_pushedTo cX4_pushedTo 7 (some .int), Cond.methodLink RX4 193 yX4_rolledTo, Cond.instanceMethod yX4_rolledTo, Cond.selects RX4 yX4_rolledTo yX4_rolledTo, Cond.code yX4_rolledTo cX4_rolledTo 7 (some .int), Cond.methodLink RX4 103 yX4_markRows, Cond.instanceMethod yX4_markRows]
def wsL_law_r34 : List Cond := [Cond.selects RX4 yX4_markRows yX4_markRows, Cond.code yX4_markRows cX4_markRows 4 none, Cond.constantLong RX4 200 (1125899906842624), Cond.methodLink RX4 197 yX4_leastWay, Cond.instanceMethod yX4_leastWay, Cond.selects RX4 yX4_leastWay yX4_leastWay, Cond.code yX4_leastWay cX4_leastWay 6 (some .int), Cond.constantLong RX4 202 (-1125899906842625), Cond.methodLink RX4 106 yX4_takeRow, Cond.instanceMethod yX4_takeRow, Cond.selects RX4 yX4_takeRow yX4_takeRow, Cond.code yX4_takeRow cX4_takeRow 7 none, Cond.methodLink RX4 204 yX7_append, Cond.instanceMethod yX7_append, Cond.selects RX7 yX7_append yX7_append, Cond.code yX7_append cX7_append 2 none, Cond.fieldLink RX7 19 "CellarPushers$Ways" "size" "I", Cond.constant RX7 23 (131072), Cond.methodLink RX7 24 yJ7_copyOf_59c91, Cond.static yJ7_copyOf_59c91, Cond.code yJ7_copyOf_59c91 cJ7_copyOf_59c91 3 (some (.array .int)), Cond.methodLink RJ7 316 ⟨"[I", "clone", "()Ljava/lang/Object;"⟩, Cond.sameMethod "[I" "java/lang/Object" "clone" "()Ljava/lang/Object;", Cond.native ⟨"java/lang/Object", "clone", "()Ljava/lang/Object;"⟩]
def wsL_law_r35 : List Cond := [Cond.instanceMethod ⟨"java/lang/Object", "clone", "()Ljava/lang/Object;"⟩, Cond.selects "[I" ⟨"[I", "clone", "()Ljava/lang/Object;"⟩ ⟨"java/lang/Object", "clone", "()Ljava/lang/Object;"⟩, Cond.classLink RJ7 317 "[I", Cond.methodLink RJ7 304 Lib.Math.min.name, Cond.methodLink RJ7 150 arraycopyName, Cond.native arraycopyName, Cond.static arraycopyName, Cond.initialized "java/lang/System", Cond.methodLink RL 120 yX9_fewest, Cond.instanceMethod yX9_fewest, Cond.selects RX9 yX9_fewest yX9_fewest, Cond.code yX9_fewest cX9_fewest 4 (some .int), Cond.fieldLink RX9 192 "CellarPushersModel" "three" "I", Cond.fieldLink RX9 215 "CellarPushersModel" "planned" "I", Cond.constant RX9 222 (1048576), Cond.methodLink RX9 206 yX9_fields, Cond.instanceMethod yX9_fields, Cond.selects RX9 yX9_fields yX9_fields, Cond.code yX9_fields cX9_fields 3 (some .int), Cond.methodLink RX9 199 yX9_stand, Cond.instanceMethod yX9_stand, Cond.selects RX9 yX9_stand yX9_stand, Cond.code yX9_stand cX9_stand 3 (some .int), Cond.methodLink RX9 209 yX9_spread]
def wsL_law_r36 : List Cond := [Cond.instanceMethod yX9_spread, Cond.selects RX9 yX9_spread yX9_spread, Cond.code yX9_spread cX9_spread 7 none, Cond.fieldLink RX9 196 "CellarPushersModel" "stepCost" "I", Cond.methodLink RX9 203 yX9_setUp, Cond.instanceMethod yX9_setUp, Cond.selects RX9 yX9_setUp yX9_setUp, Cond.code yX9_setUp cX9_setUp 4 none, Cond.methodLink RX9 223 yX9_behind, Cond.instanceMethod yX9_behind, Cond.selects RX9 yX9_behind yX9_behind, Cond.code yX9_behind cX9_behind 6 (some .int), Cond.constant RX9 195 (1048577), Cond.methodLink RX9 212 yX9_isDone, Cond.methodLink RX9 218 yX9_goAlong, Cond.instanceMethod yX9_goAlong, Cond.selects RX9 yX9_goAlong yX9_goAlong, Cond.code yX9_goAlong cX9_goAlong 6 none, Cond.methodLink RL 121 yX8_steps, Cond.instanceMethod yX8_steps, Cond.selects RX8 yX8_steps yX8_steps, Cond.code yX8_steps cX8_steps 1 (some .int), Cond.fieldLink RX8 221 "CellarPushers$Ways" "size" "I", Cond.methodLink RL 124 yX9_steps]
def wsL_law_r37 : List Cond := [Cond.instanceMethod yX9_steps, Cond.selects RX9 yX9_steps yX9_steps, Cond.code yX9_steps cX9_steps 1 (some .int), Cond.methodLink RL 125 yX8_plan, Cond.instanceMethod yX8_plan, Cond.selects RX8 yX8_plan yX8_plan, Cond.code yX8_plan cX8_plan 2 (some .int), Cond.methodLink RX8 224 yX7_wayAt, Cond.instanceMethod yX7_wayAt, Cond.selects RX7 yX7_wayAt yX7_wayAt, Cond.code yX7_wayAt cX7_wayAt 2 (some .int), Cond.methodLink RX7 15 yX7_isIn, Cond.instanceMethod yX7_isIn, Cond.selects RX7 yX7_isIn yX7_isIn, Cond.code yX7_isIn cX7_isIn 2 (some .boolean), Cond.methodLink RL 128 yX9_plan, Cond.instanceMethod yX9_plan, Cond.selects RX9 yX9_plan yX9_plan, Cond.code yX9_plan cX9_plan 2 (some .int), Cond.methodLink RL 129 yX8_follow, Cond.instanceMethod yX8_follow, Cond.selects RX8 yX8_follow yX8_follow, Cond.code yX8_follow cX8_follow 2 (some .int), Cond.methodLink RX8 227 yX3_advanceBy]
def wsL_law_r38 : List Cond := [Cond.instanceMethod yX3_advanceBy, Cond.selects RX3 yX3_advanceBy yX3_advanceBy, Cond.code yX3_advanceBy cX3_advanceBy 4 (some .int), Cond.fieldLink RX3 54 "CellarPushers$Ways" "size" "I", Cond.methodLink RX3 59 yX7_wayAt, Cond.methodLink RX3 63 yX3_advance, Cond.methodLink RL 132 yX9_follow, Cond.instanceMethod yX9_follow, Cond.selects RX9 yX9_follow yX9_follow, Cond.code yX9_follow cX9_follow 2 (some .int), Cond.methodLink RX9 226 yX9_goes, Cond.instanceMethod yX9_goes, Cond.selects RX9 yX9_goes yX9_goes, Cond.code yX9_goes cX9_goes 5 (some .int), Cond.methodLink RL 133 yX8_tell, Cond.instanceMethod yX8_tell, Cond.selects RX8 yX8_tell yX8_tell, Cond.code yX8_tell cX8_tell 2 (some .int), Cond.methodLink RX8 231 yX7_append, Cond.methodLink RL 136 yX9_tell, Cond.instanceMethod yX9_tell, Cond.selects RX9 yX9_tell yX9_tell, Cond.code yX9_tell cX9_tell 2 (some .int), Cond.fieldLink RX9 230 "CellarPushersModel" "taped" "I"]
def wsL_law_r39 : List Cond := [Cond.methodLink RL 137 yX8_copy, Cond.instanceMethod yX8_copy, Cond.selects RX8 yX8_copy yX8_copy, Cond.code yX8_copy cX8_copy 1 (some .int), Cond.methodLink RX8 235 yX7_become, Cond.instanceMethod yX7_become, Cond.selects RX7 yX7_become yX7_become, Cond.code yX7_become cX7_become 3 none, Cond.methodLink RX7 30 yX7_wayAt, Cond.methodLink RX7 34 yX7_append, Cond.methodLink RL 140 yX9_copy, Cond.instanceMethod yX9_copy, Cond.selects RX9 yX9_copy yX9_copy, Cond.code yX9_copy cX9_copy 2 (some .int), Cond.methodLink RL 141 yX8_forge, Cond.instanceMethod yX8_forge, Cond.selects RX8 yX8_forge yX8_forge, Cond.code yX8_forge cX8_forge 4 (some .int), Cond.methodLink RX8 238 yX7_change, Cond.instanceMethod yX7_change, Cond.selects RX7 yX7_change yX7_change, Cond.code yX7_change cX7_change 3 none, Cond.methodLink RL 144 yX9_forge, Cond.instanceMethod yX9_forge]
def wsL_law_r40 : List Cond := [Cond.selects RX9 yX9_forge yX9_forge, Cond.code yX9_forge cX9_forge 4 (some .int), Cond.methodLink RL 145 yX8_hush, Cond.instanceMethod yX8_hush, Cond.selects RX8 yX8_hush yX8_hush, Cond.code yX8_hush cX8_hush 2 (some .int), Cond.methodLink RL 148 yX9_hush, Cond.instanceMethod yX9_hush, Cond.selects RX9 yX9_hush yX9_hush, Cond.code yX9_hush cX9_hush 2 (some .int), Cond.methodLink RL 149 yX8_check, Cond.instanceMethod yX8_check, Cond.selects RX8 yX8_check yX8_check, Cond.code yX8_check cX8_check 3 (some .int), Cond.methodLink RL 152 yX9_check, Cond.instanceMethod yX9_check, Cond.selects RX9 yX9_check yX9_check, Cond.code yX9_check cX9_check 3 (some .int), Cond.methodLink RL 153 yX8_count, Cond.instanceMethod yX8_count, Cond.selects RX8 yX8_count yX8_count, Cond.code yX8_count cX8_count 2 (some .int), Cond.fieldLink RX8 244 "CellarPushers$Scene" "pushesDone" "I", Cond.fieldLink RX8 247 "CellarPushers$Walks" "reached" "I"]
def wsL_law_r41 : List Cond := [Cond.fieldLink RX8 250 "CellarPushers$Timeline" "now" "I", Cond.methodLink RL 156 yX9_count, Cond.instanceMethod yX9_count, Cond.selects RX9 yX9_count yX9_count, Cond.code yX9_count cX9_count 4 (some .int)]
def wsL_law : List Cond := (wsL_law_r1 ++ (wsL_law_r2 ++ (wsL_law_r3 ++ (wsL_law_r4 ++ (wsL_law_r5 ++ (wsL_law_r6 ++ (wsL_law_r7 ++ (wsL_law_r8 ++ (wsL_law_r9 ++ (wsL_law_r10 ++ (wsL_law_r11 ++ (wsL_law_r12 ++ (wsL_law_r13 ++ (wsL_law_r14 ++ (wsL_law_r15 ++ (wsL_law_r16 ++ (wsL_law_r17 ++ (wsL_law_r18 ++ (wsL_law_r19 ++ (wsL_law_r20 ++ (wsL_law_r21 ++ (wsL_law_r22 ++ (wsL_law_r23 ++ (wsL_law_r24 ++ (wsL_law_r25 ++ (wsL_law_r26 ++ (wsL_law_r27 ++ (wsL_law_r28 ++ (wsL_law_r29 ++ (wsL_law_r30 ++ (wsL_law_r31 ++ (wsL_law_r32 ++ (wsL_law_r33 ++ (wsL_law_r34 ++ (wsL_law_r35 ++ (wsL_law_r36 ++ (wsL_law_r37 ++ (wsL_law_r38 ++ (wsL_law_r39 ++ (wsL_law_r40 ++ wsL_law_r41)))))))))))))))))))))))))))))))))))))))) ++ wsX80 ++ wsX90 ++ wsX00 ++ wsX30 ++ wsX50 ++ wsX60 ++ wsX20 ++ wsX10 ++ wsX40 ++ wsX70 ++ ([] : List Cond)
theorem q_tbl {big : List Cond} (ws : List Cond) (ps : List Nat) (hp : ws = ps.filterMap (fun i => big[i]?)) : ∀ w ∈ ws, w ∈ big := by
  intro w hw
  rw [hp] at hw
  obtain ⟨i, -, hi⟩ := List.mem_filterMap.mp hw
  exact List.mem_of_getElem? hi
theorem q_app {big a b : List Cond} (ha : ∀ w ∈ a, w ∈ big) (hb : ∀ w ∈ b, w ∈ big) : ∀ w ∈ a ++ b, w ∈ big := fun w h => (List.mem_append.mp h).elim (ha w) (hb w)
theorem in_wsL_law_r1 : ∀ w ∈ wsL_law_r1, w ∈ lw_tbl := q_tbl _ [84, 85, 69, 867, 868, 79, 864, 865, 68, 866, 86, 87, 88, 89, 90, 91, 92, 93, 70, 295, 130, 131, 72, 296] (by decide +kernel)
theorem in_wsL_law_r2 : ∀ w ∈ wsL_law_r2, w ∈ lw_tbl := q_tbl _ [297, 160, 161, 73, 298, 187, 188, 74, 299, 204, 205, 75, 300, 220, 221, 76, 301, 236, 237, 77, 302, 279, 280, 78] (by decide +kernel)
theorem in_wsL_law_r3 : ∀ w ∈ wsL_law_r3, w ∈ lw_tbl := q_tbl _ [303, 304, 305, 94, 95, 96, 97, 98, 99, 71, 100, 101, 102, 103, 104, 106, 128, 112, 113, 129, 114, 132, 133, 134] (by decide +kernel)
theorem in_wsL_law_r4 : ∀ w ∈ wsL_law_r4, w ∈ lw_tbl := q_tbl _ [135, 136, 162, 163, 164, 165, 169, 186, 170, 171, 172, 189, 190, 191, 192, 195, 196, 206, 207, 208, 209, 211, 212, 222] (by decide +kernel)
theorem in_wsL_law_r5 : ∀ w ∈ wsL_law_r5, w ∈ lw_tbl := q_tbl _ [223, 224, 225, 226, 227, 238, 239, 240, 241, 242, 243, 244, 245, 249, 250, 251, 281, 282, 283, 284, 289, 869, 870, 871] (by decide +kernel)
theorem in_wsL_law_r6 : ∀ w ∈ wsL_law_r6, w ∈ lw_tbl := q_tbl _ [872, 876, 877, 878, 879, 880, 881, 884, 885, 886, 887, 890, 891, 894, 895, 896, 897, 898, 899, 900, 901, 873, 902, 903] (by decide +kernel)
theorem in_wsL_law_r7 : ∀ w ∈ wsL_law_r7, w ∈ lw_tbl := q_tbl _ [904, 905, 906, 907, 874, 875, 329, 330, 331, 332, 333, 334, 335, 336, 337, 338, 339, 340, 342, 0, 343, 111, 344, 345] (by decide +kernel)
theorem in_wsL_law_r8 : ∀ w ∈ wsL_law_r8, w ∈ lw_tbl := q_tbl _ [346, 347, 348, 349, 350, 351, 142, 353, 354, 355, 356, 357, 358, 359, 360, 361, 362, 166, 168, 363, 364, 365, 366, 983] (by decide +kernel)
theorem in_wsL_law_r9 : ∀ w ∈ wsL_law_r9, w ∈ lw_tbl := q_tbl _ [984, 985, 986, 987, 989, 40, 990, 991, 992, 993, 994, 996, 41, 997, 888, 889, 368, 369, 370, 371, 107, 105, 372, 373] (by decide +kernel)
theorem in_wsL_law_r10 : ∀ w ∈ wsL_law_r10, w ∈ lw_tbl := q_tbl _ [374, 375, 998, 999, 1000, 1001, 376, 377, 378, 379, 143, 380, 382, 1, 383, 139, 384, 385, 386, 387, 388, 389, 80, 390] (by decide +kernel)
theorem in_wsL_law_r11 : ∀ w ∈ wsL_law_r11, w ∈ lw_tbl := q_tbl _ [391, 392, 393, 394, 395, 396, 397, 398, 1002, 1003, 1004, 1005, 1006, 1008, 42, 1009, 1010, 1012, 43, 1013, 399, 400, 401, 402] (by decide +kernel)
theorem in_wsL_law_r12 : ∀ w ∈ wsL_law_r12, w ∈ lw_tbl := q_tbl _ [403, 404, 405, 406, 407, 408, 409, 410, 411, 1014, 1015, 1016, 1017, 412, 413, 414, 415, 1018, 1019, 1020, 1021, 416, 417, 418] (by decide +kernel)
theorem in_wsL_law_r13 : ∀ w ∈ wsL_law_r13, w ∈ lw_tbl := q_tbl _ [419, 420, 421, 422, 423, 145, 148, 424, 425, 426, 427, 428, 430, 431, 432, 433, 439, 440, 441, 442, 443, 444, 446, 2] (by decide +kernel)
theorem in_wsL_law_r14 : ∀ w ∈ wsL_law_r14, w ∈ lw_tbl := q_tbl _ [447, 448, 450, 3, 451, 452, 453, 454, 455, 456, 457, 458, 459, 461, 463, 4, 464, 465, 466, 467, 468, 469, 471, 5] (by decide +kernel)
theorem in_wsL_law_r15 : ∀ w ∈ wsL_law_r15, w ∈ lw_tbl := q_tbl _ [472, 140, 144, 146, 149, 1022, 1023, 1024, 1025, 1026, 1028, 44, 1029, 1030, 1032, 45, 1033, 1034, 1036, 46, 1037, 1038, 1040, 47] (by decide +kernel)
theorem in_wsL_law_r16 : ∀ w ∈ wsL_law_r16, w ∈ lw_tbl := q_tbl _ [1041, 1042, 1044, 48, 1045, 1046, 1048, 49, 1049, 1050, 1052, 50, 1053, 1054, 1056, 51, 1057, 882, 883, 1058, 1060, 52, 1061, 1062] (by decide +kernel)
theorem in_wsL_law_r17 : ∀ w ∈ wsL_law_r17, w ∈ lw_tbl := q_tbl _ [1064, 53, 1065, 1066, 1068, 54, 1069, 473, 474, 475, 476, 477, 479, 6, 480, 147, 481, 482, 483, 484, 193, 137, 485, 486] (by decide +kernel)
theorem in_wsL_law_r18 : ∀ w ∈ wsL_law_r18, w ∈ lw_tbl := q_tbl _ [81, 487, 488, 490, 7, 491, 493, 494, 495, 496, 497, 498, 499, 500, 1070, 1071, 1072, 1073, 1074, 1076, 55, 1077, 501, 502] (by decide +kernel)
theorem in_wsL_law_r19 : ∀ w ∈ wsL_law_r19, w ∈ lw_tbl := q_tbl _ [503, 504, 505, 507, 8, 508, 509, 510, 511, 512, 1082, 1083, 1084, 1085, 1086, 1079, 1080, 1081, 513, 514, 515, 516, 1078, 517] (by decide +kernel)
theorem in_wsL_law_r20 : ∀ w ∈ wsL_law_r20, w ∈ lw_tbl := q_tbl _ [518, 519, 520, 521, 522, 523, 524, 525, 527, 9, 528, 1087, 1088, 1089, 1090, 1091, 1093, 56, 1094, 529, 530, 531, 532, 533] (by decide +kernel)
theorem in_wsL_law_r21 : ∀ w ∈ wsL_law_r21, w ∈ lw_tbl := q_tbl _ [534, 535, 536, 1095, 1096, 1097, 1098, 537, 538, 539, 540, 1099, 1100, 1101, 1102, 541, 542, 543, 544, 1103, 1104, 1105, 1106, 545] (by decide +kernel)
theorem in_wsL_law_r22 : ∀ w ∈ wsL_law_r22, w ∈ lw_tbl := q_tbl _ [546, 547, 548, 1107, 1108, 1109, 1110, 549, 550, 551, 552, 553, 555, 10, 556, 1111, 1112, 1113, 1114, 557, 558, 559, 560, 1115] (by decide +kernel)
theorem in_wsL_law_r23 : ∀ w ∈ wsL_law_r23, w ∈ lw_tbl := q_tbl _ [1116, 1117, 1118, 561, 562, 563, 564, 565, 566, 567, 568, 110, 569, 570, 571, 572, 573, 210, 574, 575, 577, 11, 578, 580] (by decide +kernel)
theorem in_wsL_law_r24 : ∀ w ∈ wsL_law_r24, w ∈ lw_tbl := q_tbl _ [582, 12, 583, 585, 586, 587, 588, 589, 590, 591, 592, 593, 1119, 1120, 1121, 1122, 1123, 1125, 57, 1126, 1127, 1129, 58, 1130] (by decide +kernel)
theorem in_wsL_law_r25 : ∀ w ∈ wsL_law_r25, w ∈ lw_tbl := q_tbl _ [595, 596, 597, 598, 599, 601, 13, 602, 603, 605, 14, 606, 607, 609, 15, 610, 1131, 1132, 1133, 1134, 1135, 1137, 59, 1138] (by decide +kernel)
theorem in_wsL_law_r26 : ∀ w ∈ wsL_law_r26, w ∈ lw_tbl := q_tbl _ [1139, 1141, 60, 1142, 611, 612, 613, 614, 615, 616, 618, 16, 619, 620, 621, 622, 1143, 1144, 1145, 1146, 1147, 623, 624, 625] (by decide +kernel)
theorem in_wsL_law_r27 : ∀ w ∈ wsL_law_r27, w ∈ lw_tbl := q_tbl _ [626, 1148, 1149, 1150, 1151, 627, 628, 629, 630, 631, 632, 633, 634, 108, 640, 228, 635, 637, 17, 638, 641, 642, 643, 645] (by decide +kernel)
theorem in_wsL_law_r28 : ∀ w ∈ wsL_law_r28, w ∈ lw_tbl := q_tbl _ [18, 646, 647, 648, 82, 649, 650, 651, 652, 653, 655, 19, 656, 658, 657, 1152, 1153, 1154, 1155, 1156, 659, 660, 661, 662] (by decide +kernel)
theorem in_wsL_law_r29 : ∀ w ∈ wsL_law_r29, w ∈ lw_tbl := q_tbl _ [663, 664, 1157, 1158, 1159, 1160, 665, 666, 667, 668, 669, 670, 671, 672, 673, 675, 20, 676, 677, 678, 679, 680, 285, 141] (by decide +kernel)
theorem in_wsL_law_r30 : ∀ w ∈ wsL_law_r30, w ∈ lw_tbl := q_tbl _ [681, 247, 109, 248, 138, 714, 253, 682, 684, 21, 685, 246, 686, 687, 689, 22, 690, 691, 693, 23, 694, 696, 697, 698] (by decide +kernel)
theorem in_wsL_law_r31 : ∀ w ∈ wsL_law_r31, w ∈ lw_tbl := q_tbl _ [699, 700, 702, 24, 703, 705, 706, 707, 708, 709, 710, 712, 25, 713, 715, 716, 718, 26, 719, 720, 721, 722, 723, 725] (by decide +kernel)
theorem in_wsL_law_r32 : ∀ w ∈ wsL_law_r32, w ∈ lw_tbl := q_tbl _ [27, 726, 252, 738, 739, 740, 741, 742, 727, 728, 729, 730, 732, 28, 733, 734, 736, 29, 737, 743, 745, 30, 746, 747] (by decide +kernel)
theorem in_wsL_law_r33 : ∀ w ∈ wsL_law_r33, w ∈ lw_tbl := q_tbl _ [749, 31, 750, 751, 752, 753, 754, 756, 32, 757, 758, 760, 33, 761, 762, 764, 34, 765, 766, 768, 35, 769, 770, 772] (by decide +kernel)
theorem in_wsL_law_r34 : ∀ w ∈ wsL_law_r34, w ∈ lw_tbl := q_tbl _ [36, 773, 779, 774, 776, 37, 777, 778, 780, 782, 38, 783, 784, 785, 786, 787, 286, 788, 789, 790, 791, 792, 793, 794] (by decide +kernel)
theorem in_wsL_law_r35 : ∀ w ∈ wsL_law_r35, w ∈ lw_tbl := q_tbl _ [795, 796, 798, 799, 800, 802, 801, 83, 1161, 1162, 1163, 1164, 908, 892, 1191, 1165, 1167, 61, 1168, 1169, 1171, 62, 1172, 1173] (by decide +kernel)
theorem in_wsL_law_r36 : ∀ w ∈ wsL_law_r36, w ∈ lw_tbl := q_tbl _ [1175, 63, 1176, 909, 1177, 1179, 64, 1180, 1181, 1183, 65, 1184, 1185, 1186, 1187, 1189, 66, 1190, 803, 804, 805, 806, 288, 1192] (by decide +kernel)
theorem in_wsL_law_r37 : ∀ w ∈ wsL_law_r37, w ∈ lw_tbl := q_tbl _ [1193, 1194, 1195, 807, 808, 809, 810, 811, 812, 813, 814, 815, 817, 39, 818, 1196, 1197, 1198, 1199, 819, 820, 821, 822, 823] (by decide +kernel)
theorem in_wsL_law_r38 : ∀ w ∈ wsL_law_r38, w ∈ lw_tbl := q_tbl _ [824, 825, 826, 287, 827, 828, 1200, 1201, 1202, 1203, 1204, 1206, 67, 1207, 829, 830, 831, 832, 833, 1208, 1209, 1210, 1211, 893] (by decide +kernel)
theorem in_wsL_law_r39 : ∀ w ∈ wsL_law_r39, w ∈ lw_tbl := q_tbl _ [834, 835, 836, 837, 838, 839, 840, 841, 842, 843, 1212, 1213, 1214, 1215, 844, 845, 846, 847, 848, 849, 850, 851, 1216, 1217] (by decide +kernel)
theorem in_wsL_law_r40 : ∀ w ∈ wsL_law_r40, w ∈ lw_tbl := q_tbl _ [1218, 1219, 852, 853, 854, 855, 1220, 1221, 1222, 1223, 856, 857, 858, 859, 1224, 1225, 1226, 1227, 860, 861, 862, 863, 150, 194] (by decide +kernel)
theorem in_wsL_law_r41 : ∀ w ∈ wsL_law_r41, w ∈ lw_tbl := q_tbl _ [167, 1228, 1229, 1230, 1231] (by decide +kernel)
theorem in_wsX00 : ∀ w ∈ wsX00, w ∈ lw_tbl := q_tbl _ [115, 117, 119, 121, 123, 125] (by decide +kernel)
theorem in_wsX10 : ∀ w ∈ wsX10, w ∈ lw_tbl := q_tbl _ [229, 231, 233] (by decide +kernel)
theorem in_wsX20 : ∀ w ∈ wsX20, w ∈ lw_tbl := q_tbl _ [213, 215, 217] (by decide +kernel)
theorem in_wsX30 : ∀ w ∈ wsX30, w ∈ lw_tbl := q_tbl _ [151, 153, 155, 157] (by decide +kernel)
theorem in_wsX40 : ∀ w ∈ wsX40, w ∈ lw_tbl := q_tbl _ [254, 256, 258, 260, 262, 264, 266, 268, 270, 272, 274, 276] (by decide +kernel)
theorem in_wsX50 : ∀ w ∈ wsX50, w ∈ lw_tbl := q_tbl _ [173, 175, 177, 179, 181, 183] (by decide +kernel)
theorem in_wsX60 : ∀ w ∈ wsX60, w ∈ lw_tbl := q_tbl _ [197, 199, 201] (by decide +kernel)
theorem in_wsX70 : ∀ w ∈ wsX70, w ∈ lw_tbl := q_tbl _ [290, 292] (by decide +kernel)
theorem in_wsX80 : ∀ w ∈ wsX80, w ∈ lw_tbl := q_tbl _ [306, 308, 310, 312, 314, 316, 318, 320, 322, 324, 326] (by decide +kernel)
theorem in_wsX90 : ∀ w ∈ wsX90, w ∈ lw_tbl := q_tbl _ [910, 912, 914, 916, 918, 920, 922, 924, 926, 928, 930, 932, 934, 936, 938, 940, 942, 944, 946, 948, 950, 952, 954, 956, 958, 960, 962, 964, 966, 968, 970, 972, 974, 976, 978, 980] (by decide +kernel)
theorem wsL_law_in : ∀ w ∈ wsL_law, w ∈ lw_tbl := q_app (q_app (q_app (q_app (q_app (q_app (q_app (q_app (q_app (q_app (q_app (q_app in_wsL_law_r1 (q_app in_wsL_law_r2 (q_app in_wsL_law_r3 (q_app in_wsL_law_r4 (q_app in_wsL_law_r5 (q_app in_wsL_law_r6 (q_app in_wsL_law_r7 (q_app in_wsL_law_r8 (q_app in_wsL_law_r9 (q_app in_wsL_law_r10 (q_app in_wsL_law_r11 (q_app in_wsL_law_r12 (q_app in_wsL_law_r13 (q_app in_wsL_law_r14 (q_app in_wsL_law_r15 (q_app in_wsL_law_r16 (q_app in_wsL_law_r17 (q_app in_wsL_law_r18 (q_app in_wsL_law_r19 (q_app in_wsL_law_r20 (q_app in_wsL_law_r21 (q_app in_wsL_law_r22 (q_app in_wsL_law_r23 (q_app in_wsL_law_r24 (q_app in_wsL_law_r25 (q_app in_wsL_law_r26 (q_app in_wsL_law_r27 (q_app in_wsL_law_r28 (q_app in_wsL_law_r29 (q_app in_wsL_law_r30 (q_app in_wsL_law_r31 (q_app in_wsL_law_r32 (q_app in_wsL_law_r33 (q_app in_wsL_law_r34 (q_app in_wsL_law_r35 (q_app in_wsL_law_r36 (q_app in_wsL_law_r37 (q_app in_wsL_law_r38 (q_app in_wsL_law_r39 (q_app in_wsL_law_r40 (in_wsL_law_r41))))))))))))))))))))))))))))))))))))))))) in_wsX80) in_wsX90) in_wsX00) in_wsX30) in_wsX50) in_wsX60) in_wsX20) in_wsX10) in_wsX40) in_wsX70) (fun _ h => absurd h List.not_mem_nil)
theorem inlX0 : ∀ w ∈ wsX00, w ∈ wsL_law := fun _ h => List.mem_append_left _ (List.mem_append_left _ (List.mem_append_left _ (List.mem_append_left _ (List.mem_append_left _ (List.mem_append_left _ (List.mem_append_left _ (List.mem_append_left _ (List.mem_append_right _ h))))))))
theorem inX0 : ∀ w ∈ wsX00, w ∈ lw_tbl := fun w h => wsL_law_in w (inlX0 w h)
theorem inlX1 : ∀ w ∈ wsX10, w ∈ wsL_law := fun _ h => List.mem_append_left _ (List.mem_append_left _ (List.mem_append_left _ (List.mem_append_right _ h)))
theorem inX1 : ∀ w ∈ wsX10, w ∈ lw_tbl := fun w h => wsL_law_in w (inlX1 w h)
theorem inlX2 : ∀ w ∈ wsX20, w ∈ wsL_law := fun _ h => List.mem_append_left _ (List.mem_append_left _ (List.mem_append_left _ (List.mem_append_left _ (List.mem_append_right _ h))))
theorem inX2 : ∀ w ∈ wsX20, w ∈ lw_tbl := fun w h => wsL_law_in w (inlX2 w h)
theorem inlX3 : ∀ w ∈ wsX30, w ∈ wsL_law := fun _ h => List.mem_append_left _ (List.mem_append_left _ (List.mem_append_left _ (List.mem_append_left _ (List.mem_append_left _ (List.mem_append_left _ (List.mem_append_left _ (List.mem_append_right _ h)))))))
theorem inX3 : ∀ w ∈ wsX30, w ∈ lw_tbl := fun w h => wsL_law_in w (inlX3 w h)
theorem inlX4 : ∀ w ∈ wsX40, w ∈ wsL_law := fun _ h => List.mem_append_left _ (List.mem_append_left _ (List.mem_append_right _ h))
theorem inX4 : ∀ w ∈ wsX40, w ∈ lw_tbl := fun w h => wsL_law_in w (inlX4 w h)
theorem inlX5 : ∀ w ∈ wsX50, w ∈ wsL_law := fun _ h => List.mem_append_left _ (List.mem_append_left _ (List.mem_append_left _ (List.mem_append_left _ (List.mem_append_left _ (List.mem_append_left _ (List.mem_append_right _ h))))))
theorem inX5 : ∀ w ∈ wsX50, w ∈ lw_tbl := fun w h => wsL_law_in w (inlX5 w h)
theorem inlX6 : ∀ w ∈ wsX60, w ∈ wsL_law := fun _ h => List.mem_append_left _ (List.mem_append_left _ (List.mem_append_left _ (List.mem_append_left _ (List.mem_append_left _ (List.mem_append_right _ h)))))
theorem inX6 : ∀ w ∈ wsX60, w ∈ lw_tbl := fun w h => wsL_law_in w (inlX6 w h)
theorem inlX7 : ∀ w ∈ wsX70, w ∈ wsL_law := fun _ h => List.mem_append_left _ (List.mem_append_right _ h)
theorem inX7 : ∀ w ∈ wsX70, w ∈ lw_tbl := fun w h => wsL_law_in w (inlX7 w h)
theorem inlX8 : ∀ w ∈ wsX80, w ∈ wsL_law := fun _ h => List.mem_append_left _ (List.mem_append_left _ (List.mem_append_left _ (List.mem_append_left _ (List.mem_append_left _ (List.mem_append_left _ (List.mem_append_left _ (List.mem_append_left _ (List.mem_append_left _ (List.mem_append_left _ (List.mem_append_right _ h))))))))))
theorem inX8 : ∀ w ∈ wsX80, w ∈ lw_tbl := fun w h => wsL_law_in w (inlX8 w h)
theorem inlX9 : ∀ w ∈ wsX90, w ∈ wsL_law := fun _ h => List.mem_append_left _ (List.mem_append_left _ (List.mem_append_left _ (List.mem_append_left _ (List.mem_append_left _ (List.mem_append_left _ (List.mem_append_left _ (List.mem_append_left _ (List.mem_append_left _ (List.mem_append_right _ h)))))))))
theorem inX9 : ∀ w ∈ wsX90, w ∈ lw_tbl := fun w h => wsL_law_in w (inlX9 w h)
theorem inJx8e188 : ∀ w ∈ wsJx8e1880, w ∈ lw_tbl := by decide +kernel
theorem inJ6 : ∀ w ∈ wsJ60, w ∈ lw_tbl := by decide +kernel
theorem inJ13 : ∀ w ∈ wsJ130, w ∈ lw_tbl := by decide +kernel
theorem inJ9 : ∀ w ∈ wsJ90, w ∈ lw_tbl := by decide +kernel
theorem inJ10 : ∀ w ∈ wsJ100, w ∈ lw_tbl := by decide +kernel
theorem inJ7 : ∀ w ∈ wsJ70, w ∈ lw_tbl := by decide +kernel
abbrev vwCl : List vw_C := [(RX0, TX0, 6), (RX1, TX1, 3), (RX2, TX2, 3), (RX3, TX3, 4), (RX4, TX4, 12), (RX5, TX5, 6), (RX6, TX6, 3), (RX7, TX7, 2), (RX8, TX8, 11), (RX9, TX9, 36)]
end
section
/-! Of the printed rows those that are used. -/
theorem dX0_init_0 : decode cX0_init 0 = .ok (.aload_n 0, 1) := by decide +kernel
theorem dX0_init_1 : decode cX0_init 1 = .ok (.invokespecial 3, 3) := by decide +kernel
theorem dX0_init_4 : decode cX0_init 4 = .ok (.aload_n 0, 1) := by decide +kernel
theorem dX0_init_5 : decode cX0_init 5 = .ok (.iconst 2, 1) := by decide +kernel
theorem dX0_init_6 : decode cX0_init 6 = .ok (.bipush 8, 2) := by decide +kernel
theorem dX0_init_8 : decode cX0_init 8 = .ok (.iload_n 1, 1) := by decide +kernel
theorem dX0_init_9 : decode cX0_init 9 = .ok (.invokestatic 9, 3) := by decide +kernel
theorem dX0_init_12 : decode cX0_init 12 = .ok (.invokestatic 15, 3) := by decide +kernel
theorem dX0_init_15 : decode cX0_init 15 = .ok (.putfield 18, 3) := by decide +kernel
theorem dX0_init_18 : decode cX0_init 18 = .ok (.aload_n 0, 1) := by decide +kernel
theorem dX0_init_19 : decode cX0_init 19 = .ok (.iconst 2, 1) := by decide +kernel
theorem dX0_init_20 : decode cX0_init 20 = .ok (.bipush 8, 2) := by decide +kernel
theorem dX0_init_22 : decode cX0_init 22 = .ok (.iload_n 2, 1) := by decide +kernel
theorem dX0_init_23 : decode cX0_init 23 = .ok (.invokestatic 9, 3) := by decide +kernel
theorem dX0_init_26 : decode cX0_init 26 = .ok (.invokestatic 15, 3) := by decide +kernel
theorem dX0_init_29 : decode cX0_init 29 = .ok (.putfield 24, 3) := by decide +kernel
theorem dX0_init_32 : decode cX0_init 32 = .ok (.aload_n 0, 1) := by decide +kernel
theorem dX0_init_33 : decode cX0_init 33 = .ok (.bipush 64, 2) := by decide +kernel
theorem dX0_init_35 : decode cX0_init 35 = .ok (.newarray .int, 2) := by decide +kernel
theorem dX0_init_37 : decode cX0_init 37 = .ok (.putfield 27, 3) := by decide +kernel
theorem dX0_init_40 : decode cX0_init 40 = .ok (.aload_n 0, 1) := by decide +kernel
theorem dX0_init_41 : decode cX0_init 41 = .ok (.bipush 64, 2) := by decide +kernel
theorem dX0_init_43 : decode cX0_init 43 = .ok (.newarray .int, 2) := by decide +kernel
theorem dX0_init_45 : decode cX0_init 45 = .ok (.putfield 31, 3) := by decide +kernel
theorem dX0_init_48 : decode cX0_init 48 = .ok (.aload_n 0, 1) := by decide +kernel
theorem dX0_init_49 : decode cX0_init 49 = .ok (.bipush 8, 2) := by decide +kernel
theorem dX0_init_51 : decode cX0_init 51 = .ok (.newarray .boolean, 2) := by decide +kernel
theorem dX0_init_53 : decode cX0_init 53 = .ok (.putfield 34, 3) := by decide +kernel
theorem dX0_init_56 : decode cX0_init 56 = .ok (.return_, 1) := by decide +kernel
theorem dX0_numberOf_0 : decode cX0_numberOf 0 = .ok (.iload_n 1, 1) := by decide +kernel
theorem dX0_numberOf_1 : decode cX0_numberOf 1 = .ok (.ifCond .lt 27, 3) := by decide +kernel
theorem dX0_numberOf_4 : decode cX0_numberOf 4 = .ok (.iload_n 1, 1) := by decide +kernel
theorem dX0_numberOf_5 : decode cX0_numberOf 5 = .ok (.aload_n 0, 1) := by decide +kernel
theorem dX0_numberOf_6 : decode cX0_numberOf 6 = .ok (.getfield 18, 3) := by decide +kernel
theorem dX0_numberOf_9 : decode cX0_numberOf 9 = .ok (.if_icmp .ge 19, 3) := by decide +kernel
theorem dX0_numberOf_12 : decode cX0_numberOf 12 = .ok (.iload_n 2, 1) := by decide +kernel
theorem dX0_numberOf_13 : decode cX0_numberOf 13 = .ok (.ifCond .lt 15, 3) := by decide +kernel
theorem dX0_numberOf_16 : decode cX0_numberOf 16 = .ok (.iload_n 2, 1) := by decide +kernel
theorem dX0_numberOf_17 : decode cX0_numberOf 17 = .ok (.aload_n 0, 1) := by decide +kernel
theorem dX0_numberOf_18 : decode cX0_numberOf 18 = .ok (.getfield 24, 3) := by decide +kernel
theorem dX0_numberOf_21 : decode cX0_numberOf 21 = .ok (.if_icmp .ge 7, 3) := by decide +kernel
theorem dX0_numberOf_24 : decode cX0_numberOf 24 = .ok (.iconst 1, 1) := by decide +kernel
theorem dX0_numberOf_25 : decode cX0_numberOf 25 = .ok (.goto 4, 3) := by decide +kernel
theorem dX0_numberOf_28 : decode cX0_numberOf 28 = .ok (.iconst 0, 1) := by decide +kernel
theorem dX0_numberOf_29 : decode cX0_numberOf 29 = .ok (.istore_n 3, 1) := by decide +kernel
theorem dX0_numberOf_30 : decode cX0_numberOf 30 = .ok (.iload_n 3, 1) := by decide +kernel
theorem dX0_numberOf_31 : decode cX0_numberOf 31 = .ok (.ifCond .eq 12, 3) := by decide +kernel
theorem dX0_numberOf_34 : decode cX0_numberOf 34 = .ok (.bipush 8, 2) := by decide +kernel
theorem dX0_numberOf_36 : decode cX0_numberOf 36 = .ok (.iload_n 2, 1) := by decide +kernel
theorem dX0_numberOf_37 : decode cX0_numberOf 37 = .ok (.imul, 1) := by decide +kernel
theorem dX0_numberOf_38 : decode cX0_numberOf 38 = .ok (.iload_n 1, 1) := by decide +kernel
theorem dX0_numberOf_39 : decode cX0_numberOf 39 = .ok (.iadd, 1) := by decide +kernel
theorem dX0_numberOf_40 : decode cX0_numberOf 40 = .ok (.goto 4, 3) := by decide +kernel
theorem dX0_numberOf_43 : decode cX0_numberOf 43 = .ok (.iconst (-1), 1) := by decide +kernel
theorem dX0_numberOf_44 : decode cX0_numberOf 44 = .ok (.ireturn, 1) := by decide +kernel
theorem dX0_kindNow_0 : decode cX0_kindNow 0 = .ok (.iload_n 1, 1) := by decide +kernel
theorem dX0_kindNow_1 : decode cX0_kindNow 1 = .ok (.ifCond .lt 21, 3) := by decide +kernel
theorem dX0_kindNow_4 : decode cX0_kindNow 4 = .ok (.iload_n 1, 1) := by decide +kernel
theorem dX0_kindNow_5 : decode cX0_kindNow 5 = .ok (.bipush 64, 2) := by decide +kernel
theorem dX0_kindNow_7 : decode cX0_kindNow 7 = .ok (.if_icmp .ge 15, 3) := by decide +kernel
theorem dX0_kindNow_10 : decode cX0_kindNow 10 = .ok (.aload_n 0, 1) := by decide +kernel
theorem dX0_kindNow_11 : decode cX0_kindNow 11 = .ok (.getfield 34, 3) := by decide +kernel
theorem dX0_kindNow_14 : decode cX0_kindNow 14 = .ok (.iload_n 1, 1) := by decide +kernel
theorem dX0_kindNow_15 : decode cX0_kindNow 15 = .ok (.bipush 8, 2) := by decide +kernel
theorem dX0_kindNow_17 : decode cX0_kindNow 17 = .ok (.idiv, 1) := by decide +kernel
theorem dX0_kindNow_18 : decode cX0_kindNow 18 = .ok (.baload, 1) := by decide +kernel
theorem dX0_kindNow_19 : decode cX0_kindNow 19 = .ok (.ifCond .eq 5, 3) := by decide +kernel
theorem dX0_kindNow_22 : decode cX0_kindNow 22 = .ok (.iconst 0, 1) := by decide +kernel
theorem dX0_kindNow_23 : decode cX0_kindNow 23 = .ok (.ireturn, 1) := by decide +kernel
theorem dX0_kindNow_24 : decode cX0_kindNow 24 = .ok (.aload_n 0, 1) := by decide +kernel
theorem dX0_kindNow_25 : decode cX0_kindNow 25 = .ok (.getfield 27, 3) := by decide +kernel
theorem dX0_kindNow_28 : decode cX0_kindNow 28 = .ok (.iload_n 1, 1) := by decide +kernel
theorem dX0_kindNow_29 : decode cX0_kindNow 29 = .ok (.iaload, 1) := by decide +kernel
theorem dX0_kindNow_30 : decode cX0_kindNow 30 = .ok (.ireturn, 1) := by decide +kernel
set_option maxRecDepth 20000 in
theorem ggX0_lay_X8_isField : GoodIn wsX0_lay wsX8_isField := goodIn_r _ [5] (by decide +kernel) (by decide +kernel)
set_option maxRecDepth 20000 in
theorem gX0_lay_X8_isField_n38 : GoodIn wsX0_lay (wsX8_isField) := ggX0_lay_X8_isField
theorem dX0_lay_0 : decode cX0_lay 0 = .ok (.iload_n 1, 1) := by decide +kernel
theorem dX0_lay_1 : decode cX0_lay 1 = .ok (.invokestatic 38, 3) := by decide +kernel
theorem dX0_lay_4 : decode cX0_lay 4 = .ok (.ifCond .ne 5, 3) := by decide +kernel
theorem dX0_lay_9 : decode cX0_lay 9 = .ok (.aload_n 0, 1) := by decide +kernel
theorem dX0_lay_10 : decode cX0_lay 10 = .ok (.getfield 27, 3) := by decide +kernel
theorem dX0_lay_13 : decode cX0_lay 13 = .ok (.iload_n 1, 1) := by decide +kernel
theorem dX0_lay_14 : decode cX0_lay 14 = .ok (.iaload, 1) := by decide +kernel
theorem dX0_lay_15 : decode cX0_lay 15 = .ok (.istore 4, 2) := by decide +kernel
theorem dX0_lay_17 : decode cX0_lay 17 = .ok (.aload_n 0, 1) := by decide +kernel
theorem dX0_lay_18 : decode cX0_lay 18 = .ok (.getfield 27, 3) := by decide +kernel
theorem dX0_lay_21 : decode cX0_lay 21 = .ok (.iload_n 1, 1) := by decide +kernel
theorem dX0_lay_22 : decode cX0_lay 22 = .ok (.iload_n 2, 1) := by decide +kernel
theorem dX0_lay_23 : decode cX0_lay 23 = .ok (.iastore, 1) := by decide +kernel
theorem dX0_lay_24 : decode cX0_lay 24 = .ok (.aload_n 0, 1) := by decide +kernel
theorem dX0_lay_25 : decode cX0_lay 25 = .ok (.getfield 31, 3) := by decide +kernel
theorem dX0_lay_28 : decode cX0_lay 28 = .ok (.iload_n 1, 1) := by decide +kernel
theorem dX0_lay_29 : decode cX0_lay 29 = .ok (.iload_n 3, 1) := by decide +kernel
theorem dX0_lay_30 : decode cX0_lay 30 = .ok (.iastore, 1) := by decide +kernel
theorem dX0_lay_31 : decode cX0_lay 31 = .ok (.iload 4, 2) := by decide +kernel
theorem dX0_lay_33 : decode cX0_lay 33 = .ok (.ireturn, 1) := by decide +kernel
theorem dX0_letMiss_0 : decode cX0_letMiss 0 = .ok (.iload_n 1, 1) := by decide +kernel
theorem dX0_letMiss_1 : decode cX0_letMiss 1 = .ok (.ifCond .lt 9, 3) := by decide +kernel
theorem dX0_letMiss_4 : decode cX0_letMiss 4 = .ok (.iload_n 1, 1) := by decide +kernel
theorem dX0_letMiss_5 : decode cX0_letMiss 5 = .ok (.bipush 8, 2) := by decide +kernel
theorem dX0_letMiss_7 : decode cX0_letMiss 7 = .ok (.if_icmp .lt 5, 3) := by decide +kernel
theorem dX0_letMiss_12 : decode cX0_letMiss 12 = .ok (.aload_n 0, 1) := by decide +kernel
theorem dX0_letMiss_13 : decode cX0_letMiss 13 = .ok (.getfield 34, 3) := by decide +kernel
theorem dX0_letMiss_16 : decode cX0_letMiss 16 = .ok (.iload_n 1, 1) := by decide +kernel
theorem dX0_letMiss_17 : decode cX0_letMiss 17 = .ok (.baload, 1) := by decide +kernel
theorem dX0_letMiss_18 : decode cX0_letMiss 18 = .ok (.istore_n 3, 1) := by decide +kernel
theorem dX0_letMiss_19 : decode cX0_letMiss 19 = .ok (.aload_n 0, 1) := by decide +kernel
theorem dX0_letMiss_20 : decode cX0_letMiss 20 = .ok (.getfield 34, 3) := by decide +kernel
theorem dX0_letMiss_23 : decode cX0_letMiss 23 = .ok (.iload_n 1, 1) := by decide +kernel
theorem dX0_letMiss_24 : decode cX0_letMiss 24 = .ok (.iload_n 2, 1) := by decide +kernel
theorem dX0_letMiss_25 : decode cX0_letMiss 25 = .ok (.bastore, 1) := by decide +kernel
theorem dX0_letMiss_26 : decode cX0_letMiss 26 = .ok (.iload_n 3, 1) := by decide +kernel
theorem dX0_letMiss_27 : decode cX0_letMiss 27 = .ok (.ireturn, 1) := by decide +kernel
set_option maxRecDepth 20000 in
theorem ggX0_openFields_X0_kindNow : GoodIn wsX0_openFields wsX0_kindNow := goodIn_r _ [5, 6, 7, 8, 9, 10, 11, 12, 13] (by decide +kernel) (by decide +kernel)
set_option maxRecDepth 20000 in
theorem gX0_openFields_X0_kindNow : GoodIn wsX0_openFields (wsV RX0 54 RX0 yX0_kindNow wsX0_kindNow) := goodIn_app (goodIn_of _ (by decide +kernel)) ggX0_openFields_X0_kindNow
theorem dX0_openFields_0 : decode cX0_openFields 0 = .ok (.iconst 0, 1) := by decide +kernel
theorem dX0_openFields_1 : decode cX0_openFields 1 = .ok (.istore_n 1, 1) := by decide +kernel
theorem dX0_openFields_2 : decode cX0_openFields 2 = .ok (.iconst 0, 1) := by decide +kernel
theorem dX0_openFields_3 : decode cX0_openFields 3 = .ok (.istore_n 2, 1) := by decide +kernel
theorem dX0_openFields_4 : decode cX0_openFields 4 = .ok (.iload_n 2, 1) := by decide +kernel
theorem dX0_openFields_5 : decode cX0_openFields 5 = .ok (.bipush 64, 2) := by decide +kernel
theorem dX0_openFields_7 : decode cX0_openFields 7 = .ok (.if_icmp .ge 20, 3) := by decide +kernel
theorem dX0_openFields_10 : decode cX0_openFields 10 = .ok (.aload_n 0, 1) := by decide +kernel
theorem dX0_openFields_11 : decode cX0_openFields 11 = .ok (.iload_n 2, 1) := by decide +kernel
theorem dX0_openFields_12 : decode cX0_openFields 12 = .ok (.invokevirtual 54, 3) := by decide +kernel
theorem dX0_openFields_15 : decode cX0_openFields 15 = .ok (.ifCond .eq 6, 3) := by decide +kernel
theorem dX0_openFields_21 : decode cX0_openFields 21 = .ok (.iinc 2 1, 3) := by decide +kernel
theorem dX0_openFields_24 : decode cX0_openFields 24 = .ok (.goto (-20), 3) := by decide +kernel
theorem dX0_openFields_27 : decode cX0_openFields 27 = .ok (.iload_n 1, 1) := by decide +kernel
theorem dX0_openFields_28 : decode cX0_openFields 28 = .ok (.ireturn, 1) := by decide +kernel
set_option maxRecDepth 20000 in
theorem ggX0_isForMan_X0_kindNow : GoodIn wsX0_isForMan wsX0_kindNow := goodIn_r _ [5, 6, 7, 8, 9, 10, 11, 12, 13] (by decide +kernel) (by decide +kernel)
set_option maxRecDepth 20000 in
theorem gX0_isForMan_X0_kindNow : GoodIn wsX0_isForMan (wsV RX0 54 RX0 yX0_kindNow wsX0_kindNow) := goodIn_app (goodIn_of _ (by decide +kernel)) ggX0_isForMan_X0_kindNow
theorem dX0_isForMan_0 : decode cX0_isForMan 0 = .ok (.aload_n 0, 1) := by decide +kernel
theorem dX0_isForMan_1 : decode cX0_isForMan 1 = .ok (.iload_n 1, 1) := by decide +kernel
theorem dX0_isForMan_2 : decode cX0_isForMan 2 = .ok (.invokevirtual 54, 3) := by decide +kernel
theorem dX0_isForMan_5 : decode cX0_isForMan 5 = .ok (.istore_n 2, 1) := by decide +kernel
theorem dX0_isForMan_6 : decode cX0_isForMan 6 = .ok (.iload_n 2, 1) := by decide +kernel
theorem dX0_isForMan_7 : decode cX0_isForMan 7 = .ok (.ifCond .eq 12, 3) := by decide +kernel
theorem dX0_isForMan_19 : decode cX0_isForMan 19 = .ok (.iconst 0, 1) := by decide +kernel
theorem dX0_isForMan_20 : decode cX0_isForMan 20 = .ok (.ireturn, 1) := by decide +kernel
theorem dX1_init_0 : decode cX1_init 0 = .ok (.aload_n 0, 1) := by decide +kernel
theorem dX1_init_1 : decode cX1_init 1 = .ok (.invokespecial 3, 3) := by decide +kernel
theorem dX1_init_4 : decode cX1_init 4 = .ok (.aload_n 0, 1) := by decide +kernel
theorem dX1_init_5 : decode cX1_init 5 = .ok (.bipush 12, 2) := by decide +kernel
theorem dX1_init_7 : decode cX1_init 7 = .ok (.newarray .int, 2) := by decide +kernel
theorem dX1_init_9 : decode cX1_init 9 = .ok (.putfield 9, 3) := by decide +kernel
theorem dX1_init_12 : decode cX1_init 12 = .ok (.aload_n 0, 1) := by decide +kernel
theorem dX1_init_13 : decode cX1_init 13 = .ok (.sipush 4096, 3) := by decide +kernel
theorem dX1_init_16 : decode cX1_init 16 = .ok (.newarray .int, 2) := by decide +kernel
theorem dX1_init_18 : decode cX1_init 18 = .ok (.putfield 15, 3) := by decide +kernel
theorem dX1_init_21 : decode cX1_init 21 = .ok (.return_, 1) := by decide +kernel
theorem dX2_init_0 : decode cX2_init 0 = .ok (.aload_n 0, 1) := by decide +kernel
theorem dX2_init_1 : decode cX2_init 1 = .ok (.invokespecial 3, 3) := by decide +kernel
theorem dX2_init_4 : decode cX2_init 4 = .ok (.aload_n 0, 1) := by decide +kernel
theorem dX2_init_5 : decode cX2_init 5 = .ok (.bipush 64, 2) := by decide +kernel
theorem dX2_init_7 : decode cX2_init 7 = .ok (.newarray .int, 2) := by decide +kernel
theorem dX2_init_9 : decode cX2_init 9 = .ok (.putfield 9, 3) := by decide +kernel
theorem dX2_init_12 : decode cX2_init 12 = .ok (.aload_n 0, 1) := by decide +kernel
theorem dX2_init_13 : decode cX2_init 13 = .ok (.bipush 64, 2) := by decide +kernel
theorem dX2_init_15 : decode cX2_init 15 = .ok (.newarray .int, 2) := by decide +kernel
theorem dX2_init_17 : decode cX2_init 17 = .ok (.putfield 15, 3) := by decide +kernel
theorem dX2_init_20 : decode cX2_init 20 = .ok (.return_, 1) := by decide +kernel
set_option maxRecDepth 20000 in
theorem ggX2_isDead_X0_kindNow : GoodIn wsX2_isDead wsX0_kindNow := goodIn_r _ [7, 8, 9, 75, 76, 77, 78, 79, 80] (by decide +kernel) (by decide +kernel)
set_option maxRecDepth 20000 in
theorem gX2_isDead_X0_kindNow : GoodIn wsX2_isDead (wsV RX2 40 RX0 yX0_kindNow wsX0_kindNow) := goodIn_app (goodIn_of _ (by decide +kernel)) ggX2_isDead_X0_kindNow
theorem dX2_isDead_0 : decode cX2_isDead 0 = .ok (.aload_n 1, 1) := by decide +kernel
theorem dX2_isDead_1 : decode cX2_isDead 1 = .ok (.iload_n 2, 1) := by decide +kernel
theorem dX2_isDead_2 : decode cX2_isDead 2 = .ok (.invokevirtual 40, 3) := by decide +kernel
theorem dX2_isDead_5 : decode cX2_isDead 5 = .ok (.ifCond .ne 5, 3) := by decide +kernel
theorem dX2_isDead_8 : decode cX2_isDead 8 = .ok (.iconst 0, 1) := by decide +kernel
theorem dX2_isDead_9 : decode cX2_isDead 9 = .ok (.ireturn, 1) := by decide +kernel
theorem dX3_init_0 : decode cX3_init 0 = .ok (.aload_n 0, 1) := by decide +kernel
theorem dX3_init_1 : decode cX3_init 1 = .ok (.invokespecial 3, 3) := by decide +kernel
theorem dX3_init_4 : decode cX3_init 4 = .ok (.aload_n 0, 1) := by decide +kernel
theorem dX3_init_5 : decode cX3_init 5 = .ok (.iconst (-1), 1) := by decide +kernel
theorem dX3_init_6 : decode cX3_init 6 = .ok (.putfield 9, 3) := by decide +kernel
theorem dX3_init_9 : decode cX3_init 9 = .ok (.return_, 1) := by decide +kernel
theorem dX3_become_0 : decode cX3_become 0 = .ok (.aload_n 0, 1) := by decide +kernel
theorem dX3_become_1 : decode cX3_become 1 = .ok (.aload_n 1, 1) := by decide +kernel
theorem dX3_become_2 : decode cX3_become 2 = .ok (.getfield 9, 3) := by decide +kernel
theorem dX3_become_5 : decode cX3_become 5 = .ok (.putfield 9, 3) := by decide +kernel
theorem dX3_become_8 : decode cX3_become 8 = .ok (.aload_n 0, 1) := by decide +kernel
theorem dX3_become_9 : decode cX3_become 9 = .ok (.aload_n 1, 1) := by decide +kernel
theorem dX3_become_10 : decode cX3_become 10 = .ok (.getfield 15, 3) := by decide +kernel
theorem dX3_become_13 : decode cX3_become 13 = .ok (.putfield 15, 3) := by decide +kernel
theorem dX3_become_16 : decode cX3_become 16 = .ok (.aload_n 0, 1) := by decide +kernel
theorem dX3_become_17 : decode cX3_become 17 = .ok (.aload_n 1, 1) := by decide +kernel
theorem dX3_become_18 : decode cX3_become 18 = .ok (.getfield 19, 3) := by decide +kernel
theorem dX3_become_21 : decode cX3_become 21 = .ok (.putfield 19, 3) := by decide +kernel
theorem dX3_become_24 : decode cX3_become 24 = .ok (.aload_n 0, 1) := by decide +kernel
theorem dX3_become_25 : decode cX3_become 25 = .ok (.aload_n 1, 1) := by decide +kernel
theorem dX3_become_26 : decode cX3_become 26 = .ok (.getfield 22, 3) := by decide +kernel
theorem dX3_become_29 : decode cX3_become 29 = .ok (.putfield 22, 3) := by decide +kernel
theorem dX3_become_32 : decode cX3_become 32 = .ok (.return_, 1) := by decide +kernel
theorem dX3_hasMan_0 : decode cX3_hasMan 0 = .ok (.aload_n 0, 1) := by decide +kernel
theorem dX3_hasMan_1 : decode cX3_hasMan 1 = .ok (.getfield 9, 3) := by decide +kernel
theorem dX3_hasMan_4 : decode cX3_hasMan 4 = .ok (.iconst (-1), 1) := by decide +kernel
theorem dX3_hasMan_5 : decode cX3_hasMan 5 = .ok (.if_icmp .eq 7, 3) := by decide +kernel
theorem dX3_hasMan_12 : decode cX3_hasMan 12 = .ok (.iconst 0, 1) := by decide +kernel
theorem dX3_hasMan_13 : decode cX3_hasMan 13 = .ok (.ireturn, 1) := by decide +kernel
set_option maxRecDepth 20000 in
theorem ggX3_hasBarrel_X8_has : GoodIn wsX3_hasBarrel wsX8_has := goodIn_r _ [4, 5, 6, 3, 7] (by decide +kernel) (by decide +kernel)
set_option maxRecDepth 20000 in
theorem gX3_hasBarrel_X8_has_n25 : GoodIn wsX3_hasBarrel (wsX8_has) := ggX3_hasBarrel_X8_has
theorem dX3_hasBarrel_0 : decode cX3_hasBarrel 0 = .ok (.aload_n 0, 1) := by decide +kernel
theorem dX3_hasBarrel_1 : decode cX3_hasBarrel 1 = .ok (.getfield 15, 3) := by decide +kernel
theorem dX3_hasBarrel_4 : decode cX3_hasBarrel 4 = .ok (.iload_n 1, 1) := by decide +kernel
theorem dX3_hasBarrel_5 : decode cX3_hasBarrel 5 = .ok (.invokestatic 25, 3) := by decide +kernel
theorem dX3_hasBarrel_8 : decode cX3_hasBarrel 8 = .ok (.ireturn, 1) := by decide +kernel
set_option maxRecDepth 20000 in
theorem ggX3_isTaken_X3_hasBarrel : GoodIn wsX3_isTaken wsX3_hasBarrel := goodIn_r _ [6, 7, 8, 9, 10, 11, 12, 13, 14, 15, 16, 17] (by decide +kernel) (by decide +kernel)
set_option maxRecDepth 20000 in
theorem gX3_isTaken_X3_hasBarrel : GoodIn wsX3_isTaken (wsV RX3 29 RX3 yX3_hasBarrel wsX3_hasBarrel) := goodIn_app (goodIn_of _ (by decide +kernel)) ggX3_isTaken_X3_hasBarrel
theorem dX3_isTaken_0 : decode cX3_isTaken 0 = .ok (.aload_n 0, 1) := by decide +kernel
theorem dX3_isTaken_1 : decode cX3_isTaken 1 = .ok (.getfield 9, 3) := by decide +kernel
theorem dX3_isTaken_4 : decode cX3_isTaken 4 = .ok (.iload_n 1, 1) := by decide +kernel
theorem dX3_isTaken_5 : decode cX3_isTaken 5 = .ok (.if_icmp .eq 11, 3) := by decide +kernel
theorem dX3_isTaken_8 : decode cX3_isTaken 8 = .ok (.aload_n 0, 1) := by decide +kernel
theorem dX3_isTaken_9 : decode cX3_isTaken 9 = .ok (.iload_n 1, 1) := by decide +kernel
theorem dX3_isTaken_10 : decode cX3_isTaken 10 = .ok (.invokevirtual 29, 3) := by decide +kernel
theorem dX3_isTaken_13 : decode cX3_isTaken 13 = .ok (.ifCond .eq 7, 3) := by decide +kernel
theorem dX3_isTaken_20 : decode cX3_isTaken 20 = .ok (.iconst 0, 1) := by decide +kernel
theorem dX3_isTaken_21 : decode cX3_isTaken 21 = .ok (.ireturn, 1) := by decide +kernel
set_option maxRecDepth 20000 in
theorem ggX3_advance_X3_hasMan : GoodIn wsX3_advance wsX3_hasMan := goodIn_r _ [8, 1, 63, 64, 65, 66] (by decide +kernel) (by decide +kernel)
set_option maxRecDepth 20000 in
theorem gX3_advance_X3_hasMan : GoodIn wsX3_advance (wsV RX3 33 RX3 yX3_hasMan wsX3_hasMan) := goodIn_app (goodIn_of _ (by decide +kernel)) ggX3_advance_X3_hasMan
theorem dX3_advance_0 : decode cX3_advance 0 = .ok (.aload_n 0, 1) := by decide +kernel
theorem dX3_advance_1 : decode cX3_advance 1 = .ok (.invokevirtual 33, 3) := by decide +kernel
theorem dX3_advance_4 : decode cX3_advance 4 = .ok (.ifCond .eq 10, 3) := by decide +kernel
theorem dX3_advance_14 : decode cX3_advance 14 = .ok (.bipush (-2), 2) := by decide +kernel
theorem dX3_advance_16 : decode cX3_advance 16 = .ok (.ireturn, 1) := by decide +kernel
theorem dX3_advanceBy_0 : decode cX3_advanceBy 0 = .ok (.iconst 0, 1) := by decide +kernel
theorem dX3_advanceBy_1 : decode cX3_advanceBy 1 = .ok (.istore_n 3, 1) := by decide +kernel
theorem dX3_advanceBy_2 : decode cX3_advanceBy 2 = .ok (.iload_n 3, 1) := by decide +kernel
theorem dX3_advanceBy_3 : decode cX3_advanceBy 3 = .ok (.aload_n 2, 1) := by decide +kernel
theorem dX3_advanceBy_4 : decode cX3_advanceBy 4 = .ok (.getfield 54, 3) := by decide +kernel
theorem dX3_advanceBy_7 : decode cX3_advanceBy 7 = .ok (.if_icmp .ge 22, 3) := by decide +kernel
theorem dX3_advanceBy_29 : decode cX3_advanceBy 29 = .ok (.iload_n 3, 1) := by decide +kernel
theorem dX3_advanceBy_30 : decode cX3_advanceBy 30 = .ok (.ireturn, 1) := by decide +kernel
theorem dX4_init_0 : decode cX4_init 0 = .ok (.aload_n 0, 1) := by decide +kernel
theorem dX4_init_1 : decode cX4_init 1 = .ok (.invokespecial 5, 3) := by decide +kernel
theorem dX4_init_4 : decode cX4_init 4 = .ok (.aload_n 0, 1) := by decide +kernel
theorem dX4_init_5 : decode cX4_init 5 = .ok (.bipush 64, 2) := by decide +kernel
theorem dX4_init_7 : decode cX4_init 7 = .ok (.newarray .int, 2) := by decide +kernel
theorem dX4_init_9 : decode cX4_init 9 = .ok (.putfield 11, 3) := by decide +kernel
theorem dX4_init_12 : decode cX4_init 12 = .ok (.aload_n 0, 1) := by decide +kernel
theorem dX4_init_13 : decode cX4_init 13 = .ok (.bipush 120, 2) := by decide +kernel
theorem dX4_init_15 : decode cX4_init 15 = .ok (.newarray .int, 2) := by decide +kernel
theorem dX4_init_17 : decode cX4_init 17 = .ok (.putfield 15, 3) := by decide +kernel
theorem dX4_init_20 : decode cX4_init 20 = .ok (.aload_n 0, 1) := by decide +kernel
theorem dX4_init_21 : decode cX4_init 21 = .ok (.bipush 120, 2) := by decide +kernel
theorem dX4_init_23 : decode cX4_init 23 = .ok (.newarray .int, 2) := by decide +kernel
theorem dX4_init_25 : decode cX4_init 25 = .ok (.putfield 18, 3) := by decide +kernel
theorem dX4_init_28 : decode cX4_init 28 = .ok (.aload_n 0, 1) := by decide +kernel
theorem dX4_init_29 : decode cX4_init 29 = .ok (.bipush 30, 2) := by decide +kernel
theorem dX4_init_31 : decode cX4_init 31 = .ok (.newarray .boolean, 2) := by decide +kernel
theorem dX4_init_33 : decode cX4_init 33 = .ok (.putfield 21, 3) := by decide +kernel
theorem dX4_init_36 : decode cX4_init 36 = .ok (.aload_n 0, 1) := by decide +kernel
theorem dX4_init_37 : decode cX4_init 37 = .ok (.iconst 0, 1) := by decide +kernel
theorem dX4_init_38 : decode cX4_init 38 = .ok (.newarray .int, 2) := by decide +kernel
theorem dX4_init_40 : decode cX4_init 40 = .ok (.putfield 25, 3) := by decide +kernel
theorem dX4_init_43 : decode cX4_init 43 = .ok (.aload_n 0, 1) := by decide +kernel
theorem dX4_init_44 : decode cX4_init 44 = .ok (.iconst 0, 1) := by decide +kernel
theorem dX4_init_45 : decode cX4_init 45 = .ok (.newarray .int, 2) := by decide +kernel
theorem dX4_init_47 : decode cX4_init 47 = .ok (.putfield 28, 3) := by decide +kernel
theorem dX4_init_50 : decode cX4_init 50 = .ok (.aload_n 0, 1) := by decide +kernel
theorem dX4_init_51 : decode cX4_init 51 = .ok (.iconst 0, 1) := by decide +kernel
theorem dX4_init_52 : decode cX4_init 52 = .ok (.newarray .long, 2) := by decide +kernel
theorem dX4_init_54 : decode cX4_init 54 = .ok (.putfield 31, 3) := by decide +kernel
theorem dX4_init_57 : decode cX4_init 57 = .ok (.return_, 1) := by decide +kernel
theorem dX5_init_0 : decode cX5_init 0 = .ok (.aload_n 0, 1) := by decide +kernel
theorem dX5_init_1 : decode cX5_init 1 = .ok (.invokespecial 3, 3) := by decide +kernel
theorem dX5_init_4 : decode cX5_init 4 = .ok (.aload_n 0, 1) := by decide +kernel
theorem dX5_init_5 : decode cX5_init 5 = .ok (.sipush 513, 3) := by decide +kernel
theorem dX5_init_8 : decode cX5_init 8 = .ok (.newarray .int, 2) := by decide +kernel
theorem dX5_init_10 : decode cX5_init 10 = .ok (.putfield 9, 3) := by decide +kernel
theorem dX5_init_13 : decode cX5_init 13 = .ok (.aload_n 0, 1) := by decide +kernel
theorem dX5_init_14 : decode cX5_init 14 = .ok (.sipush 513, 3) := by decide +kernel
theorem dX5_init_17 : decode cX5_init 17 = .ok (.newarray .long, 2) := by decide +kernel
theorem dX5_init_19 : decode cX5_init 19 = .ok (.putfield 15, 3) := by decide +kernel
theorem dX5_init_22 : decode cX5_init 22 = .ok (.aload_n 0, 1) := by decide +kernel
theorem dX5_init_23 : decode cX5_init 23 = .ok (.sipush 513, 3) := by decide +kernel
theorem dX5_init_26 : decode cX5_init 26 = .ok (.newarray .int, 2) := by decide +kernel
theorem dX5_init_28 : decode cX5_init 28 = .ok (.putfield 19, 3) := by decide +kernel
theorem dX5_init_31 : decode cX5_init 31 = .ok (.aload_n 0, 1) := by decide +kernel
theorem dX5_init_32 : decode cX5_init 32 = .ok (.sipush 513, 3) := by decide +kernel
theorem dX5_init_35 : decode cX5_init 35 = .ok (.newarray .int, 2) := by decide +kernel
theorem dX5_init_37 : decode cX5_init 37 = .ok (.putfield 22, 3) := by decide +kernel
theorem dX5_init_40 : decode cX5_init 40 = .ok (.return_, 1) := by decide +kernel
theorem dX5_forget_0 : decode cX5_forget 0 = .ok (.aload_n 0, 1) := by decide +kernel
theorem dX5_forget_1 : decode cX5_forget 1 = .ok (.iconst 0, 1) := by decide +kernel
theorem dX5_forget_2 : decode cX5_forget 2 = .ok (.putfield 25, 3) := by decide +kernel
theorem dX5_forget_5 : decode cX5_forget 5 = .ok (.aload_n 0, 1) := by decide +kernel
theorem dX5_forget_6 : decode cX5_forget 6 = .ok (.iconst 0, 1) := by decide +kernel
theorem dX5_forget_7 : decode cX5_forget 7 = .ok (.putfield 29, 3) := by decide +kernel
theorem dX5_forget_10 : decode cX5_forget 10 = .ok (.return_, 1) := by decide +kernel
theorem dX5_goBack_0 : decode cX5_goBack 0 = .ok (.aload_n 0, 1) := by decide +kernel
theorem dX5_goBack_1 : decode cX5_goBack 1 = .ok (.getfield 25, 3) := by decide +kernel
theorem dX5_goBack_4 : decode cX5_goBack 4 = .ok (.ifCond .gt 6, 3) := by decide +kernel
theorem dX5_goBack_7 : decode cX5_goBack 7 = .ok (.bipush (-2), 2) := by decide +kernel
theorem dX5_goBack_9 : decode cX5_goBack 9 = .ok (.ireturn, 1) := by decide +kernel
theorem dX5_goForth_0 : decode cX5_goForth 0 = .ok (.aload_n 0, 1) := by decide +kernel
theorem dX5_goForth_1 : decode cX5_goForth 1 = .ok (.getfield 25, 3) := by decide +kernel
theorem dX5_goForth_4 : decode cX5_goForth 4 = .ok (.aload_n 0, 1) := by decide +kernel
theorem dX5_goForth_5 : decode cX5_goForth 5 = .ok (.getfield 29, 3) := by decide +kernel
theorem dX5_goForth_8 : decode cX5_goForth 8 = .ok (.if_icmp .lt 6, 3) := by decide +kernel
theorem dX5_goForth_11 : decode cX5_goForth 11 = .ok (.bipush (-2), 2) := by decide +kernel
theorem dX5_goForth_13 : decode cX5_goForth 13 = .ok (.ireturn, 1) := by decide +kernel
theorem dX6_init_0 : decode cX6_init 0 = .ok (.aload_n 0, 1) := by decide +kernel
theorem dX6_init_1 : decode cX6_init 1 = .ok (.invokespecial 3, 3) := by decide +kernel
theorem dX6_init_4 : decode cX6_init 4 = .ok (.aload_n 0, 1) := by decide +kernel
theorem dX6_init_5 : decode cX6_init 5 = .ok (.bipush 64, 2) := by decide +kernel
theorem dX6_init_7 : decode cX6_init 7 = .ok (.newarray .int, 2) := by decide +kernel
theorem dX6_init_9 : decode cX6_init 9 = .ok (.putfield 9, 3) := by decide +kernel
theorem dX6_init_12 : decode cX6_init 12 = .ok (.aload_n 0, 1) := by decide +kernel
theorem dX6_init_13 : decode cX6_init 13 = .ok (.bipush 64, 2) := by decide +kernel
theorem dX6_init_15 : decode cX6_init 15 = .ok (.newarray .int, 2) := by decide +kernel
theorem dX6_init_17 : decode cX6_init 17 = .ok (.putfield 15, 3) := by decide +kernel
theorem dX6_init_20 : decode cX6_init 20 = .ok (.return_, 1) := by decide +kernel
set_option maxRecDepth 20000 in
theorem ggX6_measure_J7_fill_53178 : GoodIn wsX6_measure wsJ7_fill_53178 := goodIn_r _ [8] (by decide +kernel) (by decide +kernel)
set_option maxRecDepth 20000 in
theorem gX6_measure_J7_fill_53178 : GoodIn wsX6_measure (va_wsS RX6 18 yJ7_fill_53178 wsJ7_fill_53178) := goodIn_app (goodIn_of _ (by decide +kernel)) ggX6_measure_J7_fill_53178
set_option maxRecDepth 20000 in
theorem ggX6_measure_X6_reach : GoodIn wsX6_measure wsX6_reach := goodIn_r _ [13, 1, 2, 4, 14, 15, 16, 58, 59, 60] (by decide +kernel) (by decide +kernel)
set_option maxRecDepth 20000 in
theorem gX6_measure_X6_reach : GoodIn wsX6_measure (wsV RX6 33 RX6 yX6_reach wsX6_reach) := goodIn_app (goodIn_of _ (by decide +kernel)) ggX6_measure_X6_reach
theorem dX6_measure_0 : decode cX6_measure 0 = .ok (.aload_n 0, 1) := by decide +kernel
theorem dX6_measure_1 : decode cX6_measure 1 = .ok (.getfield 9, 3) := by decide +kernel
theorem dX6_measure_4 : decode cX6_measure 4 = .ok (.iconst (-1), 1) := by decide +kernel
theorem dX6_measure_5 : decode cX6_measure 5 = .ok (.invokestatic 18, 3) := by decide +kernel
theorem dX6_measure_8 : decode cX6_measure 8 = .ok (.aload_n 0, 1) := by decide +kernel
theorem dX6_measure_9 : decode cX6_measure 9 = .ok (.iconst 0, 1) := by decide +kernel
theorem dX6_measure_10 : decode cX6_measure 10 = .ok (.putfield 24, 3) := by decide +kernel
theorem dX6_measure_13 : decode cX6_measure 13 = .ok (.aload_n 0, 1) := by decide +kernel
theorem dX6_measure_14 : decode cX6_measure 14 = .ok (.aload_n 2, 1) := by decide +kernel
theorem dX6_measure_15 : decode cX6_measure 15 = .ok (.getfield 28, 3) := by decide +kernel
theorem dX6_measure_18 : decode cX6_measure 18 = .ok (.iconst 0, 1) := by decide +kernel
theorem dX6_measure_19 : decode cX6_measure 19 = .ok (.invokevirtual 33, 3) := by decide +kernel
theorem dX6_measure_22 : decode cX6_measure 22 = .ok (.iconst 0, 1) := by decide +kernel
theorem dX6_measure_23 : decode cX6_measure 23 = .ok (.istore_n 3, 1) := by decide +kernel
theorem dX6_measure_24 : decode cX6_measure 24 = .ok (.iload_n 3, 1) := by decide +kernel
theorem dX6_measure_25 : decode cX6_measure 25 = .ok (.aload_n 0, 1) := by decide +kernel
theorem dX6_measure_26 : decode cX6_measure 26 = .ok (.getfield 24, 3) := by decide +kernel
theorem dX6_measure_29 : decode cX6_measure 29 = .ok (.if_icmp .ge 82, 3) := by decide +kernel
theorem dX6_measure_111 : decode cX6_measure 111 = .ok (.return_, 1) := by decide +kernel
set_option maxRecDepth 20000 in
theorem ggX6_reach_X8_isField : GoodIn wsX6_reach wsX8_isField := goodIn_r _ [6] (by decide +kernel) (by decide +kernel)
set_option maxRecDepth 20000 in
theorem gX6_reach_X8_isField_n55 : GoodIn wsX6_reach (wsX8_isField) := ggX6_reach_X8_isField
theorem dX6_reach_0 : decode cX6_reach 0 = .ok (.iload_n 1, 1) := by decide +kernel
theorem dX6_reach_1 : decode cX6_reach 1 = .ok (.invokestatic 55, 3) := by decide +kernel
theorem dX6_reach_4 : decode cX6_reach 4 = .ok (.ifCond .eq 49, 3) := by decide +kernel
theorem dX6_reach_53 : decode cX6_reach 53 = .ok (.return_, 1) := by decide +kernel
theorem dX7_init_0 : decode cX7_init 0 = .ok (.aload_n 0, 1) := by decide +kernel
theorem dX7_init_1 : decode cX7_init 1 = .ok (.invokespecial 3, 3) := by decide +kernel
theorem dX7_init_4 : decode cX7_init 4 = .ok (.aload_n 0, 1) := by decide +kernel
theorem dX7_init_5 : decode cX7_init 5 = .ok (.sipush 400, 3) := by decide +kernel
theorem dX7_init_8 : decode cX7_init 8 = .ok (.newarray .int, 2) := by decide +kernel
theorem dX7_init_10 : decode cX7_init 10 = .ok (.putfield 9, 3) := by decide +kernel
theorem dX7_init_13 : decode cX7_init 13 = .ok (.return_, 1) := by decide +kernel
set_option maxRecDepth 20000 in
theorem ggX7_wayAt_X7_isIn : GoodIn wsX7_wayAt wsX7_isIn := goodIn_r _ [6, 7, 1, 8, 9] (by decide +kernel) (by decide +kernel)
set_option maxRecDepth 20000 in
theorem gX7_wayAt_X7_isIn : GoodIn wsX7_wayAt (wsV RX7 15 RX7 yX7_isIn wsX7_isIn) := goodIn_app (goodIn_of _ (by decide +kernel)) ggX7_wayAt_X7_isIn
theorem dX7_wayAt_0 : decode cX7_wayAt 0 = .ok (.aload_n 0, 1) := by decide +kernel
theorem dX7_wayAt_1 : decode cX7_wayAt 1 = .ok (.iload_n 1, 1) := by decide +kernel
theorem dX7_wayAt_2 : decode cX7_wayAt 2 = .ok (.invokevirtual 15, 3) := by decide +kernel
theorem dX7_wayAt_5 : decode cX7_wayAt 5 = .ok (.ifCond .eq 12, 3) := by decide +kernel
theorem dX7_wayAt_17 : decode cX7_wayAt 17 = .ok (.bipush (-2), 2) := by decide +kernel
theorem dX7_wayAt_19 : decode cX7_wayAt 19 = .ok (.ireturn, 1) := by decide +kernel
theorem dX7_append_0 : decode cX7_append 0 = .ok (.aload_n 0, 1) := by decide +kernel
theorem dX7_append_1 : decode cX7_append 1 = .ok (.getfield 19, 3) := by decide +kernel
theorem dX7_append_4 : decode cX7_append 4 = .ok (.aload_n 0, 1) := by decide +kernel
theorem dX7_append_5 : decode cX7_append 5 = .ok (.getfield 9, 3) := by decide +kernel
theorem dX7_append_8 : decode cX7_append 8 = .ok (.arraylength, 1) := by decide +kernel
theorem dX7_append_9 : decode cX7_append 9 = .ok (.if_icmp .lt 31, 3) := by decide +kernel
theorem dX7_append_40 : decode cX7_append 40 = .ok (.aload_n 0, 1) := by decide +kernel
theorem dX7_append_41 : decode cX7_append 41 = .ok (.getfield 19, 3) := by decide +kernel
theorem dX7_append_44 : decode cX7_append 44 = .ok (.aload_n 0, 1) := by decide +kernel
theorem dX7_append_45 : decode cX7_append 45 = .ok (.getfield 9, 3) := by decide +kernel
theorem dX7_append_48 : decode cX7_append 48 = .ok (.arraylength, 1) := by decide +kernel
theorem dX7_append_49 : decode cX7_append 49 = .ok (.if_icmp .ge 23, 3) := by decide +kernel
theorem dX7_append_52 : decode cX7_append 52 = .ok (.aload_n 0, 1) := by decide +kernel
theorem dX7_append_53 : decode cX7_append 53 = .ok (.getfield 9, 3) := by decide +kernel
theorem dX7_append_56 : decode cX7_append 56 = .ok (.aload_n 0, 1) := by decide +kernel
theorem dX7_append_57 : decode cX7_append 57 = .ok (.getfield 19, 3) := by decide +kernel
theorem dX7_append_60 : decode cX7_append 60 = .ok (.iload_n 1, 1) := by decide +kernel
theorem dX7_append_61 : decode cX7_append 61 = .ok (.iastore, 1) := by decide +kernel
theorem dX7_append_62 : decode cX7_append 62 = .ok (.aload_n 0, 1) := by decide +kernel
theorem dX7_append_63 : decode cX7_append 63 = .ok (.dup, 1) := by decide +kernel
theorem dX7_append_64 : decode cX7_append 64 = .ok (.getfield 19, 3) := by decide +kernel
theorem dX7_append_67 : decode cX7_append 67 = .ok (.iconst 1, 1) := by decide +kernel
theorem dX7_append_68 : decode cX7_append 68 = .ok (.iadd, 1) := by decide +kernel
theorem dX7_append_69 : decode cX7_append 69 = .ok (.putfield 19, 3) := by decide +kernel
theorem dX7_append_72 : decode cX7_append 72 = .ok (.return_, 1) := by decide +kernel
theorem dX7_become_0 : decode cX7_become 0 = .ok (.aload_n 0, 1) := by decide +kernel
theorem dX7_become_1 : decode cX7_become 1 = .ok (.iconst 0, 1) := by decide +kernel
theorem dX7_become_2 : decode cX7_become 2 = .ok (.putfield 19, 3) := by decide +kernel
theorem dX7_become_5 : decode cX7_become 5 = .ok (.iconst 0, 1) := by decide +kernel
theorem dX7_become_6 : decode cX7_become 6 = .ok (.istore_n 2, 1) := by decide +kernel
theorem dX7_become_7 : decode cX7_become 7 = .ok (.iload_n 2, 1) := by decide +kernel
theorem dX7_become_8 : decode cX7_become 8 = .ok (.aload_n 1, 1) := by decide +kernel
theorem dX7_become_9 : decode cX7_become 9 = .ok (.getfield 19, 3) := by decide +kernel
theorem dX7_become_12 : decode cX7_become 12 = .ok (.if_icmp .ge 18, 3) := by decide +kernel
theorem dX7_become_30 : decode cX7_become 30 = .ok (.return_, 1) := by decide +kernel
theorem dX7_isIn_0 : decode cX7_isIn 0 = .ok (.iload_n 1, 1) := by decide +kernel
theorem dX7_isIn_1 : decode cX7_isIn 1 = .ok (.ifCond .lt 24, 3) := by decide +kernel
theorem dX7_isIn_4 : decode cX7_isIn 4 = .ok (.iload_n 1, 1) := by decide +kernel
theorem dX7_isIn_5 : decode cX7_isIn 5 = .ok (.aload_n 0, 1) := by decide +kernel
theorem dX7_isIn_6 : decode cX7_isIn 6 = .ok (.getfield 19, 3) := by decide +kernel
theorem dX7_isIn_9 : decode cX7_isIn 9 = .ok (.if_icmp .ge 16, 3) := by decide +kernel
theorem dX7_isIn_25 : decode cX7_isIn 25 = .ok (.iconst 0, 1) := by decide +kernel
theorem dX7_isIn_26 : decode cX7_isIn 26 = .ok (.ireturn, 1) := by decide +kernel
set_option maxRecDepth 20000 in
theorem ggX8_init_X0_init : GoodIn wsX8_init wsX0_init := goodIn_r _ [41, 42, 2, 3, 43, 44, 45, 46, 47, 48, 49, 50, 51, 52, 53, 54, 55, 56, 105, 106, 107, 108, 109, 110] (by decide +kernel) (by decide +kernel)
set_option maxRecDepth 20000 in
theorem gX8_init_X0_init : GoodIn wsX8_init (wsX0_init) := ggX8_init_X0_init
set_option maxRecDepth 20000 in
theorem ggX8_init_X3_init : GoodIn wsX8_init wsX3_init := goodIn_r _ [59, 60, 2, 3, 61, 122, 123, 124, 125] (by decide +kernel) (by decide +kernel)
set_option maxRecDepth 20000 in
theorem gX8_init_X3_init : GoodIn wsX8_init (wsX3_init) := ggX8_init_X3_init
set_option maxRecDepth 20000 in
theorem ggX8_init_X5_init : GoodIn wsX8_init wsX5_init := goodIn_r _ [64, 65, 2, 3, 52, 66, 67, 68, 69, 70, 126, 127, 128, 129, 130, 131] (by decide +kernel) (by decide +kernel)
set_option maxRecDepth 20000 in
theorem gX8_init_X5_init : GoodIn wsX8_init (wsX5_init) := ggX8_init_X5_init
set_option maxRecDepth 20000 in
theorem ggX8_init_X6_init : GoodIn wsX8_init wsX6_init := goodIn_r _ [73, 74, 2, 3, 52, 75, 76, 132, 133, 134] (by decide +kernel) (by decide +kernel)
set_option maxRecDepth 20000 in
theorem gX8_init_X6_init : GoodIn wsX8_init (wsX6_init) := ggX8_init_X6_init
set_option maxRecDepth 20000 in
theorem ggX8_init_X2_init : GoodIn wsX8_init wsX2_init := goodIn_r _ [79, 80, 2, 3, 52, 81, 82, 135, 136, 137] (by decide +kernel) (by decide +kernel)
set_option maxRecDepth 20000 in
theorem gX8_init_X2_init : GoodIn wsX8_init (wsX2_init) := ggX8_init_X2_init
set_option maxRecDepth 20000 in
theorem ggX8_init_X1_init : GoodIn wsX8_init wsX1_init := goodIn_r _ [85, 86, 2, 3, 52, 87, 88, 138, 139, 140] (by decide +kernel) (by decide +kernel)
set_option maxRecDepth 20000 in
theorem gX8_init_X1_init : GoodIn wsX8_init (wsX1_init) := ggX8_init_X1_init
set_option maxRecDepth 20000 in
theorem ggX8_init_X4_init : GoodIn wsX8_init wsX4_init := goodIn_r _ [91, 92, 2, 3, 52, 93, 94, 95, 55, 96, 97, 98, 67, 99, 141, 142, 143, 144, 145, 146, 147, 148, 149, 150, 151, 152] (by decide +kernel) (by decide +kernel)
set_option maxRecDepth 20000 in
theorem gX8_init_X4_init : GoodIn wsX8_init (wsX4_init) := ggX8_init_X4_init
set_option maxRecDepth 20000 in
theorem ggX8_init_X7_init : GoodIn wsX8_init wsX7_init := goodIn_r _ [102, 103, 2, 3, 52, 104, 153, 154] (by decide +kernel) (by decide +kernel)
set_option maxRecDepth 20000 in
theorem gX8_init_X7_init : GoodIn wsX8_init (wsX7_init) := ggX8_init_X7_init
theorem dX8_init_0 : decode cX8_init 0 = .ok (.aload_n 0, 1) := by decide +kernel
theorem dX8_init_1 : decode cX8_init 1 = .ok (.invokespecial 1, 3) := by decide +kernel
theorem dX8_init_4 : decode cX8_init 4 = .ok (.aload_n 0, 1) := by decide +kernel
theorem dX8_init_5 : decode cX8_init 5 = .ok (.new 7, 3) := by decide +kernel
theorem dX8_init_8 : decode cX8_init 8 = .ok (.dup, 1) := by decide +kernel
theorem dX8_init_9 : decode cX8_init 9 = .ok (.iload_n 1, 1) := by decide +kernel
theorem dX8_init_10 : decode cX8_init 10 = .ok (.iload_n 2, 1) := by decide +kernel
theorem dX8_init_11 : decode cX8_init 11 = .ok (.invokespecial 9, 3) := by decide +kernel
theorem dX8_init_14 : decode cX8_init 14 = .ok (.putfield 12, 3) := by decide +kernel
theorem dX8_init_17 : decode cX8_init 17 = .ok (.aload_n 0, 1) := by decide +kernel
theorem dX8_init_18 : decode cX8_init 18 = .ok (.new 18, 3) := by decide +kernel
theorem dX8_init_21 : decode cX8_init 21 = .ok (.dup, 1) := by decide +kernel
theorem dX8_init_22 : decode cX8_init 22 = .ok (.invokespecial 20, 3) := by decide +kernel
theorem dX8_init_25 : decode cX8_init 25 = .ok (.putfield 21, 3) := by decide +kernel
theorem dX8_init_28 : decode cX8_init 28 = .ok (.aload_n 0, 1) := by decide +kernel
theorem dX8_init_29 : decode cX8_init 29 = .ok (.new 18, 3) := by decide +kernel
theorem dX8_init_32 : decode cX8_init 32 = .ok (.dup, 1) := by decide +kernel
theorem dX8_init_33 : decode cX8_init 33 = .ok (.invokespecial 20, 3) := by decide +kernel
theorem dX8_init_36 : decode cX8_init 36 = .ok (.putfield 25, 3) := by decide +kernel
theorem dX8_init_39 : decode cX8_init 39 = .ok (.aload_n 0, 1) := by decide +kernel
theorem dX8_init_40 : decode cX8_init 40 = .ok (.new 28, 3) := by decide +kernel
theorem dX8_init_43 : decode cX8_init 43 = .ok (.dup, 1) := by decide +kernel
theorem dX8_init_44 : decode cX8_init 44 = .ok (.invokespecial 30, 3) := by decide +kernel
theorem dX8_init_47 : decode cX8_init 47 = .ok (.putfield 31, 3) := by decide +kernel
theorem dX8_init_50 : decode cX8_init 50 = .ok (.aload_n 0, 1) := by decide +kernel
theorem dX8_init_51 : decode cX8_init 51 = .ok (.new 35, 3) := by decide +kernel
theorem dX8_init_54 : decode cX8_init 54 = .ok (.dup, 1) := by decide +kernel
theorem dX8_init_55 : decode cX8_init 55 = .ok (.invokespecial 37, 3) := by decide +kernel
theorem dX8_init_58 : decode cX8_init 58 = .ok (.putfield 38, 3) := by decide +kernel
theorem dX8_init_61 : decode cX8_init 61 = .ok (.aload_n 0, 1) := by decide +kernel
theorem dX8_init_62 : decode cX8_init 62 = .ok (.new 42, 3) := by decide +kernel
theorem dX8_init_65 : decode cX8_init 65 = .ok (.dup, 1) := by decide +kernel
theorem dX8_init_66 : decode cX8_init 66 = .ok (.invokespecial 44, 3) := by decide +kernel
theorem dX8_init_69 : decode cX8_init 69 = .ok (.putfield 45, 3) := by decide +kernel
theorem dX8_init_72 : decode cX8_init 72 = .ok (.aload_n 0, 1) := by decide +kernel
theorem dX8_init_73 : decode cX8_init 73 = .ok (.new 49, 3) := by decide +kernel
theorem dX8_init_76 : decode cX8_init 76 = .ok (.dup, 1) := by decide +kernel
theorem dX8_init_77 : decode cX8_init 77 = .ok (.invokespecial 51, 3) := by decide +kernel
theorem dX8_init_80 : decode cX8_init 80 = .ok (.putfield 52, 3) := by decide +kernel
theorem dX8_init_83 : decode cX8_init 83 = .ok (.aload_n 0, 1) := by decide +kernel
theorem dX8_init_84 : decode cX8_init 84 = .ok (.new 56, 3) := by decide +kernel
theorem dX8_init_87 : decode cX8_init 87 = .ok (.dup, 1) := by decide +kernel
theorem dX8_init_88 : decode cX8_init 88 = .ok (.invokespecial 58, 3) := by decide +kernel
theorem dX8_init_91 : decode cX8_init 91 = .ok (.putfield 59, 3) := by decide +kernel
theorem dX8_init_94 : decode cX8_init 94 = .ok (.aload_n 0, 1) := by decide +kernel
theorem dX8_init_95 : decode cX8_init 95 = .ok (.new 63, 3) := by decide +kernel
theorem dX8_init_98 : decode cX8_init 98 = .ok (.dup, 1) := by decide +kernel
theorem dX8_init_99 : decode cX8_init 99 = .ok (.invokespecial 65, 3) := by decide +kernel
theorem dX8_init_102 : decode cX8_init 102 = .ok (.putfield 66, 3) := by decide +kernel
theorem dX8_init_105 : decode cX8_init 105 = .ok (.aload_n 0, 1) := by decide +kernel
theorem dX8_init_106 : decode cX8_init 106 = .ok (.new 63, 3) := by decide +kernel
theorem dX8_init_109 : decode cX8_init 109 = .ok (.dup, 1) := by decide +kernel
theorem dX8_init_110 : decode cX8_init 110 = .ok (.invokespecial 65, 3) := by decide +kernel
theorem dX8_init_113 : decode cX8_init 113 = .ok (.putfield 70, 3) := by decide +kernel
theorem dX8_init_116 : decode cX8_init 116 = .ok (.aload_n 0, 1) := by decide +kernel
theorem dX8_init_117 : decode cX8_init 117 = .ok (.iconst (-1), 1) := by decide +kernel
theorem dX8_init_118 : decode cX8_init 118 = .ok (.putfield 73, 3) := by decide +kernel
theorem dX8_init_121 : decode cX8_init 121 = .ok (.return_, 1) := by decide +kernel
set_option maxRecDepth 20000 in
theorem ggX8_field_X0_numberOf : GoodIn wsX8_field wsX0_numberOf := goodIn_r _ [7, 8, 9, 61, 62, 63, 64, 65, 66] (by decide +kernel) (by decide +kernel)
set_option maxRecDepth 20000 in
theorem gX8_field_X0_numberOf : GoodIn wsX8_field (wsV RX8 77 RX0 yX0_numberOf wsX0_numberOf) := goodIn_app (goodIn_of _ (by decide +kernel)) ggX8_field_X0_numberOf
set_option maxRecDepth 20000 in
theorem ggX8_field_X8_isWay : GoodIn wsX8_field wsX8_isWay := goodIn_r _ [13] (by decide +kernel) (by decide +kernel)
set_option maxRecDepth 20000 in
theorem gX8_field_X8_isWay : GoodIn wsX8_field (va_wsS RX8 81 yX8_isWay wsX8_isWay) := goodIn_app (goodIn_of _ (by decide +kernel)) ggX8_field_X8_isWay
set_option maxRecDepth 20000 in
theorem ggX8_field_X8_isInUse : GoodIn wsX8_field wsX8_isInUse := goodIn_r _ [17, 18, 1, 19, 20, 21, 22, 23, 24, 25, 26, 27, 28, 29, 30, 31, 12, 32, 33, 34, 35, 36, 50, 51, 52, 53, 54, 55, 56, 57, 58, 59, 60, 61, 62, 63, 64, 65, 66, 67, 68, 69, 70] (by decide +kernel) (by decide +kernel)
set_option maxRecDepth 20000 in
theorem gX8_field_X8_isInUse : GoodIn wsX8_field (wsV RX8 85 RX8 yX8_isInUse wsX8_isInUse) := goodIn_app (goodIn_of _ (by decide +kernel)) ggX8_field_X8_isInUse
set_option maxRecDepth 20000 in
theorem ggX8_field_X5_forget : GoodIn wsX8_field wsX5_forget := goodIn_r _ [41, 42, 43, 71, 72, 73, 74, 75, 76] (by decide +kernel) (by decide +kernel)
set_option maxRecDepth 20000 in
theorem gX8_field_X5_forget : GoodIn wsX8_field (wsV RX8 88 RX5 yX5_forget wsX5_forget) := goodIn_app (goodIn_of _ (by decide +kernel)) ggX8_field_X5_forget
set_option maxRecDepth 20000 in
theorem ggX8_field_X0_lay : GoodIn wsX8_field wsX0_lay := goodIn_r _ [47, 48, 49, 34, 12, 35, 61, 62, 63, 64, 65, 66] (by decide +kernel) (by decide +kernel)
set_option maxRecDepth 20000 in
theorem gX8_field_X0_lay : GoodIn wsX8_field (wsV RX8 91 RX0 yX0_lay wsX0_lay) := goodIn_app (goodIn_of _ (by decide +kernel)) ggX8_field_X0_lay
theorem dX8_field_0 : decode cX8_field 0 = .ok (.aload_n 0, 1) := by decide +kernel
theorem dX8_field_1 : decode cX8_field 1 = .ok (.getfield 12, 3) := by decide +kernel
theorem dX8_field_4 : decode cX8_field 4 = .ok (.iload_n 1, 1) := by decide +kernel
theorem dX8_field_5 : decode cX8_field 5 = .ok (.iload_n 2, 1) := by decide +kernel
theorem dX8_field_6 : decode cX8_field 6 = .ok (.invokevirtual 77, 3) := by decide +kernel
theorem dX8_field_9 : decode cX8_field 9 = .ok (.istore 5, 2) := by decide +kernel
theorem dX8_field_11 : decode cX8_field 11 = .ok (.iload 5, 2) := by decide +kernel
theorem dX8_field_13 : decode cX8_field 13 = .ok (.iconst (-1), 1) := by decide +kernel
theorem dX8_field_14 : decode cX8_field 14 = .ok (.if_icmp .eq 12, 3) := by decide +kernel
theorem dX8_field_17 : decode cX8_field 17 = .ok (.iload_n 3, 1) := by decide +kernel
theorem dX8_field_18 : decode cX8_field 18 = .ok (.ifCond .lt 8, 3) := by decide +kernel
theorem dX8_field_21 : decode cX8_field 21 = .ok (.iload_n 3, 1) := by decide +kernel
theorem dX8_field_22 : decode cX8_field 22 = .ok (.iconst 5, 1) := by decide +kernel
theorem dX8_field_23 : decode cX8_field 23 = .ok (.if_icmp .le 6, 3) := by decide +kernel
theorem dX8_field_26 : decode cX8_field 26 = .ok (.bipush (-2), 2) := by decide +kernel
theorem dX8_field_28 : decode cX8_field 28 = .ok (.ireturn, 1) := by decide +kernel
theorem dX8_field_29 : decode cX8_field 29 = .ok (.iload_n 3, 1) := by decide +kernel
theorem dX8_field_30 : decode cX8_field 30 = .ok (.iconst 4, 1) := by decide +kernel
theorem dX8_field_31 : decode cX8_field 31 = .ok (.if_icmp .ne 11, 3) := by decide +kernel
theorem dX8_field_34 : decode cX8_field 34 = .ok (.iload 4, 2) := by decide +kernel
theorem dX8_field_36 : decode cX8_field 36 = .ok (.invokestatic 81, 3) := by decide +kernel
theorem dX8_field_39 : decode cX8_field 39 = .ok (.goto 13, 3) := by decide +kernel
theorem dX8_field_42 : decode cX8_field 42 = .ok (.iload 4, 2) := by decide +kernel
theorem dX8_field_44 : decode cX8_field 44 = .ok (.ifCond .ne 7, 3) := by decide +kernel
theorem dX8_field_47 : decode cX8_field 47 = .ok (.iconst 1, 1) := by decide +kernel
theorem dX8_field_48 : decode cX8_field 48 = .ok (.goto 4, 3) := by decide +kernel
theorem dX8_field_51 : decode cX8_field 51 = .ok (.iconst 0, 1) := by decide +kernel
theorem dX8_field_52 : decode cX8_field 52 = .ok (.istore 6, 2) := by decide +kernel
theorem dX8_field_54 : decode cX8_field 54 = .ok (.iload 6, 2) := by decide +kernel
theorem dX8_field_56 : decode cX8_field 56 = .ok (.ifCond .eq 12, 3) := by decide +kernel
theorem dX8_field_59 : decode cX8_field 59 = .ok (.aload_n 0, 1) := by decide +kernel
theorem dX8_field_60 : decode cX8_field 60 = .ok (.iload 5, 2) := by decide +kernel
theorem dX8_field_62 : decode cX8_field 62 = .ok (.invokevirtual 85, 3) := by decide +kernel
theorem dX8_field_65 : decode cX8_field 65 = .ok (.ifCond .eq 6, 3) := by decide +kernel
theorem dX8_field_68 : decode cX8_field 68 = .ok (.bipush (-2), 2) := by decide +kernel
theorem dX8_field_70 : decode cX8_field 70 = .ok (.ireturn, 1) := by decide +kernel
theorem dX8_field_71 : decode cX8_field 71 = .ok (.aload_n 0, 1) := by decide +kernel
theorem dX8_field_72 : decode cX8_field 72 = .ok (.getfield 31, 3) := by decide +kernel
theorem dX8_field_75 : decode cX8_field 75 = .ok (.invokevirtual 88, 3) := by decide +kernel
theorem dX8_field_78 : decode cX8_field 78 = .ok (.aload_n 0, 1) := by decide +kernel
theorem dX8_field_79 : decode cX8_field 79 = .ok (.getfield 12, 3) := by decide +kernel
theorem dX8_field_82 : decode cX8_field 82 = .ok (.iload 5, 2) := by decide +kernel
theorem dX8_field_84 : decode cX8_field 84 = .ok (.iload_n 3, 1) := by decide +kernel
theorem dX8_field_85 : decode cX8_field 85 = .ok (.iload 4, 2) := by decide +kernel
theorem dX8_field_87 : decode cX8_field 87 = .ok (.invokevirtual 91, 3) := by decide +kernel
theorem dX8_field_90 : decode cX8_field 90 = .ok (.ireturn, 1) := by decide +kernel
set_option maxRecDepth 20000 in
theorem ggX8_line_X0_numberOf : GoodIn wsX8_line wsX0_numberOf := goodIn_r _ [9, 10, 11, 59, 60, 61, 62, 63, 64] (by decide +kernel) (by decide +kernel)
set_option maxRecDepth 20000 in
theorem gX8_line_X0_numberOf : GoodIn wsX8_line (wsV RX8 77 RX0 yX0_numberOf wsX0_numberOf) := goodIn_app (goodIn_of _ (by decide +kernel)) ggX8_line_X0_numberOf
set_option maxRecDepth 20000 in
theorem ggX8_line_X8_isInUse : GoodIn wsX8_line wsX8_isInUse := goodIn_r _ [16, 17, 1, 18, 19, 20, 21, 22, 23, 24, 25, 26, 27, 28, 29, 30, 15, 31, 32, 33, 34, 35, 48, 49, 50, 51, 52, 53, 54, 55, 56, 57, 58, 59, 60, 61, 62, 63, 64, 65, 66, 67, 68] (by decide +kernel) (by decide +kernel)
set_option maxRecDepth 20000 in
theorem gX8_line_X8_isInUse : GoodIn wsX8_line (wsV RX8 85 RX8 yX8_isInUse wsX8_isInUse) := goodIn_app (goodIn_of _ (by decide +kernel)) ggX8_line_X8_isInUse
set_option maxRecDepth 20000 in
theorem ggX8_line_X5_forget : GoodIn wsX8_line wsX5_forget := goodIn_r _ [40, 41, 42, 69, 70, 71, 72, 73, 74] (by decide +kernel) (by decide +kernel)
set_option maxRecDepth 20000 in
theorem gX8_line_X5_forget : GoodIn wsX8_line (wsV RX8 88 RX5 yX5_forget wsX5_forget) := goodIn_app (goodIn_of _ (by decide +kernel)) ggX8_line_X5_forget
set_option maxRecDepth 20000 in
theorem ggX8_line_X0_letMiss : GoodIn wsX8_line wsX0_letMiss := goodIn_r _ [46, 47, 59, 60, 61, 62, 63, 64] (by decide +kernel) (by decide +kernel)
set_option maxRecDepth 20000 in
theorem gX8_line_X0_letMiss : GoodIn wsX8_line (wsV RX8 101 RX0 yX0_letMiss wsX0_letMiss) := goodIn_app (goodIn_of _ (by decide +kernel)) ggX8_line_X0_letMiss
theorem dX8_line_0 : decode cX8_line 0 = .ok (.iload_n 1, 1) := by decide +kernel
theorem dX8_line_1 : decode cX8_line 1 = .ok (.ifCond .lt 14, 3) := by decide +kernel
theorem dX8_line_4 : decode cX8_line 4 = .ok (.iload_n 1, 1) := by decide +kernel
theorem dX8_line_5 : decode cX8_line 5 = .ok (.aload_n 0, 1) := by decide +kernel
theorem dX8_line_6 : decode cX8_line 6 = .ok (.getfield 12, 3) := by decide +kernel
theorem dX8_line_9 : decode cX8_line 9 = .ok (.getfield 95, 3) := by decide +kernel
theorem dX8_line_12 : decode cX8_line 12 = .ok (.if_icmp .lt 6, 3) := by decide +kernel
theorem dX8_line_15 : decode cX8_line 15 = .ok (.bipush (-2), 2) := by decide +kernel
theorem dX8_line_17 : decode cX8_line 17 = .ok (.ireturn, 1) := by decide +kernel
theorem dX8_line_18 : decode cX8_line 18 = .ok (.iconst 0, 1) := by decide +kernel
theorem dX8_line_19 : decode cX8_line 19 = .ok (.istore_n 3, 1) := by decide +kernel
theorem dX8_line_20 : decode cX8_line 20 = .ok (.iload_n 3, 1) := by decide +kernel
theorem dX8_line_21 : decode cX8_line 21 = .ok (.aload_n 0, 1) := by decide +kernel
theorem dX8_line_22 : decode cX8_line 22 = .ok (.getfield 12, 3) := by decide +kernel
theorem dX8_line_25 : decode cX8_line 25 = .ok (.getfield 98, 3) := by decide +kernel
theorem dX8_line_28 : decode cX8_line 28 = .ok (.if_icmp .ge 28, 3) := by decide +kernel
theorem dX8_line_31 : decode cX8_line 31 = .ok (.aload_n 0, 1) := by decide +kernel
theorem dX8_line_32 : decode cX8_line 32 = .ok (.aload_n 0, 1) := by decide +kernel
theorem dX8_line_33 : decode cX8_line 33 = .ok (.getfield 12, 3) := by decide +kernel
theorem dX8_line_36 : decode cX8_line 36 = .ok (.iload_n 3, 1) := by decide +kernel
theorem dX8_line_37 : decode cX8_line 37 = .ok (.iload_n 1, 1) := by decide +kernel
theorem dX8_line_38 : decode cX8_line 38 = .ok (.invokevirtual 77, 3) := by decide +kernel
theorem dX8_line_41 : decode cX8_line 41 = .ok (.invokevirtual 85, 3) := by decide +kernel
theorem dX8_line_44 : decode cX8_line 44 = .ok (.ifCond .eq 6, 3) := by decide +kernel
theorem dX8_line_50 : decode cX8_line 50 = .ok (.iinc 3 1, 3) := by decide +kernel
theorem dX8_line_53 : decode cX8_line 53 = .ok (.goto (-33), 3) := by decide +kernel
theorem dX8_line_56 : decode cX8_line 56 = .ok (.aload_n 0, 1) := by decide +kernel
theorem dX8_line_57 : decode cX8_line 57 = .ok (.getfield 31, 3) := by decide +kernel
theorem dX8_line_60 : decode cX8_line 60 = .ok (.invokevirtual 88, 3) := by decide +kernel
theorem dX8_line_63 : decode cX8_line 63 = .ok (.aload_n 0, 1) := by decide +kernel
theorem dX8_line_64 : decode cX8_line 64 = .ok (.getfield 12, 3) := by decide +kernel
theorem dX8_line_67 : decode cX8_line 67 = .ok (.iload_n 1, 1) := by decide +kernel
theorem dX8_line_68 : decode cX8_line 68 = .ok (.iload_n 2, 1) := by decide +kernel
theorem dX8_line_69 : decode cX8_line 69 = .ok (.invokevirtual 101, 3) := by decide +kernel
theorem dX8_line_72 : decode cX8_line 72 = .ok (.ifCond .eq 7, 3) := by decide +kernel
theorem dX8_line_79 : decode cX8_line 79 = .ok (.iconst 0, 1) := by decide +kernel
theorem dX8_line_80 : decode cX8_line 80 = .ok (.ireturn, 1) := by decide +kernel
set_option maxRecDepth 20000 in
theorem ggX8_barrel_X0_numberOf : GoodIn wsX8_barrel wsX0_numberOf := goodIn_r _ [9, 10, 11, 68, 69, 70, 71, 72, 73] (by decide +kernel) (by decide +kernel)
set_option maxRecDepth 20000 in
theorem gX8_barrel_X0_numberOf : GoodIn wsX8_barrel (wsV RX8 77 RX0 yX0_numberOf wsX0_numberOf) := goodIn_app (goodIn_of _ (by decide +kernel)) ggX8_barrel_X0_numberOf
set_option maxRecDepth 20000 in
theorem ggX8_barrel_X8_mayBeSetOn : GoodIn wsX8_barrel wsX8_mayBeSetOn := goodIn_r _ [16, 1, 3, 17, 4, 18, 19, 20, 8, 21, 22, 23, 24, 25, 26, 27, 28, 29, 30, 53, 54, 55, 56, 57, 58, 59, 60, 61, 62, 63, 64, 65, 66, 67, 68, 69, 70, 71, 72, 73] (by decide +kernel) (by decide +kernel)
set_option maxRecDepth 20000 in
theorem gX8_barrel_X8_mayBeSetOn : GoodIn wsX8_barrel (wsV RX8 105 RX8 yX8_mayBeSetOn wsX8_mayBeSetOn) := goodIn_app (goodIn_of _ (by decide +kernel)) ggX8_barrel_X8_mayBeSetOn
set_option maxRecDepth 20000 in
theorem ggX8_barrel_X5_forget : GoodIn wsX8_barrel wsX5_forget := goodIn_r _ [35, 36, 37, 74, 75, 76, 77, 78, 79] (by decide +kernel) (by decide +kernel)
set_option maxRecDepth 20000 in
theorem gX8_barrel_X5_forget : GoodIn wsX8_barrel (wsV RX8 88 RX5 yX5_forget wsX5_forget) := goodIn_app (goodIn_of _ (by decide +kernel)) ggX8_barrel_X5_forget
set_option maxRecDepth 20000 in
theorem ggX8_barrel_X3_hasBarrel : GoodIn wsX8_barrel wsX3_hasBarrel := goodIn_r _ [42, 43, 44, 15, 45, 46, 47, 48, 64, 65, 66, 67] (by decide +kernel) (by decide +kernel)
set_option maxRecDepth 20000 in
theorem gX8_barrel_X3_hasBarrel : GoodIn wsX8_barrel (wsV RX8 108 RX3 yX3_hasBarrel wsX3_hasBarrel) := goodIn_app (goodIn_of _ (by decide +kernel)) ggX8_barrel_X3_hasBarrel
set_option maxRecDepth 20000 in
theorem ggX8_barrel_X8_with : GoodIn wsX8_barrel wsX8_with := goodIn_r _ [51, 52, 46, 47, 15, 48] (by decide +kernel) (by decide +kernel)
set_option maxRecDepth 20000 in
theorem gX8_barrel_X8_with : GoodIn wsX8_barrel (va_wsS RX8 115 yX8_with wsX8_with) := goodIn_app (goodIn_of _ (by decide +kernel)) ggX8_barrel_X8_with
theorem dX8_barrel_0 : decode cX8_barrel 0 = .ok (.aload_n 0, 1) := by decide +kernel
theorem dX8_barrel_1 : decode cX8_barrel 1 = .ok (.getfield 12, 3) := by decide +kernel
theorem dX8_barrel_4 : decode cX8_barrel 4 = .ok (.iload_n 1, 1) := by decide +kernel
theorem dX8_barrel_5 : decode cX8_barrel 5 = .ok (.iload_n 2, 1) := by decide +kernel
theorem dX8_barrel_6 : decode cX8_barrel 6 = .ok (.invokevirtual 77, 3) := by decide +kernel
theorem dX8_barrel_9 : decode cX8_barrel 9 = .ok (.istore 4, 2) := by decide +kernel
theorem dX8_barrel_11 : decode cX8_barrel 11 = .ok (.iload 4, 2) := by decide +kernel
theorem dX8_barrel_13 : decode cX8_barrel 13 = .ok (.iconst (-1), 1) := by decide +kernel
theorem dX8_barrel_14 : decode cX8_barrel 14 = .ok (.if_icmp .eq 16, 3) := by decide +kernel
theorem dX8_barrel_17 : decode cX8_barrel 17 = .ok (.iload_n 3, 1) := by decide +kernel
theorem dX8_barrel_18 : decode cX8_barrel 18 = .ok (.ifCond .eq 15, 3) := by decide +kernel
theorem dX8_barrel_21 : decode cX8_barrel 21 = .ok (.aload_n 0, 1) := by decide +kernel
theorem dX8_barrel_22 : decode cX8_barrel 22 = .ok (.iload 4, 2) := by decide +kernel
theorem dX8_barrel_24 : decode cX8_barrel 24 = .ok (.invokevirtual 105, 3) := by decide +kernel
theorem dX8_barrel_27 : decode cX8_barrel 27 = .ok (.ifCond .ne 6, 3) := by decide +kernel
theorem dX8_barrel_30 : decode cX8_barrel 30 = .ok (.bipush (-2), 2) := by decide +kernel
theorem dX8_barrel_32 : decode cX8_barrel 32 = .ok (.ireturn, 1) := by decide +kernel
theorem dX8_barrel_33 : decode cX8_barrel 33 = .ok (.aload_n 0, 1) := by decide +kernel
theorem dX8_barrel_34 : decode cX8_barrel 34 = .ok (.getfield 31, 3) := by decide +kernel
theorem dX8_barrel_37 : decode cX8_barrel 37 = .ok (.invokevirtual 88, 3) := by decide +kernel
theorem dX8_barrel_40 : decode cX8_barrel 40 = .ok (.aload_n 0, 1) := by decide +kernel
theorem dX8_barrel_41 : decode cX8_barrel 41 = .ok (.getfield 21, 3) := by decide +kernel
theorem dX8_barrel_44 : decode cX8_barrel 44 = .ok (.iload 4, 2) := by decide +kernel
theorem dX8_barrel_46 : decode cX8_barrel 46 = .ok (.invokevirtual 108, 3) := by decide +kernel
theorem dX8_barrel_49 : decode cX8_barrel 49 = .ok (.istore 5, 2) := by decide +kernel
theorem dX8_barrel_51 : decode cX8_barrel 51 = .ok (.aload_n 0, 1) := by decide +kernel
theorem dX8_barrel_52 : decode cX8_barrel 52 = .ok (.getfield 21, 3) := by decide +kernel
theorem dX8_barrel_55 : decode cX8_barrel 55 = .ok (.aload_n 0, 1) := by decide +kernel
theorem dX8_barrel_56 : decode cX8_barrel 56 = .ok (.getfield 21, 3) := by decide +kernel
theorem dX8_barrel_59 : decode cX8_barrel 59 = .ok (.getfield 111, 3) := by decide +kernel
theorem dX8_barrel_62 : decode cX8_barrel 62 = .ok (.iload 4, 2) := by decide +kernel
theorem dX8_barrel_64 : decode cX8_barrel 64 = .ok (.iload_n 3, 1) := by decide +kernel
theorem dX8_barrel_65 : decode cX8_barrel 65 = .ok (.invokestatic 115, 3) := by decide +kernel
theorem dX8_barrel_68 : decode cX8_barrel 68 = .ok (.putfield 111, 3) := by decide +kernel
theorem dX8_barrel_71 : decode cX8_barrel 71 = .ok (.iload 5, 2) := by decide +kernel
theorem dX8_barrel_73 : decode cX8_barrel 73 = .ok (.ifCond .eq 7, 3) := by decide +kernel
theorem dX8_barrel_80 : decode cX8_barrel 80 = .ok (.iconst 0, 1) := by decide +kernel
theorem dX8_barrel_81 : decode cX8_barrel 81 = .ok (.ireturn, 1) := by decide +kernel
set_option maxRecDepth 20000 in
theorem ggX8_man_X0_numberOf : GoodIn wsX8_man wsX0_numberOf := goodIn_r _ [9, 10, 11, 61, 62, 63, 64, 65, 66] (by decide +kernel) (by decide +kernel)
set_option maxRecDepth 20000 in
theorem gX8_man_X0_numberOf : GoodIn wsX8_man (wsV RX8 77 RX0 yX0_numberOf wsX0_numberOf) := goodIn_app (goodIn_of _ (by decide +kernel)) ggX8_man_X0_numberOf
set_option maxRecDepth 20000 in
theorem ggX8_man_X0_isForMan : GoodIn wsX8_man wsX0_isForMan := goodIn_r _ [15, 16, 17, 18, 8, 19, 20, 21, 61, 62, 63, 64, 65, 66] (by decide +kernel) (by decide +kernel)
set_option maxRecDepth 20000 in
theorem gX8_man_X0_isForMan : GoodIn wsX8_man (wsV RX8 119 RX0 yX0_isForMan wsX0_isForMan) := goodIn_app (goodIn_of _ (by decide +kernel)) ggX8_man_X0_isForMan
theorem dX8_man_0 : decode cX8_man 0 = .ok (.aload_n 0, 1) := by decide +kernel
theorem dX8_man_1 : decode cX8_man 1 = .ok (.getfield 12, 3) := by decide +kernel
theorem dX8_man_4 : decode cX8_man 4 = .ok (.iload_n 1, 1) := by decide +kernel
theorem dX8_man_5 : decode cX8_man 5 = .ok (.iload_n 2, 1) := by decide +kernel
theorem dX8_man_6 : decode cX8_man 6 = .ok (.invokevirtual 77, 3) := by decide +kernel
theorem dX8_man_9 : decode cX8_man 9 = .ok (.istore_n 3, 1) := by decide +kernel
theorem dX8_man_10 : decode cX8_man 10 = .ok (.iload_n 3, 1) := by decide +kernel
theorem dX8_man_11 : decode cX8_man 11 = .ok (.iconst (-1), 1) := by decide +kernel
theorem dX8_man_12 : decode cX8_man 12 = .ok (.if_icmp .eq 25, 3) := by decide +kernel
theorem dX8_man_15 : decode cX8_man 15 = .ok (.aload_n 0, 1) := by decide +kernel
theorem dX8_man_16 : decode cX8_man 16 = .ok (.getfield 12, 3) := by decide +kernel
theorem dX8_man_19 : decode cX8_man 19 = .ok (.iload_n 3, 1) := by decide +kernel
theorem dX8_man_20 : decode cX8_man 20 = .ok (.invokevirtual 119, 3) := by decide +kernel
theorem dX8_man_23 : decode cX8_man 23 = .ok (.ifCond .eq 14, 3) := by decide +kernel
theorem dX8_man_37 : decode cX8_man 37 = .ok (.bipush (-2), 2) := by decide +kernel
theorem dX8_man_39 : decode cX8_man 39 = .ok (.ireturn, 1) := by decide +kernel
set_option maxRecDepth 20000 in
theorem ggX8_want_X0_numberOf : GoodIn wsX8_want wsX0_numberOf := goodIn_r _ [8, 9, 10, 46, 47, 48, 49, 50, 51] (by decide +kernel) (by decide +kernel)
set_option maxRecDepth 20000 in
theorem gX8_want_X0_numberOf : GoodIn wsX8_want (wsV RX8 77 RX0 yX0_numberOf wsX0_numberOf) := goodIn_app (goodIn_of _ (by decide +kernel)) ggX8_want_X0_numberOf
set_option maxRecDepth 20000 in
theorem ggX8_want_X0_kindNow : GoodIn wsX8_want wsX0_kindNow := goodIn_r _ [14, 15, 16, 46, 47, 48, 49, 50, 51] (by decide +kernel) (by decide +kernel)
set_option maxRecDepth 20000 in
theorem gX8_want_X0_kindNow : GoodIn wsX8_want (wsV RX8 129 RX0 yX0_kindNow wsX0_kindNow) := goodIn_app (goodIn_of _ (by decide +kernel)) ggX8_want_X0_kindNow
theorem dX8_want_0 : decode cX8_want 0 = .ok (.aload_n 0, 1) := by decide +kernel
theorem dX8_want_1 : decode cX8_want 1 = .ok (.getfield 12, 3) := by decide +kernel
theorem dX8_want_4 : decode cX8_want 4 = .ok (.iload_n 1, 1) := by decide +kernel
theorem dX8_want_5 : decode cX8_want 5 = .ok (.iload_n 2, 1) := by decide +kernel
theorem dX8_want_6 : decode cX8_want 6 = .ok (.invokevirtual 77, 3) := by decide +kernel
theorem dX8_want_9 : decode cX8_want 9 = .ok (.istore 4, 2) := by decide +kernel
theorem dX8_want_11 : decode cX8_want 11 = .ok (.aload_n 0, 1) := by decide +kernel
theorem dX8_want_12 : decode cX8_want 12 = .ok (.getfield 12, 3) := by decide +kernel
theorem dX8_want_15 : decode cX8_want 15 = .ok (.iload 4, 2) := by decide +kernel
theorem dX8_want_17 : decode cX8_want 17 = .ok (.invokevirtual 129, 3) := by decide +kernel
theorem dX8_want_20 : decode cX8_want 20 = .ok (.istore 5, 2) := by decide +kernel
theorem dX8_want_22 : decode cX8_want 22 = .ok (.iload 5, 2) := by decide +kernel
theorem dX8_want_24 : decode cX8_want 24 = .ok (.iconst 2, 1) := by decide +kernel
theorem dX8_want_25 : decode cX8_want 25 = .ok (.if_icmp .eq 12, 3) := by decide +kernel
theorem dX8_want_28 : decode cX8_want 28 = .ok (.iload 5, 2) := by decide +kernel
theorem dX8_want_30 : decode cX8_want 30 = .ok (.iconst 5, 1) := by decide +kernel
theorem dX8_want_31 : decode cX8_want 31 = .ok (.if_icmp .eq 6, 3) := by decide +kernel
theorem dX8_want_34 : decode cX8_want 34 = .ok (.bipush (-2), 2) := by decide +kernel
theorem dX8_want_36 : decode cX8_want 36 = .ok (.ireturn, 1) := by decide +kernel
set_option maxRecDepth 20000 in
theorem ggX8_step_X3_become : GoodIn wsX8_step wsX3_become := goodIn_r _ [8, 9, 10, 11, 12, 109, 110, 111, 112] (by decide +kernel) (by decide +kernel)
set_option maxRecDepth 20000 in
theorem gX8_step_X3_become : GoodIn wsX8_step (wsV RX8 140 RX3 yX3_become wsX3_become) := goodIn_app (goodIn_of _ (by decide +kernel)) ggX8_step_X3_become
set_option maxRecDepth 20000 in
theorem ggX8_step_X3_advance : GoodIn wsX8_step wsX3_advance := goodIn_r _ [16, 9, 11, 12, 17, 18, 19, 7, 20, 21, 22, 23, 24, 25, 26, 27, 28, 29, 30, 31, 32, 33, 34, 35, 36, 37, 38, 39, 40, 10, 41, 42, 43, 44, 45, 46, 47, 48, 49, 50, 51, 52, 53, 54, 55, 56, 57, 58, 59, 60, 61, 62, 63, 64, 65, 66, 67, 68, 69, 70, 71, 72, 73, 109, 110, 111, 112, 113, 114, 115, 116, 117, 118] (by decide +kernel) (by decide +kernel)
set_option maxRecDepth 20000 in
theorem gX8_step_X3_advance : GoodIn wsX8_step (wsV RX8 144 RX3 yX3_advance wsX3_advance) := goodIn_app (goodIn_of _ (by decide +kernel)) ggX8_step_X3_advance
set_option maxRecDepth 20000 in
theorem ggX8_step_X8_act : GoodIn wsX8_step wsX8_act := goodIn_r _ [77, 78, 2, 1, 79, 80, 81, 82, 83, 84, 85, 86, 87, 88, 89, 90, 91, 92, 93, 94, 95, 96, 97, 4, 5, 6, 7, 8, 9, 10, 11, 12, 98, 99, 100, 101, 102, 103, 104, 105, 106, 107, 108, 119, 120, 121, 122, 123, 124, 109, 110, 111, 112] (by decide +kernel) (by decide +kernel)
set_option maxRecDepth 20000 in
theorem gX8_step_X8_act : GoodIn wsX8_step (wsV RX8 148 RX8 yX8_act wsX8_act) := goodIn_app (goodIn_of _ (by decide +kernel)) ggX8_step_X8_act
theorem dX8_step_0 : decode cX8_step 0 = .ok (.aload_n 0, 1) := by decide +kernel
theorem dX8_step_1 : decode cX8_step 1 = .ok (.getfield 25, 3) := by decide +kernel
theorem dX8_step_4 : decode cX8_step 4 = .ok (.aload_n 0, 1) := by decide +kernel
theorem dX8_step_5 : decode cX8_step 5 = .ok (.getfield 21, 3) := by decide +kernel
theorem dX8_step_8 : decode cX8_step 8 = .ok (.invokevirtual 140, 3) := by decide +kernel
theorem dX8_step_11 : decode cX8_step 11 = .ok (.aload_n 0, 1) := by decide +kernel
theorem dX8_step_12 : decode cX8_step 12 = .ok (.aload_n 0, 1) := by decide +kernel
theorem dX8_step_13 : decode cX8_step 13 = .ok (.getfield 25, 3) := by decide +kernel
theorem dX8_step_16 : decode cX8_step 16 = .ok (.aload_n 0, 1) := by decide +kernel
theorem dX8_step_17 : decode cX8_step 17 = .ok (.getfield 12, 3) := by decide +kernel
theorem dX8_step_20 : decode cX8_step 20 = .ok (.iload_n 1, 1) := by decide +kernel
theorem dX8_step_21 : decode cX8_step 21 = .ok (.invokevirtual 144, 3) := by decide +kernel
theorem dX8_step_24 : decode cX8_step 24 = .ok (.invokevirtual 148, 3) := by decide +kernel
theorem dX8_step_27 : decode cX8_step 27 = .ok (.ireturn, 1) := by decide +kernel
set_option maxRecDepth 20000 in
theorem ggX8_walk_X0_numberOf : GoodIn wsX8_walk wsX0_numberOf := goodIn_r _ [7, 8, 9, 120, 121, 122, 123, 124, 125] (by decide +kernel) (by decide +kernel)
set_option maxRecDepth 20000 in
theorem gX8_walk_X0_numberOf : GoodIn wsX8_walk (wsV RX8 77 RX0 yX0_numberOf wsX0_numberOf) := goodIn_app (goodIn_of _ (by decide +kernel)) ggX8_walk_X0_numberOf
set_option maxRecDepth 20000 in
theorem ggX8_walk_X3_hasMan : GoodIn wsX8_walk wsX3_hasMan := goodIn_r _ [14, 15, 126, 127, 128, 129] (by decide +kernel) (by decide +kernel)
set_option maxRecDepth 20000 in
theorem gX8_walk_X3_hasMan : GoodIn wsX8_walk (wsV RX8 122 RX3 yX3_hasMan wsX3_hasMan) := goodIn_app (goodIn_of _ (by decide +kernel)) ggX8_walk_X3_hasMan
theorem dX8_walk_0 : decode cX8_walk 0 = .ok (.aload_n 0, 1) := by decide +kernel
theorem dX8_walk_1 : decode cX8_walk 1 = .ok (.getfield 12, 3) := by decide +kernel
theorem dX8_walk_4 : decode cX8_walk 4 = .ok (.iload_n 1, 1) := by decide +kernel
theorem dX8_walk_5 : decode cX8_walk 5 = .ok (.iload_n 2, 1) := by decide +kernel
theorem dX8_walk_6 : decode cX8_walk 6 = .ok (.invokevirtual 77, 3) := by decide +kernel
theorem dX8_walk_9 : decode cX8_walk 9 = .ok (.istore_n 3, 1) := by decide +kernel
theorem dX8_walk_10 : decode cX8_walk 10 = .ok (.aload_n 0, 1) := by decide +kernel
theorem dX8_walk_11 : decode cX8_walk 11 = .ok (.getfield 21, 3) := by decide +kernel
theorem dX8_walk_14 : decode cX8_walk 14 = .ok (.invokevirtual 122, 3) := by decide +kernel
theorem dX8_walk_17 : decode cX8_walk 17 = .ok (.ifCond .eq 8, 3) := by decide +kernel
theorem dX8_walk_25 : decode cX8_walk 25 = .ok (.bipush (-2), 2) := by decide +kernel
theorem dX8_walk_27 : decode cX8_walk 27 = .ok (.ireturn, 1) := by decide +kernel
set_option maxRecDepth 20000 in
theorem ggX8_push_X8_tryPush : GoodIn wsX8_push wsX8_tryPush := goodIn_r _ [5, 6, 7, 8, 9, 10, 11, 12, 13, 14, 15, 16, 17, 18, 19, 20, 21, 22, 23, 4, 24, 25, 26, 27, 28, 29, 30, 31, 32, 33, 34, 35, 36, 37, 38, 39, 40, 41, 42, 43, 44, 45, 46, 47, 48, 49, 50, 51, 52, 53, 54, 55, 56, 57, 58, 59, 60, 61, 62, 63, 64, 65, 66, 67, 68, 69, 70, 71, 72, 73, 74, 75, 76, 77, 78, 79, 80, 81, 82, 83, 84, 85, 86, 87, 88, 89, 90, 91, 92, 93, 94, 95, 96, 97, 98, 99, 100, 101, 102, 103, 104, 105, 106, 107, 108, 109, 110, 111, 112, 113, 114, 115, 116, 117, 142, 143, 144, 145, 146, 147, 148, 149, 150, 151, 152, 153, 154, 155, 156, 157, 158, 159, 160, 161, 162, 163, 164, 165] (by decide +kernel) (by decide +kernel)
set_option maxRecDepth 20000 in
theorem gX8_push_X8_tryPush : GoodIn wsX8_push (wsV RX8 154 RX8 yX8_tryPush wsX8_tryPush) := goodIn_app (goodIn_of _ (by decide +kernel)) ggX8_push_X8_tryPush
set_option maxRecDepth 20000 in
theorem ggX8_push_X8_act : GoodIn wsX8_push wsX8_act := goodIn_r _ [121, 122, 7, 8, 123, 124, 125, 126, 127, 128, 129, 130, 131, 132, 133, 134, 135, 136, 137, 138, 139, 140, 141, 89, 90, 91, 19, 92, 21, 29, 93, 94, 142, 143, 144, 145, 146, 147, 148, 149, 150, 151, 152, 166, 167, 168, 169, 170, 171, 159, 160, 161, 162] (by decide +kernel) (by decide +kernel)
set_option maxRecDepth 20000 in
theorem gX8_push_X8_act : GoodIn wsX8_push (wsV RX8 148 RX8 yX8_act wsX8_act) := goodIn_app (goodIn_of _ (by decide +kernel)) ggX8_push_X8_act
theorem dX8_push_0 : decode cX8_push 0 = .ok (.aload_n 0, 1) := by decide +kernel
theorem dX8_push_1 : decode cX8_push 1 = .ok (.aload_n 0, 1) := by decide +kernel
theorem dX8_push_2 : decode cX8_push 2 = .ok (.iload_n 1, 1) := by decide +kernel
theorem dX8_push_3 : decode cX8_push 3 = .ok (.iload_n 2, 1) := by decide +kernel
theorem dX8_push_4 : decode cX8_push 4 = .ok (.iload_n 3, 1) := by decide +kernel
theorem dX8_push_5 : decode cX8_push 5 = .ok (.invokevirtual 154, 3) := by decide +kernel
theorem dX8_push_8 : decode cX8_push 8 = .ok (.invokevirtual 148, 3) := by decide +kernel
theorem dX8_push_11 : decode cX8_push 11 = .ok (.ireturn, 1) := by decide +kernel
set_option maxRecDepth 20000 in
theorem ggX8_can_X8_tryPush : GoodIn wsX8_can wsX8_tryPush := goodIn_r _ [5, 6, 7, 8, 9, 10, 11, 12, 13, 14, 15, 16, 17, 18, 19, 20, 21, 22, 23, 4, 24, 25, 26, 27, 28, 29, 30, 31, 32, 33, 34, 35, 36, 37, 38, 39, 40, 41, 42, 43, 44, 45, 46, 47, 48, 49, 50, 51, 52, 53, 54, 55, 56, 57, 58, 59, 60, 61, 62, 63, 64, 65, 66, 67, 68, 69, 70, 71, 72, 73, 74, 75, 76, 77, 78, 79, 80, 81, 82, 83, 84, 85, 86, 87, 88, 89, 90, 91, 92, 93, 94, 95, 96, 97, 98, 99, 100, 101, 102, 103, 104, 105, 106, 107, 108, 109, 110, 111, 112, 113, 114, 115, 116, 117, 118, 119, 120, 121, 122, 123, 124, 125, 126, 127, 128, 129, 130, 131, 132, 133, 134, 135, 136, 137, 138, 139, 140, 141] (by decide +kernel) (by decide +kernel)
set_option maxRecDepth 20000 in
theorem gX8_can_X8_tryPush : GoodIn wsX8_can (wsV RX8 154 RX8 yX8_tryPush wsX8_tryPush) := goodIn_app (goodIn_of _ (by decide +kernel)) ggX8_can_X8_tryPush
theorem dX8_can_0 : decode cX8_can 0 = .ok (.aload_n 0, 1) := by decide +kernel
theorem dX8_can_1 : decode cX8_can 1 = .ok (.iload_n 1, 1) := by decide +kernel
theorem dX8_can_2 : decode cX8_can 2 = .ok (.iload_n 2, 1) := by decide +kernel
theorem dX8_can_3 : decode cX8_can 3 = .ok (.iload_n 3, 1) := by decide +kernel
theorem dX8_can_4 : decode cX8_can 4 = .ok (.invokevirtual 154, 3) := by decide +kernel
theorem dX8_can_7 : decode cX8_can 7 = .ok (.ireturn, 1) := by decide +kernel
set_option maxRecDepth 20000 in
theorem ggX8_undo_X5_goBack : GoodIn wsX8_undo wsX5_goBack := goodIn_r _ [7, 8, 9, 10, 11, 6, 12, 13, 14, 15, 16, 17, 18, 19, 20, 32, 33, 34, 35, 36, 37, 38, 39, 40, 41] (by decide +kernel) (by decide +kernel)
set_option maxRecDepth 20000 in
theorem gX8_undo_X5_goBack : GoodIn wsX8_undo (wsV RX8 157 RX5 yX5_goBack wsX5_goBack) := goodIn_app (goodIn_of _ (by decide +kernel)) ggX8_undo_X5_goBack
theorem dX8_undo_0 : decode cX8_undo 0 = .ok (.aload_n 0, 1) := by decide +kernel
theorem dX8_undo_1 : decode cX8_undo 1 = .ok (.getfield 31, 3) := by decide +kernel
theorem dX8_undo_4 : decode cX8_undo 4 = .ok (.aload_n 0, 1) := by decide +kernel
theorem dX8_undo_5 : decode cX8_undo 5 = .ok (.getfield 21, 3) := by decide +kernel
theorem dX8_undo_8 : decode cX8_undo 8 = .ok (.invokevirtual 157, 3) := by decide +kernel
theorem dX8_undo_11 : decode cX8_undo 11 = .ok (.ireturn, 1) := by decide +kernel
set_option maxRecDepth 20000 in
theorem ggX8_redo_X5_goForth : GoodIn wsX8_redo wsX5_goForth := goodIn_r _ [7, 8, 9, 10, 11, 12, 6, 13, 14, 15, 16, 17, 18, 19, 20, 21, 33, 34, 35, 36, 37, 38, 39, 40, 41, 42] (by decide +kernel) (by decide +kernel)
set_option maxRecDepth 20000 in
theorem gX8_redo_X5_goForth : GoodIn wsX8_redo (wsV RX8 161 RX5 yX5_goForth wsX5_goForth) := goodIn_app (goodIn_of _ (by decide +kernel)) ggX8_redo_X5_goForth
theorem dX8_redo_0 : decode cX8_redo 0 = .ok (.aload_n 0, 1) := by decide +kernel
theorem dX8_redo_1 : decode cX8_redo 1 = .ok (.getfield 31, 3) := by decide +kernel
theorem dX8_redo_4 : decode cX8_redo 4 = .ok (.aload_n 0, 1) := by decide +kernel
theorem dX8_redo_5 : decode cX8_redo 5 = .ok (.getfield 21, 3) := by decide +kernel
theorem dX8_redo_8 : decode cX8_redo 8 = .ok (.invokevirtual 161, 3) := by decide +kernel
theorem dX8_redo_11 : decode cX8_redo 11 = .ok (.ireturn, 1) := by decide +kernel
set_option maxRecDepth 20000 in
theorem ggX8_kind_X0_numberOf : GoodIn wsX8_kind wsX0_numberOf := goodIn_r _ [6, 7, 8, 26, 27, 28, 29, 30, 31] (by decide +kernel) (by decide +kernel)
set_option maxRecDepth 20000 in
theorem gX8_kind_X0_numberOf : GoodIn wsX8_kind (wsV RX8 77 RX0 yX0_numberOf wsX0_numberOf) := goodIn_app (goodIn_of _ (by decide +kernel)) ggX8_kind_X0_numberOf
set_option maxRecDepth 20000 in
theorem ggX8_kind_X0_kindNow : GoodIn wsX8_kind wsX0_kindNow := goodIn_r _ [12, 13, 14, 26, 27, 28, 29, 30, 31] (by decide +kernel) (by decide +kernel)
set_option maxRecDepth 20000 in
theorem gX8_kind_X0_kindNow : GoodIn wsX8_kind (wsV RX8 129 RX0 yX0_kindNow wsX0_kindNow) := goodIn_app (goodIn_of _ (by decide +kernel)) ggX8_kind_X0_kindNow
theorem dX8_kind_0 : decode cX8_kind 0 = .ok (.aload_n 0, 1) := by decide +kernel
theorem dX8_kind_1 : decode cX8_kind 1 = .ok (.getfield 12, 3) := by decide +kernel
theorem dX8_kind_4 : decode cX8_kind 4 = .ok (.iload_n 1, 1) := by decide +kernel
theorem dX8_kind_5 : decode cX8_kind 5 = .ok (.iload_n 2, 1) := by decide +kernel
theorem dX8_kind_6 : decode cX8_kind 6 = .ok (.invokevirtual 77, 3) := by decide +kernel
theorem dX8_kind_9 : decode cX8_kind 9 = .ok (.istore_n 3, 1) := by decide +kernel
theorem dX8_kind_10 : decode cX8_kind 10 = .ok (.iload_n 3, 1) := by decide +kernel
theorem dX8_kind_11 : decode cX8_kind 11 = .ok (.iconst (-1), 1) := by decide +kernel
theorem dX8_kind_12 : decode cX8_kind 12 = .ok (.if_icmp .ne 8, 3) := by decide +kernel
theorem dX8_kind_15 : decode cX8_kind 15 = .ok (.bipush (-2), 2) := by decide +kernel
theorem dX8_kind_17 : decode cX8_kind 17 = .ok (.goto 11, 3) := by decide +kernel
theorem dX8_kind_20 : decode cX8_kind 20 = .ok (.aload_n 0, 1) := by decide +kernel
theorem dX8_kind_21 : decode cX8_kind 21 = .ok (.getfield 12, 3) := by decide +kernel
theorem dX8_kind_24 : decode cX8_kind 24 = .ok (.iload_n 3, 1) := by decide +kernel
theorem dX8_kind_25 : decode cX8_kind 25 = .ok (.invokevirtual 129, 3) := by decide +kernel
theorem dX8_kind_28 : decode cX8_kind 28 = .ok (.ireturn, 1) := by decide +kernel
set_option maxRecDepth 20000 in
theorem ggX8_on_X0_numberOf : GoodIn wsX8_on wsX0_numberOf := goodIn_r _ [9, 10, 11, 40, 41, 42, 43, 44, 45] (by decide +kernel) (by decide +kernel)
set_option maxRecDepth 20000 in
theorem gX8_on_X0_numberOf : GoodIn wsX8_on (wsV RX8 77 RX0 yX0_numberOf wsX0_numberOf) := goodIn_app (goodIn_of _ (by decide +kernel)) ggX8_on_X0_numberOf
set_option maxRecDepth 20000 in
theorem ggX8_on_X3_hasBarrel : GoodIn wsX8_on wsX3_hasBarrel := goodIn_r _ [16, 17, 18, 19, 20, 21, 22, 23, 36, 37, 38, 39] (by decide +kernel) (by decide +kernel)
set_option maxRecDepth 20000 in
theorem gX8_on_X3_hasBarrel : GoodIn wsX8_on (wsV RX8 108 RX3 yX3_hasBarrel wsX3_hasBarrel) := goodIn_app (goodIn_of _ (by decide +kernel)) ggX8_on_X3_hasBarrel
set_option maxRecDepth 20000 in
theorem ggX8_on_X8_has : GoodIn wsX8_on wsX8_has := goodIn_r _ [20, 21, 22, 19, 23] (by decide +kernel) (by decide +kernel)
set_option maxRecDepth 20000 in
theorem gX8_on_X8_has : GoodIn wsX8_on (va_wsS RX8 136 yX8_has wsX8_has) := goodIn_app (goodIn_of _ (by decide +kernel)) ggX8_on_X8_has
theorem dX8_on_0 : decode cX8_on 0 = .ok (.aload_n 0, 1) := by decide +kernel
theorem dX8_on_1 : decode cX8_on 1 = .ok (.getfield 12, 3) := by decide +kernel
theorem dX8_on_4 : decode cX8_on 4 = .ok (.iload_n 1, 1) := by decide +kernel
theorem dX8_on_5 : decode cX8_on 5 = .ok (.iload_n 2, 1) := by decide +kernel
theorem dX8_on_6 : decode cX8_on 6 = .ok (.invokevirtual 77, 3) := by decide +kernel
theorem dX8_on_9 : decode cX8_on 9 = .ok (.istore_n 3, 1) := by decide +kernel
theorem dX8_on_10 : decode cX8_on 10 = .ok (.iload_n 3, 1) := by decide +kernel
theorem dX8_on_11 : decode cX8_on 11 = .ok (.iconst (-1), 1) := by decide +kernel
theorem dX8_on_12 : decode cX8_on 12 = .ok (.if_icmp .ne 6, 3) := by decide +kernel
theorem dX8_on_15 : decode cX8_on 15 = .ok (.bipush (-2), 2) := by decide +kernel
theorem dX8_on_17 : decode cX8_on 17 = .ok (.ireturn, 1) := by decide +kernel
theorem dX8_on_18 : decode cX8_on 18 = .ok (.aload_n 0, 1) := by decide +kernel
theorem dX8_on_19 : decode cX8_on 19 = .ok (.getfield 21, 3) := by decide +kernel
theorem dX8_on_22 : decode cX8_on 22 = .ok (.iload_n 3, 1) := by decide +kernel
theorem dX8_on_23 : decode cX8_on 23 = .ok (.invokevirtual 108, 3) := by decide +kernel
theorem dX8_on_26 : decode cX8_on 26 = .ok (.ifCond .eq 7, 3) := by decide +kernel
theorem dX8_on_33 : decode cX8_on 33 = .ok (.aload_n 0, 1) := by decide +kernel
theorem dX8_on_34 : decode cX8_on 34 = .ok (.getfield 21, 3) := by decide +kernel
theorem dX8_on_37 : decode cX8_on 37 = .ok (.getfield 126, 3) := by decide +kernel
theorem dX8_on_40 : decode cX8_on 40 = .ok (.iload_n 3, 1) := by decide +kernel
theorem dX8_on_41 : decode cX8_on 41 = .ok (.if_icmp .ne 7, 3) := by decide +kernel
theorem dX8_on_48 : decode cX8_on 48 = .ok (.iconst 0, 1) := by decide +kernel
theorem dX8_on_49 : decode cX8_on 49 = .ok (.istore 4, 2) := by decide +kernel
theorem dX8_on_51 : decode cX8_on 51 = .ok (.aload_n 0, 1) := by decide +kernel
theorem dX8_on_52 : decode cX8_on 52 = .ok (.getfield 12, 3) := by decide +kernel
theorem dX8_on_55 : decode cX8_on 55 = .ok (.getfield 133, 3) := by decide +kernel
theorem dX8_on_58 : decode cX8_on 58 = .ok (.iload_n 3, 1) := by decide +kernel
theorem dX8_on_59 : decode cX8_on 59 = .ok (.invokestatic 136, 3) := by decide +kernel
theorem dX8_on_62 : decode cX8_on 62 = .ok (.ifCond .eq 10, 3) := by decide +kernel
theorem dX8_on_72 : decode cX8_on 72 = .ok (.iload 4, 2) := by decide +kernel
theorem dX8_on_74 : decode cX8_on 74 = .ok (.ireturn, 1) := by decide +kernel
set_option maxRecDepth 20000 in
theorem ggX8_far_X0_numberOf : GoodIn wsX8_far wsX0_numberOf := goodIn_r _ [8, 9, 10, 83, 84, 85, 86, 87, 88] (by decide +kernel) (by decide +kernel)
set_option maxRecDepth 20000 in
theorem gX8_far_X0_numberOf : GoodIn wsX8_far (wsV RX8 77 RX0 yX0_numberOf wsX0_numberOf) := goodIn_app (goodIn_of _ (by decide +kernel)) ggX8_far_X0_numberOf
set_option maxRecDepth 20000 in
theorem ggX8_far_X3_hasMan : GoodIn wsX8_far wsX3_hasMan := goodIn_r _ [15, 16, 89, 90, 91, 92] (by decide +kernel) (by decide +kernel)
set_option maxRecDepth 20000 in
theorem gX8_far_X3_hasMan : GoodIn wsX8_far (wsV RX8 122 RX3 yX3_hasMan wsX3_hasMan) := goodIn_app (goodIn_of _ (by decide +kernel)) ggX8_far_X3_hasMan
theorem dX8_far_0 : decode cX8_far 0 = .ok (.aload_n 0, 1) := by decide +kernel
theorem dX8_far_1 : decode cX8_far 1 = .ok (.getfield 12, 3) := by decide +kernel
theorem dX8_far_4 : decode cX8_far 4 = .ok (.iload_n 1, 1) := by decide +kernel
theorem dX8_far_5 : decode cX8_far 5 = .ok (.iload_n 2, 1) := by decide +kernel
theorem dX8_far_6 : decode cX8_far 6 = .ok (.invokevirtual 77, 3) := by decide +kernel
theorem dX8_far_9 : decode cX8_far 9 = .ok (.istore_n 3, 1) := by decide +kernel
theorem dX8_far_10 : decode cX8_far 10 = .ok (.aload_n 0, 1) := by decide +kernel
theorem dX8_far_11 : decode cX8_far 11 = .ok (.getfield 21, 3) := by decide +kernel
theorem dX8_far_14 : decode cX8_far 14 = .ok (.invokevirtual 122, 3) := by decide +kernel
theorem dX8_far_17 : decode cX8_far 17 = .ok (.ifCond .eq 8, 3) := by decide +kernel
theorem dX8_far_25 : decode cX8_far 25 = .ok (.bipush (-2), 2) := by decide +kernel
theorem dX8_far_27 : decode cX8_far 27 = .ok (.ireturn, 1) := by decide +kernel
set_option maxRecDepth 20000 in
theorem ggX8_isDone_X8_isDoneIn : GoodIn wsX8_isDone wsX8_isDoneIn := goodIn_r _ [6, 7, 8, 9, 10, 11, 12, 13, 14, 15, 16, 17, 18, 19, 20, 21, 22, 23, 24, 25, 26, 27, 28, 29, 30, 31] (by decide +kernel) (by decide +kernel)
set_option maxRecDepth 20000 in
theorem gX8_isDone_X8_isDoneIn : GoodIn wsX8_isDone (wsV RX8 171 RX8 yX8_isDoneIn wsX8_isDoneIn) := goodIn_app (goodIn_of _ (by decide +kernel)) ggX8_isDone_X8_isDoneIn
theorem dX8_isDone_0 : decode cX8_isDone 0 = .ok (.aload_n 0, 1) := by decide +kernel
theorem dX8_isDone_1 : decode cX8_isDone 1 = .ok (.aload_n 0, 1) := by decide +kernel
theorem dX8_isDone_2 : decode cX8_isDone 2 = .ok (.getfield 21, 3) := by decide +kernel
theorem dX8_isDone_5 : decode cX8_isDone 5 = .ok (.invokevirtual 171, 3) := by decide +kernel
theorem dX8_isDone_8 : decode cX8_isDone 8 = .ok (.ireturn, 1) := by decide +kernel
set_option maxRecDepth 20000 in
theorem ggX8_isReady_J13_bitCount_95d88 : GoodIn wsX8_isReady wsJ13_bitCount_95d88 := goodIn_r _ [8, 9, 10, 11] (by decide +kernel) (by decide +kernel)
set_option maxRecDepth 20000 in
theorem gX8_isReady_J13_bitCount_95d88 : GoodIn wsX8_isReady (va_wsS RX8 175 yJ13_bitCount_95d88 wsJ13_bitCount_95d88) := goodIn_app (goodIn_of _ (by decide +kernel)) ggX8_isReady_J13_bitCount_95d88
set_option maxRecDepth 20000 in
theorem ggX8_isReady_X3_hasMan : GoodIn wsX8_isReady wsX3_hasMan := goodIn_r _ [16, 17, 29, 30, 31, 32] (by decide +kernel) (by decide +kernel)
set_option maxRecDepth 20000 in
theorem gX8_isReady_X3_hasMan : GoodIn wsX8_isReady (wsV RX8 122 RX3 yX3_hasMan wsX3_hasMan) := goodIn_app (goodIn_of _ (by decide +kernel)) ggX8_isReady_X3_hasMan
theorem dX8_isReady_0 : decode cX8_isReady 0 = .ok (.aload_n 0, 1) := by decide +kernel
theorem dX8_isReady_1 : decode cX8_isReady 1 = .ok (.getfield 21, 3) := by decide +kernel
theorem dX8_isReady_4 : decode cX8_isReady 4 = .ok (.getfield 111, 3) := by decide +kernel
theorem dX8_isReady_7 : decode cX8_isReady 7 = .ok (.invokestatic 175, 3) := by decide +kernel
theorem dX8_isReady_10 : decode cX8_isReady 10 = .ok (.istore_n 1, 1) := by decide +kernel
theorem dX8_isReady_11 : decode cX8_isReady 11 = .ok (.aload_n 0, 1) := by decide +kernel
theorem dX8_isReady_12 : decode cX8_isReady 12 = .ok (.getfield 21, 3) := by decide +kernel
theorem dX8_isReady_15 : decode cX8_isReady 15 = .ok (.invokevirtual 122, 3) := by decide +kernel
theorem dX8_isReady_18 : decode cX8_isReady 18 = .ok (.ifCond .eq 26, 3) := by decide +kernel
theorem dX8_isReady_44 : decode cX8_isReady 44 = .ok (.iconst 0, 1) := by decide +kernel
theorem dX8_isReady_45 : decode cX8_isReady 45 = .ok (.ireturn, 1) := by decide +kernel
set_option maxRecDepth 20000 in
theorem ggX8_dead_X0_numberOf : GoodIn wsX8_dead wsX0_numberOf := goodIn_r _ [7, 8, 9, 93, 94, 95, 96, 97, 98] (by decide +kernel) (by decide +kernel)
set_option maxRecDepth 20000 in
theorem gX8_dead_X0_numberOf : GoodIn wsX8_dead (wsV RX8 77 RX0 yX0_numberOf wsX0_numberOf) := goodIn_app (goodIn_of _ (by decide +kernel)) ggX8_dead_X0_numberOf
set_option maxRecDepth 20000 in
theorem ggX8_dead_X2_isDead : GoodIn wsX8_dead wsX2_isDead := goodIn_r _ [14, 15, 16, 17, 18, 19, 6, 20, 21, 22, 23, 24, 25, 13, 26, 27, 28, 29, 30, 31, 32, 33, 34, 35, 36, 37, 38, 39, 40, 41, 42, 43, 44, 45, 46, 47, 48, 49, 50, 51, 52, 4, 5, 7, 8, 9, 53, 54, 55, 56, 57, 58, 59, 60, 61, 62, 63, 64, 65, 66, 67, 68, 69, 70, 71, 72, 73, 74, 75, 76, 77, 78, 79, 80, 81, 93, 94, 95, 96, 97, 98, 99, 100, 101] (by decide +kernel) (by decide +kernel)
set_option maxRecDepth 20000 in
theorem gX8_dead_X2_isDead : GoodIn wsX8_dead (wsV RX8 181 RX2 yX2_isDead wsX2_isDead) := goodIn_app (goodIn_of _ (by decide +kernel)) ggX8_dead_X2_isDead
theorem dX8_dead_0 : decode cX8_dead 0 = .ok (.aload_n 0, 1) := by decide +kernel
theorem dX8_dead_1 : decode cX8_dead 1 = .ok (.getfield 12, 3) := by decide +kernel
theorem dX8_dead_4 : decode cX8_dead 4 = .ok (.iload_n 1, 1) := by decide +kernel
theorem dX8_dead_5 : decode cX8_dead 5 = .ok (.iload_n 2, 1) := by decide +kernel
theorem dX8_dead_6 : decode cX8_dead 6 = .ok (.invokevirtual 77, 3) := by decide +kernel
theorem dX8_dead_9 : decode cX8_dead 9 = .ok (.istore_n 3, 1) := by decide +kernel
theorem dX8_dead_10 : decode cX8_dead 10 = .ok (.iload_n 3, 1) := by decide +kernel
theorem dX8_dead_11 : decode cX8_dead 11 = .ok (.iconst (-1), 1) := by decide +kernel
theorem dX8_dead_12 : decode cX8_dead 12 = .ok (.if_icmp .ne 6, 3) := by decide +kernel
theorem dX8_dead_15 : decode cX8_dead 15 = .ok (.bipush (-2), 2) := by decide +kernel
theorem dX8_dead_17 : decode cX8_dead 17 = .ok (.ireturn, 1) := by decide +kernel
theorem dX8_dead_18 : decode cX8_dead 18 = .ok (.aload_n 0, 1) := by decide +kernel
theorem dX8_dead_19 : decode cX8_dead 19 = .ok (.getfield 45, 3) := by decide +kernel
theorem dX8_dead_22 : decode cX8_dead 22 = .ok (.aload_n 0, 1) := by decide +kernel
theorem dX8_dead_23 : decode cX8_dead 23 = .ok (.getfield 12, 3) := by decide +kernel
theorem dX8_dead_26 : decode cX8_dead 26 = .ok (.iload_n 3, 1) := by decide +kernel
theorem dX8_dead_27 : decode cX8_dead 27 = .ok (.invokevirtual 181, 3) := by decide +kernel
theorem dX8_dead_30 : decode cX8_dead 30 = .ok (.ifCond .eq 7, 3) := by decide +kernel
theorem dX8_dead_37 : decode cX8_dead 37 = .ok (.iconst 0, 1) := by decide +kernel
theorem dX8_dead_38 : decode cX8_dead 38 = .ok (.ireturn, 1) := by decide +kernel
set_option maxRecDepth 20000 in
theorem ggX8_held_X0_numberOf : GoodIn wsX8_held wsX0_numberOf := goodIn_r _ [6, 7, 8, 58, 59, 60, 61, 62, 63] (by decide +kernel) (by decide +kernel)
set_option maxRecDepth 20000 in
theorem gX8_held_X0_numberOf : GoodIn wsX8_held (wsV RX8 77 RX0 yX0_numberOf wsX0_numberOf) := goodIn_app (goodIn_of _ (by decide +kernel)) ggX8_held_X0_numberOf
set_option maxRecDepth 20000 in
theorem ggX8_held_X8_heldBarrels : GoodIn wsX8_held wsX8_heldBarrels := goodIn_r _ [13, 14, 15, 16, 17, 12, 18, 19, 20, 21, 22, 23, 24, 25, 1, 26, 27, 28, 5, 29, 30, 31, 32, 33, 34, 35, 36, 37, 38, 39, 40, 41, 42, 3, 4, 6, 7, 8, 43, 44, 45, 46, 47, 48, 49, 50, 51, 52, 53, 54, 55, 56, 57, 64, 65, 66, 67, 58, 59, 60, 61, 62, 63] (by decide +kernel) (by decide +kernel)
set_option maxRecDepth 20000 in
theorem gX8_held_X8_heldBarrels : GoodIn wsX8_held (wsV RX8 185 RX8 yX8_heldBarrels wsX8_heldBarrels) := goodIn_app (goodIn_of _ (by decide +kernel)) ggX8_held_X8_heldBarrels
set_option maxRecDepth 20000 in
theorem ggX8_held_X8_has : GoodIn wsX8_held wsX8_has := goodIn_r _ [18, 19, 20, 12, 21] (by decide +kernel) (by decide +kernel)
set_option maxRecDepth 20000 in
theorem gX8_held_X8_has : GoodIn wsX8_held (va_wsS RX8 136 yX8_has wsX8_has) := goodIn_app (goodIn_of _ (by decide +kernel)) ggX8_held_X8_has
theorem dX8_held_0 : decode cX8_held 0 = .ok (.aload_n 0, 1) := by decide +kernel
theorem dX8_held_1 : decode cX8_held 1 = .ok (.getfield 12, 3) := by decide +kernel
theorem dX8_held_4 : decode cX8_held 4 = .ok (.iload_n 1, 1) := by decide +kernel
theorem dX8_held_5 : decode cX8_held 5 = .ok (.iload_n 2, 1) := by decide +kernel
theorem dX8_held_6 : decode cX8_held 6 = .ok (.invokevirtual 77, 3) := by decide +kernel
theorem dX8_held_9 : decode cX8_held 9 = .ok (.istore_n 3, 1) := by decide +kernel
theorem dX8_held_10 : decode cX8_held 10 = .ok (.iload_n 3, 1) := by decide +kernel
theorem dX8_held_11 : decode cX8_held 11 = .ok (.iconst (-1), 1) := by decide +kernel
theorem dX8_held_12 : decode cX8_held 12 = .ok (.if_icmp .ne 6, 3) := by decide +kernel
theorem dX8_held_15 : decode cX8_held 15 = .ok (.bipush (-2), 2) := by decide +kernel
theorem dX8_held_17 : decode cX8_held 17 = .ok (.ireturn, 1) := by decide +kernel
theorem dX8_held_18 : decode cX8_held 18 = .ok (.aload_n 0, 1) := by decide +kernel
theorem dX8_held_19 : decode cX8_held 19 = .ok (.invokevirtual 185, 3) := by decide +kernel
theorem dX8_held_22 : decode cX8_held 22 = .ok (.iload_n 3, 1) := by decide +kernel
theorem dX8_held_23 : decode cX8_held 23 = .ok (.invokestatic 136, 3) := by decide +kernel
theorem dX8_held_26 : decode cX8_held 26 = .ok (.ifCond .eq 7, 3) := by decide +kernel
theorem dX8_held_33 : decode cX8_held 33 = .ok (.iconst 0, 1) := by decide +kernel
theorem dX8_held_34 : decode cX8_held 34 = .ok (.ireturn, 1) := by decide +kernel
set_option maxRecDepth 20000 in
theorem ggX8_spoilt_X8_isReady : GoodIn wsX8_spoilt wsX8_isReady := goodIn_r _ [9, 10, 11, 2, 3, 12, 13, 14, 15, 16, 17, 18, 19, 20, 21, 22, 23, 24, 133, 134, 135, 136, 137, 138, 139, 140, 141, 142, 143, 150, 151, 152, 153, 144, 145, 146, 147, 148, 149] (by decide +kernel) (by decide +kernel)
set_option maxRecDepth 20000 in
theorem gX8_spoilt_X8_isReady : GoodIn wsX8_spoilt (wsV RX8 189 RX8 yX8_isReady wsX8_isReady) := goodIn_app (goodIn_of _ (by decide +kernel)) ggX8_spoilt_X8_isReady
theorem dX8_spoilt_0 : decode cX8_spoilt 0 = .ok (.aload_n 0, 1) := by decide +kernel
theorem dX8_spoilt_1 : decode cX8_spoilt 1 = .ok (.invokevirtual 189, 3) := by decide +kernel
theorem dX8_spoilt_4 : decode cX8_spoilt 4 = .ok (.ifCond .ne 6, 3) := by decide +kernel
theorem dX8_spoilt_7 : decode cX8_spoilt 7 = .ok (.bipush (-2), 2) := by decide +kernel
theorem dX8_spoilt_9 : decode cX8_spoilt 9 = .ok (.ireturn, 1) := by decide +kernel
theorem dX8_why_0 : decode cX8_why 0 = .ok (.aload_n 0, 1) := by decide +kernel
theorem dX8_why_1 : decode cX8_why 1 = .ok (.getfield 73, 3) := by decide +kernel
theorem dX8_why_4 : decode cX8_why 4 = .ok (.ireturn, 1) := by decide +kernel
set_option maxRecDepth 20000 in
theorem ggX8_low_X8_isReady : GoodIn wsX8_low wsX8_isReady := goodIn_r _ [10, 4, 5, 2, 11, 12, 13, 14, 15, 16, 17, 18, 19, 20, 21, 22, 23, 24, 131, 132, 133, 134, 135, 136, 137, 138, 139, 140, 141, 142, 143, 144, 145, 146, 147, 148, 149, 150, 151] (by decide +kernel) (by decide +kernel)
set_option maxRecDepth 20000 in
theorem gX8_low_X8_isReady : GoodIn wsX8_low (wsV RX8 189 RX8 yX8_isReady wsX8_isReady) := goodIn_app (goodIn_of _ (by decide +kernel)) ggX8_low_X8_isReady
theorem dX8_low_0 : decode cX8_low 0 = .ok (.aload_n 0, 1) := by decide +kernel
theorem dX8_low_1 : decode cX8_low 1 = .ok (.invokevirtual 189, 3) := by decide +kernel
theorem dX8_low_4 : decode cX8_low 4 = .ok (.ifCond .eq 28, 3) := by decide +kernel
theorem dX8_low_32 : decode cX8_low 32 = .ok (.bipush (-2), 2) := by decide +kernel
theorem dX8_low_34 : decode cX8_low 34 = .ok (.ireturn, 1) := by decide +kernel
set_option maxRecDepth 20000 in
theorem ggX8_price_X0_numberOf : GoodIn wsX8_price wsX0_numberOf := goodIn_r _ [7, 8, 9, 86, 87, 88, 89, 90, 91] (by decide +kernel) (by decide +kernel)
set_option maxRecDepth 20000 in
theorem gX8_price_X0_numberOf : GoodIn wsX8_price (wsV RX8 77 RX0 yX0_numberOf wsX0_numberOf) := goodIn_app (goodIn_of _ (by decide +kernel)) ggX8_price_X0_numberOf
set_option maxRecDepth 20000 in
theorem ggX8_price_X0_kindNow : GoodIn wsX8_price wsX0_kindNow := goodIn_r _ [13, 14, 15, 86, 87, 88, 89, 90, 91] (by decide +kernel) (by decide +kernel)
set_option maxRecDepth 20000 in
theorem gX8_price_X0_kindNow : GoodIn wsX8_price (wsV RX8 129 RX0 yX0_kindNow wsX0_kindNow) := goodIn_app (goodIn_of _ (by decide +kernel)) ggX8_price_X0_kindNow
theorem dX8_price_0 : decode cX8_price 0 = .ok (.aload_n 0, 1) := by decide +kernel
theorem dX8_price_1 : decode cX8_price 1 = .ok (.getfield 12, 3) := by decide +kernel
theorem dX8_price_4 : decode cX8_price 4 = .ok (.iload_n 1, 1) := by decide +kernel
theorem dX8_price_5 : decode cX8_price 5 = .ok (.iload_n 2, 1) := by decide +kernel
theorem dX8_price_6 : decode cX8_price 6 = .ok (.invokevirtual 77, 3) := by decide +kernel
theorem dX8_price_9 : decode cX8_price 9 = .ok (.istore 5, 2) := by decide +kernel
theorem dX8_price_11 : decode cX8_price 11 = .ok (.aload_n 0, 1) := by decide +kernel
theorem dX8_price_12 : decode cX8_price 12 = .ok (.getfield 12, 3) := by decide +kernel
theorem dX8_price_15 : decode cX8_price 15 = .ok (.iload_n 3, 1) := by decide +kernel
theorem dX8_price_16 : decode cX8_price 16 = .ok (.iload 4, 2) := by decide +kernel
theorem dX8_price_18 : decode cX8_price 18 = .ok (.invokevirtual 77, 3) := by decide +kernel
theorem dX8_price_21 : decode cX8_price 21 = .ok (.istore 6, 2) := by decide +kernel
theorem dX8_price_23 : decode cX8_price 23 = .ok (.aload_n 0, 1) := by decide +kernel
theorem dX8_price_24 : decode cX8_price 24 = .ok (.getfield 12, 3) := by decide +kernel
theorem dX8_price_27 : decode cX8_price 27 = .ok (.iload 5, 2) := by decide +kernel
theorem dX8_price_29 : decode cX8_price 29 = .ok (.invokevirtual 129, 3) := by decide +kernel
theorem dX8_price_32 : decode cX8_price 32 = .ok (.ifCond .eq 15, 3) := by decide +kernel
theorem dX8_price_47 : decode cX8_price 47 = .ok (.bipush (-2), 2) := by decide +kernel
theorem dX8_price_49 : decode cX8_price 49 = .ok (.ireturn, 1) := by decide +kernel
set_option maxRecDepth 20000 in
theorem ggX8_fewest_X8_isReady : GoodIn wsX8_fewest wsX8_isReady := goodIn_r _ [10, 1, 2, 3, 11, 12, 13, 14, 15, 16, 17, 18, 19, 20, 21, 22, 23, 24, 273, 274, 275, 276, 277, 278, 279, 280, 281, 282, 283, 284, 285, 286, 287, 288, 289, 290, 291, 292, 293] (by decide +kernel) (by decide +kernel)
set_option maxRecDepth 20000 in
theorem gX8_fewest_X8_isReady : GoodIn wsX8_fewest (wsV RX8 189 RX8 yX8_isReady wsX8_isReady) := goodIn_app (goodIn_of _ (by decide +kernel)) ggX8_fewest_X8_isReady
theorem dX8_fewest_0 : decode cX8_fewest 0 = .ok (.aload_n 0, 1) := by decide +kernel
theorem dX8_fewest_1 : decode cX8_fewest 1 = .ok (.invokevirtual 189, 3) := by decide +kernel
theorem dX8_fewest_4 : decode cX8_fewest 4 = .ok (.ifCond .eq 17, 3) := by decide +kernel
theorem dX8_fewest_21 : decode cX8_fewest 21 = .ok (.bipush (-2), 2) := by decide +kernel
theorem dX8_fewest_23 : decode cX8_fewest 23 = .ok (.ireturn, 1) := by decide +kernel
theorem dX8_steps_0 : decode cX8_steps 0 = .ok (.aload_n 0, 1) := by decide +kernel
theorem dX8_steps_1 : decode cX8_steps 1 = .ok (.getfield 66, 3) := by decide +kernel
theorem dX8_steps_4 : decode cX8_steps 4 = .ok (.getfield 221, 3) := by decide +kernel
theorem dX8_steps_7 : decode cX8_steps 7 = .ok (.ireturn, 1) := by decide +kernel
set_option maxRecDepth 20000 in
theorem ggX8_plan_X7_wayAt : GoodIn wsX8_plan wsX7_wayAt := goodIn_r _ [6, 7, 8, 9, 10, 5, 11, 12, 24, 25] (by decide +kernel) (by decide +kernel)
set_option maxRecDepth 20000 in
theorem gX8_plan_X7_wayAt : GoodIn wsX8_plan (wsV RX8 224 RX7 yX7_wayAt wsX7_wayAt) := goodIn_app (goodIn_of _ (by decide +kernel)) ggX8_plan_X7_wayAt
theorem dX8_plan_0 : decode cX8_plan 0 = .ok (.aload_n 0, 1) := by decide +kernel
theorem dX8_plan_1 : decode cX8_plan 1 = .ok (.getfield 66, 3) := by decide +kernel
theorem dX8_plan_4 : decode cX8_plan 4 = .ok (.iload_n 1, 1) := by decide +kernel
theorem dX8_plan_5 : decode cX8_plan 5 = .ok (.invokevirtual 224, 3) := by decide +kernel
theorem dX8_plan_8 : decode cX8_plan 8 = .ok (.ireturn, 1) := by decide +kernel
set_option maxRecDepth 20000 in
theorem ggX8_follow_X3_become : GoodIn wsX8_follow wsX3_become := goodIn_r _ [10, 11, 12, 13, 14, 129, 130, 131, 132] (by decide +kernel) (by decide +kernel)
set_option maxRecDepth 20000 in
theorem gX8_follow_X3_become : GoodIn wsX8_follow (wsV RX8 140 RX3 yX3_become wsX3_become) := goodIn_app (goodIn_of _ (by decide +kernel)) ggX8_follow_X3_become
set_option maxRecDepth 20000 in
theorem ggX8_follow_X3_advanceBy : GoodIn wsX8_follow wsX3_advanceBy := goodIn_r _ [18, 19, 20, 21, 22, 23, 24, 25, 26, 27, 28, 29, 30, 31, 32, 33, 9, 34, 11, 13, 14, 35, 36, 37, 38, 39, 40, 41, 42, 43, 44, 45, 46, 47, 48, 49, 50, 51, 52, 53, 54, 55, 56, 57, 58, 12, 59, 60, 61, 62, 63, 64, 65, 66, 67, 68, 69, 70, 71, 72, 73, 74, 75, 76, 77, 78, 79, 80, 81, 82, 83, 84, 85, 86, 87, 88, 89, 90, 91, 127, 128, 129, 130, 131, 132, 133, 134, 135, 136, 137, 138] (by decide +kernel) (by decide +kernel)
set_option maxRecDepth 20000 in
theorem gX8_follow_X3_advanceBy : GoodIn wsX8_follow (wsV RX8 227 RX3 yX3_advanceBy wsX3_advanceBy) := goodIn_app (goodIn_of _ (by decide +kernel)) ggX8_follow_X3_advanceBy
theorem dX8_follow_0 : decode cX8_follow 0 = .ok (.aload_n 0, 1) := by decide +kernel
theorem dX8_follow_1 : decode cX8_follow 1 = .ok (.getfield 25, 3) := by decide +kernel
theorem dX8_follow_4 : decode cX8_follow 4 = .ok (.aload_n 0, 1) := by decide +kernel
theorem dX8_follow_5 : decode cX8_follow 5 = .ok (.getfield 21, 3) := by decide +kernel
theorem dX8_follow_8 : decode cX8_follow 8 = .ok (.invokevirtual 140, 3) := by decide +kernel
theorem dX8_follow_11 : decode cX8_follow 11 = .ok (.aload_n 0, 1) := by decide +kernel
theorem dX8_follow_12 : decode cX8_follow 12 = .ok (.getfield 25, 3) := by decide +kernel
theorem dX8_follow_15 : decode cX8_follow 15 = .ok (.aload_n 0, 1) := by decide +kernel
theorem dX8_follow_16 : decode cX8_follow 16 = .ok (.getfield 12, 3) := by decide +kernel
theorem dX8_follow_19 : decode cX8_follow 19 = .ok (.aload_n 0, 1) := by decide +kernel
theorem dX8_follow_20 : decode cX8_follow 20 = .ok (.getfield 66, 3) := by decide +kernel
theorem dX8_follow_23 : decode cX8_follow 23 = .ok (.invokevirtual 227, 3) := by decide +kernel
theorem dX8_follow_26 : decode cX8_follow 26 = .ok (.istore_n 1, 1) := by decide +kernel
theorem dX8_follow_27 : decode cX8_follow 27 = .ok (.iload_n 1, 1) := by decide +kernel
theorem dX8_follow_28 : decode cX8_follow 28 = .ok (.ifCond .eq 14, 3) := by decide +kernel
theorem dX8_follow_42 : decode cX8_follow 42 = .ok (.bipush (-2), 2) := by decide +kernel
theorem dX8_follow_44 : decode cX8_follow 44 = .ok (.ireturn, 1) := by decide +kernel
set_option maxRecDepth 20000 in
theorem ggX8_tell_X8_isWay : GoodIn wsX8_tell wsX8_isWay := goodIn_r _ [6] (by decide +kernel) (by decide +kernel)
set_option maxRecDepth 20000 in
theorem gX8_tell_X8_isWay : GoodIn wsX8_tell (va_wsS RX8 81 yX8_isWay wsX8_isWay) := goodIn_app (goodIn_of _ (by decide +kernel)) ggX8_tell_X8_isWay
set_option maxRecDepth 20000 in
theorem ggX8_tell_X7_append : GoodIn wsX8_tell wsX7_append := goodIn_r _ [11, 12, 13, 14, 15, 16, 17, 18, 19, 20, 21, 22, 23, 24, 25, 26, 27, 28, 29, 30, 31, 32, 33, 45, 46] (by decide +kernel) (by decide +kernel)
set_option maxRecDepth 20000 in
theorem gX8_tell_X7_append : GoodIn wsX8_tell (wsV RX8 231 RX7 yX7_append wsX7_append) := goodIn_app (goodIn_of _ (by decide +kernel)) ggX8_tell_X7_append
theorem dX8_tell_0 : decode cX8_tell 0 = .ok (.iload_n 1, 1) := by decide +kernel
theorem dX8_tell_1 : decode cX8_tell 1 = .ok (.invokestatic 81, 3) := by decide +kernel
theorem dX8_tell_4 : decode cX8_tell 4 = .ok (.ifCond .eq 16, 3) := by decide +kernel
theorem dX8_tell_7 : decode cX8_tell 7 = .ok (.aload_n 0, 1) := by decide +kernel
theorem dX8_tell_8 : decode cX8_tell 8 = .ok (.getfield 70, 3) := by decide +kernel
theorem dX8_tell_11 : decode cX8_tell 11 = .ok (.getfield 221, 3) := by decide +kernel
theorem dX8_tell_14 : decode cX8_tell 14 = .ok (.sipush 400, 3) := by decide +kernel
theorem dX8_tell_17 : decode cX8_tell 17 = .ok (.if_icmp .lt 6, 3) := by decide +kernel
theorem dX8_tell_20 : decode cX8_tell 20 = .ok (.bipush (-2), 2) := by decide +kernel
theorem dX8_tell_22 : decode cX8_tell 22 = .ok (.ireturn, 1) := by decide +kernel
theorem dX8_tell_23 : decode cX8_tell 23 = .ok (.aload_n 0, 1) := by decide +kernel
theorem dX8_tell_24 : decode cX8_tell 24 = .ok (.getfield 70, 3) := by decide +kernel
theorem dX8_tell_27 : decode cX8_tell 27 = .ok (.iload_n 1, 1) := by decide +kernel
theorem dX8_tell_28 : decode cX8_tell 28 = .ok (.invokevirtual 231, 3) := by decide +kernel
theorem dX8_tell_31 : decode cX8_tell 31 = .ok (.aload_n 0, 1) := by decide +kernel
theorem dX8_tell_32 : decode cX8_tell 32 = .ok (.getfield 70, 3) := by decide +kernel
theorem dX8_tell_35 : decode cX8_tell 35 = .ok (.getfield 221, 3) := by decide +kernel
theorem dX8_tell_38 : decode cX8_tell 38 = .ok (.ireturn, 1) := by decide +kernel
set_option maxRecDepth 20000 in
theorem ggX8_copy_X7_become : GoodIn wsX8_copy wsX7_become := goodIn_r _ [8, 9, 10, 11, 12, 7, 13, 14, 15, 16, 17, 18, 19, 20, 21, 22, 23, 24, 25, 26, 27, 28, 29, 30, 31, 32, 33, 34, 35, 36, 37, 38, 39, 40, 41, 42, 54, 55] (by decide +kernel) (by decide +kernel)
set_option maxRecDepth 20000 in
theorem gX8_copy_X7_become : GoodIn wsX8_copy (wsV RX8 235 RX7 yX7_become wsX7_become) := goodIn_app (goodIn_of _ (by decide +kernel)) ggX8_copy_X7_become
theorem dX8_copy_0 : decode cX8_copy 0 = .ok (.aload_n 0, 1) := by decide +kernel
theorem dX8_copy_1 : decode cX8_copy 1 = .ok (.getfield 66, 3) := by decide +kernel
theorem dX8_copy_4 : decode cX8_copy 4 = .ok (.getfield 221, 3) := by decide +kernel
theorem dX8_copy_7 : decode cX8_copy 7 = .ok (.sipush 400, 3) := by decide +kernel
theorem dX8_copy_10 : decode cX8_copy 10 = .ok (.if_icmp .le 6, 3) := by decide +kernel
theorem dX8_copy_16 : decode cX8_copy 16 = .ok (.aload_n 0, 1) := by decide +kernel
theorem dX8_copy_17 : decode cX8_copy 17 = .ok (.getfield 70, 3) := by decide +kernel
theorem dX8_copy_20 : decode cX8_copy 20 = .ok (.aload_n 0, 1) := by decide +kernel
theorem dX8_copy_21 : decode cX8_copy 21 = .ok (.getfield 66, 3) := by decide +kernel
theorem dX8_copy_24 : decode cX8_copy 24 = .ok (.invokevirtual 235, 3) := by decide +kernel
theorem dX8_copy_27 : decode cX8_copy 27 = .ok (.aload_n 0, 1) := by decide +kernel
theorem dX8_copy_28 : decode cX8_copy 28 = .ok (.getfield 70, 3) := by decide +kernel
theorem dX8_copy_31 : decode cX8_copy 31 = .ok (.getfield 221, 3) := by decide +kernel
theorem dX8_copy_34 : decode cX8_copy 34 = .ok (.ireturn, 1) := by decide +kernel
set_option maxRecDepth 20000 in
theorem ggX8_forge_X7_wayAt : GoodIn wsX8_forge wsX7_wayAt := goodIn_r _ [6, 7, 8, 9, 10, 5, 11, 12, 32, 33] (by decide +kernel) (by decide +kernel)
set_option maxRecDepth 20000 in
theorem gX8_forge_X7_wayAt : GoodIn wsX8_forge (wsV RX8 224 RX7 yX7_wayAt wsX7_wayAt) := goodIn_app (goodIn_of _ (by decide +kernel)) ggX8_forge_X7_wayAt
theorem dX8_forge_0 : decode cX8_forge 0 = .ok (.aload_n 0, 1) := by decide +kernel
theorem dX8_forge_1 : decode cX8_forge 1 = .ok (.getfield 70, 3) := by decide +kernel
theorem dX8_forge_4 : decode cX8_forge 4 = .ok (.iload_n 1, 1) := by decide +kernel
theorem dX8_forge_5 : decode cX8_forge 5 = .ok (.invokevirtual 224, 3) := by decide +kernel
theorem dX8_forge_8 : decode cX8_forge 8 = .ok (.istore_n 3, 1) := by decide +kernel
theorem dX8_forge_9 : decode cX8_forge 9 = .ok (.iload_n 3, 1) := by decide +kernel
theorem dX8_forge_10 : decode cX8_forge 10 = .ok (.bipush (-2), 2) := by decide +kernel
theorem dX8_forge_12 : decode cX8_forge 12 = .ok (.if_icmp .eq 10, 3) := by decide +kernel
theorem dX8_forge_22 : decode cX8_forge 22 = .ok (.bipush (-2), 2) := by decide +kernel
theorem dX8_forge_24 : decode cX8_forge 24 = .ok (.ireturn, 1) := by decide +kernel
theorem dX8_hush_0 : decode cX8_hush 0 = .ok (.aload_n 0, 1) := by decide +kernel
theorem dX8_hush_1 : decode cX8_hush 1 = .ok (.getfield 70, 3) := by decide +kernel
theorem dX8_hush_4 : decode cX8_hush 4 = .ok (.getfield 221, 3) := by decide +kernel
theorem dX8_hush_7 : decode cX8_hush 7 = .ok (.istore_n 1, 1) := by decide +kernel
theorem dX8_hush_8 : decode cX8_hush 8 = .ok (.aload_n 0, 1) := by decide +kernel
theorem dX8_hush_9 : decode cX8_hush 9 = .ok (.getfield 70, 3) := by decide +kernel
theorem dX8_hush_12 : decode cX8_hush 12 = .ok (.iconst 0, 1) := by decide +kernel
theorem dX8_hush_13 : decode cX8_hush 13 = .ok (.putfield 221, 3) := by decide +kernel
theorem dX8_hush_16 : decode cX8_hush 16 = .ok (.iload_n 1, 1) := by decide +kernel
theorem dX8_hush_17 : decode cX8_hush 17 = .ok (.ireturn, 1) := by decide +kernel
set_option maxRecDepth 20000 in
theorem ggX8_check_X3_hasMan : GoodIn wsX8_check wsX3_hasMan := goodIn_r _ [10, 11, 112, 113, 114, 115] (by decide +kernel) (by decide +kernel)
set_option maxRecDepth 20000 in
theorem gX8_check_X3_hasMan : GoodIn wsX8_check (wsV RX8 122 RX3 yX3_hasMan wsX3_hasMan) := goodIn_app (goodIn_of _ (by decide +kernel)) ggX8_check_X3_hasMan
theorem dX8_check_0 : decode cX8_check 0 = .ok (.aload_n 0, 1) := by decide +kernel
theorem dX8_check_1 : decode cX8_check 1 = .ok (.getfield 21, 3) := by decide +kernel
theorem dX8_check_4 : decode cX8_check 4 = .ok (.invokevirtual 122, 3) := by decide +kernel
theorem dX8_check_7 : decode cX8_check 7 = .ok (.ifCond .ne 6, 3) := by decide +kernel
theorem dX8_check_10 : decode cX8_check 10 = .ok (.bipush (-2), 2) := by decide +kernel
theorem dX8_check_12 : decode cX8_check 12 = .ok (.ireturn, 1) := by decide +kernel
theorem dX8_isWay_0 : decode cX8_isWay 0 = .ok (.iload_n 0, 1) := by decide +kernel
theorem dX8_isWay_1 : decode cX8_isWay 1 = .ok (.ifCond .lt 12, 3) := by decide +kernel
theorem dX8_isWay_4 : decode cX8_isWay 4 = .ok (.iload_n 0, 1) := by decide +kernel
theorem dX8_isWay_5 : decode cX8_isWay 5 = .ok (.iconst 4, 1) := by decide +kernel
theorem dX8_isWay_6 : decode cX8_isWay 6 = .ok (.if_icmp .ge 7, 3) := by decide +kernel
theorem dX8_isWay_9 : decode cX8_isWay 9 = .ok (.iconst 1, 1) := by decide +kernel
theorem dX8_isWay_10 : decode cX8_isWay 10 = .ok (.goto 4, 3) := by decide +kernel
theorem dX8_isWay_13 : decode cX8_isWay 13 = .ok (.iconst 0, 1) := by decide +kernel
theorem dX8_isWay_14 : decode cX8_isWay 14 = .ok (.ireturn, 1) := by decide +kernel
theorem dX8_isField_0 : decode cX8_isField 0 = .ok (.iload_n 0, 1) := by decide +kernel
theorem dX8_isField_1 : decode cX8_isField 1 = .ok (.ifCond .lt 13, 3) := by decide +kernel
theorem dX8_isField_4 : decode cX8_isField 4 = .ok (.iload_n 0, 1) := by decide +kernel
theorem dX8_isField_5 : decode cX8_isField 5 = .ok (.bipush 64, 2) := by decide +kernel
theorem dX8_isField_7 : decode cX8_isField 7 = .ok (.if_icmp .ge 7, 3) := by decide +kernel
theorem dX8_isField_10 : decode cX8_isField 10 = .ok (.iconst 1, 1) := by decide +kernel
theorem dX8_isField_11 : decode cX8_isField 11 = .ok (.goto 4, 3) := by decide +kernel
theorem dX8_isField_14 : decode cX8_isField 14 = .ok (.iconst 0, 1) := by decide +kernel
theorem dX8_isField_15 : decode cX8_isField 15 = .ok (.ireturn, 1) := by decide +kernel
set_option maxRecDepth 20000 in
theorem ggX8_has_X8_isField : GoodIn wsX8_has wsX8_isField := goodIn_r _ [4] (by decide +kernel) (by decide +kernel)
set_option maxRecDepth 20000 in
theorem gX8_has_X8_isField : GoodIn wsX8_has (va_wsS RX8 253 yX8_isField wsX8_isField) := goodIn_app (goodIn_of _ (by decide +kernel)) ggX8_has_X8_isField
theorem dX8_has_0 : decode cX8_has 0 = .ok (.iload_n 2, 1) := by decide +kernel
theorem dX8_has_1 : decode cX8_has 1 = .ok (.invokestatic 253, 3) := by decide +kernel
theorem dX8_has_4 : decode cX8_has 4 = .ok (.ifCond .eq 17, 3) := by decide +kernel
theorem dX8_has_7 : decode cX8_has 7 = .ok (.lload_n 0, 1) := by decide +kernel
theorem dX8_has_8 : decode cX8_has 8 = .ok (.iload_n 2, 1) := by decide +kernel
theorem dX8_has_9 : decode cX8_has 9 = .ok (.lushr, 1) := by decide +kernel
theorem dX8_has_10 : decode cX8_has 10 = .ok (.lconst 1, 1) := by decide +kernel
theorem dX8_has_11 : decode cX8_has 11 = .ok (.land, 1) := by decide +kernel
theorem dX8_has_12 : decode cX8_has 12 = .ok (.lconst 0, 1) := by decide +kernel
theorem dX8_has_13 : decode cX8_has 13 = .ok (.lcmp, 1) := by decide +kernel
theorem dX8_has_14 : decode cX8_has 14 = .ok (.ifCond .eq 7, 3) := by decide +kernel
theorem dX8_has_21 : decode cX8_has 21 = .ok (.iconst 0, 1) := by decide +kernel
theorem dX8_has_22 : decode cX8_has 22 = .ok (.ireturn, 1) := by decide +kernel
set_option maxRecDepth 20000 in
theorem ggX8_with_X8_isField : GoodIn wsX8_with wsX8_isField := goodIn_r _ [5] (by decide +kernel) (by decide +kernel)
set_option maxRecDepth 20000 in
theorem gX8_with_X8_isField : GoodIn wsX8_with (va_wsS RX8 253 yX8_isField wsX8_isField) := goodIn_app (goodIn_of _ (by decide +kernel)) ggX8_with_X8_isField
theorem dX8_with_0 : decode cX8_with 0 = .ok (.iload_n 2, 1) := by decide +kernel
theorem dX8_with_1 : decode cX8_with 1 = .ok (.invokestatic 253, 3) := by decide +kernel
theorem dX8_with_4 : decode cX8_with 4 = .ok (.ifCond .ne 5, 3) := by decide +kernel
theorem dX8_with_9 : decode cX8_with 9 = .ok (.lconst 1, 1) := by decide +kernel
theorem dX8_with_10 : decode cX8_with 10 = .ok (.iload_n 2, 1) := by decide +kernel
theorem dX8_with_11 : decode cX8_with 11 = .ok (.lshl, 1) := by decide +kernel
theorem dX8_with_12 : decode cX8_with 12 = .ok (.lstore 4, 2) := by decide +kernel
theorem dX8_with_14 : decode cX8_with 14 = .ok (.iload_n 3, 1) := by decide +kernel
theorem dX8_with_15 : decode cX8_with 15 = .ok (.ifCond .eq 10, 3) := by decide +kernel
theorem dX8_with_25 : decode cX8_with 25 = .ok (.lload_n 0, 1) := by decide +kernel
theorem dX8_with_26 : decode cX8_with 26 = .ok (.lload 4, 2) := by decide +kernel
theorem dX8_with_28 : decode cX8_with 28 = .ok (.ldc2_w 196, 3) := by decide +kernel
theorem dX8_with_31 : decode cX8_with 31 = .ok (.lxor, 1) := by decide +kernel
theorem dX8_with_32 : decode cX8_with 32 = .ok (.land, 1) := by decide +kernel
theorem dX8_with_33 : decode cX8_with 33 = .ok (.lreturn, 1) := by decide +kernel
set_option maxRecDepth 20000 in
theorem ggX8_isInUse_X3_isTaken : GoodIn wsX8_isInUse wsX3_isTaken := goodIn_r _ [8, 9, 10, 11, 12, 7, 13, 14, 15, 16, 17, 18, 19, 20, 39, 40, 41, 42] (by decide +kernel) (by decide +kernel)
set_option maxRecDepth 20000 in
theorem gX8_isInUse_X3_isTaken : GoodIn wsX8_isInUse (wsV RX8 256 RX3 yX3_isTaken wsX3_isTaken) := goodIn_app (goodIn_of _ (by decide +kernel)) ggX8_isInUse_X3_isTaken
set_option maxRecDepth 20000 in
theorem ggX8_isInUse_X8_has : GoodIn wsX8_isInUse wsX8_has := goodIn_r _ [17, 18, 19, 16, 20] (by decide +kernel) (by decide +kernel)
set_option maxRecDepth 20000 in
theorem gX8_isInUse_X8_has : GoodIn wsX8_isInUse (va_wsS RX8 136 yX8_has wsX8_has) := goodIn_app (goodIn_of _ (by decide +kernel)) ggX8_isInUse_X8_has
theorem dX8_isInUse_0 : decode cX8_isInUse 0 = .ok (.aload_n 0, 1) := by decide +kernel
theorem dX8_isInUse_1 : decode cX8_isInUse 1 = .ok (.getfield 21, 3) := by decide +kernel
theorem dX8_isInUse_4 : decode cX8_isInUse 4 = .ok (.iload_n 1, 1) := by decide +kernel
theorem dX8_isInUse_5 : decode cX8_isInUse 5 = .ok (.invokevirtual 256, 3) := by decide +kernel
theorem dX8_isInUse_8 : decode cX8_isInUse 8 = .ok (.ifCond .ne 17, 3) := by decide +kernel
theorem dX8_isInUse_11 : decode cX8_isInUse 11 = .ok (.aload_n 0, 1) := by decide +kernel
theorem dX8_isInUse_12 : decode cX8_isInUse 12 = .ok (.getfield 12, 3) := by decide +kernel
theorem dX8_isInUse_15 : decode cX8_isInUse 15 = .ok (.getfield 133, 3) := by decide +kernel
theorem dX8_isInUse_18 : decode cX8_isInUse 18 = .ok (.iload_n 1, 1) := by decide +kernel
theorem dX8_isInUse_19 : decode cX8_isInUse 19 = .ok (.invokestatic 136, 3) := by decide +kernel
theorem dX8_isInUse_22 : decode cX8_isInUse 22 = .ok (.ifCond .eq 7, 3) := by decide +kernel
theorem dX8_isInUse_29 : decode cX8_isInUse 29 = .ok (.iconst 0, 1) := by decide +kernel
theorem dX8_isInUse_30 : decode cX8_isInUse 30 = .ok (.ireturn, 1) := by decide +kernel
set_option maxRecDepth 20000 in
theorem ggX8_mayBeSetOn_X0_kindNow : GoodIn wsX8_mayBeSetOn wsX0_kindNow := goodIn_r _ [9, 10, 11, 34, 35, 36, 37, 38, 39] (by decide +kernel) (by decide +kernel)
set_option maxRecDepth 20000 in
theorem gX8_mayBeSetOn_X0_kindNow : GoodIn wsX8_mayBeSetOn (wsV RX8 129 RX0 yX0_kindNow wsX0_kindNow) := goodIn_app (goodIn_of _ (by decide +kernel)) ggX8_mayBeSetOn_X0_kindNow
theorem dX8_mayBeSetOn_0 : decode cX8_mayBeSetOn 0 = .ok (.aload_n 0, 1) := by decide +kernel
theorem dX8_mayBeSetOn_1 : decode cX8_mayBeSetOn 1 = .ok (.getfield 12, 3) := by decide +kernel
theorem dX8_mayBeSetOn_4 : decode cX8_mayBeSetOn 4 = .ok (.iload_n 1, 1) := by decide +kernel
theorem dX8_mayBeSetOn_5 : decode cX8_mayBeSetOn 5 = .ok (.invokevirtual 129, 3) := by decide +kernel
theorem dX8_mayBeSetOn_8 : decode cX8_mayBeSetOn 8 = .ok (.ifCond .eq 33, 3) := by decide +kernel
theorem dX8_mayBeSetOn_41 : decode cX8_mayBeSetOn 41 = .ok (.iconst 0, 1) := by decide +kernel
theorem dX8_mayBeSetOn_42 : decode cX8_mayBeSetOn 42 = .ok (.ireturn, 1) := by decide +kernel
theorem dX8_isDoneIn_0 : decode cX8_isDoneIn 0 = .ok (.aload_n 0, 1) := by decide +kernel
theorem dX8_isDoneIn_1 : decode cX8_isDoneIn 1 = .ok (.getfield 12, 3) := by decide +kernel
theorem dX8_isDoneIn_4 : decode cX8_isDoneIn 4 = .ok (.getfield 133, 3) := by decide +kernel
theorem dX8_isDoneIn_7 : decode cX8_isDoneIn 7 = .ok (.aload_n 1, 1) := by decide +kernel
theorem dX8_isDoneIn_8 : decode cX8_isDoneIn 8 = .ok (.getfield 111, 3) := by decide +kernel
theorem dX8_isDoneIn_11 : decode cX8_isDoneIn 11 = .ok (.ldc2_w 196, 3) := by decide +kernel
theorem dX8_isDoneIn_14 : decode cX8_isDoneIn 14 = .ok (.lxor, 1) := by decide +kernel
theorem dX8_isDoneIn_15 : decode cX8_isDoneIn 15 = .ok (.land, 1) := by decide +kernel
theorem dX8_isDoneIn_16 : decode cX8_isDoneIn 16 = .ok (.lconst 0, 1) := by decide +kernel
theorem dX8_isDoneIn_17 : decode cX8_isDoneIn 17 = .ok (.lcmp, 1) := by decide +kernel
theorem dX8_isDoneIn_18 : decode cX8_isDoneIn 18 = .ok (.ifCond .ne 7, 3) := by decide +kernel
theorem dX8_isDoneIn_21 : decode cX8_isDoneIn 21 = .ok (.iconst 1, 1) := by decide +kernel
theorem dX8_isDoneIn_22 : decode cX8_isDoneIn 22 = .ok (.goto 4, 3) := by decide +kernel
theorem dX8_isDoneIn_26 : decode cX8_isDoneIn 26 = .ok (.ireturn, 1) := by decide +kernel
theorem dX8_act_0 : decode cX8_act 0 = .ok (.iload_n 1, 1) := by decide +kernel
theorem dX8_act_1 : decode cX8_act 1 = .ok (.ifCond .lt 29, 3) := by decide +kernel
theorem dX8_act_30 : decode cX8_act 30 = .ok (.iload_n 1, 1) := by decide +kernel
theorem dX8_act_31 : decode cX8_act 31 = .ok (.ireturn, 1) := by decide +kernel
set_option maxRecDepth 20000 in
theorem ggX8_tryPush_X0_numberOf : GoodIn wsX8_tryPush wsX0_numberOf := goodIn_r _ [8, 9, 10, 125, 126, 127, 128, 129, 130] (by decide +kernel) (by decide +kernel)
set_option maxRecDepth 20000 in
theorem gX8_tryPush_X0_numberOf : GoodIn wsX8_tryPush (wsV RX8 77 RX0 yX0_numberOf wsX0_numberOf) := goodIn_app (goodIn_of _ (by decide +kernel)) ggX8_tryPush_X0_numberOf
set_option maxRecDepth 20000 in
theorem ggX8_tryPush_X3_hasMan : GoodIn wsX8_tryPush wsX3_hasMan := goodIn_r _ [15, 16, 131, 132, 133, 134] (by decide +kernel) (by decide +kernel)
set_option maxRecDepth 20000 in
theorem gX8_tryPush_X3_hasMan : GoodIn wsX8_tryPush (wsV RX8 122 RX3 yX3_hasMan wsX3_hasMan) := goodIn_app (goodIn_of _ (by decide +kernel)) ggX8_tryPush_X3_hasMan
theorem dX8_tryPush_0 : decode cX8_tryPush 0 = .ok (.aload_n 0, 1) := by decide +kernel
theorem dX8_tryPush_1 : decode cX8_tryPush 1 = .ok (.getfield 12, 3) := by decide +kernel
theorem dX8_tryPush_4 : decode cX8_tryPush 4 = .ok (.iload_n 1, 1) := by decide +kernel
theorem dX8_tryPush_5 : decode cX8_tryPush 5 = .ok (.iload_n 2, 1) := by decide +kernel
theorem dX8_tryPush_6 : decode cX8_tryPush 6 = .ok (.invokevirtual 77, 3) := by decide +kernel
theorem dX8_tryPush_9 : decode cX8_tryPush 9 = .ok (.istore 4, 2) := by decide +kernel
theorem dX8_tryPush_11 : decode cX8_tryPush 11 = .ok (.aload_n 0, 1) := by decide +kernel
theorem dX8_tryPush_12 : decode cX8_tryPush 12 = .ok (.getfield 21, 3) := by decide +kernel
theorem dX8_tryPush_15 : decode cX8_tryPush 15 = .ok (.invokevirtual 122, 3) := by decide +kernel
theorem dX8_tryPush_18 : decode cX8_tryPush 18 = .ok (.ifCond .eq 22, 3) := by decide +kernel
theorem dX8_tryPush_40 : decode cX8_tryPush 40 = .ok (.bipush (-2), 2) := by decide +kernel
theorem dX8_tryPush_42 : decode cX8_tryPush 42 = .ok (.ireturn, 1) := by decide +kernel
set_option maxRecDepth 20000 in
theorem ggX8_heldBarrels_X8_has : GoodIn wsX8_heldBarrels wsX8_has := goodIn_r _ [6, 7, 8, 5, 9] (by decide +kernel) (by decide +kernel)
set_option maxRecDepth 20000 in
theorem gX8_heldBarrels_X8_has : GoodIn wsX8_heldBarrels (va_wsS RX8 136 yX8_has wsX8_has) := goodIn_app (goodIn_of _ (by decide +kernel)) ggX8_heldBarrels_X8_has
theorem dX8_heldBarrels_0 : decode cX8_heldBarrels 0 = .ok (.aload_n 0, 1) := by decide +kernel
theorem dX8_heldBarrels_1 : decode cX8_heldBarrels 1 = .ok (.getfield 21, 3) := by decide +kernel
theorem dX8_heldBarrels_4 : decode cX8_heldBarrels 4 = .ok (.getfield 111, 3) := by decide +kernel
theorem dX8_heldBarrels_7 : decode cX8_heldBarrels 7 = .ok (.lstore_n 1, 1) := by decide +kernel
theorem dX8_heldBarrels_8 : decode cX8_heldBarrels 8 = .ok (.iconst 0, 1) := by decide +kernel
theorem dX8_heldBarrels_9 : decode cX8_heldBarrels 9 = .ok (.istore_n 3, 1) := by decide +kernel
theorem dX8_heldBarrels_10 : decode cX8_heldBarrels 10 = .ok (.iload_n 3, 1) := by decide +kernel
theorem dX8_heldBarrels_11 : decode cX8_heldBarrels 11 = .ok (.bipush 64, 2) := by decide +kernel
theorem dX8_heldBarrels_13 : decode cX8_heldBarrels 13 = .ok (.if_icmp .ge 65, 3) := by decide +kernel
theorem dX8_heldBarrels_16 : decode cX8_heldBarrels 16 = .ok (.lload_n 1, 1) := by decide +kernel
theorem dX8_heldBarrels_17 : decode cX8_heldBarrels 17 = .ok (.lstore 4, 2) := by decide +kernel
theorem dX8_heldBarrels_19 : decode cX8_heldBarrels 19 = .ok (.iconst 0, 1) := by decide +kernel
theorem dX8_heldBarrels_20 : decode cX8_heldBarrels 20 = .ok (.istore 6, 2) := by decide +kernel
theorem dX8_heldBarrels_22 : decode cX8_heldBarrels 22 = .ok (.iload 6, 2) := by decide +kernel
theorem dX8_heldBarrels_24 : decode cX8_heldBarrels 24 = .ok (.bipush 64, 2) := by decide +kernel
theorem dX8_heldBarrels_26 : decode cX8_heldBarrels 26 = .ok (.if_icmp .ge 36, 3) := by decide +kernel
theorem dX8_heldBarrels_29 : decode cX8_heldBarrels 29 = .ok (.lload_n 1, 1) := by decide +kernel
theorem dX8_heldBarrels_30 : decode cX8_heldBarrels 30 = .ok (.iload 6, 2) := by decide +kernel
theorem dX8_heldBarrels_32 : decode cX8_heldBarrels 32 = .ok (.invokestatic 136, 3) := by decide +kernel
theorem dX8_heldBarrels_35 : decode cX8_heldBarrels 35 = .ok (.ifCond .eq 21, 3) := by decide +kernel
theorem dX8_heldBarrels_56 : decode cX8_heldBarrels 56 = .ok (.iinc 6 1, 3) := by decide +kernel
theorem dX8_heldBarrels_59 : decode cX8_heldBarrels 59 = .ok (.goto (-37), 3) := by decide +kernel
theorem dX8_heldBarrels_62 : decode cX8_heldBarrels 62 = .ok (.lload_n 1, 1) := by decide +kernel
theorem dX8_heldBarrels_63 : decode cX8_heldBarrels 63 = .ok (.lload 4, 2) := by decide +kernel
theorem dX8_heldBarrels_65 : decode cX8_heldBarrels 65 = .ok (.lcmp, 1) := by decide +kernel
theorem dX8_heldBarrels_66 : decode cX8_heldBarrels 66 = .ok (.ifCond .ne 6, 3) := by decide +kernel
theorem dX8_heldBarrels_69 : decode cX8_heldBarrels 69 = .ok (.goto 9, 3) := by decide +kernel
theorem dX8_heldBarrels_78 : decode cX8_heldBarrels 78 = .ok (.lload_n 1, 1) := by decide +kernel
theorem dX8_heldBarrels_79 : decode cX8_heldBarrels 79 = .ok (.lreturn, 1) := by decide +kernel
theorem dX9_init_0 : decode cX9_init 0 = .ok (.aload_n 0, 1) := by decide +kernel
theorem dX9_init_1 : decode cX9_init 1 = .ok (.invokespecial 1, 3) := by decide +kernel
theorem dX9_init_4 : decode cX9_init 4 = .ok (.aload_n 0, 1) := by decide +kernel
theorem dX9_init_5 : decode cX9_init 5 = .ok (.bipush 64, 2) := by decide +kernel
theorem dX9_init_7 : decode cX9_init 7 = .ok (.newarray .int, 2) := by decide +kernel
theorem dX9_init_9 : decode cX9_init 9 = .ok (.putfield 7, 3) := by decide +kernel
theorem dX9_init_12 : decode cX9_init 12 = .ok (.aload_n 0, 1) := by decide +kernel
theorem dX9_init_13 : decode cX9_init 13 = .ok (.bipush 64, 2) := by decide +kernel
theorem dX9_init_15 : decode cX9_init 15 = .ok (.newarray .int, 2) := by decide +kernel
theorem dX9_init_17 : decode cX9_init 17 = .ok (.putfield 13, 3) := by decide +kernel
theorem dX9_init_20 : decode cX9_init 20 = .ok (.aload_n 0, 1) := by decide +kernel
theorem dX9_init_21 : decode cX9_init 21 = .ok (.bipush 8, 2) := by decide +kernel
theorem dX9_init_23 : decode cX9_init 23 = .ok (.newarray .boolean, 2) := by decide +kernel
theorem dX9_init_25 : decode cX9_init 25 = .ok (.putfield 16, 3) := by decide +kernel
theorem dX9_init_28 : decode cX9_init 28 = .ok (.aload_n 0, 1) := by decide +kernel
theorem dX9_init_29 : decode cX9_init 29 = .ok (.bipush 64, 2) := by decide +kernel
theorem dX9_init_31 : decode cX9_init 31 = .ok (.newarray .boolean, 2) := by decide +kernel
theorem dX9_init_33 : decode cX9_init 33 = .ok (.putfield 20, 3) := by decide +kernel
theorem dX9_init_36 : decode cX9_init 36 = .ok (.aload_n 0, 1) := by decide +kernel
theorem dX9_init_37 : decode cX9_init 37 = .ok (.bipush 64, 2) := by decide +kernel
theorem dX9_init_39 : decode cX9_init 39 = .ok (.newarray .boolean, 2) := by decide +kernel
theorem dX9_init_41 : decode cX9_init 41 = .ok (.putfield 23, 3) := by decide +kernel
theorem dX9_init_44 : decode cX9_init 44 = .ok (.aload_n 0, 1) := by decide +kernel
theorem dX9_init_45 : decode cX9_init 45 = .ok (.iconst (-1), 1) := by decide +kernel
theorem dX9_init_46 : decode cX9_init 46 = .ok (.putfield 26, 3) := by decide +kernel
theorem dX9_init_49 : decode cX9_init 49 = .ok (.aload_n 0, 1) := by decide +kernel
theorem dX9_init_50 : decode cX9_init 50 = .ok (.sipush 5000, 3) := by decide +kernel
theorem dX9_init_53 : decode cX9_init 53 = .ok (.newarray .int, 2) := by decide +kernel
theorem dX9_init_55 : decode cX9_init 55 = .ok (.putfield 30, 3) := by decide +kernel
theorem dX9_init_58 : decode cX9_init 58 = .ok (.aload_n 0, 1) := by decide +kernel
theorem dX9_init_59 : decode cX9_init 59 = .ok (.sipush 5000, 3) := by decide +kernel
theorem dX9_init_62 : decode cX9_init 62 = .ok (.newarray .int, 2) := by decide +kernel
theorem dX9_init_64 : decode cX9_init 64 = .ok (.putfield 33, 3) := by decide +kernel
theorem dX9_init_67 : decode cX9_init 67 = .ok (.aload_n 0, 1) := by decide +kernel
theorem dX9_init_68 : decode cX9_init 68 = .ok (.sipush 5000, 3) := by decide +kernel
theorem dX9_init_71 : decode cX9_init 71 = .ok (.newarray .int, 2) := by decide +kernel
theorem dX9_init_73 : decode cX9_init 73 = .ok (.putfield 36, 3) := by decide +kernel
theorem dX9_init_76 : decode cX9_init 76 = .ok (.aload_n 0, 1) := by decide +kernel
theorem dX9_init_77 : decode cX9_init 77 = .ok (.sipush 5000, 3) := by decide +kernel
theorem dX9_init_80 : decode cX9_init 80 = .ok (.newarray .long, 2) := by decide +kernel
theorem dX9_init_82 : decode cX9_init 82 = .ok (.putfield 39, 3) := by decide +kernel
theorem dX9_init_85 : decode cX9_init 85 = .ok (.aload_n 0, 1) := by decide +kernel
theorem dX9_init_86 : decode cX9_init 86 = .ok (.sipush 20000, 3) := by decide +kernel
theorem dX9_init_89 : decode cX9_init 89 = .ok (.newarray .int, 2) := by decide +kernel
theorem dX9_init_91 : decode cX9_init 91 = .ok (.putfield 43, 3) := by decide +kernel
theorem dX9_init_94 : decode cX9_init 94 = .ok (.aload_n 0, 1) := by decide +kernel
theorem dX9_init_95 : decode cX9_init 95 = .ok (.sipush 400, 3) := by decide +kernel
theorem dX9_init_98 : decode cX9_init 98 = .ok (.newarray .int, 2) := by decide +kernel
theorem dX9_init_100 : decode cX9_init 100 = .ok (.putfield 46, 3) := by decide +kernel
theorem dX9_init_103 : decode cX9_init 103 = .ok (.aload_n 0, 1) := by decide +kernel
theorem dX9_init_104 : decode cX9_init 104 = .ok (.iconst (-1), 1) := by decide +kernel
theorem dX9_init_105 : decode cX9_init 105 = .ok (.putfield 49, 3) := by decide +kernel
theorem dX9_init_108 : decode cX9_init 108 = .ok (.aload_n 0, 1) := by decide +kernel
theorem dX9_init_109 : decode cX9_init 109 = .ok (.bipush 64, 2) := by decide +kernel
theorem dX9_init_111 : decode cX9_init 111 = .ok (.newarray .int, 2) := by decide +kernel
theorem dX9_init_113 : decode cX9_init 113 = .ok (.putfield 52, 3) := by decide +kernel
theorem dX9_init_116 : decode cX9_init 116 = .ok (.aload_n 0, 1) := by decide +kernel
theorem dX9_init_117 : decode cX9_init 117 = .ok (.bipush 64, 2) := by decide +kernel
theorem dX9_init_119 : decode cX9_init 119 = .ok (.newarray .int, 2) := by decide +kernel
theorem dX9_init_121 : decode cX9_init 121 = .ok (.putfield 55, 3) := by decide +kernel
theorem dX9_init_124 : decode cX9_init 124 = .ok (.aload_n 0, 1) := by decide +kernel
theorem dX9_init_125 : decode cX9_init 125 = .ok (.bipush 64, 2) := by decide +kernel
theorem dX9_init_127 : decode cX9_init 127 = .ok (.newarray .boolean, 2) := by decide +kernel
theorem dX9_init_129 : decode cX9_init 129 = .ok (.putfield 58, 3) := by decide +kernel
theorem dX9_init_132 : decode cX9_init 132 = .ok (.aload_n 0, 1) := by decide +kernel
theorem dX9_init_133 : decode cX9_init 133 = .ok (.sipush 4096, 3) := by decide +kernel
theorem dX9_init_136 : decode cX9_init 136 = .ok (.newarray .int, 2) := by decide +kernel
theorem dX9_init_138 : decode cX9_init 138 = .ok (.putfield 61, 3) := by decide +kernel
theorem dX9_init_141 : decode cX9_init 141 = .ok (.aload_n 0, 1) := by decide +kernel
theorem dX9_init_142 : decode cX9_init 142 = .ok (.sipush 4096, 3) := by decide +kernel
theorem dX9_init_145 : decode cX9_init 145 = .ok (.newarray .int, 2) := by decide +kernel
theorem dX9_init_147 : decode cX9_init 147 = .ok (.putfield 64, 3) := by decide +kernel
theorem dX9_init_150 : decode cX9_init 150 = .ok (.aload_n 0, 1) := by decide +kernel
theorem dX9_init_151 : decode cX9_init 151 = .ok (.bipush 64, 2) := by decide +kernel
theorem dX9_init_153 : decode cX9_init 153 = .ok (.newarray .int, 2) := by decide +kernel
theorem dX9_init_155 : decode cX9_init 155 = .ok (.putfield 67, 3) := by decide +kernel
theorem dX9_init_158 : decode cX9_init 158 = .ok (.aload_n 0, 1) := by decide +kernel
theorem dX9_init_159 : decode cX9_init 159 = .ok (.bipush 30, 2) := by decide +kernel
theorem dX9_init_161 : decode cX9_init 161 = .ok (.newarray .int, 2) := by decide +kernel
theorem dX9_init_163 : decode cX9_init 163 = .ok (.putfield 70, 3) := by decide +kernel
theorem dX9_init_166 : decode cX9_init 166 = .ok (.aload_n 0, 1) := by decide +kernel
theorem dX9_init_167 : decode cX9_init 167 = .ok (.ldc 73, 2) := by decide +kernel
theorem dX9_init_169 : decode cX9_init 169 = .ok (.newarray .int, 2) := by decide +kernel
theorem dX9_init_171 : decode cX9_init 171 = .ok (.putfield 74, 3) := by decide +kernel
theorem dX9_init_174 : decode cX9_init 174 = .ok (.aload_n 0, 1) := by decide +kernel
theorem dX9_init_175 : decode cX9_init 175 = .ok (.ldc 73, 2) := by decide +kernel
theorem dX9_init_177 : decode cX9_init 177 = .ok (.newarray .int, 2) := by decide +kernel
theorem dX9_init_179 : decode cX9_init 179 = .ok (.putfield 77, 3) := by decide +kernel
theorem dX9_init_182 : decode cX9_init 182 = .ok (.aload_n 0, 1) := by decide +kernel
theorem dX9_init_183 : decode cX9_init 183 = .ok (.sipush 20000, 3) := by decide +kernel
theorem dX9_init_186 : decode cX9_init 186 = .ok (.newarray .int, 2) := by decide +kernel
theorem dX9_init_188 : decode cX9_init 188 = .ok (.putfield 80, 3) := by decide +kernel
theorem dX9_init_191 : decode cX9_init 191 = .ok (.aload_n 0, 1) := by decide +kernel
theorem dX9_init_192 : decode cX9_init 192 = .ok (.sipush 20000, 3) := by decide +kernel
theorem dX9_init_195 : decode cX9_init 195 = .ok (.newarray .int, 2) := by decide +kernel
theorem dX9_init_197 : decode cX9_init 197 = .ok (.putfield 83, 3) := by decide +kernel
theorem dX9_init_200 : decode cX9_init 200 = .ok (.aload_n 0, 1) := by decide +kernel
theorem dX9_init_201 : decode cX9_init 201 = .ok (.ldc 73, 2) := by decide +kernel
theorem dX9_init_203 : decode cX9_init 203 = .ok (.newarray .boolean, 2) := by decide +kernel
theorem dX9_init_205 : decode cX9_init 205 = .ok (.putfield 86, 3) := by decide +kernel
theorem dX9_init_208 : decode cX9_init 208 = .ok (.aload_n 0, 1) := by decide +kernel
theorem dX9_init_209 : decode cX9_init 209 = .ok (.ldc 73, 2) := by decide +kernel
theorem dX9_init_211 : decode cX9_init 211 = .ok (.newarray .boolean, 2) := by decide +kernel
theorem dX9_init_213 : decode cX9_init 213 = .ok (.putfield 89, 3) := by decide +kernel
theorem dX9_init_216 : decode cX9_init 216 = .ok (.aload_n 0, 1) := by decide +kernel
theorem dX9_init_217 : decode cX9_init 217 = .ok (.iload_n 1, 1) := by decide +kernel
theorem dX9_init_218 : decode cX9_init 218 = .ok (.iconst 2, 1) := by decide +kernel
theorem dX9_init_219 : decode cX9_init 219 = .ok (.if_icmp .ge 7, 3) := by decide +kernel
theorem dX9_init_222 : decode cX9_init 222 = .ok (.iconst 2, 1) := by decide +kernel
theorem dX9_init_223 : decode cX9_init 223 = .ok (.goto 15, 3) := by decide +kernel
theorem dX9_init_226 : decode cX9_init 226 = .ok (.iload_n 1, 1) := by decide +kernel
theorem dX9_init_227 : decode cX9_init 227 = .ok (.bipush 8, 2) := by decide +kernel
theorem dX9_init_229 : decode cX9_init 229 = .ok (.if_icmp .le 8, 3) := by decide +kernel
theorem dX9_init_232 : decode cX9_init 232 = .ok (.bipush 8, 2) := by decide +kernel
theorem dX9_init_234 : decode cX9_init 234 = .ok (.goto 4, 3) := by decide +kernel
theorem dX9_init_237 : decode cX9_init 237 = .ok (.iload_n 1, 1) := by decide +kernel
theorem dX9_init_238 : decode cX9_init 238 = .ok (.putfield 92, 3) := by decide +kernel
theorem dX9_init_241 : decode cX9_init 241 = .ok (.aload_n 0, 1) := by decide +kernel
theorem dX9_init_242 : decode cX9_init 242 = .ok (.iload_n 2, 1) := by decide +kernel
theorem dX9_init_243 : decode cX9_init 243 = .ok (.iconst 2, 1) := by decide +kernel
theorem dX9_init_244 : decode cX9_init 244 = .ok (.if_icmp .ge 7, 3) := by decide +kernel
theorem dX9_init_247 : decode cX9_init 247 = .ok (.iconst 2, 1) := by decide +kernel
theorem dX9_init_248 : decode cX9_init 248 = .ok (.goto 15, 3) := by decide +kernel
theorem dX9_init_251 : decode cX9_init 251 = .ok (.iload_n 2, 1) := by decide +kernel
theorem dX9_init_252 : decode cX9_init 252 = .ok (.bipush 8, 2) := by decide +kernel
theorem dX9_init_254 : decode cX9_init 254 = .ok (.if_icmp .le 8, 3) := by decide +kernel
theorem dX9_init_257 : decode cX9_init 257 = .ok (.bipush 8, 2) := by decide +kernel
theorem dX9_init_259 : decode cX9_init 259 = .ok (.goto 4, 3) := by decide +kernel
theorem dX9_init_262 : decode cX9_init 262 = .ok (.iload_n 2, 1) := by decide +kernel
theorem dX9_init_263 : decode cX9_init 263 = .ok (.putfield 95, 3) := by decide +kernel
theorem dX9_init_266 : decode cX9_init 266 = .ok (.return_, 1) := by decide +kernel
theorem dX9_isField_0 : decode cX9_isField 0 = .ok (.iload_n 1, 1) := by decide +kernel
theorem dX9_isField_1 : decode cX9_isField 1 = .ok (.ifCond .lt 27, 3) := by decide +kernel
theorem dX9_isField_4 : decode cX9_isField 4 = .ok (.iload_n 1, 1) := by decide +kernel
theorem dX9_isField_5 : decode cX9_isField 5 = .ok (.aload_n 0, 1) := by decide +kernel
theorem dX9_isField_6 : decode cX9_isField 6 = .ok (.getfield 92, 3) := by decide +kernel
theorem dX9_isField_9 : decode cX9_isField 9 = .ok (.if_icmp .ge 19, 3) := by decide +kernel
theorem dX9_isField_12 : decode cX9_isField 12 = .ok (.iload_n 2, 1) := by decide +kernel
theorem dX9_isField_13 : decode cX9_isField 13 = .ok (.ifCond .lt 15, 3) := by decide +kernel
theorem dX9_isField_16 : decode cX9_isField 16 = .ok (.iload_n 2, 1) := by decide +kernel
theorem dX9_isField_17 : decode cX9_isField 17 = .ok (.aload_n 0, 1) := by decide +kernel
theorem dX9_isField_18 : decode cX9_isField 18 = .ok (.getfield 95, 3) := by decide +kernel
theorem dX9_isField_21 : decode cX9_isField 21 = .ok (.if_icmp .ge 7, 3) := by decide +kernel
theorem dX9_isField_24 : decode cX9_isField 24 = .ok (.iconst 1, 1) := by decide +kernel
theorem dX9_isField_25 : decode cX9_isField 25 = .ok (.goto 4, 3) := by decide +kernel
theorem dX9_isField_28 : decode cX9_isField 28 = .ok (.iconst 0, 1) := by decide +kernel
theorem dX9_isField_29 : decode cX9_isField 29 = .ok (.ireturn, 1) := by decide +kernel
theorem dX9_kindOf_0 : decode cX9_kindOf 0 = .ok (.iload_n 1, 1) := by decide +kernel
theorem dX9_kindOf_1 : decode cX9_kindOf 1 = .ok (.ifCond .lt 15, 3) := by decide +kernel
theorem dX9_kindOf_4 : decode cX9_kindOf 4 = .ok (.aload_n 0, 1) := by decide +kernel
theorem dX9_kindOf_5 : decode cX9_kindOf 5 = .ok (.getfield 16, 3) := by decide +kernel
theorem dX9_kindOf_8 : decode cX9_kindOf 8 = .ok (.iload_n 1, 1) := by decide +kernel
theorem dX9_kindOf_9 : decode cX9_kindOf 9 = .ok (.bipush 8, 2) := by decide +kernel
theorem dX9_kindOf_11 : decode cX9_kindOf 11 = .ok (.idiv, 1) := by decide +kernel
theorem dX9_kindOf_12 : decode cX9_kindOf 12 = .ok (.baload, 1) := by decide +kernel
theorem dX9_kindOf_13 : decode cX9_kindOf 13 = .ok (.ifCond .eq 7, 3) := by decide +kernel
theorem dX9_kindOf_20 : decode cX9_kindOf 20 = .ok (.aload_n 0, 1) := by decide +kernel
theorem dX9_kindOf_21 : decode cX9_kindOf 21 = .ok (.getfield 7, 3) := by decide +kernel
theorem dX9_kindOf_24 : decode cX9_kindOf 24 = .ok (.iload_n 1, 1) := by decide +kernel
theorem dX9_kindOf_25 : decode cX9_kindOf 25 = .ok (.iaload, 1) := by decide +kernel
theorem dX9_kindOf_26 : decode cX9_kindOf 26 = .ok (.ireturn, 1) := by decide +kernel
theorem dX9_isWay_0 : decode cX9_isWay 0 = .ok (.iload_n 0, 1) := by decide +kernel
theorem dX9_isWay_1 : decode cX9_isWay 1 = .ok (.ifCond .lt 12, 3) := by decide +kernel
theorem dX9_isWay_4 : decode cX9_isWay 4 = .ok (.iload_n 0, 1) := by decide +kernel
theorem dX9_isWay_5 : decode cX9_isWay 5 = .ok (.iconst 4, 1) := by decide +kernel
theorem dX9_isWay_6 : decode cX9_isWay 6 = .ok (.if_icmp .ge 7, 3) := by decide +kernel
theorem dX9_isWay_9 : decode cX9_isWay 9 = .ok (.iconst 1, 1) := by decide +kernel
theorem dX9_isWay_10 : decode cX9_isWay 10 = .ok (.goto 4, 3) := by decide +kernel
theorem dX9_isWay_13 : decode cX9_isWay 13 = .ok (.iconst 0, 1) := by decide +kernel
theorem dX9_isWay_14 : decode cX9_isWay 14 = .ok (.ireturn, 1) := by decide +kernel
theorem dX9_number_0 : decode cX9_number 0 = .ok (.iconst 0, 1) := by decide +kernel
theorem dX9_number_1 : decode cX9_number 1 = .ok (.istore_n 2, 1) := by decide +kernel
theorem dX9_number_2 : decode cX9_number 2 = .ok (.iconst 0, 1) := by decide +kernel
theorem dX9_number_3 : decode cX9_number 3 = .ok (.istore_n 3, 1) := by decide +kernel
theorem dX9_number_4 : decode cX9_number 4 = .ok (.iload_n 3, 1) := by decide +kernel
theorem dX9_number_5 : decode cX9_number 5 = .ok (.bipush 64, 2) := by decide +kernel
theorem dX9_number_7 : decode cX9_number 7 = .ok (.if_icmp .ge 23, 3) := by decide +kernel
theorem dX9_number_10 : decode cX9_number 10 = .ok (.iload_n 2, 1) := by decide +kernel
theorem dX9_number_11 : decode cX9_number 11 = .ok (.aload_n 1, 1) := by decide +kernel
theorem dX9_number_12 : decode cX9_number 12 = .ok (.iload_n 3, 1) := by decide +kernel
theorem dX9_number_13 : decode cX9_number 13 = .ok (.baload, 1) := by decide +kernel
theorem dX9_number_14 : decode cX9_number 14 = .ok (.ifCond .eq 7, 3) := by decide +kernel
theorem dX9_number_21 : decode cX9_number 21 = .ok (.iconst 0, 1) := by decide +kernel
theorem dX9_number_22 : decode cX9_number 22 = .ok (.iadd, 1) := by decide +kernel
theorem dX9_number_23 : decode cX9_number 23 = .ok (.istore_n 2, 1) := by decide +kernel
theorem dX9_number_24 : decode cX9_number 24 = .ok (.iinc 3 1, 3) := by decide +kernel
theorem dX9_number_27 : decode cX9_number 27 = .ok (.goto (-23), 3) := by decide +kernel
theorem dX9_number_30 : decode cX9_number 30 = .ok (.iload_n 2, 1) := by decide +kernel
theorem dX9_number_31 : decode cX9_number 31 = .ok (.ireturn, 1) := by decide +kernel
theorem dX9_forget_0 : decode cX9_forget 0 = .ok (.aload_n 0, 1) := by decide +kernel
theorem dX9_forget_1 : decode cX9_forget 1 = .ok (.iconst 0, 1) := by decide +kernel
theorem dX9_forget_2 : decode cX9_forget 2 = .ok (.putfield 112, 3) := by decide +kernel
theorem dX9_forget_5 : decode cX9_forget 5 = .ok (.aload_n 0, 1) := by decide +kernel
theorem dX9_forget_6 : decode cX9_forget 6 = .ok (.iconst 0, 1) := by decide +kernel
theorem dX9_forget_7 : decode cX9_forget 7 = .ok (.putfield 115, 3) := by decide +kernel
theorem dX9_forget_10 : decode cX9_forget 10 = .ok (.return_, 1) := by decide +kernel
set_option maxRecDepth 20000 in
theorem ggX9_field_X9_isField : GoodIn wsX9_field wsX9_isField := goodIn_r _ [10, 11, 12, 22, 23, 24, 25, 26, 27, 28, 29, 30, 31, 32, 33, 34, 35, 36, 37, 38, 39, 40, 41, 42, 43, 44, 45, 46, 47, 48, 49, 50, 51, 52, 53, 54, 55, 56, 57] (by decide +kernel) (by decide +kernel)
set_option maxRecDepth 20000 in
theorem gX9_field_X9_isField : GoodIn wsX9_field (wsV RX9 98 RX9 yX9_isField wsX9_isField) := goodIn_app (goodIn_of _ (by decide +kernel)) ggX9_field_X9_isField
set_option maxRecDepth 20000 in
theorem ggX9_field_X9_isWay : GoodIn wsX9_field wsX9_isWay := goodIn_r _ [15] (by decide +kernel) (by decide +kernel)
set_option maxRecDepth 20000 in
theorem gX9_field_X9_isWay : GoodIn wsX9_field (va_wsS RX9 118 yX9_isWay wsX9_isWay) := goodIn_app (goodIn_of _ (by decide +kernel)) ggX9_field_X9_isWay
set_option maxRecDepth 20000 in
theorem ggX9_field_X9_forget : GoodIn wsX9_field wsX9_forget := goodIn_r _ [19, 20, 21, 22, 23, 24, 25, 26, 27, 28, 29, 30, 31, 32, 33, 34, 35, 36, 37, 38, 39, 40, 41, 42, 43, 44, 45, 46, 47, 48, 49, 50, 51, 52, 53, 54, 55, 56, 57] (by decide +kernel) (by decide +kernel)
set_option maxRecDepth 20000 in
theorem gX9_field_X9_forget : GoodIn wsX9_field (wsV RX9 122 RX9 yX9_forget wsX9_forget) := goodIn_app (goodIn_of _ (by decide +kernel)) ggX9_field_X9_forget
theorem dX9_field_0 : decode cX9_field 0 = .ok (.aload_n 0, 1) := by decide +kernel
theorem dX9_field_1 : decode cX9_field 1 = .ok (.iload_n 1, 1) := by decide +kernel
theorem dX9_field_2 : decode cX9_field 2 = .ok (.iload_n 2, 1) := by decide +kernel
theorem dX9_field_3 : decode cX9_field 3 = .ok (.invokevirtual 98, 3) := by decide +kernel
theorem dX9_field_6 : decode cX9_field 6 = .ok (.ifCond .eq 33, 3) := by decide +kernel
theorem dX9_field_9 : decode cX9_field 9 = .ok (.iload_n 3, 1) := by decide +kernel
theorem dX9_field_10 : decode cX9_field 10 = .ok (.ifCond .lt 29, 3) := by decide +kernel
theorem dX9_field_13 : decode cX9_field 13 = .ok (.iload_n 3, 1) := by decide +kernel
theorem dX9_field_14 : decode cX9_field 14 = .ok (.iconst 5, 1) := by decide +kernel
theorem dX9_field_15 : decode cX9_field 15 = .ok (.if_icmp .gt 24, 3) := by decide +kernel
theorem dX9_field_18 : decode cX9_field 18 = .ok (.iload_n 3, 1) := by decide +kernel
theorem dX9_field_19 : decode cX9_field 19 = .ok (.iconst 4, 1) := by decide +kernel
theorem dX9_field_20 : decode cX9_field 20 = .ok (.if_icmp .ne 14, 3) := by decide +kernel
theorem dX9_field_23 : decode cX9_field 23 = .ok (.iload 4, 2) := by decide +kernel
theorem dX9_field_25 : decode cX9_field 25 = .ok (.invokestatic 118, 3) := by decide +kernel
theorem dX9_field_28 : decode cX9_field 28 = .ok (.ifCond .ne 14, 3) := by decide +kernel
theorem dX9_field_31 : decode cX9_field 31 = .ok (.goto 8, 3) := by decide +kernel
theorem dX9_field_34 : decode cX9_field 34 = .ok (.iload 4, 2) := by decide +kernel
theorem dX9_field_36 : decode cX9_field 36 = .ok (.ifCond .eq 6, 3) := by decide +kernel
theorem dX9_field_39 : decode cX9_field 39 = .ok (.bipush (-2), 2) := by decide +kernel
theorem dX9_field_41 : decode cX9_field 41 = .ok (.ireturn, 1) := by decide +kernel
theorem dX9_field_42 : decode cX9_field 42 = .ok (.bipush 8, 2) := by decide +kernel
theorem dX9_field_44 : decode cX9_field 44 = .ok (.iload_n 2, 1) := by decide +kernel
theorem dX9_field_45 : decode cX9_field 45 = .ok (.imul, 1) := by decide +kernel
theorem dX9_field_46 : decode cX9_field 46 = .ok (.iload_n 1, 1) := by decide +kernel
theorem dX9_field_47 : decode cX9_field 47 = .ok (.iadd, 1) := by decide +kernel
theorem dX9_field_48 : decode cX9_field 48 = .ok (.istore 5, 2) := by decide +kernel
theorem dX9_field_50 : decode cX9_field 50 = .ok (.aload_n 0, 1) := by decide +kernel
theorem dX9_field_51 : decode cX9_field 51 = .ok (.getfield 20, 3) := by decide +kernel
theorem dX9_field_54 : decode cX9_field 54 = .ok (.iload 5, 2) := by decide +kernel
theorem dX9_field_56 : decode cX9_field 56 = .ok (.baload, 1) := by decide +kernel
theorem dX9_field_57 : decode cX9_field 57 = .ok (.ifCond .ne 22, 3) := by decide +kernel
theorem dX9_field_60 : decode cX9_field 60 = .ok (.aload_n 0, 1) := by decide +kernel
theorem dX9_field_61 : decode cX9_field 61 = .ok (.getfield 26, 3) := by decide +kernel
theorem dX9_field_64 : decode cX9_field 64 = .ok (.iload 5, 2) := by decide +kernel
theorem dX9_field_66 : decode cX9_field 66 = .ok (.if_icmp .eq 13, 3) := by decide +kernel
theorem dX9_field_69 : decode cX9_field 69 = .ok (.aload_n 0, 1) := by decide +kernel
theorem dX9_field_70 : decode cX9_field 70 = .ok (.getfield 23, 3) := by decide +kernel
theorem dX9_field_73 : decode cX9_field 73 = .ok (.iload 5, 2) := by decide +kernel
theorem dX9_field_75 : decode cX9_field 75 = .ok (.baload, 1) := by decide +kernel
theorem dX9_field_76 : decode cX9_field 76 = .ok (.ifCond .eq 6, 3) := by decide +kernel
theorem dX9_field_82 : decode cX9_field 82 = .ok (.aload_n 0, 1) := by decide +kernel
theorem dX9_field_83 : decode cX9_field 83 = .ok (.getfield 7, 3) := by decide +kernel
theorem dX9_field_86 : decode cX9_field 86 = .ok (.iload 5, 2) := by decide +kernel
theorem dX9_field_88 : decode cX9_field 88 = .ok (.iaload, 1) := by decide +kernel
theorem dX9_field_89 : decode cX9_field 89 = .ok (.istore 6, 2) := by decide +kernel
theorem dX9_field_91 : decode cX9_field 91 = .ok (.aload_n 0, 1) := by decide +kernel
theorem dX9_field_92 : decode cX9_field 92 = .ok (.getfield 7, 3) := by decide +kernel
theorem dX9_field_95 : decode cX9_field 95 = .ok (.iload 5, 2) := by decide +kernel
theorem dX9_field_97 : decode cX9_field 97 = .ok (.iload_n 3, 1) := by decide +kernel
theorem dX9_field_98 : decode cX9_field 98 = .ok (.iastore, 1) := by decide +kernel
theorem dX9_field_99 : decode cX9_field 99 = .ok (.aload_n 0, 1) := by decide +kernel
theorem dX9_field_100 : decode cX9_field 100 = .ok (.getfield 13, 3) := by decide +kernel
theorem dX9_field_103 : decode cX9_field 103 = .ok (.iload 5, 2) := by decide +kernel
theorem dX9_field_105 : decode cX9_field 105 = .ok (.iload 4, 2) := by decide +kernel
theorem dX9_field_107 : decode cX9_field 107 = .ok (.iastore, 1) := by decide +kernel
theorem dX9_field_108 : decode cX9_field 108 = .ok (.aload_n 0, 1) := by decide +kernel
theorem dX9_field_109 : decode cX9_field 109 = .ok (.invokevirtual 122, 3) := by decide +kernel
theorem dX9_field_112 : decode cX9_field 112 = .ok (.iload 6, 2) := by decide +kernel
theorem dX9_field_114 : decode cX9_field 114 = .ok (.ireturn, 1) := by decide +kernel
set_option maxRecDepth 20000 in
theorem ggX9_line_X9_forget : GoodIn wsX9_line wsX9_forget := goodIn_r _ [10, 11, 12, 13, 14, 15, 16, 17, 18, 19, 20, 21, 22, 23, 24, 25, 26, 27, 28, 29, 30, 31, 32, 33, 34, 35, 36, 37, 38, 39, 40, 41, 42, 43, 44, 45, 46, 47, 48] (by decide +kernel) (by decide +kernel)
set_option maxRecDepth 20000 in
theorem gX9_line_X9_forget : GoodIn wsX9_line (wsV RX9 122 RX9 yX9_forget wsX9_forget) := goodIn_app (goodIn_of _ (by decide +kernel)) ggX9_line_X9_forget
theorem dX9_line_0 : decode cX9_line 0 = .ok (.iload_n 1, 1) := by decide +kernel
theorem dX9_line_1 : decode cX9_line 1 = .ok (.ifCond .lt 11, 3) := by decide +kernel
theorem dX9_line_4 : decode cX9_line 4 = .ok (.iload_n 1, 1) := by decide +kernel
theorem dX9_line_5 : decode cX9_line 5 = .ok (.aload_n 0, 1) := by decide +kernel
theorem dX9_line_6 : decode cX9_line 6 = .ok (.getfield 95, 3) := by decide +kernel
theorem dX9_line_9 : decode cX9_line 9 = .ok (.if_icmp .lt 6, 3) := by decide +kernel
theorem dX9_line_12 : decode cX9_line 12 = .ok (.bipush (-2), 2) := by decide +kernel
theorem dX9_line_14 : decode cX9_line 14 = .ok (.ireturn, 1) := by decide +kernel
theorem dX9_line_15 : decode cX9_line 15 = .ok (.bipush 8, 2) := by decide +kernel
theorem dX9_line_17 : decode cX9_line 17 = .ok (.iload_n 1, 1) := by decide +kernel
theorem dX9_line_18 : decode cX9_line 18 = .ok (.imul, 1) := by decide +kernel
theorem dX9_line_19 : decode cX9_line 19 = .ok (.istore_n 3, 1) := by decide +kernel
theorem dX9_line_20 : decode cX9_line 20 = .ok (.iload_n 3, 1) := by decide +kernel
theorem dX9_line_21 : decode cX9_line 21 = .ok (.bipush 8, 2) := by decide +kernel
theorem dX9_line_23 : decode cX9_line 23 = .ok (.iload_n 1, 1) := by decide +kernel
theorem dX9_line_24 : decode cX9_line 24 = .ok (.imul, 1) := by decide +kernel
theorem dX9_line_25 : decode cX9_line 25 = .ok (.bipush 8, 2) := by decide +kernel
theorem dX9_line_27 : decode cX9_line 27 = .ok (.iadd, 1) := by decide +kernel
theorem dX9_line_28 : decode cX9_line 28 = .ok (.if_icmp .ge 38, 3) := by decide +kernel
theorem dX9_line_31 : decode cX9_line 31 = .ok (.aload_n 0, 1) := by decide +kernel
theorem dX9_line_32 : decode cX9_line 32 = .ok (.getfield 20, 3) := by decide +kernel
theorem dX9_line_35 : decode cX9_line 35 = .ok (.iload_n 3, 1) := by decide +kernel
theorem dX9_line_36 : decode cX9_line 36 = .ok (.baload, 1) := by decide +kernel
theorem dX9_line_37 : decode cX9_line 37 = .ok (.ifCond .ne 20, 3) := by decide +kernel
theorem dX9_line_40 : decode cX9_line 40 = .ok (.aload_n 0, 1) := by decide +kernel
theorem dX9_line_41 : decode cX9_line 41 = .ok (.getfield 26, 3) := by decide +kernel
theorem dX9_line_44 : decode cX9_line 44 = .ok (.iload_n 3, 1) := by decide +kernel
theorem dX9_line_45 : decode cX9_line 45 = .ok (.if_icmp .eq 12, 3) := by decide +kernel
theorem dX9_line_48 : decode cX9_line 48 = .ok (.aload_n 0, 1) := by decide +kernel
theorem dX9_line_49 : decode cX9_line 49 = .ok (.getfield 23, 3) := by decide +kernel
theorem dX9_line_52 : decode cX9_line 52 = .ok (.iload_n 3, 1) := by decide +kernel
theorem dX9_line_53 : decode cX9_line 53 = .ok (.baload, 1) := by decide +kernel
theorem dX9_line_54 : decode cX9_line 54 = .ok (.ifCond .eq 6, 3) := by decide +kernel
theorem dX9_line_60 : decode cX9_line 60 = .ok (.iinc 3 1, 3) := by decide +kernel
theorem dX9_line_63 : decode cX9_line 63 = .ok (.goto (-43), 3) := by decide +kernel
theorem dX9_line_66 : decode cX9_line 66 = .ok (.aload_n 0, 1) := by decide +kernel
theorem dX9_line_67 : decode cX9_line 67 = .ok (.getfield 16, 3) := by decide +kernel
theorem dX9_line_70 : decode cX9_line 70 = .ok (.iload_n 1, 1) := by decide +kernel
theorem dX9_line_71 : decode cX9_line 71 = .ok (.baload, 1) := by decide +kernel
theorem dX9_line_72 : decode cX9_line 72 = .ok (.istore_n 3, 1) := by decide +kernel
theorem dX9_line_73 : decode cX9_line 73 = .ok (.aload_n 0, 1) := by decide +kernel
theorem dX9_line_74 : decode cX9_line 74 = .ok (.getfield 16, 3) := by decide +kernel
theorem dX9_line_77 : decode cX9_line 77 = .ok (.iload_n 1, 1) := by decide +kernel
theorem dX9_line_78 : decode cX9_line 78 = .ok (.iload_n 2, 1) := by decide +kernel
theorem dX9_line_79 : decode cX9_line 79 = .ok (.bastore, 1) := by decide +kernel
theorem dX9_line_80 : decode cX9_line 80 = .ok (.aload_n 0, 1) := by decide +kernel
theorem dX9_line_81 : decode cX9_line 81 = .ok (.invokevirtual 122, 3) := by decide +kernel
theorem dX9_line_84 : decode cX9_line 84 = .ok (.iload_n 3, 1) := by decide +kernel
theorem dX9_line_85 : decode cX9_line 85 = .ok (.ifCond .eq 7, 3) := by decide +kernel
theorem dX9_line_92 : decode cX9_line 92 = .ok (.iconst 0, 1) := by decide +kernel
theorem dX9_line_93 : decode cX9_line 93 = .ok (.ireturn, 1) := by decide +kernel
set_option maxRecDepth 20000 in
theorem ggX9_barrel_X9_isField : GoodIn wsX9_barrel wsX9_isField := goodIn_r _ [7, 8, 9, 26, 27, 28, 29, 30, 31, 32, 33, 34, 35, 36, 37, 38, 39, 40, 41, 42, 43, 44, 45, 46, 47, 48, 49, 50, 51, 52, 53, 54, 55, 56, 57, 58, 59, 60, 61] (by decide +kernel) (by decide +kernel)
set_option maxRecDepth 20000 in
theorem gX9_barrel_X9_isField : GoodIn wsX9_barrel (wsV RX9 98 RX9 yX9_isField wsX9_isField) := goodIn_app (goodIn_of _ (by decide +kernel)) ggX9_barrel_X9_isField
set_option maxRecDepth 20000 in
theorem ggX9_barrel_X9_kindOf : GoodIn wsX9_barrel wsX9_kindOf := goodIn_r _ [13, 14, 15, 26, 27, 28, 29, 30, 31, 32, 33, 34, 35, 36, 37, 38, 39, 40, 41, 42, 43, 44, 45, 46, 47, 48, 49, 50, 51, 52, 53, 54, 55, 56, 57, 58, 59, 60, 61] (by decide +kernel) (by decide +kernel)
set_option maxRecDepth 20000 in
theorem gX9_barrel_X9_kindOf : GoodIn wsX9_barrel (wsV RX9 102 RX9 yX9_kindOf wsX9_kindOf) := goodIn_app (goodIn_of _ (by decide +kernel)) ggX9_barrel_X9_kindOf
set_option maxRecDepth 20000 in
theorem ggX9_barrel_X9_forget : GoodIn wsX9_barrel wsX9_forget := goodIn_r _ [23, 24, 25, 26, 27, 28, 29, 30, 31, 32, 33, 34, 35, 36, 37, 38, 39, 40, 41, 42, 43, 44, 45, 46, 47, 48, 49, 50, 51, 52, 53, 54, 55, 56, 57, 58, 59, 60, 61] (by decide +kernel) (by decide +kernel)
set_option maxRecDepth 20000 in
theorem gX9_barrel_X9_forget : GoodIn wsX9_barrel (wsV RX9 122 RX9 yX9_forget wsX9_forget) := goodIn_app (goodIn_of _ (by decide +kernel)) ggX9_barrel_X9_forget
theorem dX9_barrel_0 : decode cX9_barrel 0 = .ok (.aload_n 0, 1) := by decide +kernel
theorem dX9_barrel_1 : decode cX9_barrel 1 = .ok (.iload_n 1, 1) := by decide +kernel
theorem dX9_barrel_2 : decode cX9_barrel 2 = .ok (.iload_n 2, 1) := by decide +kernel
theorem dX9_barrel_3 : decode cX9_barrel 3 = .ok (.invokevirtual 98, 3) := by decide +kernel
theorem dX9_barrel_6 : decode cX9_barrel 6 = .ok (.ifCond .ne 6, 3) := by decide +kernel
theorem dX9_barrel_9 : decode cX9_barrel 9 = .ok (.bipush (-2), 2) := by decide +kernel
theorem dX9_barrel_11 : decode cX9_barrel 11 = .ok (.ireturn, 1) := by decide +kernel
theorem dX9_barrel_12 : decode cX9_barrel 12 = .ok (.bipush 8, 2) := by decide +kernel
theorem dX9_barrel_14 : decode cX9_barrel 14 = .ok (.iload_n 2, 1) := by decide +kernel
theorem dX9_barrel_15 : decode cX9_barrel 15 = .ok (.imul, 1) := by decide +kernel
theorem dX9_barrel_16 : decode cX9_barrel 16 = .ok (.iload_n 1, 1) := by decide +kernel
theorem dX9_barrel_17 : decode cX9_barrel 17 = .ok (.iadd, 1) := by decide +kernel
theorem dX9_barrel_18 : decode cX9_barrel 18 = .ok (.istore 4, 2) := by decide +kernel
theorem dX9_barrel_20 : decode cX9_barrel 20 = .ok (.iload_n 3, 1) := by decide +kernel
theorem dX9_barrel_21 : decode cX9_barrel 21 = .ok (.ifCond .eq 37, 3) := by decide +kernel
theorem dX9_barrel_24 : decode cX9_barrel 24 = .ok (.aload_n 0, 1) := by decide +kernel
theorem dX9_barrel_25 : decode cX9_barrel 25 = .ok (.iload 4, 2) := by decide +kernel
theorem dX9_barrel_27 : decode cX9_barrel 27 = .ok (.invokevirtual 102, 3) := by decide +kernel
theorem dX9_barrel_30 : decode cX9_barrel 30 = .ok (.ifCond .eq 25, 3) := by decide +kernel
theorem dX9_barrel_55 : decode cX9_barrel 55 = .ok (.bipush (-2), 2) := by decide +kernel
theorem dX9_barrel_57 : decode cX9_barrel 57 = .ok (.ireturn, 1) := by decide +kernel
theorem dX9_barrel_58 : decode cX9_barrel 58 = .ok (.aload_n 0, 1) := by decide +kernel
theorem dX9_barrel_59 : decode cX9_barrel 59 = .ok (.getfield 20, 3) := by decide +kernel
theorem dX9_barrel_62 : decode cX9_barrel 62 = .ok (.iload 4, 2) := by decide +kernel
theorem dX9_barrel_64 : decode cX9_barrel 64 = .ok (.baload, 1) := by decide +kernel
theorem dX9_barrel_65 : decode cX9_barrel 65 = .ok (.istore 5, 2) := by decide +kernel
theorem dX9_barrel_67 : decode cX9_barrel 67 = .ok (.aload_n 0, 1) := by decide +kernel
theorem dX9_barrel_68 : decode cX9_barrel 68 = .ok (.getfield 20, 3) := by decide +kernel
theorem dX9_barrel_71 : decode cX9_barrel 71 = .ok (.iload 4, 2) := by decide +kernel
theorem dX9_barrel_73 : decode cX9_barrel 73 = .ok (.iload_n 3, 1) := by decide +kernel
theorem dX9_barrel_74 : decode cX9_barrel 74 = .ok (.bastore, 1) := by decide +kernel
theorem dX9_barrel_75 : decode cX9_barrel 75 = .ok (.aload_n 0, 1) := by decide +kernel
theorem dX9_barrel_76 : decode cX9_barrel 76 = .ok (.invokevirtual 122, 3) := by decide +kernel
theorem dX9_barrel_79 : decode cX9_barrel 79 = .ok (.iload 5, 2) := by decide +kernel
theorem dX9_barrel_81 : decode cX9_barrel 81 = .ok (.ifCond .eq 7, 3) := by decide +kernel
theorem dX9_barrel_88 : decode cX9_barrel 88 = .ok (.iconst 0, 1) := by decide +kernel
theorem dX9_barrel_89 : decode cX9_barrel 89 = .ok (.ireturn, 1) := by decide +kernel
set_option maxRecDepth 20000 in
theorem ggX9_man_X9_isField : GoodIn wsX9_man wsX9_isField := goodIn_r _ [7, 8, 9, 22, 23, 24, 25, 26, 27, 28, 29, 30, 31, 32, 33, 34, 35, 36, 37, 38, 39, 40, 41, 42, 43, 44, 45, 46, 47, 48, 49, 50, 51, 52, 53, 54, 55, 56, 57] (by decide +kernel) (by decide +kernel)
set_option maxRecDepth 20000 in
theorem gX9_man_X9_isField : GoodIn wsX9_man (wsV RX9 98 RX9 yX9_isField wsX9_isField) := goodIn_app (goodIn_of _ (by decide +kernel)) ggX9_man_X9_isField
set_option maxRecDepth 20000 in
theorem ggX9_man_X9_kindOf : GoodIn wsX9_man wsX9_kindOf := goodIn_r _ [13, 14, 15, 22, 23, 24, 25, 26, 27, 28, 29, 30, 31, 32, 33, 34, 35, 36, 37, 38, 39, 40, 41, 42, 43, 44, 45, 46, 47, 48, 49, 50, 51, 52, 53, 54, 55, 56, 57] (by decide +kernel) (by decide +kernel)
set_option maxRecDepth 20000 in
theorem gX9_man_X9_kindOf : GoodIn wsX9_man (wsV RX9 102 RX9 yX9_kindOf wsX9_kindOf) := goodIn_app (goodIn_of _ (by decide +kernel)) ggX9_man_X9_kindOf
theorem dX9_man_0 : decode cX9_man 0 = .ok (.aload_n 0, 1) := by decide +kernel
theorem dX9_man_1 : decode cX9_man 1 = .ok (.iload_n 1, 1) := by decide +kernel
theorem dX9_man_2 : decode cX9_man 2 = .ok (.iload_n 2, 1) := by decide +kernel
theorem dX9_man_3 : decode cX9_man 3 = .ok (.invokevirtual 98, 3) := by decide +kernel
theorem dX9_man_6 : decode cX9_man 6 = .ok (.ifCond .ne 6, 3) := by decide +kernel
theorem dX9_man_9 : decode cX9_man 9 = .ok (.bipush (-2), 2) := by decide +kernel
theorem dX9_man_11 : decode cX9_man 11 = .ok (.ireturn, 1) := by decide +kernel
theorem dX9_man_12 : decode cX9_man 12 = .ok (.bipush 8, 2) := by decide +kernel
theorem dX9_man_14 : decode cX9_man 14 = .ok (.iload_n 2, 1) := by decide +kernel
theorem dX9_man_15 : decode cX9_man 15 = .ok (.imul, 1) := by decide +kernel
theorem dX9_man_16 : decode cX9_man 16 = .ok (.iload_n 1, 1) := by decide +kernel
theorem dX9_man_17 : decode cX9_man 17 = .ok (.iadd, 1) := by decide +kernel
theorem dX9_man_18 : decode cX9_man 18 = .ok (.istore_n 3, 1) := by decide +kernel
theorem dX9_man_19 : decode cX9_man 19 = .ok (.aload_n 0, 1) := by decide +kernel
theorem dX9_man_20 : decode cX9_man 20 = .ok (.iload_n 3, 1) := by decide +kernel
theorem dX9_man_21 : decode cX9_man 21 = .ok (.invokevirtual 102, 3) := by decide +kernel
theorem dX9_man_24 : decode cX9_man 24 = .ok (.ifCond .eq 21, 3) := by decide +kernel
theorem dX9_man_45 : decode cX9_man 45 = .ok (.bipush (-2), 2) := by decide +kernel
theorem dX9_man_47 : decode cX9_man 47 = .ok (.ireturn, 1) := by decide +kernel
set_option maxRecDepth 20000 in
theorem ggX9_want_X9_isField : GoodIn wsX9_want wsX9_isField := goodIn_r _ [6, 7, 8, 21, 22, 23, 24, 25, 26, 27, 28, 29, 30, 31, 32, 33, 34, 35, 36, 37, 38, 39, 40, 41, 42, 43, 44, 45, 46, 47, 48, 49, 50, 51, 52, 53, 54, 55, 56] (by decide +kernel) (by decide +kernel)
set_option maxRecDepth 20000 in
theorem gX9_want_X9_isField : GoodIn wsX9_want (wsV RX9 98 RX9 yX9_isField wsX9_isField) := goodIn_app (goodIn_of _ (by decide +kernel)) ggX9_want_X9_isField
set_option maxRecDepth 20000 in
theorem ggX9_want_X9_kindOf : GoodIn wsX9_want wsX9_kindOf := goodIn_r _ [12, 13, 14, 21, 22, 23, 24, 25, 26, 27, 28, 29, 30, 31, 32, 33, 34, 35, 36, 37, 38, 39, 40, 41, 42, 43, 44, 45, 46, 47, 48, 49, 50, 51, 52, 53, 54, 55, 56] (by decide +kernel) (by decide +kernel)
set_option maxRecDepth 20000 in
theorem gX9_want_X9_kindOf : GoodIn wsX9_want (wsV RX9 102 RX9 yX9_kindOf wsX9_kindOf) := goodIn_app (goodIn_of _ (by decide +kernel)) ggX9_want_X9_kindOf
theorem dX9_want_0 : decode cX9_want 0 = .ok (.aload_n 0, 1) := by decide +kernel
theorem dX9_want_1 : decode cX9_want 1 = .ok (.iload_n 1, 1) := by decide +kernel
theorem dX9_want_2 : decode cX9_want 2 = .ok (.iload_n 2, 1) := by decide +kernel
theorem dX9_want_3 : decode cX9_want 3 = .ok (.invokevirtual 98, 3) := by decide +kernel
theorem dX9_want_6 : decode cX9_want 6 = .ok (.ifCond .ne 6, 3) := by decide +kernel
theorem dX9_want_9 : decode cX9_want 9 = .ok (.bipush (-2), 2) := by decide +kernel
theorem dX9_want_11 : decode cX9_want 11 = .ok (.ireturn, 1) := by decide +kernel
theorem dX9_want_12 : decode cX9_want 12 = .ok (.bipush 8, 2) := by decide +kernel
theorem dX9_want_14 : decode cX9_want 14 = .ok (.iload_n 2, 1) := by decide +kernel
theorem dX9_want_15 : decode cX9_want 15 = .ok (.imul, 1) := by decide +kernel
theorem dX9_want_16 : decode cX9_want 16 = .ok (.iload_n 1, 1) := by decide +kernel
theorem dX9_want_17 : decode cX9_want 17 = .ok (.iadd, 1) := by decide +kernel
theorem dX9_want_18 : decode cX9_want 18 = .ok (.istore 4, 2) := by decide +kernel
theorem dX9_want_20 : decode cX9_want 20 = .ok (.aload_n 0, 1) := by decide +kernel
theorem dX9_want_21 : decode cX9_want 21 = .ok (.iload 4, 2) := by decide +kernel
theorem dX9_want_23 : decode cX9_want 23 = .ok (.invokevirtual 102, 3) := by decide +kernel
theorem dX9_want_26 : decode cX9_want 26 = .ok (.iconst 2, 1) := by decide +kernel
theorem dX9_want_27 : decode cX9_want 27 = .ok (.if_icmp .eq 16, 3) := by decide +kernel
theorem dX9_want_30 : decode cX9_want 30 = .ok (.aload_n 0, 1) := by decide +kernel
theorem dX9_want_31 : decode cX9_want 31 = .ok (.iload 4, 2) := by decide +kernel
theorem dX9_want_33 : decode cX9_want 33 = .ok (.invokevirtual 102, 3) := by decide +kernel
theorem dX9_want_36 : decode cX9_want 36 = .ok (.iconst 5, 1) := by decide +kernel
theorem dX9_want_37 : decode cX9_want 37 = .ok (.if_icmp .eq 6, 3) := by decide +kernel
theorem dX9_want_40 : decode cX9_want 40 = .ok (.bipush (-2), 2) := by decide +kernel
theorem dX9_want_42 : decode cX9_want 42 = .ok (.ireturn, 1) := by decide +kernel
theorem dX9_step_0 : decode cX9_step 0 = .ok (.aload_n 0, 1) := by decide +kernel
theorem dX9_step_1 : decode cX9_step 1 = .ok (.getfield 26, 3) := by decide +kernel
theorem dX9_step_4 : decode cX9_step 4 = .ok (.ifCond .lt 10, 3) := by decide +kernel
theorem dX9_step_14 : decode cX9_step 14 = .ok (.bipush (-2), 2) := by decide +kernel
theorem dX9_step_16 : decode cX9_step 16 = .ok (.ireturn, 1) := by decide +kernel
theorem dX9_walk_0 : decode cX9_walk 0 = .ok (.aload_n 0, 1) := by decide +kernel
theorem dX9_walk_1 : decode cX9_walk 1 = .ok (.getfield 26, 3) := by decide +kernel
theorem dX9_walk_4 : decode cX9_walk 4 = .ok (.ifCond .lt 12, 3) := by decide +kernel
theorem dX9_walk_16 : decode cX9_walk 16 = .ok (.bipush (-2), 2) := by decide +kernel
theorem dX9_walk_18 : decode cX9_walk 18 = .ok (.ireturn, 1) := by decide +kernel
theorem dX9_can_0 : decode cX9_can 0 = .ok (.aload_n 0, 1) := by decide +kernel
theorem dX9_can_1 : decode cX9_can 1 = .ok (.getfield 26, 3) := by decide +kernel
theorem dX9_can_4 : decode cX9_can 4 = .ok (.ifCond .lt 33, 3) := by decide +kernel
theorem dX9_can_37 : decode cX9_can 37 = .ok (.bipush (-2), 2) := by decide +kernel
theorem dX9_can_39 : decode cX9_can 39 = .ok (.ireturn, 1) := by decide +kernel
set_option maxRecDepth 20000 in
theorem ggX9_push_X9_can : GoodIn wsX9_push wsX9_can := goodIn_r _ [8, 3, 9, 2, 10, 11, 12, 7, 13, 14, 15, 16, 17, 18, 19, 20, 21, 22, 23, 24, 25, 26, 27, 28, 29, 30, 31, 32, 33, 34, 35, 36, 37, 38, 39, 40, 41, 42, 43, 44, 45, 46, 47, 48, 49, 50, 51, 52, 53, 81, 82, 83, 84, 85, 86, 87, 88, 89, 90, 91, 92, 93, 94, 95, 96, 97, 98, 99, 100, 101, 102, 103, 104, 105, 106, 107, 108, 109, 110, 111, 112, 113, 114, 115, 116] (by decide +kernel) (by decide +kernel)
set_option maxRecDepth 20000 in
theorem gX9_push_X9_can : GoodIn wsX9_push (wsV RX9 168 RX9 yX9_can wsX9_can) := goodIn_app (goodIn_of _ (by decide +kernel)) ggX9_push_X9_can
theorem dX9_push_0 : decode cX9_push 0 = .ok (.aload_n 0, 1) := by decide +kernel
theorem dX9_push_1 : decode cX9_push 1 = .ok (.iload_n 1, 1) := by decide +kernel
theorem dX9_push_2 : decode cX9_push 2 = .ok (.iload_n 2, 1) := by decide +kernel
theorem dX9_push_3 : decode cX9_push 3 = .ok (.iload_n 3, 1) := by decide +kernel
theorem dX9_push_4 : decode cX9_push 4 = .ok (.invokevirtual 168, 3) := by decide +kernel
theorem dX9_push_7 : decode cX9_push 7 = .ok (.istore 4, 2) := by decide +kernel
theorem dX9_push_9 : decode cX9_push 9 = .ok (.iload 4, 2) := by decide +kernel
theorem dX9_push_11 : decode cX9_push 11 = .ok (.ifCond .ge 6, 3) := by decide +kernel
theorem dX9_push_14 : decode cX9_push 14 = .ok (.iload 4, 2) := by decide +kernel
theorem dX9_push_16 : decode cX9_push 16 = .ok (.ireturn, 1) := by decide +kernel
theorem dX9_undo_0 : decode cX9_undo 0 = .ok (.aload_n 0, 1) := by decide +kernel
theorem dX9_undo_1 : decode cX9_undo 1 = .ok (.getfield 112, 3) := by decide +kernel
theorem dX9_undo_4 : decode cX9_undo 4 = .ok (.ifCond .ne 6, 3) := by decide +kernel
theorem dX9_undo_7 : decode cX9_undo 7 = .ok (.bipush (-2), 2) := by decide +kernel
theorem dX9_undo_9 : decode cX9_undo 9 = .ok (.ireturn, 1) := by decide +kernel
theorem dX9_redo_0 : decode cX9_redo 0 = .ok (.aload_n 0, 1) := by decide +kernel
theorem dX9_redo_1 : decode cX9_redo 1 = .ok (.getfield 115, 3) := by decide +kernel
theorem dX9_redo_4 : decode cX9_redo 4 = .ok (.ifCond .ne 6, 3) := by decide +kernel
theorem dX9_redo_7 : decode cX9_redo 7 = .ok (.bipush (-2), 2) := by decide +kernel
theorem dX9_redo_9 : decode cX9_redo 9 = .ok (.ireturn, 1) := by decide +kernel
set_option maxRecDepth 20000 in
theorem ggX9_kind_X9_isField : GoodIn wsX9_kind wsX9_isField := goodIn_r _ [5, 6, 7, 14, 15, 16, 17, 18, 19, 20, 21, 22, 23, 24, 25, 26, 27, 28, 29, 30, 31, 32, 33, 34, 35, 36, 37, 38, 39, 40, 41, 42, 43, 44, 45, 46, 47, 48, 49] (by decide +kernel) (by decide +kernel)
set_option maxRecDepth 20000 in
theorem gX9_kind_X9_isField : GoodIn wsX9_kind (wsV RX9 98 RX9 yX9_isField wsX9_isField) := goodIn_app (goodIn_of _ (by decide +kernel)) ggX9_kind_X9_isField
set_option maxRecDepth 20000 in
theorem ggX9_kind_X9_kindOf : GoodIn wsX9_kind wsX9_kindOf := goodIn_r _ [11, 12, 13, 14, 15, 16, 17, 18, 19, 20, 21, 22, 23, 24, 25, 26, 27, 28, 29, 30, 31, 32, 33, 34, 35, 36, 37, 38, 39, 40, 41, 42, 43, 44, 45, 46, 47, 48, 49] (by decide +kernel) (by decide +kernel)
set_option maxRecDepth 20000 in
theorem gX9_kind_X9_kindOf : GoodIn wsX9_kind (wsV RX9 102 RX9 yX9_kindOf wsX9_kindOf) := goodIn_app (goodIn_of _ (by decide +kernel)) ggX9_kind_X9_kindOf
theorem dX9_kind_0 : decode cX9_kind 0 = .ok (.aload_n 0, 1) := by decide +kernel
theorem dX9_kind_1 : decode cX9_kind 1 = .ok (.iload_n 1, 1) := by decide +kernel
theorem dX9_kind_2 : decode cX9_kind 2 = .ok (.iload_n 2, 1) := by decide +kernel
theorem dX9_kind_3 : decode cX9_kind 3 = .ok (.invokevirtual 98, 3) := by decide +kernel
theorem dX9_kind_6 : decode cX9_kind 6 = .ok (.ifCond .eq 16, 3) := by decide +kernel
theorem dX9_kind_9 : decode cX9_kind 9 = .ok (.aload_n 0, 1) := by decide +kernel
theorem dX9_kind_10 : decode cX9_kind 10 = .ok (.bipush 8, 2) := by decide +kernel
theorem dX9_kind_12 : decode cX9_kind 12 = .ok (.iload_n 2, 1) := by decide +kernel
theorem dX9_kind_13 : decode cX9_kind 13 = .ok (.imul, 1) := by decide +kernel
theorem dX9_kind_14 : decode cX9_kind 14 = .ok (.iload_n 1, 1) := by decide +kernel
theorem dX9_kind_15 : decode cX9_kind 15 = .ok (.iadd, 1) := by decide +kernel
theorem dX9_kind_16 : decode cX9_kind 16 = .ok (.invokevirtual 102, 3) := by decide +kernel
theorem dX9_kind_19 : decode cX9_kind 19 = .ok (.goto 5, 3) := by decide +kernel
theorem dX9_kind_22 : decode cX9_kind 22 = .ok (.bipush (-2), 2) := by decide +kernel
theorem dX9_kind_24 : decode cX9_kind 24 = .ok (.ireturn, 1) := by decide +kernel
set_option maxRecDepth 20000 in
theorem ggX9_on_X9_isField : GoodIn wsX9_on wsX9_isField := goodIn_r _ [8, 9, 10, 11, 12, 13, 14, 15, 16, 17, 18, 19, 20, 21, 22, 23, 24, 25, 26, 27, 28, 29, 30, 31, 32, 33, 34, 35, 36, 37, 38, 39, 40, 41, 42, 43, 44, 45, 46] (by decide +kernel) (by decide +kernel)
set_option maxRecDepth 20000 in
theorem gX9_on_X9_isField : GoodIn wsX9_on (wsV RX9 98 RX9 yX9_isField wsX9_isField) := goodIn_app (goodIn_of _ (by decide +kernel)) ggX9_on_X9_isField
theorem dX9_on_0 : decode cX9_on 0 = .ok (.aload_n 0, 1) := by decide +kernel
theorem dX9_on_1 : decode cX9_on 1 = .ok (.iload_n 1, 1) := by decide +kernel
theorem dX9_on_2 : decode cX9_on 2 = .ok (.iload_n 2, 1) := by decide +kernel
theorem dX9_on_3 : decode cX9_on 3 = .ok (.invokevirtual 98, 3) := by decide +kernel
theorem dX9_on_6 : decode cX9_on 6 = .ok (.ifCond .ne 6, 3) := by decide +kernel
theorem dX9_on_9 : decode cX9_on 9 = .ok (.bipush (-2), 2) := by decide +kernel
theorem dX9_on_11 : decode cX9_on 11 = .ok (.ireturn, 1) := by decide +kernel
theorem dX9_on_12 : decode cX9_on 12 = .ok (.bipush 8, 2) := by decide +kernel
theorem dX9_on_14 : decode cX9_on 14 = .ok (.iload_n 2, 1) := by decide +kernel
theorem dX9_on_15 : decode cX9_on 15 = .ok (.imul, 1) := by decide +kernel
theorem dX9_on_16 : decode cX9_on 16 = .ok (.iload_n 1, 1) := by decide +kernel
theorem dX9_on_17 : decode cX9_on 17 = .ok (.iadd, 1) := by decide +kernel
theorem dX9_on_18 : decode cX9_on 18 = .ok (.istore_n 3, 1) := by decide +kernel
theorem dX9_on_19 : decode cX9_on 19 = .ok (.aload_n 0, 1) := by decide +kernel
theorem dX9_on_20 : decode cX9_on 20 = .ok (.getfield 20, 3) := by decide +kernel
theorem dX9_on_23 : decode cX9_on 23 = .ok (.iload_n 3, 1) := by decide +kernel
theorem dX9_on_24 : decode cX9_on 24 = .ok (.baload, 1) := by decide +kernel
theorem dX9_on_25 : decode cX9_on 25 = .ok (.ifCond .eq 7, 3) := by decide +kernel
theorem dX9_on_32 : decode cX9_on 32 = .ok (.aload_n 0, 1) := by decide +kernel
theorem dX9_on_33 : decode cX9_on 33 = .ok (.getfield 26, 3) := by decide +kernel
theorem dX9_on_36 : decode cX9_on 36 = .ok (.iload_n 3, 1) := by decide +kernel
theorem dX9_on_37 : decode cX9_on 37 = .ok (.if_icmp .ne 7, 3) := by decide +kernel
theorem dX9_on_44 : decode cX9_on 44 = .ok (.iconst 0, 1) := by decide +kernel
theorem dX9_on_45 : decode cX9_on 45 = .ok (.aload_n 0, 1) := by decide +kernel
theorem dX9_on_46 : decode cX9_on 46 = .ok (.getfield 23, 3) := by decide +kernel
theorem dX9_on_49 : decode cX9_on 49 = .ok (.iload_n 3, 1) := by decide +kernel
theorem dX9_on_50 : decode cX9_on 50 = .ok (.baload, 1) := by decide +kernel
theorem dX9_on_51 : decode cX9_on 51 = .ok (.ifCond .eq 7, 3) := by decide +kernel
theorem dX9_on_58 : decode cX9_on 58 = .ok (.iconst 0, 1) := by decide +kernel
theorem dX9_on_59 : decode cX9_on 59 = .ok (.iadd, 1) := by decide +kernel
theorem dX9_on_60 : decode cX9_on 60 = .ok (.ireturn, 1) := by decide +kernel
theorem dX9_far_0 : decode cX9_far 0 = .ok (.aload_n 0, 1) := by decide +kernel
theorem dX9_far_1 : decode cX9_far 1 = .ok (.getfield 26, 3) := by decide +kernel
theorem dX9_far_4 : decode cX9_far 4 = .ok (.ifCond .lt 12, 3) := by decide +kernel
theorem dX9_far_16 : decode cX9_far 16 = .ok (.bipush (-2), 2) := by decide +kernel
theorem dX9_far_18 : decode cX9_far 18 = .ok (.ireturn, 1) := by decide +kernel
theorem dX9_isDone_0 : decode cX9_isDone 0 = .ok (.iconst 0, 1) := by decide +kernel
theorem dX9_isDone_1 : decode cX9_isDone 1 = .ok (.istore_n 1, 1) := by decide +kernel
theorem dX9_isDone_2 : decode cX9_isDone 2 = .ok (.iload_n 1, 1) := by decide +kernel
theorem dX9_isDone_3 : decode cX9_isDone 3 = .ok (.bipush 64, 2) := by decide +kernel
theorem dX9_isDone_5 : decode cX9_isDone 5 = .ok (.if_icmp .ge 29, 3) := by decide +kernel
theorem dX9_isDone_8 : decode cX9_isDone 8 = .ok (.aload_n 0, 1) := by decide +kernel
theorem dX9_isDone_9 : decode cX9_isDone 9 = .ok (.getfield 23, 3) := by decide +kernel
theorem dX9_isDone_12 : decode cX9_isDone 12 = .ok (.iload_n 1, 1) := by decide +kernel
theorem dX9_isDone_13 : decode cX9_isDone 13 = .ok (.baload, 1) := by decide +kernel
theorem dX9_isDone_14 : decode cX9_isDone 14 = .ok (.ifCond .eq 14, 3) := by decide +kernel
theorem dX9_isDone_28 : decode cX9_isDone 28 = .ok (.iinc 1 1, 3) := by decide +kernel
theorem dX9_isDone_31 : decode cX9_isDone 31 = .ok (.goto (-29), 3) := by decide +kernel
theorem dX9_isDone_34 : decode cX9_isDone 34 = .ok (.iconst 1, 1) := by decide +kernel
theorem dX9_isDone_35 : decode cX9_isDone 35 = .ok (.ireturn, 1) := by decide +kernel
theorem dX9_isReady_0 : decode cX9_isReady 0 = .ok (.aload_n 0, 1) := by decide +kernel
theorem dX9_isReady_1 : decode cX9_isReady 1 = .ok (.getfield 26, 3) := by decide +kernel
theorem dX9_isReady_4 : decode cX9_isReady 4 = .ok (.ifCond .lt 37, 3) := by decide +kernel
theorem dX9_isReady_41 : decode cX9_isReady 41 = .ok (.iconst 0, 1) := by decide +kernel
theorem dX9_isReady_42 : decode cX9_isReady 42 = .ok (.ireturn, 1) := by decide +kernel
set_option maxRecDepth 20000 in
theorem ggX9_isDead_X9_kindOf : GoodIn wsX9_isDead wsX9_kindOf := goodIn_r _ [7, 8, 9, 33, 34, 35, 36, 37, 38, 39, 40, 41, 42, 43, 44, 45, 46, 47, 48, 49, 50, 51, 52, 53, 54, 55, 56, 57, 58, 59, 60, 61, 62, 63, 64, 65, 66, 67, 68] (by decide +kernel) (by decide +kernel)
set_option maxRecDepth 20000 in
theorem gX9_isDead_X9_kindOf : GoodIn wsX9_isDead (wsV RX9 102 RX9 yX9_kindOf wsX9_kindOf) := goodIn_app (goodIn_of _ (by decide +kernel)) ggX9_isDead_X9_kindOf
theorem dX9_isDead_0 : decode cX9_isDead 0 = .ok (.aload_n 0, 1) := by decide +kernel
theorem dX9_isDead_1 : decode cX9_isDead 1 = .ok (.iload_n 1, 1) := by decide +kernel
theorem dX9_isDead_2 : decode cX9_isDead 2 = .ok (.invokevirtual 102, 3) := by decide +kernel
theorem dX9_isDead_5 : decode cX9_isDead 5 = .ok (.ifCond .ne 5, 3) := by decide +kernel
theorem dX9_isDead_8 : decode cX9_isDead 8 = .ok (.iconst 0, 1) := by decide +kernel
theorem dX9_isDead_9 : decode cX9_isDead 9 = .ok (.ireturn, 1) := by decide +kernel
set_option maxRecDepth 20000 in
theorem ggX9_dead_X9_isField : GoodIn wsX9_dead wsX9_isField := goodIn_r _ [5, 6, 7, 37, 38, 39, 40, 41, 42, 43, 44, 45, 46, 47, 48, 49, 50, 51, 52, 53, 54, 55, 56, 57, 58, 59, 60, 61, 62, 63, 64, 65, 66, 67, 68, 69, 70, 71, 72] (by decide +kernel) (by decide +kernel)
set_option maxRecDepth 20000 in
theorem gX9_dead_X9_isField : GoodIn wsX9_dead (wsV RX9 98 RX9 yX9_isField wsX9_isField) := goodIn_app (goodIn_of _ (by decide +kernel)) ggX9_dead_X9_isField
set_option maxRecDepth 20000 in
theorem ggX9_dead_X9_isDead : GoodIn wsX9_dead wsX9_isDead := goodIn_r _ [11, 12, 13, 14, 15, 16, 4, 17, 18, 19, 20, 21, 22, 23, 24, 25, 26, 27, 1, 2, 3, 5, 6, 7, 28, 29, 30, 31, 32, 33, 34, 35, 36, 37, 38, 39, 40, 41, 42, 43, 44, 45, 46, 47, 48, 49, 50, 51, 52, 53, 54, 55, 56, 57, 58, 59, 60, 61, 62, 63, 64, 65, 66, 67, 68, 69, 70, 71, 72] (by decide +kernel) (by decide +kernel)
set_option maxRecDepth 20000 in
theorem gX9_dead_X9_isDead : GoodIn wsX9_dead (wsV RX9 178 RX9 yX9_isDead wsX9_isDead) := goodIn_app (goodIn_of _ (by decide +kernel)) ggX9_dead_X9_isDead
theorem dX9_dead_0 : decode cX9_dead 0 = .ok (.aload_n 0, 1) := by decide +kernel
theorem dX9_dead_1 : decode cX9_dead 1 = .ok (.iload_n 1, 1) := by decide +kernel
theorem dX9_dead_2 : decode cX9_dead 2 = .ok (.iload_n 2, 1) := by decide +kernel
theorem dX9_dead_3 : decode cX9_dead 3 = .ok (.invokevirtual 98, 3) := by decide +kernel
theorem dX9_dead_6 : decode cX9_dead 6 = .ok (.ifCond .ne 8, 3) := by decide +kernel
theorem dX9_dead_9 : decode cX9_dead 9 = .ok (.bipush (-2), 2) := by decide +kernel
theorem dX9_dead_11 : decode cX9_dead 11 = .ok (.goto 21, 3) := by decide +kernel
theorem dX9_dead_14 : decode cX9_dead 14 = .ok (.aload_n 0, 1) := by decide +kernel
theorem dX9_dead_15 : decode cX9_dead 15 = .ok (.bipush 8, 2) := by decide +kernel
theorem dX9_dead_17 : decode cX9_dead 17 = .ok (.iload_n 2, 1) := by decide +kernel
theorem dX9_dead_18 : decode cX9_dead 18 = .ok (.imul, 1) := by decide +kernel
theorem dX9_dead_19 : decode cX9_dead 19 = .ok (.iload_n 1, 1) := by decide +kernel
theorem dX9_dead_20 : decode cX9_dead 20 = .ok (.iadd, 1) := by decide +kernel
theorem dX9_dead_21 : decode cX9_dead 21 = .ok (.invokevirtual 178, 3) := by decide +kernel
theorem dX9_dead_24 : decode cX9_dead 24 = .ok (.ifCond .eq 7, 3) := by decide +kernel
theorem dX9_dead_31 : decode cX9_dead 31 = .ok (.iconst 0, 1) := by decide +kernel
theorem dX9_dead_32 : decode cX9_dead 32 = .ok (.ireturn, 1) := by decide +kernel
theorem dX9_hold_0 : decode cX9_hold 0 = .ok (.iconst 0, 1) := by decide +kernel
theorem dX9_hold_1 : decode cX9_hold 1 = .ok (.istore_n 1, 1) := by decide +kernel
theorem dX9_hold_2 : decode cX9_hold 2 = .ok (.iload_n 1, 1) := by decide +kernel
theorem dX9_hold_3 : decode cX9_hold 3 = .ok (.bipush 64, 2) := by decide +kernel
theorem dX9_hold_5 : decode cX9_hold 5 = .ok (.if_icmp .ge 21, 3) := by decide +kernel
theorem dX9_hold_8 : decode cX9_hold 8 = .ok (.aload_n 0, 1) := by decide +kernel
theorem dX9_hold_9 : decode cX9_hold 9 = .ok (.getfield 58, 3) := by decide +kernel
theorem dX9_hold_12 : decode cX9_hold 12 = .ok (.iload_n 1, 1) := by decide +kernel
theorem dX9_hold_13 : decode cX9_hold 13 = .ok (.aload_n 0, 1) := by decide +kernel
theorem dX9_hold_14 : decode cX9_hold 14 = .ok (.getfield 20, 3) := by decide +kernel
theorem dX9_hold_17 : decode cX9_hold 17 = .ok (.iload_n 1, 1) := by decide +kernel
theorem dX9_hold_18 : decode cX9_hold 18 = .ok (.baload, 1) := by decide +kernel
theorem dX9_hold_19 : decode cX9_hold 19 = .ok (.bastore, 1) := by decide +kernel
theorem dX9_hold_20 : decode cX9_hold 20 = .ok (.iinc 1 1, 3) := by decide +kernel
theorem dX9_hold_23 : decode cX9_hold 23 = .ok (.goto (-21), 3) := by decide +kernel
theorem dX9_hold_26 : decode cX9_hold 26 = .ok (.iconst 1, 1) := by decide +kernel
theorem dX9_hold_27 : decode cX9_hold 27 = .ok (.istore_n 1, 1) := by decide +kernel
theorem dX9_hold_28 : decode cX9_hold 28 = .ok (.iload_n 1, 1) := by decide +kernel
theorem dX9_hold_29 : decode cX9_hold 29 = .ok (.ifCond .eq 117, 3) := by decide +kernel
theorem dX9_hold_32 : decode cX9_hold 32 = .ok (.iconst 0, 1) := by decide +kernel
theorem dX9_hold_33 : decode cX9_hold 33 = .ok (.istore_n 1, 1) := by decide +kernel
theorem dX9_hold_34 : decode cX9_hold 34 = .ok (.iconst 0, 1) := by decide +kernel
theorem dX9_hold_35 : decode cX9_hold 35 = .ok (.istore_n 2, 1) := by decide +kernel
theorem dX9_hold_36 : decode cX9_hold 36 = .ok (.iload_n 2, 1) := by decide +kernel
theorem dX9_hold_37 : decode cX9_hold 37 = .ok (.bipush 64, 2) := by decide +kernel
theorem dX9_hold_39 : decode cX9_hold 39 = .ok (.if_icmp .ge 104, 3) := by decide +kernel
theorem dX9_hold_42 : decode cX9_hold 42 = .ok (.aload_n 0, 1) := by decide +kernel
theorem dX9_hold_43 : decode cX9_hold 43 = .ok (.getfield 58, 3) := by decide +kernel
theorem dX9_hold_46 : decode cX9_hold 46 = .ok (.iload_n 2, 1) := by decide +kernel
theorem dX9_hold_47 : decode cX9_hold 47 = .ok (.baload, 1) := by decide +kernel
theorem dX9_hold_48 : decode cX9_hold 48 = .ok (.ifCond .eq 89, 3) := by decide +kernel
theorem dX9_hold_137 : decode cX9_hold 137 = .ok (.iinc 2 1, 3) := by decide +kernel
theorem dX9_hold_140 : decode cX9_hold 140 = .ok (.goto (-104), 3) := by decide +kernel
theorem dX9_hold_143 : decode cX9_hold 143 = .ok (.goto (-115), 3) := by decide +kernel
theorem dX9_hold_146 : decode cX9_hold 146 = .ok (.return_, 1) := by decide +kernel
set_option maxRecDepth 20000 in
theorem ggX9_held_X9_isField : GoodIn wsX9_held wsX9_isField := goodIn_r _ [6, 7, 8, 28, 29, 30, 31, 32, 33, 34, 35, 36, 37, 38, 39, 40, 41, 42, 43, 44, 45, 46, 47, 48, 49, 50, 51, 52, 53, 54, 55, 56, 57, 58, 59, 60, 61, 62, 63] (by decide +kernel) (by decide +kernel)
set_option maxRecDepth 20000 in
theorem gX9_held_X9_isField : GoodIn wsX9_held (wsV RX9 98 RX9 yX9_isField wsX9_isField) := goodIn_app (goodIn_of _ (by decide +kernel)) ggX9_held_X9_isField
set_option maxRecDepth 20000 in
theorem ggX9_held_X9_hold : GoodIn wsX9_held wsX9_hold := goodIn_r _ [12, 1, 13, 14, 15, 16, 5, 17, 18, 19, 20, 21, 22, 23, 2, 3, 4, 6, 7, 8, 24, 25, 26, 27, 28, 29, 30, 31, 32, 33, 34, 35, 36, 37, 38, 39, 40, 41, 42, 43, 44, 45, 46, 47, 48, 49, 50, 51, 52, 53, 54, 55, 56, 57, 58, 59, 60, 61, 62, 63] (by decide +kernel) (by decide +kernel)
set_option maxRecDepth 20000 in
theorem gX9_held_X9_hold : GoodIn wsX9_held (wsV RX9 184 RX9 yX9_hold wsX9_hold) := goodIn_app (goodIn_of _ (by decide +kernel)) ggX9_held_X9_hold
theorem dX9_held_0 : decode cX9_held 0 = .ok (.aload_n 0, 1) := by decide +kernel
theorem dX9_held_1 : decode cX9_held 1 = .ok (.iload_n 1, 1) := by decide +kernel
theorem dX9_held_2 : decode cX9_held 2 = .ok (.iload_n 2, 1) := by decide +kernel
theorem dX9_held_3 : decode cX9_held 3 = .ok (.invokevirtual 98, 3) := by decide +kernel
theorem dX9_held_6 : decode cX9_held 6 = .ok (.ifCond .ne 6, 3) := by decide +kernel
theorem dX9_held_9 : decode cX9_held 9 = .ok (.bipush (-2), 2) := by decide +kernel
theorem dX9_held_11 : decode cX9_held 11 = .ok (.ireturn, 1) := by decide +kernel
theorem dX9_held_12 : decode cX9_held 12 = .ok (.aload_n 0, 1) := by decide +kernel
theorem dX9_held_13 : decode cX9_held 13 = .ok (.invokevirtual 184, 3) := by decide +kernel
theorem dX9_held_16 : decode cX9_held 16 = .ok (.aload_n 0, 1) := by decide +kernel
theorem dX9_held_17 : decode cX9_held 17 = .ok (.getfield 58, 3) := by decide +kernel
theorem dX9_held_20 : decode cX9_held 20 = .ok (.bipush 8, 2) := by decide +kernel
theorem dX9_held_22 : decode cX9_held 22 = .ok (.iload_n 2, 1) := by decide +kernel
theorem dX9_held_23 : decode cX9_held 23 = .ok (.imul, 1) := by decide +kernel
theorem dX9_held_24 : decode cX9_held 24 = .ok (.iload_n 1, 1) := by decide +kernel
theorem dX9_held_25 : decode cX9_held 25 = .ok (.iadd, 1) := by decide +kernel
theorem dX9_held_26 : decode cX9_held 26 = .ok (.baload, 1) := by decide +kernel
theorem dX9_held_27 : decode cX9_held 27 = .ok (.ifCond .eq 7, 3) := by decide +kernel
theorem dX9_held_34 : decode cX9_held 34 = .ok (.iconst 0, 1) := by decide +kernel
theorem dX9_held_35 : decode cX9_held 35 = .ok (.ireturn, 1) := by decide +kernel
set_option maxRecDepth 20000 in
theorem ggX9_spoilt_X9_isReady : GoodIn wsX9_spoilt wsX9_isReady := goodIn_r _ [9, 10, 2, 4, 11, 12, 13, 8, 14, 57, 58, 59, 60, 61, 62, 63, 64, 65, 66, 67, 68, 69, 70, 71, 72, 73, 74, 75, 76, 77, 78, 79, 80, 81, 82, 83, 84, 85, 86, 87, 88, 89, 90, 91, 92] (by decide +kernel) (by decide +kernel)
set_option maxRecDepth 20000 in
theorem gX9_spoilt_X9_isReady : GoodIn wsX9_spoilt (wsV RX9 187 RX9 yX9_isReady wsX9_isReady) := goodIn_app (goodIn_of _ (by decide +kernel)) ggX9_spoilt_X9_isReady
theorem dX9_spoilt_0 : decode cX9_spoilt 0 = .ok (.aload_n 0, 1) := by decide +kernel
theorem dX9_spoilt_1 : decode cX9_spoilt 1 = .ok (.invokevirtual 187, 3) := by decide +kernel
theorem dX9_spoilt_4 : decode cX9_spoilt 4 = .ok (.ifCond .ne 6, 3) := by decide +kernel
theorem dX9_spoilt_7 : decode cX9_spoilt 7 = .ok (.bipush (-2), 2) := by decide +kernel
theorem dX9_spoilt_9 : decode cX9_spoilt 9 = .ok (.ireturn, 1) := by decide +kernel
theorem dX9_why_0 : decode cX9_why 0 = .ok (.aload_n 0, 1) := by decide +kernel
theorem dX9_why_1 : decode cX9_why 1 = .ok (.getfield 49, 3) := by decide +kernel
theorem dX9_why_4 : decode cX9_why 4 = .ok (.ireturn, 1) := by decide +kernel
set_option maxRecDepth 20000 in
theorem ggX9_low_X9_isReady : GoodIn wsX9_low wsX9_isReady := goodIn_r _ [11, 12, 4, 3, 13, 14, 15, 10, 16, 46, 47, 48, 49, 50, 51, 52, 53, 54, 55, 56, 57, 58, 59, 60, 61, 62, 63, 64, 65, 66, 67, 68, 69, 70, 71, 72, 73, 74, 75, 76, 77, 78, 79, 80, 81] (by decide +kernel) (by decide +kernel)
set_option maxRecDepth 20000 in
theorem gX9_low_X9_isReady : GoodIn wsX9_low (wsV RX9 187 RX9 yX9_isReady wsX9_isReady) := goodIn_app (goodIn_of _ (by decide +kernel)) ggX9_low_X9_isReady
theorem dX9_low_0 : decode cX9_low 0 = .ok (.aload_n 0, 1) := by decide +kernel
theorem dX9_low_1 : decode cX9_low 1 = .ok (.invokevirtual 187, 3) := by decide +kernel
theorem dX9_low_4 : decode cX9_low 4 = .ok (.ifCond .ne 6, 3) := by decide +kernel
theorem dX9_low_7 : decode cX9_low 7 = .ok (.bipush (-2), 2) := by decide +kernel
theorem dX9_low_9 : decode cX9_low 9 = .ok (.ireturn, 1) := by decide +kernel
set_option maxRecDepth 20000 in
theorem ggX9_price_X9_isField : GoodIn wsX9_price wsX9_isField := goodIn_r _ [6, 7, 8, 32, 33, 34, 35, 36, 37, 38, 39, 40, 41, 42, 43, 44, 45, 46, 47, 48, 49, 50, 51, 52, 53, 54, 55, 56, 57, 58, 59, 60, 61, 62, 63, 64, 65, 66, 67] (by decide +kernel) (by decide +kernel)
set_option maxRecDepth 20000 in
theorem gX9_price_X9_isField : GoodIn wsX9_price (wsV RX9 98 RX9 yX9_isField wsX9_isField) := goodIn_app (goodIn_of _ (by decide +kernel)) ggX9_price_X9_isField
set_option maxRecDepth 20000 in
theorem ggX9_price_X9_kindOf : GoodIn wsX9_price wsX9_kindOf := goodIn_r _ [12, 13, 14, 32, 33, 34, 35, 36, 37, 38, 39, 40, 41, 42, 43, 44, 45, 46, 47, 48, 49, 50, 51, 52, 53, 54, 55, 56, 57, 58, 59, 60, 61, 62, 63, 64, 65, 66, 67] (by decide +kernel) (by decide +kernel)
set_option maxRecDepth 20000 in
theorem gX9_price_X9_kindOf : GoodIn wsX9_price (wsV RX9 102 RX9 yX9_kindOf wsX9_kindOf) := goodIn_app (goodIn_of _ (by decide +kernel)) ggX9_price_X9_kindOf
theorem dX9_price_0 : decode cX9_price 0 = .ok (.aload_n 0, 1) := by decide +kernel
theorem dX9_price_1 : decode cX9_price 1 = .ok (.iload_n 1, 1) := by decide +kernel
theorem dX9_price_2 : decode cX9_price 2 = .ok (.iload_n 2, 1) := by decide +kernel
theorem dX9_price_3 : decode cX9_price 3 = .ok (.invokevirtual 98, 3) := by decide +kernel
theorem dX9_price_6 : decode cX9_price 6 = .ok (.ifCond .eq 40, 3) := by decide +kernel
theorem dX9_price_9 : decode cX9_price 9 = .ok (.aload_n 0, 1) := by decide +kernel
theorem dX9_price_10 : decode cX9_price 10 = .ok (.iload_n 3, 1) := by decide +kernel
theorem dX9_price_11 : decode cX9_price 11 = .ok (.iload 4, 2) := by decide +kernel
theorem dX9_price_13 : decode cX9_price 13 = .ok (.invokevirtual 98, 3) := by decide +kernel
theorem dX9_price_16 : decode cX9_price 16 = .ok (.ifCond .eq 30, 3) := by decide +kernel
theorem dX9_price_19 : decode cX9_price 19 = .ok (.aload_n 0, 1) := by decide +kernel
theorem dX9_price_20 : decode cX9_price 20 = .ok (.bipush 8, 2) := by decide +kernel
theorem dX9_price_22 : decode cX9_price 22 = .ok (.iload_n 2, 1) := by decide +kernel
theorem dX9_price_23 : decode cX9_price 23 = .ok (.imul, 1) := by decide +kernel
theorem dX9_price_24 : decode cX9_price 24 = .ok (.iload_n 1, 1) := by decide +kernel
theorem dX9_price_25 : decode cX9_price 25 = .ok (.iadd, 1) := by decide +kernel
theorem dX9_price_26 : decode cX9_price 26 = .ok (.invokevirtual 102, 3) := by decide +kernel
theorem dX9_price_29 : decode cX9_price 29 = .ok (.ifCond .eq 17, 3) := by decide +kernel
theorem dX9_price_46 : decode cX9_price 46 = .ok (.bipush (-2), 2) := by decide +kernel
theorem dX9_price_48 : decode cX9_price 48 = .ok (.ireturn, 1) := by decide +kernel
set_option maxRecDepth 20000 in
theorem ggX9_fields_X9_kindOf : GoodIn wsX9_fields wsX9_kindOf := goodIn_r _ [9, 10, 11, 12, 13, 14, 15, 16, 17, 18, 19, 20, 21, 22, 23, 24, 25, 26, 27, 28, 29, 30, 31, 32, 33, 34, 35, 36, 37, 38, 39, 40, 41, 42, 43, 44, 45, 46, 47] (by decide +kernel) (by decide +kernel)
set_option maxRecDepth 20000 in
theorem gX9_fields_X9_kindOf : GoodIn wsX9_fields (wsV RX9 102 RX9 yX9_kindOf wsX9_kindOf) := goodIn_app (goodIn_of _ (by decide +kernel)) ggX9_fields_X9_kindOf
theorem dX9_fields_0 : decode cX9_fields 0 = .ok (.iconst 0, 1) := by decide +kernel
theorem dX9_fields_1 : decode cX9_fields 1 = .ok (.istore_n 1, 1) := by decide +kernel
theorem dX9_fields_2 : decode cX9_fields 2 = .ok (.iconst 0, 1) := by decide +kernel
theorem dX9_fields_3 : decode cX9_fields 3 = .ok (.istore_n 2, 1) := by decide +kernel
theorem dX9_fields_4 : decode cX9_fields 4 = .ok (.iload_n 2, 1) := by decide +kernel
theorem dX9_fields_5 : decode cX9_fields 5 = .ok (.bipush 64, 2) := by decide +kernel
theorem dX9_fields_7 : decode cX9_fields 7 = .ok (.if_icmp .ge 72, 3) := by decide +kernel
theorem dX9_fields_10 : decode cX9_fields 10 = .ok (.aload_n 0, 1) := by decide +kernel
theorem dX9_fields_11 : decode cX9_fields 11 = .ok (.getfield 67, 3) := by decide +kernel
theorem dX9_fields_14 : decode cX9_fields 14 = .ok (.iload_n 2, 1) := by decide +kernel
theorem dX9_fields_15 : decode cX9_fields 15 = .ok (.iconst (-1), 1) := by decide +kernel
theorem dX9_fields_16 : decode cX9_fields 16 = .ok (.iastore, 1) := by decide +kernel
theorem dX9_fields_17 : decode cX9_fields 17 = .ok (.iload_n 2, 1) := by decide +kernel
theorem dX9_fields_18 : decode cX9_fields 18 = .ok (.bipush 8, 2) := by decide +kernel
theorem dX9_fields_20 : decode cX9_fields 20 = .ok (.idiv, 1) := by decide +kernel
theorem dX9_fields_21 : decode cX9_fields 21 = .ok (.aload_n 0, 1) := by decide +kernel
theorem dX9_fields_22 : decode cX9_fields 22 = .ok (.getfield 95, 3) := by decide +kernel
theorem dX9_fields_25 : decode cX9_fields 25 = .ok (.if_icmp .ge 48, 3) := by decide +kernel
theorem dX9_fields_28 : decode cX9_fields 28 = .ok (.iload_n 2, 1) := by decide +kernel
theorem dX9_fields_29 : decode cX9_fields 29 = .ok (.bipush 8, 2) := by decide +kernel
theorem dX9_fields_31 : decode cX9_fields 31 = .ok (.irem, 1) := by decide +kernel
theorem dX9_fields_32 : decode cX9_fields 32 = .ok (.aload_n 0, 1) := by decide +kernel
theorem dX9_fields_33 : decode cX9_fields 33 = .ok (.getfield 92, 3) := by decide +kernel
theorem dX9_fields_36 : decode cX9_fields 36 = .ok (.if_icmp .ge 37, 3) := by decide +kernel
theorem dX9_fields_39 : decode cX9_fields 39 = .ok (.aload_n 0, 1) := by decide +kernel
theorem dX9_fields_40 : decode cX9_fields 40 = .ok (.iload_n 2, 1) := by decide +kernel
theorem dX9_fields_41 : decode cX9_fields 41 = .ok (.invokevirtual 102, 3) := by decide +kernel
theorem dX9_fields_44 : decode cX9_fields 44 = .ok (.ifCond .ne 6, 3) := by decide +kernel
theorem dX9_fields_47 : decode cX9_fields 47 = .ok (.goto 26, 3) := by decide +kernel
theorem dX9_fields_73 : decode cX9_fields 73 = .ok (.iinc 2 1, 3) := by decide +kernel
theorem dX9_fields_76 : decode cX9_fields 76 = .ok (.goto (-72), 3) := by decide +kernel
theorem dX9_fields_79 : decode cX9_fields 79 = .ok (.iload_n 1, 1) := by decide +kernel
theorem dX9_fields_80 : decode cX9_fields 80 = .ok (.ireturn, 1) := by decide +kernel
set_option maxRecDepth 20000 in
theorem ggX9_fewest_X9_isReady : GoodIn wsX9_fewest wsX9_isReady := goodIn_r _ [12, 13, 1, 14, 15, 16, 17, 11, 18, 116, 117, 118, 119, 120, 121, 122, 123, 124, 125, 126, 127, 128, 129, 130, 131, 132, 133, 134, 135, 136, 137, 138, 139, 140, 141, 142, 143, 144, 145, 146, 147, 148, 149, 150, 151] (by decide +kernel) (by decide +kernel)
set_option maxRecDepth 20000 in
theorem gX9_fewest_X9_isReady : GoodIn wsX9_fewest (wsV RX9 187 RX9 yX9_isReady wsX9_isReady) := goodIn_app (goodIn_of _ (by decide +kernel)) ggX9_fewest_X9_isReady
theorem dX9_fewest_0 : decode cX9_fewest 0 = .ok (.aload_n 0, 1) := by decide +kernel
theorem dX9_fewest_1 : decode cX9_fewest 1 = .ok (.invokevirtual 187, 3) := by decide +kernel
theorem dX9_fewest_4 : decode cX9_fewest 4 = .ok (.ifCond .eq 24, 3) := by decide +kernel
theorem dX9_fewest_28 : decode cX9_fewest 28 = .ok (.bipush (-2), 2) := by decide +kernel
theorem dX9_fewest_30 : decode cX9_fewest 30 = .ok (.ireturn, 1) := by decide +kernel
theorem dX9_steps_0 : decode cX9_steps 0 = .ok (.aload_n 0, 1) := by decide +kernel
theorem dX9_steps_1 : decode cX9_steps 1 = .ok (.getfield 215, 3) := by decide +kernel
theorem dX9_steps_4 : decode cX9_steps 4 = .ok (.ireturn, 1) := by decide +kernel
theorem dX9_plan_0 : decode cX9_plan 0 = .ok (.iload_n 1, 1) := by decide +kernel
theorem dX9_plan_1 : decode cX9_plan 1 = .ok (.ifCond .lt 20, 3) := by decide +kernel
theorem dX9_plan_4 : decode cX9_plan 4 = .ok (.iload_n 1, 1) := by decide +kernel
theorem dX9_plan_5 : decode cX9_plan 5 = .ok (.aload_n 0, 1) := by decide +kernel
theorem dX9_plan_6 : decode cX9_plan 6 = .ok (.getfield 215, 3) := by decide +kernel
theorem dX9_plan_9 : decode cX9_plan 9 = .ok (.if_icmp .ge 12, 3) := by decide +kernel
theorem dX9_plan_21 : decode cX9_plan 21 = .ok (.bipush (-2), 2) := by decide +kernel
theorem dX9_plan_23 : decode cX9_plan 23 = .ok (.ireturn, 1) := by decide +kernel
theorem dX9_follow_0 : decode cX9_follow 0 = .ok (.aload_n 0, 1) := by decide +kernel
theorem dX9_follow_1 : decode cX9_follow 1 = .ok (.getfield 26, 3) := by decide +kernel
theorem dX9_follow_4 : decode cX9_follow 4 = .ok (.ifCond .lt 10, 3) := by decide +kernel
theorem dX9_follow_14 : decode cX9_follow 14 = .ok (.bipush (-2), 2) := by decide +kernel
theorem dX9_follow_16 : decode cX9_follow 16 = .ok (.ireturn, 1) := by decide +kernel
set_option maxRecDepth 20000 in
theorem ggX9_tell_X9_isWay : GoodIn wsX9_tell wsX9_isWay := goodIn_r _ [6] (by decide +kernel) (by decide +kernel)
set_option maxRecDepth 20000 in
theorem gX9_tell_X9_isWay : GoodIn wsX9_tell (va_wsS RX9 118 yX9_isWay wsX9_isWay) := goodIn_app (goodIn_of _ (by decide +kernel)) ggX9_tell_X9_isWay
theorem dX9_tell_0 : decode cX9_tell 0 = .ok (.iload_n 1, 1) := by decide +kernel
theorem dX9_tell_1 : decode cX9_tell 1 = .ok (.invokestatic 118, 3) := by decide +kernel
theorem dX9_tell_4 : decode cX9_tell 4 = .ok (.ifCond .eq 13, 3) := by decide +kernel
theorem dX9_tell_7 : decode cX9_tell 7 = .ok (.aload_n 0, 1) := by decide +kernel
theorem dX9_tell_8 : decode cX9_tell 8 = .ok (.getfield 230, 3) := by decide +kernel
theorem dX9_tell_11 : decode cX9_tell 11 = .ok (.sipush 400, 3) := by decide +kernel
theorem dX9_tell_14 : decode cX9_tell 14 = .ok (.if_icmp .ne 6, 3) := by decide +kernel
theorem dX9_tell_17 : decode cX9_tell 17 = .ok (.bipush (-2), 2) := by decide +kernel
theorem dX9_tell_19 : decode cX9_tell 19 = .ok (.ireturn, 1) := by decide +kernel
theorem dX9_tell_20 : decode cX9_tell 20 = .ok (.aload_n 0, 1) := by decide +kernel
theorem dX9_tell_21 : decode cX9_tell 21 = .ok (.getfield 46, 3) := by decide +kernel
theorem dX9_tell_24 : decode cX9_tell 24 = .ok (.aload_n 0, 1) := by decide +kernel
theorem dX9_tell_25 : decode cX9_tell 25 = .ok (.getfield 230, 3) := by decide +kernel
theorem dX9_tell_28 : decode cX9_tell 28 = .ok (.iload_n 1, 1) := by decide +kernel
theorem dX9_tell_29 : decode cX9_tell 29 = .ok (.iastore, 1) := by decide +kernel
theorem dX9_tell_30 : decode cX9_tell 30 = .ok (.aload_n 0, 1) := by decide +kernel
theorem dX9_tell_31 : decode cX9_tell 31 = .ok (.dup, 1) := by decide +kernel
theorem dX9_tell_32 : decode cX9_tell 32 = .ok (.getfield 230, 3) := by decide +kernel
theorem dX9_tell_35 : decode cX9_tell 35 = .ok (.iconst 1, 1) := by decide +kernel
theorem dX9_tell_36 : decode cX9_tell 36 = .ok (.iadd, 1) := by decide +kernel
theorem dX9_tell_37 : decode cX9_tell 37 = .ok (.putfield 230, 3) := by decide +kernel
theorem dX9_tell_40 : decode cX9_tell 40 = .ok (.aload_n 0, 1) := by decide +kernel
theorem dX9_tell_41 : decode cX9_tell 41 = .ok (.getfield 230, 3) := by decide +kernel
theorem dX9_tell_44 : decode cX9_tell 44 = .ok (.ireturn, 1) := by decide +kernel
theorem dX9_copy_0 : decode cX9_copy 0 = .ok (.aload_n 0, 1) := by decide +kernel
theorem dX9_copy_1 : decode cX9_copy 1 = .ok (.getfield 215, 3) := by decide +kernel
theorem dX9_copy_4 : decode cX9_copy 4 = .ok (.sipush 400, 3) := by decide +kernel
theorem dX9_copy_7 : decode cX9_copy 7 = .ok (.if_icmp .le 6, 3) := by decide +kernel
theorem dX9_copy_13 : decode cX9_copy 13 = .ok (.iconst 0, 1) := by decide +kernel
theorem dX9_copy_14 : decode cX9_copy 14 = .ok (.istore_n 1, 1) := by decide +kernel
theorem dX9_copy_15 : decode cX9_copy 15 = .ok (.iload_n 1, 1) := by decide +kernel
theorem dX9_copy_16 : decode cX9_copy 16 = .ok (.aload_n 0, 1) := by decide +kernel
theorem dX9_copy_17 : decode cX9_copy 17 = .ok (.getfield 215, 3) := by decide +kernel
theorem dX9_copy_20 : decode cX9_copy 20 = .ok (.if_icmp .ge 21, 3) := by decide +kernel
theorem dX9_copy_41 : decode cX9_copy 41 = .ok (.aload_n 0, 1) := by decide +kernel
theorem dX9_copy_42 : decode cX9_copy 42 = .ok (.aload_n 0, 1) := by decide +kernel
theorem dX9_copy_43 : decode cX9_copy 43 = .ok (.getfield 215, 3) := by decide +kernel
theorem dX9_copy_46 : decode cX9_copy 46 = .ok (.putfield 230, 3) := by decide +kernel
theorem dX9_copy_49 : decode cX9_copy 49 = .ok (.aload_n 0, 1) := by decide +kernel
theorem dX9_copy_50 : decode cX9_copy 50 = .ok (.getfield 230, 3) := by decide +kernel
theorem dX9_copy_53 : decode cX9_copy 53 = .ok (.ireturn, 1) := by decide +kernel
theorem dX9_forge_0 : decode cX9_forge 0 = .ok (.iload_n 1, 1) := by decide +kernel
theorem dX9_forge_1 : decode cX9_forge 1 = .ok (.ifCond .lt 18, 3) := by decide +kernel
theorem dX9_forge_4 : decode cX9_forge 4 = .ok (.iload_n 1, 1) := by decide +kernel
theorem dX9_forge_5 : decode cX9_forge 5 = .ok (.aload_n 0, 1) := by decide +kernel
theorem dX9_forge_6 : decode cX9_forge 6 = .ok (.getfield 230, 3) := by decide +kernel
theorem dX9_forge_9 : decode cX9_forge 9 = .ok (.if_icmp .ge 10, 3) := by decide +kernel
theorem dX9_forge_19 : decode cX9_forge 19 = .ok (.bipush (-2), 2) := by decide +kernel
theorem dX9_forge_21 : decode cX9_forge 21 = .ok (.ireturn, 1) := by decide +kernel
theorem dX9_hush_0 : decode cX9_hush 0 = .ok (.aload_n 0, 1) := by decide +kernel
theorem dX9_hush_1 : decode cX9_hush 1 = .ok (.getfield 230, 3) := by decide +kernel
theorem dX9_hush_4 : decode cX9_hush 4 = .ok (.istore_n 1, 1) := by decide +kernel
theorem dX9_hush_5 : decode cX9_hush 5 = .ok (.aload_n 0, 1) := by decide +kernel
theorem dX9_hush_6 : decode cX9_hush 6 = .ok (.iconst 0, 1) := by decide +kernel
theorem dX9_hush_7 : decode cX9_hush 7 = .ok (.putfield 230, 3) := by decide +kernel
theorem dX9_hush_10 : decode cX9_hush 10 = .ok (.iload_n 1, 1) := by decide +kernel
theorem dX9_hush_11 : decode cX9_hush 11 = .ok (.ireturn, 1) := by decide +kernel
theorem dX9_check_0 : decode cX9_check 0 = .ok (.aload_n 0, 1) := by decide +kernel
theorem dX9_check_1 : decode cX9_check 1 = .ok (.getfield 26, 3) := by decide +kernel
theorem dX9_check_4 : decode cX9_check 4 = .ok (.ifCond .ge 6, 3) := by decide +kernel
theorem dX9_check_7 : decode cX9_check 7 = .ok (.bipush (-2), 2) := by decide +kernel
theorem dX9_check_9 : decode cX9_check 9 = .ok (.ireturn, 1) := by decide +kernel
theorem dJ13_bitCount_95d88_0 : decode cJ13_bitCount_95d88 0 = .ok (.lload_n 0, 1) := by decide +kernel
theorem dJ13_bitCount_95d88_1 : decode cJ13_bitCount_95d88 1 = .ok (.lload_n 0, 1) := by decide +kernel
theorem dJ13_bitCount_95d88_2 : decode cJ13_bitCount_95d88 2 = .ok (.iconst 1, 1) := by decide +kernel
theorem dJ13_bitCount_95d88_3 : decode cJ13_bitCount_95d88 3 = .ok (.lushr, 1) := by decide +kernel
theorem dJ13_bitCount_95d88_4 : decode cJ13_bitCount_95d88 4 = .ok (.ldc2_w 314, 3) := by decide +kernel
theorem dJ13_bitCount_95d88_7 : decode cJ13_bitCount_95d88 7 = .ok (.land, 1) := by decide +kernel
theorem dJ13_bitCount_95d88_8 : decode cJ13_bitCount_95d88 8 = .ok (.lsub, 1) := by decide +kernel
theorem dJ13_bitCount_95d88_9 : decode cJ13_bitCount_95d88 9 = .ok (.lstore_n 0, 1) := by decide +kernel
theorem dJ13_bitCount_95d88_10 : decode cJ13_bitCount_95d88 10 = .ok (.lload_n 0, 1) := by decide +kernel
theorem dJ13_bitCount_95d88_11 : decode cJ13_bitCount_95d88 11 = .ok (.ldc2_w 316, 3) := by decide +kernel
theorem dJ13_bitCount_95d88_14 : decode cJ13_bitCount_95d88 14 = .ok (.land, 1) := by decide +kernel
theorem dJ13_bitCount_95d88_15 : decode cJ13_bitCount_95d88 15 = .ok (.lload_n 0, 1) := by decide +kernel
theorem dJ13_bitCount_95d88_16 : decode cJ13_bitCount_95d88 16 = .ok (.iconst 2, 1) := by decide +kernel
theorem dJ13_bitCount_95d88_17 : decode cJ13_bitCount_95d88 17 = .ok (.lushr, 1) := by decide +kernel
theorem dJ13_bitCount_95d88_18 : decode cJ13_bitCount_95d88 18 = .ok (.ldc2_w 316, 3) := by decide +kernel
theorem dJ13_bitCount_95d88_21 : decode cJ13_bitCount_95d88 21 = .ok (.land, 1) := by decide +kernel
theorem dJ13_bitCount_95d88_22 : decode cJ13_bitCount_95d88 22 = .ok (.ladd, 1) := by decide +kernel
theorem dJ13_bitCount_95d88_23 : decode cJ13_bitCount_95d88 23 = .ok (.lstore_n 0, 1) := by decide +kernel
theorem dJ13_bitCount_95d88_24 : decode cJ13_bitCount_95d88 24 = .ok (.lload_n 0, 1) := by decide +kernel
theorem dJ13_bitCount_95d88_25 : decode cJ13_bitCount_95d88 25 = .ok (.lload_n 0, 1) := by decide +kernel
theorem dJ13_bitCount_95d88_26 : decode cJ13_bitCount_95d88 26 = .ok (.iconst 4, 1) := by decide +kernel
theorem dJ13_bitCount_95d88_27 : decode cJ13_bitCount_95d88 27 = .ok (.lushr, 1) := by decide +kernel
theorem dJ13_bitCount_95d88_28 : decode cJ13_bitCount_95d88 28 = .ok (.ladd, 1) := by decide +kernel
theorem dJ13_bitCount_95d88_29 : decode cJ13_bitCount_95d88 29 = .ok (.ldc2_w 318, 3) := by decide +kernel
theorem dJ13_bitCount_95d88_32 : decode cJ13_bitCount_95d88 32 = .ok (.land, 1) := by decide +kernel
theorem dJ13_bitCount_95d88_33 : decode cJ13_bitCount_95d88 33 = .ok (.lstore_n 0, 1) := by decide +kernel
theorem dJ13_bitCount_95d88_34 : decode cJ13_bitCount_95d88 34 = .ok (.lload_n 0, 1) := by decide +kernel
theorem dJ13_bitCount_95d88_35 : decode cJ13_bitCount_95d88 35 = .ok (.lload_n 0, 1) := by decide +kernel
theorem dJ13_bitCount_95d88_36 : decode cJ13_bitCount_95d88 36 = .ok (.bipush 8, 2) := by decide +kernel
theorem dJ13_bitCount_95d88_38 : decode cJ13_bitCount_95d88 38 = .ok (.lushr, 1) := by decide +kernel
theorem dJ13_bitCount_95d88_39 : decode cJ13_bitCount_95d88 39 = .ok (.ladd, 1) := by decide +kernel
theorem dJ13_bitCount_95d88_40 : decode cJ13_bitCount_95d88 40 = .ok (.lstore_n 0, 1) := by decide +kernel
theorem dJ13_bitCount_95d88_41 : decode cJ13_bitCount_95d88 41 = .ok (.lload_n 0, 1) := by decide +kernel
theorem dJ13_bitCount_95d88_42 : decode cJ13_bitCount_95d88 42 = .ok (.lload_n 0, 1) := by decide +kernel
theorem dJ13_bitCount_95d88_43 : decode cJ13_bitCount_95d88 43 = .ok (.bipush 16, 2) := by decide +kernel
theorem dJ13_bitCount_95d88_45 : decode cJ13_bitCount_95d88 45 = .ok (.lushr, 1) := by decide +kernel
theorem dJ13_bitCount_95d88_46 : decode cJ13_bitCount_95d88 46 = .ok (.ladd, 1) := by decide +kernel
theorem dJ13_bitCount_95d88_47 : decode cJ13_bitCount_95d88 47 = .ok (.lstore_n 0, 1) := by decide +kernel
theorem dJ13_bitCount_95d88_48 : decode cJ13_bitCount_95d88 48 = .ok (.lload_n 0, 1) := by decide +kernel
theorem dJ13_bitCount_95d88_49 : decode cJ13_bitCount_95d88 49 = .ok (.lload_n 0, 1) := by decide +kernel
theorem dJ13_bitCount_95d88_50 : decode cJ13_bitCount_95d88 50 = .ok (.bipush 32, 2) := by decide +kernel
theorem dJ13_bitCount_95d88_52 : decode cJ13_bitCount_95d88 52 = .ok (.lushr, 1) := by decide +kernel
theorem dJ13_bitCount_95d88_53 : decode cJ13_bitCount_95d88 53 = .ok (.ladd, 1) := by decide +kernel
theorem dJ13_bitCount_95d88_54 : decode cJ13_bitCount_95d88 54 = .ok (.lstore_n 0, 1) := by decide +kernel
theorem dJ13_bitCount_95d88_55 : decode cJ13_bitCount_95d88 55 = .ok (.lload_n 0, 1) := by decide +kernel
theorem dJ13_bitCount_95d88_56 : decode cJ13_bitCount_95d88 56 = .ok (.l2i, 1) := by decide +kernel
theorem dJ13_bitCount_95d88_57 : decode cJ13_bitCount_95d88 57 = .ok (.bipush 127, 2) := by decide +kernel
theorem dJ13_bitCount_95d88_59 : decode cJ13_bitCount_95d88 59 = .ok (.iand, 1) := by decide +kernel
theorem dJ13_bitCount_95d88_60 : decode cJ13_bitCount_95d88 60 = .ok (.ireturn, 1) := by decide +kernel
theorem dJ7_fill_53178_0 : decode cJ7_fill_53178 0 = .ok (.iconst 0, 1) := by decide +kernel
theorem dJ7_fill_53178_1 : decode cJ7_fill_53178 1 = .ok (.istore_n 2, 1) := by decide +kernel
theorem dJ7_fill_53178_2 : decode cJ7_fill_53178 2 = .ok (.aload_n 0, 1) := by decide +kernel
theorem dJ7_fill_53178_3 : decode cJ7_fill_53178 3 = .ok (.arraylength, 1) := by decide +kernel
theorem dJ7_fill_53178_4 : decode cJ7_fill_53178 4 = .ok (.istore_n 3, 1) := by decide +kernel
theorem dJ7_fill_53178_5 : decode cJ7_fill_53178 5 = .ok (.iload_n 2, 1) := by decide +kernel
theorem dJ7_fill_53178_6 : decode cJ7_fill_53178 6 = .ok (.iload_n 3, 1) := by decide +kernel
theorem dJ7_fill_53178_7 : decode cJ7_fill_53178 7 = .ok (.if_icmp .ge 13, 3) := by decide +kernel
theorem dJ7_fill_53178_10 : decode cJ7_fill_53178 10 = .ok (.aload_n 0, 1) := by decide +kernel
theorem dJ7_fill_53178_11 : decode cJ7_fill_53178 11 = .ok (.iload_n 2, 1) := by decide +kernel
theorem dJ7_fill_53178_12 : decode cJ7_fill_53178 12 = .ok (.iload_n 1, 1) := by decide +kernel
theorem dJ7_fill_53178_13 : decode cJ7_fill_53178 13 = .ok (.iastore, 1) := by decide +kernel
theorem dJ7_fill_53178_14 : decode cJ7_fill_53178 14 = .ok (.iinc 2 1, 3) := by decide +kernel
theorem dJ7_fill_53178_17 : decode cJ7_fill_53178 17 = .ok (.goto (-12), 3) := by decide +kernel
theorem dJ7_fill_53178_20 : decode cJ7_fill_53178 20 = .ok (.return_, 1) := by decide +kernel
theorem dL_cell_0 : decode cL_cell 0 = .ok (.iload_n 1, 1) := by decide +kernel
theorem dL_cell_1 : decode cL_cell 1 = .ok (.aload_n 0, 1) := by decide +kernel
theorem dL_cell_2 : decode cL_cell 2 = .ok (.arraylength, 1) := by decide +kernel
theorem dL_cell_3 : decode cL_cell 3 = .ok (.if_icmp .ge 9, 3) := by decide +kernel
theorem dL_cell_6 : decode cL_cell 6 = .ok (.aload_n 0, 1) := by decide +kernel
theorem dL_cell_7 : decode cL_cell 7 = .ok (.iload_n 1, 1) := by decide +kernel
theorem dL_cell_8 : decode cL_cell 8 = .ok (.iaload, 1) := by decide +kernel
theorem dL_cell_9 : decode cL_cell 9 = .ok (.goto 4, 3) := by decide +kernel
theorem dL_cell_12 : decode cL_cell 12 = .ok (.iconst 0, 1) := by decide +kernel
theorem dL_cell_13 : decode cL_cell 13 = .ok (.ireturn, 1) := by decide +kernel
set_option maxRecDepth 20000 in
theorem ggL_law_X8_field : GoodIn wsL_law wsX8_field := goodIn_r _ [153, 19, 28, 154, 155, 156, 18, 157, 62, 63, 158, 159, 2, 160, 161, 162, 163, 164, 23, 165, 166, 167, 168, 22, 169, 73, 170, 171, 172, 173, 174, 175, 176, 177, 178, 179, 180, 181, 182, 183, 27, 184, 185, 186, 187, 188, 189, 190, 65, 66, 965, 966, 967, 968, 969, 970, 971, 972, 973, 974, 975, 1012, 1013, 1014, 1015, 1016, 1017, 1018, 1019, 1020, 1021, 1022, 1023, 1024, 1025, 1026, 1027] (by decide +kernel) (by decide +kernel)
set_option maxRecDepth 20000 in
theorem gL_law_X8_field : GoodIn wsL_law (wsV RL 21 RX8 yX8_field wsX8_field) := goodIn_app (goodIn_of _ (by decide +kernel)) ggL_law_X8_field
set_option maxRecDepth 20000 in
theorem ggL_law_X9_field : GoodIn wsL_law wsX9_field := goodIn_r _ [194, 124, 126, 125, 121, 122, 195, 196, 197, 5, 198, 148, 149, 199, 200, 201, 202, 203, 204, 205, 206, 207, 976, 977, 978, 979, 980, 981, 982, 983, 984, 985, 986, 987, 988, 989, 990, 991, 992, 993, 994, 995, 996, 997, 998, 999, 1000, 1001, 1002, 1003, 1004, 1005, 1006, 1007, 1008, 1009, 1010, 1011] (by decide +kernel) (by decide +kernel)
set_option maxRecDepth 20000 in
theorem gL_law_X9_field : GoodIn wsL_law (wsV RL 25 RX9 yX9_field wsX9_field) := goodIn_app (goodIn_of _ (by decide +kernel)) ggL_law_X9_field
set_option maxRecDepth 20000 in
theorem ggL_law_X8_line : GoodIn wsL_law wsX8_line := goodIn_r _ [211, 19, 212, 213, 28, 154, 155, 156, 18, 157, 62, 63, 161, 162, 163, 2, 164, 23, 165, 166, 167, 168, 22, 169, 73, 170, 171, 172, 173, 174, 175, 176, 177, 178, 179, 180, 181, 182, 183, 27, 184, 185, 186, 214, 215, 216, 217, 68, 965, 966, 967, 968, 969, 970, 971, 972, 973, 974, 975, 1012, 1013, 1014, 1015, 1016, 1017, 1018, 1019, 1020, 1021, 1022, 1023, 1024, 1025, 1026, 1027] (by decide +kernel) (by decide +kernel)
set_option maxRecDepth 20000 in
theorem gL_law_X8_line : GoodIn wsL_law (wsV RL 26 RX8 yX8_line wsX8_line) := goodIn_app (goodIn_of _ (by decide +kernel)) ggL_law_X8_line
set_option maxRecDepth 20000 in
theorem ggL_law_X9_line : GoodIn wsL_law wsX9_line := goodIn_r _ [221, 149, 124, 126, 125, 123, 202, 203, 204, 5, 205, 206, 207, 976, 977, 978, 979, 980, 981, 982, 983, 984, 985, 986, 987, 988, 989, 990, 991, 992, 993, 994, 995, 996, 997, 998, 999, 1000, 1001, 1002, 1003, 1004, 1005, 1006, 1007, 1008, 1009, 1010, 1011] (by decide +kernel) (by decide +kernel)
set_option maxRecDepth 20000 in
theorem gL_law_X9_line : GoodIn wsL_law (wsV RL 30 RX9 yX9_line wsX9_line) := goodIn_app (goodIn_of _ (by decide +kernel)) ggL_law_X9_line
set_option maxRecDepth 20000 in
theorem ggL_law_X8_barrel : GoodIn wsL_law wsX8_barrel := goodIn_r _ [225, 19, 28, 23, 226, 154, 155, 156, 18, 157, 62, 63, 227, 228, 229, 2, 230, 231, 232, 233, 234, 235, 68, 65, 236, 237, 238, 239, 240, 241, 242, 181, 182, 183, 27, 184, 185, 186, 243, 171, 172, 22, 173, 174, 175, 176, 177, 178, 179, 244, 245, 246, 247, 965, 966, 967, 968, 969, 970, 971, 972, 973, 974, 975, 1018, 1019, 1020, 1021, 1012, 1013, 1014, 1015, 1016, 1017, 1022, 1023, 1024, 1025, 1026, 1027] (by decide +kernel) (by decide +kernel)
set_option maxRecDepth 20000 in
theorem gL_law_X8_barrel : GoodIn wsL_law (wsV RL 31 RX8 yX8_barrel wsX8_barrel) := goodIn_app (goodIn_of _ (by decide +kernel)) ggL_law_X8_barrel
set_option maxRecDepth 20000 in
theorem ggL_law_X9_barrel : GoodIn wsL_law wsX9_barrel := goodIn_r _ [251, 126, 124, 195, 196, 197, 5, 198, 148, 149, 252, 253, 254, 255, 123, 121, 256, 257, 258, 259, 202, 203, 204, 205, 206, 207, 976, 977, 978, 979, 980, 981, 982, 983, 984, 985, 986, 987, 988, 989, 990, 991, 992, 993, 994, 995, 996, 997, 998, 999, 1000, 1001, 1002, 1003, 1004, 1005, 1006, 1007, 1008, 1009, 1010, 1011] (by decide +kernel) (by decide +kernel)
set_option maxRecDepth 20000 in
theorem gL_law_X9_barrel : GoodIn wsL_law (wsV RL 35 RX9 yX9_barrel wsX9_barrel) := goodIn_app (goodIn_of _ (by decide +kernel)) ggL_law_X9_barrel
set_option maxRecDepth 20000 in
theorem ggL_law_X8_man : GoodIn wsL_law wsX8_man := goodIn_r _ [263, 19, 23, 28, 231, 154, 155, 156, 18, 157, 62, 63, 264, 265, 266, 267, 268, 233, 234, 235, 68, 65, 243, 171, 172, 22, 173, 174, 175, 2, 176, 177, 178, 179, 181, 182, 183, 27, 184, 185, 186, 269, 270, 271, 272, 73, 965, 966, 967, 968, 969, 970, 971, 972, 973, 974, 975, 1018, 1019, 1020, 1021, 1012, 1013, 1014, 1015, 1016, 1017, 1022, 1023, 1024, 1025, 1026, 1027] (by decide +kernel) (by decide +kernel)
set_option maxRecDepth 20000 in
theorem gL_law_X8_man : GoodIn wsL_law (wsV RL 36 RX8 yX8_man wsX8_man) := goodIn_app (goodIn_of _ (by decide +kernel)) ggL_law_X8_man
set_option maxRecDepth 20000 in
theorem ggL_law_X9_man : GoodIn wsL_law wsX9_man := goodIn_r _ [276, 124, 126, 195, 196, 197, 5, 198, 148, 149, 252, 253, 254, 255, 123, 121, 202, 203, 204, 205, 206, 207, 976, 977, 978, 979, 980, 981, 982, 983, 984, 985, 986, 987, 988, 989, 990, 991, 992, 993, 994, 995, 996, 997, 998, 999, 1000, 1001, 1002, 1003, 1004, 1005, 1006, 1007, 1008, 1009, 1010, 1011] (by decide +kernel) (by decide +kernel)
set_option maxRecDepth 20000 in
theorem gL_law_X9_man : GoodIn wsL_law (wsV RL 40 RX9 yX9_man wsX9_man) := goodIn_app (goodIn_of _ (by decide +kernel)) ggL_law_X9_man
set_option maxRecDepth 20000 in
theorem ggL_law_X8_want : GoodIn wsL_law wsX8_want := goodIn_r _ [280, 19, 28, 165, 154, 155, 156, 18, 157, 62, 63, 232, 233, 234, 235, 68, 65, 181, 182, 183, 27, 184, 185, 186, 180, 175, 2, 176, 177, 178, 179, 244, 245, 246, 247, 965, 966, 967, 968, 969, 970, 971, 972, 973, 974, 975, 1012, 1013, 1014, 1015, 1016, 1017, 1022, 1023, 1024, 1025, 1026, 1027] (by decide +kernel) (by decide +kernel)
set_option maxRecDepth 20000 in
theorem gL_law_X8_want : GoodIn wsL_law (wsV RL 41 RX8 yX8_want wsX8_want) := goodIn_app (goodIn_of _ (by decide +kernel)) ggL_law_X8_want
set_option maxRecDepth 20000 in
theorem ggL_law_X9_want : GoodIn wsL_law wsX9_want := goodIn_r _ [284, 125, 195, 196, 197, 5, 198, 148, 149, 252, 253, 254, 255, 123, 121, 202, 203, 204, 205, 206, 207, 976, 977, 978, 979, 980, 981, 982, 983, 984, 985, 986, 987, 988, 989, 990, 991, 992, 993, 994, 995, 996, 997, 998, 999, 1000, 1001, 1002, 1003, 1004, 1005, 1006, 1007, 1008, 1009, 1010, 1011] (by decide +kernel) (by decide +kernel)
set_option maxRecDepth 20000 in
theorem gL_law_X9_want : GoodIn wsL_law (wsV RL 44 RX9 yX9_want wsX9_want) := goodIn_app (goodIn_of _ (by decide +kernel)) ggL_law_X9_want
set_option maxRecDepth 20000 in
theorem ggL_law_X8_step : GoodIn wsL_law wsX8_step := goodIn_r _ [288, 24, 23, 19, 289, 290, 291, 22, 292, 73, 174, 293, 294, 295, 296, 297, 298, 299, 270, 271, 272, 159, 2, 160, 300, 301, 302, 18, 303, 178, 179, 304, 155, 156, 157, 62, 63, 170, 171, 172, 173, 175, 176, 177, 305, 306, 307, 308, 268, 233, 234, 235, 68, 65, 309, 310, 311, 312, 66, 313, 314, 315, 316, 317, 318, 319, 320, 321, 322, 323, 324, 245, 246, 247, 325, 326, 327, 328, 28, 329, 330, 331, 27, 332, 185, 186, 333, 334, 335, 336, 78, 337, 80, 338, 81, 339, 82, 340, 965, 966, 967, 968, 969, 970, 971, 972, 973, 974, 975, 1018, 1019, 1020, 1021, 1012, 1013, 1014, 1015, 1016, 1017, 1022, 1023, 1024, 1025, 1026, 1027] (by decide +kernel) (by decide +kernel)
set_option maxRecDepth 20000 in
theorem gL_law_X8_step : GoodIn wsL_law (wsV RL 45 RX8 yX8_step wsX8_step) := goodIn_app (goodIn_of _ (by decide +kernel)) ggL_law_X8_step
set_option maxRecDepth 20000 in
theorem ggL_law_X9_step : GoodIn wsL_law wsX9_step := goodIn_r _ [344, 126, 199, 200, 5, 201, 345, 346, 347, 348, 124, 349, 350, 351, 352, 195, 196, 197, 198, 148, 149, 353, 354, 355, 356, 357, 358, 359, 360, 361, 362, 363, 364, 122, 252, 253, 254, 255, 123, 121, 365, 366, 367, 368, 369, 370, 371, 372, 206, 207, 373, 374, 375, 376, 127, 128, 377, 129, 378, 130, 379, 380, 381, 382, 383, 384, 385, 386, 387, 388, 389, 390, 976, 977, 978, 979, 980, 981, 982, 983, 984, 985, 986, 987, 988, 989, 990, 991, 992, 993, 994, 995, 996, 997, 998, 999, 1000, 1001, 1002, 1003, 1004, 1005, 1006, 1007, 1008, 1009, 1010, 1011] (by decide +kernel) (by decide +kernel)
set_option maxRecDepth 20000 in
theorem gL_law_X9_step : GoodIn wsL_law (wsV RL 49 RX9 yX9_step wsX9_step) := goodIn_app (goodIn_of _ (by decide +kernel)) ggL_law_X9_step
set_option maxRecDepth 20000 in
theorem ggL_law_X8_walk : GoodIn wsL_law wsX8_walk := goodIn_r _ [394, 19, 23, 154, 155, 156, 18, 157, 62, 63, 269, 270, 271, 22, 272, 73, 395, 396, 397, 2, 398, 32, 24, 231, 399, 400, 401, 402, 31, 403, 87, 404, 405, 88, 406, 407, 408, 409, 410, 411, 412, 413, 178, 179, 414, 301, 302, 303, 159, 160, 304, 415, 306, 307, 308, 268, 233, 234, 235, 68, 65, 309, 310, 311, 312, 66, 416, 171, 172, 173, 174, 175, 176, 177, 417, 418, 419, 420, 421, 289, 290, 291, 292, 293, 294, 325, 326, 327, 328, 28, 329, 330, 331, 27, 332, 185, 186, 333, 334, 335, 336, 78, 337, 80, 338, 81, 339, 82, 340, 965, 966, 967, 968, 969, 970, 971, 972, 973, 974, 975, 1012, 1013, 1014, 1015, 1016, 1017, 1018, 1019, 1020, 1021, 1028, 1029, 1030, 1022, 1023, 1024, 1025, 1026, 1027] (by decide +kernel) (by decide +kernel)
set_option maxRecDepth 20000 in
theorem gL_law_X8_walk : GoodIn wsL_law (wsV RL 50 RX8 yX8_walk wsX8_walk) := goodIn_app (goodIn_of _ (by decide +kernel)) ggL_law_X8_walk
set_option maxRecDepth 20000 in
theorem ggL_law_X9_walk : GoodIn wsL_law wsX9_walk := goodIn_r _ [425, 126, 134, 377, 195, 196, 197, 5, 198, 148, 149, 426, 427, 428, 429, 349, 350, 351, 352, 353, 354, 355, 356, 124, 357, 358, 359, 360, 361, 362, 363, 364, 122, 252, 253, 254, 255, 123, 121, 369, 370, 371, 372, 206, 207, 373, 374, 375, 376, 127, 128, 129, 378, 130, 379, 380, 381, 382, 387, 388, 389, 390, 976, 977, 978, 979, 980, 981, 982, 983, 984, 985, 986, 987, 988, 989, 990, 991, 992, 993, 994, 995, 996, 997, 998, 999, 1000, 1001, 1002, 1003, 1004, 1005, 1006, 1007, 1008, 1009, 1010, 1011] (by decide +kernel) (by decide +kernel)
set_option maxRecDepth 20000 in
theorem gL_law_X9_walk : GoodIn wsL_law (wsV RL 53 RX9 yX9_walk wsX9_walk) := goodIn_app (goodIn_of _ (by decide +kernel)) ggL_law_X9_walk
set_option maxRecDepth 20000 in
theorem ggL_law_X8_push : GoodIn wsL_law wsX8_push := goodIn_r _ [433, 434, 435, 436, 2, 437, 19, 23, 24, 154, 155, 156, 18, 157, 62, 63, 269, 270, 271, 22, 272, 73, 158, 159, 160, 243, 171, 172, 173, 174, 175, 176, 177, 178, 179, 438, 439, 440, 441, 301, 302, 303, 304, 395, 396, 397, 398, 32, 231, 399, 400, 401, 402, 31, 403, 87, 404, 405, 88, 406, 407, 408, 409, 410, 411, 412, 413, 414, 415, 306, 307, 308, 268, 233, 234, 235, 68, 65, 309, 310, 311, 312, 66, 416, 417, 418, 419, 420, 421, 289, 290, 291, 292, 293, 294, 295, 296, 297, 298, 299, 300, 170, 305, 313, 314, 315, 316, 317, 318, 319, 320, 321, 322, 323, 324, 245, 246, 247, 325, 326, 327, 328, 28, 329, 330, 331, 27, 332, 185, 186, 333, 334, 335, 336, 78, 337, 80, 338, 81, 339, 82, 340, 965, 966, 967, 968, 969, 970, 971, 972, 973, 974, 975, 1012, 1013, 1014, 1015, 1016, 1017, 1018, 1019, 1020, 1021, 1028, 1029, 1030, 1022, 1023, 1024, 1025, 1026, 1027] (by decide +kernel) (by decide +kernel)
set_option maxRecDepth 20000 in
theorem gL_law_X8_push : GoodIn wsL_law (wsV RL 54 RX8 yX8_push wsX8_push) := goodIn_app (goodIn_of _ (by decide +kernel)) ggL_law_X8_push
set_option maxRecDepth 20000 in
theorem ggL_law_X9_push : GoodIn wsL_law wsX9_push := goodIn_r _ [445, 377, 134, 126, 446, 447, 448, 5, 449, 124, 195, 196, 197, 198, 148, 149, 199, 200, 201, 349, 350, 351, 352, 426, 427, 428, 429, 353, 354, 355, 356, 357, 358, 359, 360, 361, 362, 363, 364, 122, 252, 253, 254, 255, 123, 121, 345, 346, 347, 348, 365, 366, 367, 368, 369, 370, 371, 372, 206, 207, 373, 374, 375, 376, 127, 128, 129, 378, 130, 379, 380, 381, 382, 383, 384, 385, 386, 387, 388, 389, 390, 976, 977, 978, 979, 980, 981, 982, 983, 984, 985, 986, 987, 988, 989, 990, 991, 992, 993, 994, 995, 996, 997, 998, 999, 1000, 1001, 1002, 1003, 1004, 1005, 1006, 1007, 1008, 1009, 1010, 1011] (by decide +kernel) (by decide +kernel)
set_option maxRecDepth 20000 in
theorem gL_law_X9_push : GoodIn wsL_law (wsV RL 58 RX9 yX9_push wsX9_push) := goodIn_app (goodIn_of _ (by decide +kernel)) ggL_law_X9_push
set_option maxRecDepth 20000 in
theorem ggL_law_X8_can : GoodIn wsL_law wsX8_can := goodIn_r _ [453, 434, 435, 436, 2, 437, 19, 23, 24, 154, 155, 156, 18, 157, 62, 63, 269, 270, 271, 22, 272, 73, 158, 159, 160, 243, 171, 172, 173, 174, 175, 176, 177, 178, 179, 438, 439, 440, 441, 301, 302, 303, 304, 395, 396, 397, 398, 32, 231, 399, 400, 401, 402, 31, 403, 87, 404, 405, 88, 406, 407, 408, 409, 410, 411, 412, 413, 414, 415, 306, 307, 308, 268, 233, 234, 235, 68, 65, 309, 310, 311, 312, 66, 416, 417, 418, 419, 420, 421, 289, 290, 291, 292, 293, 294, 295, 296, 297, 298, 299, 300, 170, 305, 313, 314, 315, 316, 317, 318, 319, 320, 321, 322, 323, 324, 245, 246, 247, 965, 966, 967, 968, 969, 970, 971, 972, 973, 974, 975, 1012, 1013, 1014, 1015, 1016, 1017, 1018, 1019, 1020, 1021, 1028, 1029, 1030] (by decide +kernel) (by decide +kernel)
set_option maxRecDepth 20000 in
theorem gL_law_X8_can : GoodIn wsL_law (wsV RL 59 RX8 yX8_can wsX8_can) := goodIn_app (goodIn_of _ (by decide +kernel)) ggL_law_X8_can
set_option maxRecDepth 20000 in
theorem ggL_law_X9_can : GoodIn wsL_law wsX9_can := goodIn_r _ [449, 126, 124, 134, 195, 196, 197, 5, 198, 148, 149, 199, 200, 201, 349, 350, 351, 352, 426, 427, 428, 429, 353, 354, 355, 356, 357, 358, 359, 360, 361, 362, 363, 364, 122, 252, 253, 254, 255, 123, 121, 345, 346, 347, 348, 365, 366, 367, 368, 976, 977, 978, 979, 980, 981, 982, 983, 984, 985, 986, 987, 988, 989, 990, 991, 992, 993, 994, 995, 996, 997, 998, 999, 1000, 1001, 1002, 1003, 1004, 1005, 1006, 1007, 1008, 1009, 1010, 1011] (by decide +kernel) (by decide +kernel)
set_option maxRecDepth 20000 in
theorem gL_law_X9_can : GoodIn wsL_law (wsV RL 62 RX9 yX9_can wsX9_can) := goodIn_app (goodIn_of _ (by decide +kernel)) ggL_law_X9_can
set_option maxRecDepth 20000 in
theorem ggL_law_X8_undo : GoodIn wsL_law wsX8_undo := goodIn_r _ [458, 28, 23, 459, 460, 461, 27, 462, 185, 463, 464, 465, 466, 78, 337, 80, 338, 81, 339, 82, 340, 965, 966, 967, 968, 969, 970, 971, 972, 973, 974, 975, 1022, 1023, 1024, 1025, 1026, 1027, 1018, 1019, 1020, 1021] (by decide +kernel) (by decide +kernel)
set_option maxRecDepth 20000 in
theorem gL_law_X8_undo : GoodIn wsL_law (wsV RL 63 RX8 yX8_undo wsX8_undo) := goodIn_app (goodIn_of _ (by decide +kernel)) ggL_law_X8_undo
set_option maxRecDepth 20000 in
theorem ggL_law_X9_undo : GoodIn wsL_law wsX9_undo := goodIn_r _ [470, 206, 207, 471, 472, 473, 5, 474, 127, 126, 128, 377, 129, 378, 124, 130, 976, 977, 978, 979, 980, 981, 982, 983, 984, 985, 986, 987, 988, 989, 990, 991, 992, 993, 994, 995, 996, 997, 998, 999, 1000, 1001, 1002, 1003, 1004, 1005, 1006, 1007, 1008, 1009, 1010, 1011] (by decide +kernel) (by decide +kernel)
set_option maxRecDepth 20000 in
theorem gL_law_X9_undo : GoodIn wsL_law (wsV RL 67 RX9 yX9_undo wsX9_undo) := goodIn_app (goodIn_of _ (by decide +kernel)) ggL_law_X9_undo
set_option maxRecDepth 20000 in
theorem ggL_law_X8_redo : GoodIn wsL_law wsX8_redo := goodIn_r _ [478, 28, 23, 479, 480, 481, 27, 482, 185, 186, 463, 464, 465, 466, 78, 337, 80, 338, 81, 339, 82, 340, 965, 966, 967, 968, 969, 970, 971, 972, 973, 974, 975, 1022, 1023, 1024, 1025, 1026, 1027, 1018, 1019, 1020, 1021] (by decide +kernel) (by decide +kernel)
set_option maxRecDepth 20000 in
theorem gL_law_X8_redo : GoodIn wsL_law (wsV RL 68 RX8 yX8_redo wsX8_redo) := goodIn_app (goodIn_of _ (by decide +kernel)) ggL_law_X8_redo
set_option maxRecDepth 20000 in
theorem ggL_law_X9_redo : GoodIn wsL_law wsX9_redo := goodIn_r _ [486, 207, 206, 471, 472, 473, 5, 474, 127, 126, 128, 377, 129, 378, 124, 130, 976, 977, 978, 979, 980, 981, 982, 983, 984, 985, 986, 987, 988, 989, 990, 991, 992, 993, 994, 995, 996, 997, 998, 999, 1000, 1001, 1002, 1003, 1004, 1005, 1006, 1007, 1008, 1009, 1010, 1011] (by decide +kernel) (by decide +kernel)
set_option maxRecDepth 20000 in
theorem gL_law_X9_redo : GoodIn wsL_law (wsV RL 71 RX9 yX9_redo wsX9_redo) := goodIn_app (goodIn_of _ (by decide +kernel)) ggL_law_X9_redo
set_option maxRecDepth 20000 in
theorem ggL_law_X8_kind : GoodIn wsL_law wsX8_kind := goodIn_r _ [490, 19, 154, 155, 156, 18, 157, 62, 63, 232, 233, 234, 235, 68, 65, 965, 966, 967, 968, 969, 970, 971, 972, 973, 974, 975, 1012, 1013, 1014, 1015, 1016, 1017] (by decide +kernel) (by decide +kernel)
set_option maxRecDepth 20000 in
theorem gL_law_X8_kind : GoodIn wsL_law (wsV RL 72 RX8 yX8_kind wsX8_kind) := goodIn_app (goodIn_of _ (by decide +kernel)) ggL_law_X8_kind
set_option maxRecDepth 20000 in
theorem ggL_law_X9_kind : GoodIn wsL_law wsX9_kind := goodIn_r _ [494, 195, 196, 197, 5, 198, 148, 149, 252, 253, 254, 255, 123, 121, 976, 977, 978, 979, 980, 981, 982, 983, 984, 985, 986, 987, 988, 989, 990, 991, 992, 993, 994, 995, 996, 997, 998, 999, 1000, 1001, 1002, 1003, 1004, 1005, 1006, 1007, 1008, 1009, 1010, 1011] (by decide +kernel) (by decide +kernel)
set_option maxRecDepth 20000 in
theorem gL_law_X9_kind : GoodIn wsL_law (wsV RL 75 RX9 yX9_kind wsX9_kind) := goodIn_app (goodIn_of _ (by decide +kernel)) ggL_law_X9_kind
set_option maxRecDepth 20000 in
theorem ggL_law_X8_on : GoodIn wsL_law wsX8_on := goodIn_r _ [498, 19, 23, 231, 165, 154, 155, 156, 18, 157, 62, 63, 243, 171, 172, 22, 173, 174, 175, 2, 176, 177, 178, 179, 180, 965, 966, 967, 968, 969, 970, 971, 972, 973, 974, 975, 1018, 1019, 1020, 1021, 1012, 1013, 1014, 1015, 1016, 1017] (by decide +kernel) (by decide +kernel)
set_option maxRecDepth 20000 in
theorem gL_law_X8_on : GoodIn wsL_law (wsV RL 76 RX8 yX8_on wsX8_on) := goodIn_app (goodIn_of _ (by decide +kernel)) ggL_law_X8_on
set_option maxRecDepth 20000 in
theorem ggL_law_X9_on : GoodIn wsL_law wsX9_on := goodIn_r _ [502, 124, 126, 125, 195, 196, 197, 5, 198, 148, 149, 976, 977, 978, 979, 980, 981, 982, 983, 984, 985, 986, 987, 988, 989, 990, 991, 992, 993, 994, 995, 996, 997, 998, 999, 1000, 1001, 1002, 1003, 1004, 1005, 1006, 1007, 1008, 1009, 1010, 1011] (by decide +kernel) (by decide +kernel)
set_option maxRecDepth 20000 in
theorem gL_law_X9_on : GoodIn wsL_law (wsV RL 79 RX9 yX9_on wsX9_on) := goodIn_app (goodIn_of _ (by decide +kernel)) ggL_law_X9_on
set_option maxRecDepth 20000 in
theorem ggL_law_X8_far : GoodIn wsL_law wsX8_far := goodIn_r _ [506, 19, 23, 32, 154, 155, 156, 18, 157, 62, 63, 269, 270, 271, 22, 272, 73, 400, 401, 402, 31, 403, 87, 404, 405, 88, 406, 407, 408, 409, 410, 411, 412, 413, 178, 2, 179, 414, 301, 302, 303, 159, 160, 304, 415, 306, 307, 308, 268, 233, 234, 235, 68, 65, 309, 310, 311, 312, 66, 416, 171, 172, 173, 174, 175, 176, 177, 417, 418, 419, 420, 421, 965, 966, 967, 968, 969, 970, 971, 972, 973, 974, 975, 1012, 1013, 1014, 1015, 1016, 1017, 1018, 1019, 1020, 1021, 1028, 1029, 1030] (by decide +kernel) (by decide +kernel)
set_option maxRecDepth 20000 in
theorem gL_law_X8_far : GoodIn wsL_law (wsV RL 80 RX8 yX8_far wsX8_far) := goodIn_app (goodIn_of _ (by decide +kernel)) ggL_law_X8_far
set_option maxRecDepth 20000 in
theorem ggL_law_X9_far : GoodIn wsL_law wsX9_far := goodIn_r _ [510, 126, 134, 195, 196, 197, 5, 198, 148, 149, 426, 427, 428, 429, 349, 350, 351, 352, 353, 354, 355, 356, 124, 357, 358, 359, 360, 361, 362, 363, 364, 122, 252, 253, 254, 255, 123, 121, 976, 977, 978, 979, 980, 981, 982, 983, 984, 985, 986, 987, 988, 989, 990, 991, 992, 993, 994, 995, 996, 997, 998, 999, 1000, 1001, 1002, 1003, 1004, 1005, 1006, 1007, 1008, 1009, 1010, 1011] (by decide +kernel) (by decide +kernel)
set_option maxRecDepth 20000 in
theorem gL_law_X9_far : GoodIn wsL_law (wsV RL 83 RX9 yX9_far wsX9_far) := goodIn_app (goodIn_of _ (by decide +kernel)) ggL_law_X9_far
set_option maxRecDepth 20000 in
theorem ggL_law_X8_isDone : GoodIn wsL_law wsX8_isDone := goodIn_r _ [514, 23, 515, 516, 517, 2, 518, 19, 165, 226, 247, 965, 966, 967, 968, 969, 970, 971, 972, 973, 974, 975, 1012, 1013, 1014, 1015, 1016, 1017, 1018, 1019, 1020, 1021] (by decide +kernel) (by decide +kernel)
set_option maxRecDepth 20000 in
theorem gL_law_X8_isDone : GoodIn wsL_law (wsV RL 84 RX8 yX8_isDone wsX8_isDone) := goodIn_app (goodIn_of _ (by decide +kernel)) ggL_law_X8_isDone
set_option maxRecDepth 20000 in
theorem ggL_law_X9_isDone : GoodIn wsL_law wsX9_isDone := goodIn_r _ [522, 125, 124, 976, 977, 978, 979, 980, 981, 982, 983, 984, 985, 986, 987, 988, 989, 990, 991, 992, 993, 994, 995, 996, 997, 998, 999, 1000, 1001, 1002, 1003, 1004, 1005, 1006, 1007, 1008, 1009, 1010, 1011] (by decide +kernel) (by decide +kernel)
set_option maxRecDepth 20000 in
theorem gL_law_X9_isDone : GoodIn wsL_law (wsV RL 88 RX9 yX9_isDone wsX9_isDone) := goodIn_app (goodIn_of _ (by decide +kernel)) ggL_law_X9_isDone
set_option maxRecDepth 20000 in
theorem ggL_law_X8_isReady : GoodIn wsL_law wsX8_isReady := goodIn_r _ [526, 23, 226, 19, 165, 236, 237, 238, 239, 240, 241, 242, 269, 270, 271, 22, 272, 73, 965, 966, 967, 968, 969, 970, 971, 972, 973, 974, 975, 1018, 1019, 1020, 1021, 1012, 1013, 1014, 1015, 1016, 1017] (by decide +kernel) (by decide +kernel)
set_option maxRecDepth 20000 in
theorem gL_law_X8_isReady : GoodIn wsL_law (wsV RL 89 RX8 yX8_isReady wsX8_isReady) := goodIn_app (goodIn_of _ (by decide +kernel)) ggL_law_X8_isReady
set_option maxRecDepth 20000 in
theorem ggL_law_X9_isReady : GoodIn wsL_law wsX9_isReady := goodIn_r _ [530, 126, 124, 125, 256, 257, 258, 5, 259, 976, 977, 978, 979, 980, 981, 982, 983, 984, 985, 986, 987, 988, 989, 990, 991, 992, 993, 994, 995, 996, 997, 998, 999, 1000, 1001, 1002, 1003, 1004, 1005, 1006, 1007, 1008, 1009, 1010, 1011] (by decide +kernel) (by decide +kernel)
set_option maxRecDepth 20000 in
theorem gL_law_X9_isReady : GoodIn wsL_law (wsV RL 92 RX9 yX9_isReady wsX9_isReady) := goodIn_app (goodIn_of _ (by decide +kernel)) ggL_law_X9_isReady
set_option maxRecDepth 20000 in
theorem ggL_law_X8_dead : GoodIn wsL_law wsX8_dead := goodIn_r _ [534, 19, 36, 154, 155, 156, 18, 157, 62, 63, 535, 536, 537, 35, 538, 539, 93, 540, 233, 234, 235, 68, 65, 541, 542, 543, 544, 545, 94, 546, 407, 408, 409, 547, 548, 549, 550, 178, 2, 179, 551, 552, 553, 554, 439, 440, 555, 301, 302, 303, 159, 160, 304, 556, 265, 266, 267, 268, 557, 306, 307, 308, 309, 310, 311, 312, 66, 558, 322, 323, 324, 559, 560, 561, 562, 563, 318, 319, 320, 175, 176, 177, 965, 966, 967, 968, 969, 970, 971, 972, 973, 974, 975, 1012, 1013, 1014, 1015, 1016, 1017, 1031, 1032, 1033] (by decide +kernel) (by decide +kernel)
set_option maxRecDepth 20000 in
theorem gL_law_X8_dead : GoodIn wsL_law (wsV RL 93 RX8 yX8_dead wsX8_dead) := goodIn_app (goodIn_of _ (by decide +kernel)) ggL_law_X8_dead
set_option maxRecDepth 20000 in
theorem ggL_law_X9_dead : GoodIn wsL_law wsX9_dead := goodIn_r _ [567, 195, 196, 197, 5, 198, 148, 149, 568, 569, 570, 571, 125, 135, 252, 253, 254, 255, 123, 121, 572, 573, 574, 575, 349, 350, 351, 352, 357, 358, 359, 360, 361, 362, 363, 364, 122, 976, 977, 978, 979, 980, 981, 982, 983, 984, 985, 986, 987, 988, 989, 990, 991, 992, 993, 994, 995, 996, 997, 998, 999, 1000, 1001, 1002, 1003, 1004, 1005, 1006, 1007, 1008, 1009, 1010, 1011] (by decide +kernel) (by decide +kernel)
set_option maxRecDepth 20000 in
theorem gL_law_X9_dead : GoodIn wsL_law (wsV RL 96 RX9 yX9_dead wsX9_dead) := goodIn_app (goodIn_of _ (by decide +kernel)) ggL_law_X9_dead
set_option maxRecDepth 20000 in
theorem ggL_law_X8_held : GoodIn wsL_law wsX8_held := goodIn_r _ [579, 19, 154, 155, 156, 18, 157, 62, 63, 580, 581, 582, 2, 583, 23, 226, 180, 175, 176, 177, 178, 179, 584, 585, 586, 587, 232, 233, 234, 235, 68, 65, 588, 589, 590, 591, 441, 301, 302, 303, 159, 160, 304, 244, 245, 246, 247, 965, 966, 967, 968, 969, 970, 971, 972, 973, 974, 975, 1012, 1013, 1014, 1015, 1016, 1017, 1018, 1019, 1020, 1021] (by decide +kernel) (by decide +kernel)
set_option maxRecDepth 20000 in
theorem gL_law_X8_held : GoodIn wsL_law (wsV RL 97 RX8 yX8_held wsX8_held) := goodIn_app (goodIn_of _ (by decide +kernel)) ggL_law_X8_held
set_option maxRecDepth 20000 in
theorem ggL_law_X9_held : GoodIn wsL_law wsX9_held := goodIn_r _ [595, 136, 195, 196, 197, 5, 198, 148, 149, 596, 597, 598, 599, 124, 252, 253, 254, 255, 123, 121, 349, 350, 351, 352, 600, 601, 602, 603, 976, 977, 978, 979, 980, 981, 982, 983, 984, 985, 986, 987, 988, 989, 990, 991, 992, 993, 994, 995, 996, 997, 998, 999, 1000, 1001, 1002, 1003, 1004, 1005, 1006, 1007, 1008, 1009, 1010, 1011] (by decide +kernel) (by decide +kernel)
set_option maxRecDepth 20000 in
theorem gL_law_X9_held : GoodIn wsL_law (wsV RL 100 RX9 yX9_held wsX9_held) := goodIn_app (goodIn_of _ (by decide +kernel)) ggL_law_X9_held
set_option maxRecDepth 20000 in
theorem ggL_law_X8_spoilt : GoodIn wsL_law wsX8_spoilt := goodIn_r _ [607, 50, 19, 165, 247, 608, 524, 525, 2, 526, 23, 226, 236, 237, 238, 239, 240, 241, 242, 269, 270, 271, 22, 272, 73, 609, 610, 611, 612, 36, 243, 171, 172, 173, 174, 175, 176, 177, 178, 179, 535, 536, 537, 35, 538, 539, 93, 540, 233, 234, 18, 235, 68, 65, 541, 542, 543, 544, 545, 94, 546, 407, 408, 409, 547, 548, 549, 550, 551, 552, 553, 554, 439, 440, 555, 301, 302, 303, 159, 160, 304, 155, 156, 157, 62, 63, 556, 265, 266, 267, 268, 557, 306, 307, 308, 309, 310, 311, 312, 66, 558, 322, 323, 324, 559, 560, 561, 562, 563, 318, 319, 320, 580, 581, 582, 583, 180, 584, 585, 586, 587, 232, 588, 589, 590, 591, 441, 244, 245, 246, 613, 614, 615, 965, 966, 967, 968, 969, 970, 971, 972, 973, 974, 975, 1012, 1013, 1014, 1015, 1016, 1017, 1018, 1019, 1020, 1021, 1031, 1032, 1033] (by decide +kernel) (by decide +kernel)
set_option maxRecDepth 20000 in
theorem gL_law_X8_spoilt : GoodIn wsL_law (wsV RL 101 RX8 yX8_spoilt wsX8_spoilt) := goodIn_app (goodIn_of _ (by decide +kernel)) ggL_law_X8_spoilt
set_option maxRecDepth 20000 in
theorem ggL_law_X9_spoilt : GoodIn wsL_law wsX9_spoilt := goodIn_r _ [619, 133, 124, 136, 125, 620, 528, 529, 5, 530, 126, 256, 257, 258, 259, 568, 569, 570, 571, 135, 252, 253, 254, 255, 123, 121, 572, 573, 574, 575, 349, 350, 351, 352, 195, 196, 197, 198, 148, 149, 357, 358, 359, 360, 361, 362, 363, 364, 122, 596, 597, 598, 599, 600, 601, 602, 603, 976, 977, 978, 979, 980, 981, 982, 983, 984, 985, 986, 987, 988, 989, 990, 991, 992, 993, 994, 995, 996, 997, 998, 999, 1000, 1001, 1002, 1003, 1004, 1005, 1006, 1007, 1008, 1009, 1010, 1011] (by decide +kernel) (by decide +kernel)
set_option maxRecDepth 20000 in
theorem gL_law_X9_spoilt : GoodIn wsL_law (wsV RL 104 RX9 yX9_spoilt wsX9_spoilt) := goodIn_app (goodIn_of _ (by decide +kernel)) ggL_law_X9_spoilt
set_option maxRecDepth 20000 in
theorem ggL_law_X8_why : GoodIn wsL_law wsX8_why := goodIn_r _ [624, 50, 965, 966, 967, 968, 969, 970, 971, 972, 973, 974, 975] (by decide +kernel) (by decide +kernel)
set_option maxRecDepth 20000 in
theorem gL_law_X8_why : GoodIn wsL_law (wsV RL 105 RX8 yX8_why wsX8_why) := goodIn_app (goodIn_of _ (by decide +kernel)) ggL_law_X8_why
set_option maxRecDepth 20000 in
theorem ggL_law_X9_why : GoodIn wsL_law wsX9_why := goodIn_r _ [628, 133, 976, 977, 978, 979, 980, 981, 982, 983, 984, 985, 986, 987, 988, 989, 990, 991, 992, 993, 994, 995, 996, 997, 998, 999, 1000, 1001, 1002, 1003, 1004, 1005, 1006, 1007, 1008, 1009, 1010, 1011] (by decide +kernel) (by decide +kernel)
set_option maxRecDepth 20000 in
theorem gL_law_X9_why : GoodIn wsL_law (wsV RL 108 RX9 yX9_why wsX9_why) := goodIn_app (goodIn_of _ (by decide +kernel)) ggL_law_X9_why
set_option maxRecDepth 20000 in
theorem ggL_law_X8_low : GoodIn wsL_law wsX8_low := goodIn_r _ [632, 40, 19, 36, 23, 226, 608, 524, 525, 2, 526, 165, 236, 237, 238, 239, 240, 241, 242, 269, 270, 271, 22, 272, 73, 633, 634, 635, 39, 636, 637, 100, 638, 639, 640, 641, 642, 643, 99, 175, 176, 177, 178, 179, 644, 407, 408, 409, 645, 542, 543, 35, 544, 93, 545, 94, 546, 547, 548, 549, 550, 551, 552, 553, 554, 439, 440, 555, 301, 302, 18, 303, 159, 160, 304, 155, 156, 157, 62, 63, 556, 265, 266, 267, 268, 233, 234, 235, 68, 65, 557, 306, 307, 308, 309, 310, 311, 312, 66, 558, 322, 323, 324, 559, 560, 561, 562, 563, 318, 319, 320, 646, 647, 648, 649, 650, 651, 652, 653, 654, 655, 656, 657, 658, 659, 660, 661, 56, 57, 58, 662, 965, 966, 967, 968, 969, 970, 971, 972, 973, 974, 975, 1018, 1019, 1020, 1021, 1012, 1013, 1014, 1015, 1016, 1017, 1034, 1035, 1036, 1031, 1032, 1033] (by decide +kernel) (by decide +kernel)
set_option maxRecDepth 20000 in
theorem gL_law_X8_low : GoodIn wsL_law (wsV RL 109 RX8 yX8_low wsX8_low) := goodIn_app (goodIn_of _ (by decide +kernel)) ggL_law_X8_low
set_option maxRecDepth 20000 in
theorem ggL_law_X9_low : GoodIn wsL_law wsX9_low := goodIn_r _ [666, 137, 667, 125, 124, 138, 135, 620, 528, 529, 5, 530, 126, 256, 257, 258, 259, 572, 573, 574, 575, 349, 350, 351, 352, 195, 196, 197, 198, 148, 149, 252, 253, 254, 255, 123, 121, 357, 358, 359, 360, 361, 362, 363, 364, 122, 976, 977, 978, 979, 980, 981, 982, 983, 984, 985, 986, 987, 988, 989, 990, 991, 992, 993, 994, 995, 996, 997, 998, 999, 1000, 1001, 1002, 1003, 1004, 1005, 1006, 1007, 1008, 1009, 1010, 1011] (by decide +kernel) (by decide +kernel)
set_option maxRecDepth 20000 in
theorem gL_law_X9_low : GoodIn wsL_law (wsV RL 112 RX9 yX9_low wsX9_low) := goodIn_app (goodIn_of _ (by decide +kernel)) ggL_law_X9_low
set_option maxRecDepth 20000 in
theorem ggL_law_X8_price : GoodIn wsL_law wsX8_price := goodIn_r _ [671, 19, 36, 154, 155, 156, 18, 157, 62, 63, 232, 233, 234, 235, 68, 65, 672, 542, 543, 35, 544, 93, 545, 94, 546, 407, 408, 409, 547, 548, 549, 550, 178, 2, 179, 551, 552, 553, 554, 439, 440, 555, 301, 302, 303, 159, 160, 304, 556, 265, 266, 267, 268, 557, 306, 307, 308, 309, 310, 311, 312, 66, 558, 322, 323, 324, 559, 560, 561, 562, 563, 318, 319, 320, 673, 965, 966, 967, 968, 969, 970, 971, 972, 973, 974, 975, 1012, 1013, 1014, 1015, 1016, 1017, 1031, 1032, 1033] (by decide +kernel) (by decide +kernel)
set_option maxRecDepth 20000 in
theorem gL_law_X8_price : GoodIn wsL_law (wsV RL 113 RX8 yX8_price wsX8_price) := goodIn_app (goodIn_of _ (by decide +kernel)) ggL_law_X8_price
set_option maxRecDepth 20000 in
theorem ggL_law_X9_price : GoodIn wsL_law wsX9_price := goodIn_r _ [677, 135, 195, 196, 197, 5, 198, 148, 149, 252, 253, 254, 255, 123, 121, 572, 573, 574, 575, 349, 350, 351, 352, 357, 358, 359, 360, 361, 362, 363, 364, 122, 976, 977, 978, 979, 980, 981, 982, 983, 984, 985, 986, 987, 988, 989, 990, 991, 992, 993, 994, 995, 996, 997, 998, 999, 1000, 1001, 1002, 1003, 1004, 1005, 1006, 1007, 1008, 1009, 1010, 1011] (by decide +kernel) (by decide +kernel)
set_option maxRecDepth 20000 in
theorem gL_law_X9_price : GoodIn wsL_law (wsV RL 116 RX9 yX9_price wsX9_price) := goodIn_app (goodIn_of _ (by decide +kernel)) ggL_law_X9_price
set_option maxRecDepth 20000 in
theorem ggL_law_X8_fewest : GoodIn wsL_law wsX8_fewest := goodIn_r _ [681, 23, 226, 19, 44, 48, 608, 524, 525, 2, 526, 165, 236, 237, 238, 239, 240, 241, 242, 269, 270, 271, 22, 272, 73, 682, 683, 684, 18, 685, 268, 233, 234, 235, 68, 65, 686, 687, 688, 689, 36, 232, 535, 536, 537, 35, 538, 539, 93, 540, 541, 542, 543, 544, 545, 94, 546, 407, 408, 409, 547, 548, 549, 550, 178, 179, 551, 552, 553, 554, 439, 440, 555, 301, 302, 303, 159, 160, 304, 155, 156, 157, 62, 63, 556, 265, 266, 267, 557, 306, 307, 308, 309, 310, 311, 312, 66, 558, 322, 323, 324, 559, 560, 561, 562, 563, 318, 319, 320, 175, 176, 177, 244, 245, 246, 247, 690, 691, 692, 43, 693, 694, 695, 696, 697, 698, 699, 700, 701, 60, 57, 61, 702, 703, 704, 705, 706, 707, 105, 708, 709, 710, 711, 712, 108, 106, 107, 713, 714, 715, 716, 717, 718, 719, 720, 721, 722, 723, 724, 725, 726, 727, 728, 651, 652, 653, 654, 655, 656, 729, 730, 731, 732, 733, 734, 56, 58, 109, 735, 736, 737, 738, 64, 110, 79, 111, 739, 740, 741, 742, 743, 744, 745, 746, 747, 748, 749, 750, 751, 752, 753, 754, 755, 756, 757, 758, 759, 760, 761, 762, 763, 764, 765, 766, 767, 768, 769, 770, 771, 772, 773, 774, 775, 776, 777, 778, 779, 780, 781, 782, 783, 784, 785, 786, 787, 788, 789, 790, 791, 792, 793, 794, 795, 796, 797, 798, 799, 800, 801, 802, 803, 804, 805, 806, 47, 807, 808, 116, 809, 810, 811, 812, 813, 814, 815, 816, 817, 818, 819, 820, 821, 822, 823, 965, 966, 967, 968, 969, 970, 971, 972, 973, 974, 975, 1018, 1019, 1020, 1021, 1012, 1013, 1014, 1015, 1016, 1017, 1031, 1032, 1033, 1049, 1050, 1037, 1038, 1039, 1040, 1041, 1042, 1043, 1044, 1045, 1046, 1047, 1048] (by decide +kernel) (by decide +kernel)
set_option maxRecDepth 20000 in
theorem gL_law_X8_fewest : GoodIn wsL_law (wsV RL 117 RX8 yX8_fewest wsX8_fewest) := goodIn_app (goodIn_of _ (by decide +kernel)) ggL_law_X8_fewest
set_option maxRecDepth 20000 in
theorem ggL_law_X9_fewest : GoodIn wsL_law wsX9_fewest := goodIn_r _ [827, 124, 828, 667, 141, 142, 829, 830, 620, 528, 529, 5, 530, 126, 125, 256, 257, 258, 259, 831, 832, 833, 834, 139, 149, 148, 140, 252, 253, 254, 255, 123, 121, 373, 374, 375, 376, 127, 128, 377, 129, 378, 130, 379, 380, 381, 382, 835, 836, 837, 838, 839, 840, 841, 842, 143, 146, 843, 844, 845, 846, 847, 848, 849, 850, 851, 852, 345, 346, 347, 348, 349, 350, 351, 352, 195, 196, 197, 198, 353, 354, 355, 356, 357, 358, 359, 360, 361, 362, 363, 364, 122, 365, 366, 367, 368, 383, 384, 385, 386, 853, 520, 521, 522, 854, 855, 856, 857, 147, 144, 145, 131, 471, 472, 473, 474, 976, 977, 978, 979, 980, 981, 982, 983, 984, 985, 986, 987, 988, 989, 990, 991, 992, 993, 994, 995, 996, 997, 998, 999, 1000, 1001, 1002, 1003, 1004, 1005, 1006, 1007, 1008, 1009, 1010, 1011] (by decide +kernel) (by decide +kernel)
set_option maxRecDepth 20000 in
theorem gL_law_X9_fewest : GoodIn wsL_law (wsV RL 120 RX9 yX9_fewest wsX9_fewest) := goodIn_app (goodIn_of _ (by decide +kernel)) ggL_law_X9_fewest
set_option maxRecDepth 20000 in
theorem ggL_law_X8_steps : GoodIn wsL_law wsX8_steps := goodIn_r _ [861, 48, 862, 965, 966, 967, 968, 969, 970, 971, 972, 973, 974, 975, 1049, 1050] (by decide +kernel) (by decide +kernel)
set_option maxRecDepth 20000 in
theorem gL_law_X8_steps : GoodIn wsL_law (wsV RL 121 RX8 yX8_steps wsX8_steps) := goodIn_app (goodIn_of _ (by decide +kernel)) ggL_law_X8_steps
set_option maxRecDepth 20000 in
theorem ggL_law_X9_steps : GoodIn wsL_law wsX9_steps := goodIn_r _ [866, 829, 976, 977, 978, 979, 980, 981, 982, 983, 984, 985, 986, 987, 988, 989, 990, 991, 992, 993, 994, 995, 996, 997, 998, 999, 1000, 1001, 1002, 1003, 1004, 1005, 1006, 1007, 1008, 1009, 1010, 1011] (by decide +kernel) (by decide +kernel)
set_option maxRecDepth 20000 in
theorem gL_law_X9_steps : GoodIn wsL_law (wsV RL 124 RX9 yX9_steps wsX9_steps) := goodIn_app (goodIn_of _ (by decide +kernel)) ggL_law_X9_steps
set_option maxRecDepth 20000 in
theorem ggL_law_X8_plan : GoodIn wsL_law wsX8_plan := goodIn_r _ [870, 48, 871, 872, 873, 47, 874, 116, 875, 876, 877, 878, 808, 965, 966, 967, 968, 969, 970, 971, 972, 973, 974, 975, 1049, 1050] (by decide +kernel) (by decide +kernel)
set_option maxRecDepth 20000 in
theorem gL_law_X8_plan : GoodIn wsL_law (wsV RL 125 RX8 yX8_plan wsX8_plan) := goodIn_app (goodIn_of _ (by decide +kernel)) ggL_law_X8_plan
set_option maxRecDepth 20000 in
theorem ggL_law_X9_plan : GoodIn wsL_law wsX9_plan := goodIn_r _ [882, 829, 131, 976, 977, 978, 979, 980, 981, 982, 983, 984, 985, 986, 987, 988, 989, 990, 991, 992, 993, 994, 995, 996, 997, 998, 999, 1000, 1001, 1002, 1003, 1004, 1005, 1006, 1007, 1008, 1009, 1010, 1011] (by decide +kernel) (by decide +kernel)
set_option maxRecDepth 20000 in
theorem gL_law_X9_plan : GoodIn wsL_law (wsV RL 128 RX9 yX9_plan wsX9_plan) := goodIn_app (goodIn_of _ (by decide +kernel)) ggL_law_X9_plan
set_option maxRecDepth 20000 in
theorem ggL_law_X8_follow : GoodIn wsL_law wsX8_follow := goodIn_r _ [886, 24, 23, 19, 48, 862, 289, 290, 291, 22, 292, 73, 174, 293, 294, 887, 888, 889, 890, 891, 892, 872, 873, 47, 874, 116, 875, 876, 877, 878, 808, 893, 296, 297, 298, 299, 270, 271, 272, 159, 2, 160, 300, 301, 302, 18, 303, 178, 179, 304, 155, 156, 157, 62, 63, 170, 171, 172, 173, 175, 176, 177, 305, 306, 307, 308, 268, 233, 234, 235, 68, 65, 309, 310, 311, 312, 66, 313, 314, 315, 316, 317, 318, 319, 320, 321, 322, 323, 324, 245, 246, 247, 325, 326, 327, 328, 28, 329, 330, 331, 27, 332, 185, 186, 333, 334, 335, 336, 78, 337, 80, 338, 81, 339, 82, 340, 965, 966, 967, 968, 969, 970, 971, 972, 973, 974, 975, 1049, 1050, 1018, 1019, 1020, 1021, 1012, 1013, 1014, 1015, 1016, 1017, 1022, 1023, 1024, 1025, 1026, 1027] (by decide +kernel) (by decide +kernel)
set_option maxRecDepth 20000 in
theorem gL_law_X8_follow : GoodIn wsL_law (wsV RL 129 RX8 yX8_follow wsX8_follow) := goodIn_app (goodIn_of _ (by decide +kernel)) ggL_law_X8_follow
set_option maxRecDepth 20000 in
theorem ggL_law_X9_follow : GoodIn wsL_law wsX9_follow := goodIn_r _ [897, 126, 829, 131, 373, 374, 375, 5, 376, 127, 128, 377, 129, 378, 130, 379, 380, 381, 382, 124, 898, 899, 900, 901, 345, 346, 347, 348, 349, 350, 351, 352, 195, 196, 197, 198, 148, 149, 353, 354, 355, 356, 357, 358, 359, 360, 361, 362, 363, 364, 122, 252, 253, 254, 255, 123, 121, 365, 366, 367, 368, 383, 384, 385, 386, 471, 472, 473, 474, 369, 370, 371, 372, 206, 207, 387, 388, 389, 390, 976, 977, 978, 979, 980, 981, 982, 983, 984, 985, 986, 987, 988, 989, 990, 991, 992, 993, 994, 995, 996, 997, 998, 999, 1000, 1001, 1002, 1003, 1004, 1005, 1006, 1007, 1008, 1009, 1010, 1011] (by decide +kernel) (by decide +kernel)
set_option maxRecDepth 20000 in
theorem gL_law_X9_follow : GoodIn wsL_law (wsV RL 132 RX9 yX9_follow wsX9_follow) := goodIn_app (goodIn_of _ (by decide +kernel)) ggL_law_X9_follow
set_option maxRecDepth 20000 in
theorem ggL_law_X8_tell : GoodIn wsL_law wsX8_tell := goodIn_r _ [905, 49, 862, 158, 159, 2, 160, 906, 805, 806, 47, 807, 808, 116, 809, 810, 811, 408, 812, 813, 814, 815, 816, 817, 818, 64, 819, 56, 57, 58, 820, 821, 822, 823, 965, 966, 967, 968, 969, 970, 971, 972, 973, 974, 975, 1049, 1050] (by decide +kernel) (by decide +kernel)
set_option maxRecDepth 20000 in
theorem gL_law_X8_tell : GoodIn wsL_law (wsV RL 133 RX8 yX8_tell wsX8_tell) := goodIn_app (goodIn_of _ (by decide +kernel)) ggL_law_X8_tell
set_option maxRecDepth 20000 in
theorem ggL_law_X9_tell : GoodIn wsL_law wsX9_tell := goodIn_r _ [910, 911, 132, 199, 200, 5, 201, 976, 977, 978, 979, 980, 981, 982, 983, 984, 985, 986, 987, 988, 989, 990, 991, 992, 993, 994, 995, 996, 997, 998, 999, 1000, 1001, 1002, 1003, 1004, 1005, 1006, 1007, 1008, 1009, 1010, 1011] (by decide +kernel) (by decide +kernel)
set_option maxRecDepth 20000 in
theorem gL_law_X9_tell : GoodIn wsL_law (wsV RL 136 RX9 yX9_tell wsX9_tell) := goodIn_app (goodIn_of _ (by decide +kernel)) ggL_law_X9_tell
set_option maxRecDepth 20000 in
theorem ggL_law_X8_copy : GoodIn wsL_law wsX8_copy := goodIn_r _ [915, 48, 862, 49, 916, 917, 918, 47, 919, 808, 920, 872, 873, 874, 116, 875, 876, 877, 878, 921, 805, 806, 807, 809, 810, 811, 408, 812, 813, 814, 815, 816, 817, 818, 64, 819, 56, 57, 58, 820, 821, 822, 823, 965, 966, 967, 968, 969, 970, 971, 972, 973, 974, 975, 1049, 1050] (by decide +kernel) (by decide +kernel)
set_option maxRecDepth 20000 in
theorem gL_law_X8_copy : GoodIn wsL_law (wsV RL 137 RX8 yX8_copy wsX8_copy) := goodIn_app (goodIn_of _ (by decide +kernel)) ggL_law_X8_copy
set_option maxRecDepth 20000 in
theorem ggL_law_X9_copy : GoodIn wsL_law wsX9_copy := goodIn_r _ [925, 829, 132, 131, 911, 976, 977, 978, 979, 980, 981, 982, 983, 984, 985, 986, 987, 988, 989, 990, 991, 992, 993, 994, 995, 996, 997, 998, 999, 1000, 1001, 1002, 1003, 1004, 1005, 1006, 1007, 1008, 1009, 1010, 1011] (by decide +kernel) (by decide +kernel)
set_option maxRecDepth 20000 in
theorem gL_law_X9_copy : GoodIn wsL_law (wsV RL 140 RX9 yX9_copy wsX9_copy) := goodIn_app (goodIn_of _ (by decide +kernel)) ggL_law_X9_copy
set_option maxRecDepth 20000 in
theorem ggL_law_X8_forge : GoodIn wsL_law wsX8_forge := goodIn_r _ [929, 49, 871, 872, 873, 47, 874, 116, 875, 876, 877, 878, 808, 158, 159, 2, 160, 930, 931, 932, 933, 965, 966, 967, 968, 969, 970, 971, 972, 973, 974, 975, 1049, 1050] (by decide +kernel) (by decide +kernel)
set_option maxRecDepth 20000 in
theorem gL_law_X8_forge : GoodIn wsL_law (wsV RL 141 RX8 yX8_forge wsX8_forge) := goodIn_app (goodIn_of _ (by decide +kernel)) ggL_law_X8_forge
set_option maxRecDepth 20000 in
theorem ggL_law_X9_forge : GoodIn wsL_law wsX9_forge := goodIn_r _ [937, 911, 132, 199, 200, 5, 201, 976, 977, 978, 979, 980, 981, 982, 983, 984, 985, 986, 987, 988, 989, 990, 991, 992, 993, 994, 995, 996, 997, 998, 999, 1000, 1001, 1002, 1003, 1004, 1005, 1006, 1007, 1008, 1009, 1010, 1011] (by decide +kernel) (by decide +kernel)
set_option maxRecDepth 20000 in
theorem gL_law_X9_forge : GoodIn wsL_law (wsV RL 144 RX9 yX9_forge wsX9_forge) := goodIn_app (goodIn_of _ (by decide +kernel)) ggL_law_X9_forge
set_option maxRecDepth 20000 in
theorem ggL_law_X8_hush : GoodIn wsL_law wsX8_hush := goodIn_r _ [941, 49, 862, 965, 966, 967, 968, 969, 970, 971, 972, 973, 974, 975, 1049, 1050] (by decide +kernel) (by decide +kernel)
set_option maxRecDepth 20000 in
theorem gL_law_X8_hush : GoodIn wsL_law (wsV RL 145 RX8 yX8_hush wsX8_hush) := goodIn_app (goodIn_of _ (by decide +kernel)) ggL_law_X8_hush
set_option maxRecDepth 20000 in
theorem ggL_law_X9_hush : GoodIn wsL_law wsX9_hush := goodIn_r _ [945, 911, 976, 977, 978, 979, 980, 981, 982, 983, 984, 985, 986, 987, 988, 989, 990, 991, 992, 993, 994, 995, 996, 997, 998, 999, 1000, 1001, 1002, 1003, 1004, 1005, 1006, 1007, 1008, 1009, 1010, 1011] (by decide +kernel) (by decide +kernel)
set_option maxRecDepth 20000 in
theorem gL_law_X9_hush : GoodIn wsL_law (wsV RL 148 RX9 yX9_hush wsX9_hush) := goodIn_app (goodIn_of _ (by decide +kernel)) ggL_law_X9_hush
set_option maxRecDepth 20000 in
theorem ggL_law_X8_check : GoodIn wsL_law wsX8_check := goodIn_r _ [949, 23, 24, 19, 49, 862, 269, 270, 271, 22, 272, 73, 289, 290, 291, 292, 174, 293, 294, 887, 888, 889, 890, 891, 892, 872, 873, 47, 874, 116, 875, 876, 877, 878, 808, 893, 296, 297, 298, 299, 159, 2, 160, 300, 301, 302, 18, 303, 178, 179, 304, 155, 156, 157, 62, 63, 170, 171, 172, 173, 175, 176, 177, 305, 306, 307, 308, 268, 233, 234, 235, 68, 65, 309, 310, 311, 312, 66, 313, 314, 315, 316, 317, 318, 319, 320, 321, 322, 323, 324, 245, 246, 247, 515, 516, 517, 518, 165, 226, 965, 966, 967, 968, 969, 970, 971, 972, 973, 974, 975, 1049, 1050, 1018, 1019, 1020, 1021, 1012, 1013, 1014, 1015, 1016, 1017] (by decide +kernel) (by decide +kernel)
set_option maxRecDepth 20000 in
theorem gL_law_X8_check : GoodIn wsL_law (wsV RL 149 RX8 yX8_check wsX8_check) := goodIn_app (goodIn_of _ (by decide +kernel)) ggL_law_X8_check
set_option maxRecDepth 20000 in
theorem ggL_law_X9_check : GoodIn wsL_law wsX9_check := goodIn_r _ [953, 126, 132, 911, 373, 374, 375, 5, 376, 127, 128, 377, 129, 378, 130, 379, 380, 381, 382, 124, 898, 899, 900, 901, 345, 346, 347, 348, 349, 350, 351, 352, 195, 196, 197, 198, 148, 149, 353, 354, 355, 356, 357, 358, 359, 360, 361, 362, 363, 364, 122, 252, 253, 254, 255, 123, 121, 365, 366, 367, 368, 383, 384, 385, 386, 853, 520, 521, 522, 125, 471, 472, 473, 474, 976, 977, 978, 979, 980, 981, 982, 983, 984, 985, 986, 987, 988, 989, 990, 991, 992, 993, 994, 995, 996, 997, 998, 999, 1000, 1001, 1002, 1003, 1004, 1005, 1006, 1007, 1008, 1009, 1010, 1011] (by decide +kernel) (by decide +kernel)
set_option maxRecDepth 20000 in
theorem gL_law_X9_check : GoodIn wsL_law (wsV RL 152 RX9 yX9_check wsX9_check) := goodIn_app (goodIn_of _ (by decide +kernel)) ggL_law_X9_check
set_option maxRecDepth 20000 in
theorem ggL_law_X8_count : GoodIn wsL_law wsX8_count := goodIn_r _ [957, 19, 23, 226, 165, 399, 958, 32, 959, 28, 960, 49, 862, 231, 682, 683, 684, 18, 685, 268, 233, 234, 235, 68, 65, 236, 237, 238, 239, 240, 241, 242, 400, 401, 402, 31, 403, 87, 404, 405, 88, 406, 407, 408, 409, 410, 411, 412, 413, 178, 2, 179, 414, 301, 302, 303, 159, 160, 304, 155, 156, 157, 62, 63, 415, 306, 307, 308, 309, 310, 311, 312, 66, 416, 171, 172, 22, 173, 174, 175, 176, 177, 417, 418, 419, 420, 965, 966, 967, 968, 969, 970, 971, 972, 973, 974, 975, 1018, 1019, 1020, 1021, 1012, 1013, 1014, 1015, 1016, 1017, 1028, 1029, 1030, 1022, 1023, 1024, 1025, 1026, 1027, 1049, 1050] (by decide +kernel) (by decide +kernel)
set_option maxRecDepth 20000 in
theorem gL_law_X8_count : GoodIn wsL_law (wsV RL 153 RX8 yX8_count wsX8_count) := goodIn_app (goodIn_of _ (by decide +kernel)) ggL_law_X8_count
set_option maxRecDepth 20000 in
theorem ggL_law_X9_count : GoodIn wsL_law wsX9_count := goodIn_r _ [964, 124, 125, 377, 378, 126, 134, 206, 911, 831, 832, 833, 5, 834, 139, 149, 148, 140, 252, 253, 254, 255, 123, 121, 256, 257, 258, 259, 426, 427, 428, 429, 349, 350, 351, 352, 195, 196, 197, 198, 353, 354, 355, 356, 357, 358, 359, 360, 361, 362, 363, 364, 122, 976, 977, 978, 979, 980, 981, 982, 983, 984, 985, 986, 987, 988, 989, 990, 991, 992, 993, 994, 995, 996, 997, 998, 999, 1000, 1001, 1002, 1003, 1004, 1005, 1006, 1007, 1008, 1009, 1010, 1011] (by decide +kernel) (by decide +kernel)
set_option maxRecDepth 20000 in
theorem gL_law_X9_count : GoodIn wsL_law (wsV RL 156 RX9 yX9_count wsX9_count) := goodIn_app (goodIn_of _ (by decide +kernel)) ggL_law_X9_count
theorem dL_law_38 : decode cL_law 38 = .ok (.iload_n 3, 1) := by decide +kernel
theorem dL_law_39 : decode cL_law 39 = .ok (.aload_n 0, 1) := by decide +kernel
theorem dL_law_40 : decode cL_law 40 = .ok (.arraylength, 1) := by decide +kernel
theorem dL_law_41 : decode cL_law 41 = .ok (.iconst 5, 1) := by decide +kernel
theorem dL_law_42 : decode cL_law 42 = .ok (.isub, 1) := by decide +kernel
theorem dL_law_43 : decode cL_law 43 = .ok (.if_icmp .gt 1043, 3) := by decide +kernel
theorem dL_law_46 : decode cL_law 46 = .ok (.aload_n 0, 1) := by decide +kernel
theorem dL_law_47 : decode cL_law 47 = .ok (.iload_n 3, 1) := by decide +kernel
theorem dL_law_48 : decode cL_law 48 = .ok (.iaload, 1) := by decide +kernel
theorem dL_law_49 : decode cL_law 49 = .ok (.bipush 31, 2) := by decide +kernel
theorem dL_law_51 : decode cL_law 51 = .ok (.iand, 1) := by decide +kernel
theorem dL_law_52 : decode cL_law 52 = .ok (.tableswitch 1028 0 31 #[144, 197, 246, 305, 338, 397, 420, 453, 496, 539, 552, 565, 598, 631, 664, 677, 690, 723, 756, 769, 782, 795, 848, 861, 874, 897, 910, 933, 946, 979, 992, 1005], 144) := by decide +kernel
theorem dL_law_196 : decode cL_law 196 = .ok (.aload_n 1, 1) := by decide +kernel
theorem dL_law_197 : decode cL_law 197 = .ok (.aload_n 0, 1) := by decide +kernel
theorem dL_law_198 : decode cL_law 198 = .ok (.iload_n 3, 1) := by decide +kernel
theorem dL_law_199 : decode cL_law 199 = .ok (.iconst 1, 1) := by decide +kernel
theorem dL_law_200 : decode cL_law 200 = .ok (.iadd, 1) := by decide +kernel
theorem dL_law_201 : decode cL_law 201 = .ok (.iaload, 1) := by decide +kernel
theorem dL_law_202 : decode cL_law 202 = .ok (.aload_n 0, 1) := by decide +kernel
theorem dL_law_203 : decode cL_law 203 = .ok (.iload_n 3, 1) := by decide +kernel
theorem dL_law_204 : decode cL_law 204 = .ok (.iconst 2, 1) := by decide +kernel
theorem dL_law_205 : decode cL_law 205 = .ok (.iadd, 1) := by decide +kernel
theorem dL_law_206 : decode cL_law 206 = .ok (.iaload, 1) := by decide +kernel
theorem dL_law_207 : decode cL_law 207 = .ok (.aload_n 0, 1) := by decide +kernel
theorem dL_law_208 : decode cL_law 208 = .ok (.iload_n 3, 1) := by decide +kernel
theorem dL_law_209 : decode cL_law 209 = .ok (.iconst 3, 1) := by decide +kernel
theorem dL_law_210 : decode cL_law 210 = .ok (.iadd, 1) := by decide +kernel
theorem dL_law_211 : decode cL_law 211 = .ok (.iaload, 1) := by decide +kernel
theorem dL_law_212 : decode cL_law 212 = .ok (.aload_n 0, 1) := by decide +kernel
theorem dL_law_213 : decode cL_law 213 = .ok (.iload_n 3, 1) := by decide +kernel
theorem dL_law_214 : decode cL_law 214 = .ok (.iconst 4, 1) := by decide +kernel
theorem dL_law_215 : decode cL_law 215 = .ok (.iadd, 1) := by decide +kernel
theorem dL_law_216 : decode cL_law 216 = .ok (.iaload, 1) := by decide +kernel
theorem dL_law_217 : decode cL_law 217 = .ok (.invokevirtual 21, 3) := by decide +kernel
theorem dL_law_220 : decode cL_law 220 = .ok (.aload_n 2, 1) := by decide +kernel
theorem dL_law_221 : decode cL_law 221 = .ok (.aload_n 0, 1) := by decide +kernel
theorem dL_law_222 : decode cL_law 222 = .ok (.iload_n 3, 1) := by decide +kernel
theorem dL_law_223 : decode cL_law 223 = .ok (.iconst 1, 1) := by decide +kernel
theorem dL_law_224 : decode cL_law 224 = .ok (.iadd, 1) := by decide +kernel
theorem dL_law_225 : decode cL_law 225 = .ok (.iaload, 1) := by decide +kernel
theorem dL_law_226 : decode cL_law 226 = .ok (.aload_n 0, 1) := by decide +kernel
theorem dL_law_227 : decode cL_law 227 = .ok (.iload_n 3, 1) := by decide +kernel
theorem dL_law_228 : decode cL_law 228 = .ok (.iconst 2, 1) := by decide +kernel
theorem dL_law_229 : decode cL_law 229 = .ok (.iadd, 1) := by decide +kernel
theorem dL_law_230 : decode cL_law 230 = .ok (.iaload, 1) := by decide +kernel
theorem dL_law_231 : decode cL_law 231 = .ok (.aload_n 0, 1) := by decide +kernel
theorem dL_law_232 : decode cL_law 232 = .ok (.iload_n 3, 1) := by decide +kernel
theorem dL_law_233 : decode cL_law 233 = .ok (.iconst 3, 1) := by decide +kernel
theorem dL_law_234 : decode cL_law 234 = .ok (.iadd, 1) := by decide +kernel
theorem dL_law_235 : decode cL_law 235 = .ok (.iaload, 1) := by decide +kernel
theorem dL_law_236 : decode cL_law 236 = .ok (.aload_n 0, 1) := by decide +kernel
theorem dL_law_237 : decode cL_law 237 = .ok (.iload_n 3, 1) := by decide +kernel
theorem dL_law_238 : decode cL_law 238 = .ok (.iconst 4, 1) := by decide +kernel
theorem dL_law_239 : decode cL_law 239 = .ok (.iadd, 1) := by decide +kernel
theorem dL_law_240 : decode cL_law 240 = .ok (.iaload, 1) := by decide +kernel
theorem dL_law_241 : decode cL_law 241 = .ok (.invokevirtual 25, 3) := by decide +kernel
theorem dL_law_244 : decode cL_law 244 = .ok (.if_icmp .eq 836, 3) := by decide +kernel
theorem dL_law_249 : decode cL_law 249 = .ok (.aload_n 1, 1) := by decide +kernel
theorem dL_law_250 : decode cL_law 250 = .ok (.aload_n 0, 1) := by decide +kernel
theorem dL_law_251 : decode cL_law 251 = .ok (.iload_n 3, 1) := by decide +kernel
theorem dL_law_252 : decode cL_law 252 = .ok (.iconst 1, 1) := by decide +kernel
theorem dL_law_253 : decode cL_law 253 = .ok (.iadd, 1) := by decide +kernel
theorem dL_law_254 : decode cL_law 254 = .ok (.iaload, 1) := by decide +kernel
theorem dL_law_255 : decode cL_law 255 = .ok (.aload_n 0, 1) := by decide +kernel
theorem dL_law_256 : decode cL_law 256 = .ok (.iload_n 3, 1) := by decide +kernel
theorem dL_law_257 : decode cL_law 257 = .ok (.iconst 2, 1) := by decide +kernel
theorem dL_law_258 : decode cL_law 258 = .ok (.iadd, 1) := by decide +kernel
theorem dL_law_259 : decode cL_law 259 = .ok (.iaload, 1) := by decide +kernel
theorem dL_law_260 : decode cL_law 260 = .ok (.ifCond .eq 7, 3) := by decide +kernel
theorem dL_law_263 : decode cL_law 263 = .ok (.iconst 1, 1) := by decide +kernel
theorem dL_law_264 : decode cL_law 264 = .ok (.goto 4, 3) := by decide +kernel
theorem dL_law_267 : decode cL_law 267 = .ok (.iconst 0, 1) := by decide +kernel
theorem dL_law_268 : decode cL_law 268 = .ok (.invokevirtual 26, 3) := by decide +kernel
theorem dL_law_271 : decode cL_law 271 = .ok (.aload_n 2, 1) := by decide +kernel
theorem dL_law_272 : decode cL_law 272 = .ok (.aload_n 0, 1) := by decide +kernel
theorem dL_law_273 : decode cL_law 273 = .ok (.iload_n 3, 1) := by decide +kernel
theorem dL_law_274 : decode cL_law 274 = .ok (.iconst 1, 1) := by decide +kernel
theorem dL_law_275 : decode cL_law 275 = .ok (.iadd, 1) := by decide +kernel
theorem dL_law_276 : decode cL_law 276 = .ok (.iaload, 1) := by decide +kernel
theorem dL_law_277 : decode cL_law 277 = .ok (.aload_n 0, 1) := by decide +kernel
theorem dL_law_278 : decode cL_law 278 = .ok (.iload_n 3, 1) := by decide +kernel
theorem dL_law_279 : decode cL_law 279 = .ok (.iconst 2, 1) := by decide +kernel
theorem dL_law_280 : decode cL_law 280 = .ok (.iadd, 1) := by decide +kernel
theorem dL_law_281 : decode cL_law 281 = .ok (.iaload, 1) := by decide +kernel
theorem dL_law_282 : decode cL_law 282 = .ok (.ifCond .eq 7, 3) := by decide +kernel
theorem dL_law_285 : decode cL_law 285 = .ok (.iconst 1, 1) := by decide +kernel
theorem dL_law_286 : decode cL_law 286 = .ok (.goto 4, 3) := by decide +kernel
theorem dL_law_289 : decode cL_law 289 = .ok (.iconst 0, 1) := by decide +kernel
theorem dL_law_290 : decode cL_law 290 = .ok (.invokevirtual 30, 3) := by decide +kernel
theorem dL_law_293 : decode cL_law 293 = .ok (.if_icmp .eq 787, 3) := by decide +kernel
theorem dL_law_298 : decode cL_law 298 = .ok (.aload_n 1, 1) := by decide +kernel
theorem dL_law_299 : decode cL_law 299 = .ok (.aload_n 0, 1) := by decide +kernel
theorem dL_law_300 : decode cL_law 300 = .ok (.iload_n 3, 1) := by decide +kernel
theorem dL_law_301 : decode cL_law 301 = .ok (.iconst 1, 1) := by decide +kernel
theorem dL_law_302 : decode cL_law 302 = .ok (.iadd, 1) := by decide +kernel
theorem dL_law_303 : decode cL_law 303 = .ok (.iaload, 1) := by decide +kernel
theorem dL_law_304 : decode cL_law 304 = .ok (.aload_n 0, 1) := by decide +kernel
theorem dL_law_305 : decode cL_law 305 = .ok (.iload_n 3, 1) := by decide +kernel
theorem dL_law_306 : decode cL_law 306 = .ok (.iconst 2, 1) := by decide +kernel
theorem dL_law_307 : decode cL_law 307 = .ok (.iadd, 1) := by decide +kernel
theorem dL_law_308 : decode cL_law 308 = .ok (.iaload, 1) := by decide +kernel
theorem dL_law_309 : decode cL_law 309 = .ok (.aload_n 0, 1) := by decide +kernel
theorem dL_law_310 : decode cL_law 310 = .ok (.iload_n 3, 1) := by decide +kernel
theorem dL_law_311 : decode cL_law 311 = .ok (.iconst 3, 1) := by decide +kernel
theorem dL_law_312 : decode cL_law 312 = .ok (.iadd, 1) := by decide +kernel
theorem dL_law_313 : decode cL_law 313 = .ok (.iaload, 1) := by decide +kernel
theorem dL_law_314 : decode cL_law 314 = .ok (.ifCond .eq 7, 3) := by decide +kernel
theorem dL_law_317 : decode cL_law 317 = .ok (.iconst 1, 1) := by decide +kernel
theorem dL_law_318 : decode cL_law 318 = .ok (.goto 4, 3) := by decide +kernel
theorem dL_law_321 : decode cL_law 321 = .ok (.iconst 0, 1) := by decide +kernel
theorem dL_law_322 : decode cL_law 322 = .ok (.invokevirtual 31, 3) := by decide +kernel
theorem dL_law_325 : decode cL_law 325 = .ok (.aload_n 2, 1) := by decide +kernel
theorem dL_law_326 : decode cL_law 326 = .ok (.aload_n 0, 1) := by decide +kernel
theorem dL_law_327 : decode cL_law 327 = .ok (.iload_n 3, 1) := by decide +kernel
theorem dL_law_328 : decode cL_law 328 = .ok (.iconst 1, 1) := by decide +kernel
theorem dL_law_329 : decode cL_law 329 = .ok (.iadd, 1) := by decide +kernel
theorem dL_law_330 : decode cL_law 330 = .ok (.iaload, 1) := by decide +kernel
theorem dL_law_331 : decode cL_law 331 = .ok (.aload_n 0, 1) := by decide +kernel
theorem dL_law_332 : decode cL_law 332 = .ok (.iload_n 3, 1) := by decide +kernel
theorem dL_law_333 : decode cL_law 333 = .ok (.iconst 2, 1) := by decide +kernel
theorem dL_law_334 : decode cL_law 334 = .ok (.iadd, 1) := by decide +kernel
theorem dL_law_335 : decode cL_law 335 = .ok (.iaload, 1) := by decide +kernel
theorem dL_law_336 : decode cL_law 336 = .ok (.aload_n 0, 1) := by decide +kernel
theorem dL_law_337 : decode cL_law 337 = .ok (.iload_n 3, 1) := by decide +kernel
theorem dL_law_338 : decode cL_law 338 = .ok (.iconst 3, 1) := by decide +kernel
theorem dL_law_339 : decode cL_law 339 = .ok (.iadd, 1) := by decide +kernel
theorem dL_law_340 : decode cL_law 340 = .ok (.iaload, 1) := by decide +kernel
theorem dL_law_341 : decode cL_law 341 = .ok (.ifCond .eq 7, 3) := by decide +kernel
theorem dL_law_344 : decode cL_law 344 = .ok (.iconst 1, 1) := by decide +kernel
theorem dL_law_345 : decode cL_law 345 = .ok (.goto 4, 3) := by decide +kernel
theorem dL_law_348 : decode cL_law 348 = .ok (.iconst 0, 1) := by decide +kernel
theorem dL_law_349 : decode cL_law 349 = .ok (.invokevirtual 35, 3) := by decide +kernel
theorem dL_law_352 : decode cL_law 352 = .ok (.if_icmp .eq 728, 3) := by decide +kernel
theorem dL_law_357 : decode cL_law 357 = .ok (.aload_n 1, 1) := by decide +kernel
theorem dL_law_358 : decode cL_law 358 = .ok (.aload_n 0, 1) := by decide +kernel
theorem dL_law_359 : decode cL_law 359 = .ok (.iload_n 3, 1) := by decide +kernel
theorem dL_law_360 : decode cL_law 360 = .ok (.iconst 1, 1) := by decide +kernel
theorem dL_law_361 : decode cL_law 361 = .ok (.iadd, 1) := by decide +kernel
theorem dL_law_362 : decode cL_law 362 = .ok (.iaload, 1) := by decide +kernel
theorem dL_law_363 : decode cL_law 363 = .ok (.aload_n 0, 1) := by decide +kernel
theorem dL_law_364 : decode cL_law 364 = .ok (.iload_n 3, 1) := by decide +kernel
theorem dL_law_365 : decode cL_law 365 = .ok (.iconst 2, 1) := by decide +kernel
theorem dL_law_366 : decode cL_law 366 = .ok (.iadd, 1) := by decide +kernel
theorem dL_law_367 : decode cL_law 367 = .ok (.iaload, 1) := by decide +kernel
theorem dL_law_368 : decode cL_law 368 = .ok (.invokevirtual 36, 3) := by decide +kernel
theorem dL_law_371 : decode cL_law 371 = .ok (.aload_n 2, 1) := by decide +kernel
theorem dL_law_372 : decode cL_law 372 = .ok (.aload_n 0, 1) := by decide +kernel
theorem dL_law_373 : decode cL_law 373 = .ok (.iload_n 3, 1) := by decide +kernel
theorem dL_law_374 : decode cL_law 374 = .ok (.iconst 1, 1) := by decide +kernel
theorem dL_law_375 : decode cL_law 375 = .ok (.iadd, 1) := by decide +kernel
theorem dL_law_376 : decode cL_law 376 = .ok (.iaload, 1) := by decide +kernel
theorem dL_law_377 : decode cL_law 377 = .ok (.aload_n 0, 1) := by decide +kernel
theorem dL_law_378 : decode cL_law 378 = .ok (.iload_n 3, 1) := by decide +kernel
theorem dL_law_379 : decode cL_law 379 = .ok (.iconst 2, 1) := by decide +kernel
theorem dL_law_380 : decode cL_law 380 = .ok (.iadd, 1) := by decide +kernel
theorem dL_law_381 : decode cL_law 381 = .ok (.iaload, 1) := by decide +kernel
theorem dL_law_382 : decode cL_law 382 = .ok (.invokevirtual 40, 3) := by decide +kernel
theorem dL_law_385 : decode cL_law 385 = .ok (.if_icmp .eq 695, 3) := by decide +kernel
theorem dL_law_390 : decode cL_law 390 = .ok (.aload_n 1, 1) := by decide +kernel
theorem dL_law_391 : decode cL_law 391 = .ok (.aload_n 0, 1) := by decide +kernel
theorem dL_law_392 : decode cL_law 392 = .ok (.iload_n 3, 1) := by decide +kernel
theorem dL_law_393 : decode cL_law 393 = .ok (.iconst 1, 1) := by decide +kernel
theorem dL_law_394 : decode cL_law 394 = .ok (.iadd, 1) := by decide +kernel
theorem dL_law_395 : decode cL_law 395 = .ok (.iaload, 1) := by decide +kernel
theorem dL_law_396 : decode cL_law 396 = .ok (.aload_n 0, 1) := by decide +kernel
theorem dL_law_397 : decode cL_law 397 = .ok (.iload_n 3, 1) := by decide +kernel
theorem dL_law_398 : decode cL_law 398 = .ok (.iconst 2, 1) := by decide +kernel
theorem dL_law_399 : decode cL_law 399 = .ok (.iadd, 1) := by decide +kernel
theorem dL_law_400 : decode cL_law 400 = .ok (.iaload, 1) := by decide +kernel
theorem dL_law_401 : decode cL_law 401 = .ok (.aload_n 0, 1) := by decide +kernel
theorem dL_law_402 : decode cL_law 402 = .ok (.iload_n 3, 1) := by decide +kernel
theorem dL_law_403 : decode cL_law 403 = .ok (.iconst 3, 1) := by decide +kernel
theorem dL_law_404 : decode cL_law 404 = .ok (.iadd, 1) := by decide +kernel
theorem dL_law_405 : decode cL_law 405 = .ok (.iaload, 1) := by decide +kernel
theorem dL_law_406 : decode cL_law 406 = .ok (.ifCond .eq 7, 3) := by decide +kernel
theorem dL_law_409 : decode cL_law 409 = .ok (.iconst 1, 1) := by decide +kernel
theorem dL_law_410 : decode cL_law 410 = .ok (.goto 4, 3) := by decide +kernel
theorem dL_law_413 : decode cL_law 413 = .ok (.iconst 0, 1) := by decide +kernel
theorem dL_law_414 : decode cL_law 414 = .ok (.invokevirtual 41, 3) := by decide +kernel
theorem dL_law_417 : decode cL_law 417 = .ok (.aload_n 2, 1) := by decide +kernel
theorem dL_law_418 : decode cL_law 418 = .ok (.aload_n 0, 1) := by decide +kernel
theorem dL_law_419 : decode cL_law 419 = .ok (.iload_n 3, 1) := by decide +kernel
theorem dL_law_420 : decode cL_law 420 = .ok (.iconst 1, 1) := by decide +kernel
theorem dL_law_421 : decode cL_law 421 = .ok (.iadd, 1) := by decide +kernel
theorem dL_law_422 : decode cL_law 422 = .ok (.iaload, 1) := by decide +kernel
theorem dL_law_423 : decode cL_law 423 = .ok (.aload_n 0, 1) := by decide +kernel
theorem dL_law_424 : decode cL_law 424 = .ok (.iload_n 3, 1) := by decide +kernel
theorem dL_law_425 : decode cL_law 425 = .ok (.iconst 2, 1) := by decide +kernel
theorem dL_law_426 : decode cL_law 426 = .ok (.iadd, 1) := by decide +kernel
theorem dL_law_427 : decode cL_law 427 = .ok (.iaload, 1) := by decide +kernel
theorem dL_law_428 : decode cL_law 428 = .ok (.aload_n 0, 1) := by decide +kernel
theorem dL_law_429 : decode cL_law 429 = .ok (.iload_n 3, 1) := by decide +kernel
theorem dL_law_430 : decode cL_law 430 = .ok (.iconst 3, 1) := by decide +kernel
theorem dL_law_431 : decode cL_law 431 = .ok (.iadd, 1) := by decide +kernel
theorem dL_law_432 : decode cL_law 432 = .ok (.iaload, 1) := by decide +kernel
theorem dL_law_433 : decode cL_law 433 = .ok (.ifCond .eq 7, 3) := by decide +kernel
theorem dL_law_436 : decode cL_law 436 = .ok (.iconst 1, 1) := by decide +kernel
theorem dL_law_437 : decode cL_law 437 = .ok (.goto 4, 3) := by decide +kernel
theorem dL_law_440 : decode cL_law 440 = .ok (.iconst 0, 1) := by decide +kernel
theorem dL_law_441 : decode cL_law 441 = .ok (.invokevirtual 44, 3) := by decide +kernel
theorem dL_law_444 : decode cL_law 444 = .ok (.if_icmp .eq 636, 3) := by decide +kernel
theorem dL_law_449 : decode cL_law 449 = .ok (.aload_n 1, 1) := by decide +kernel
theorem dL_law_450 : decode cL_law 450 = .ok (.aload_n 0, 1) := by decide +kernel
theorem dL_law_451 : decode cL_law 451 = .ok (.iload_n 3, 1) := by decide +kernel
theorem dL_law_452 : decode cL_law 452 = .ok (.iconst 1, 1) := by decide +kernel
theorem dL_law_453 : decode cL_law 453 = .ok (.iadd, 1) := by decide +kernel
theorem dL_law_454 : decode cL_law 454 = .ok (.iaload, 1) := by decide +kernel
theorem dL_law_455 : decode cL_law 455 = .ok (.invokevirtual 45, 3) := by decide +kernel
theorem dL_law_458 : decode cL_law 458 = .ok (.aload_n 2, 1) := by decide +kernel
theorem dL_law_459 : decode cL_law 459 = .ok (.aload_n 0, 1) := by decide +kernel
theorem dL_law_460 : decode cL_law 460 = .ok (.iload_n 3, 1) := by decide +kernel
theorem dL_law_461 : decode cL_law 461 = .ok (.iconst 1, 1) := by decide +kernel
theorem dL_law_462 : decode cL_law 462 = .ok (.iadd, 1) := by decide +kernel
theorem dL_law_463 : decode cL_law 463 = .ok (.iaload, 1) := by decide +kernel
theorem dL_law_464 : decode cL_law 464 = .ok (.invokevirtual 49, 3) := by decide +kernel
theorem dL_law_467 : decode cL_law 467 = .ok (.if_icmp .eq 613, 3) := by decide +kernel
theorem dL_law_472 : decode cL_law 472 = .ok (.aload_n 1, 1) := by decide +kernel
theorem dL_law_473 : decode cL_law 473 = .ok (.aload_n 0, 1) := by decide +kernel
theorem dL_law_474 : decode cL_law 474 = .ok (.iload_n 3, 1) := by decide +kernel
theorem dL_law_475 : decode cL_law 475 = .ok (.iconst 1, 1) := by decide +kernel
theorem dL_law_476 : decode cL_law 476 = .ok (.iadd, 1) := by decide +kernel
theorem dL_law_477 : decode cL_law 477 = .ok (.iaload, 1) := by decide +kernel
theorem dL_law_478 : decode cL_law 478 = .ok (.aload_n 0, 1) := by decide +kernel
theorem dL_law_479 : decode cL_law 479 = .ok (.iload_n 3, 1) := by decide +kernel
theorem dL_law_480 : decode cL_law 480 = .ok (.iconst 2, 1) := by decide +kernel
theorem dL_law_481 : decode cL_law 481 = .ok (.iadd, 1) := by decide +kernel
theorem dL_law_482 : decode cL_law 482 = .ok (.iaload, 1) := by decide +kernel
theorem dL_law_483 : decode cL_law 483 = .ok (.invokevirtual 50, 3) := by decide +kernel
theorem dL_law_486 : decode cL_law 486 = .ok (.aload_n 2, 1) := by decide +kernel
theorem dL_law_487 : decode cL_law 487 = .ok (.aload_n 0, 1) := by decide +kernel
theorem dL_law_488 : decode cL_law 488 = .ok (.iload_n 3, 1) := by decide +kernel
theorem dL_law_489 : decode cL_law 489 = .ok (.iconst 1, 1) := by decide +kernel
theorem dL_law_490 : decode cL_law 490 = .ok (.iadd, 1) := by decide +kernel
theorem dL_law_491 : decode cL_law 491 = .ok (.iaload, 1) := by decide +kernel
theorem dL_law_492 : decode cL_law 492 = .ok (.aload_n 0, 1) := by decide +kernel
theorem dL_law_493 : decode cL_law 493 = .ok (.iload_n 3, 1) := by decide +kernel
theorem dL_law_494 : decode cL_law 494 = .ok (.iconst 2, 1) := by decide +kernel
theorem dL_law_495 : decode cL_law 495 = .ok (.iadd, 1) := by decide +kernel
theorem dL_law_496 : decode cL_law 496 = .ok (.iaload, 1) := by decide +kernel
theorem dL_law_497 : decode cL_law 497 = .ok (.invokevirtual 53, 3) := by decide +kernel
theorem dL_law_500 : decode cL_law 500 = .ok (.if_icmp .eq 580, 3) := by decide +kernel
theorem dL_law_505 : decode cL_law 505 = .ok (.aload_n 1, 1) := by decide +kernel
theorem dL_law_506 : decode cL_law 506 = .ok (.aload_n 0, 1) := by decide +kernel
theorem dL_law_507 : decode cL_law 507 = .ok (.iload_n 3, 1) := by decide +kernel
theorem dL_law_508 : decode cL_law 508 = .ok (.iconst 1, 1) := by decide +kernel
theorem dL_law_509 : decode cL_law 509 = .ok (.iadd, 1) := by decide +kernel
theorem dL_law_510 : decode cL_law 510 = .ok (.iaload, 1) := by decide +kernel
theorem dL_law_511 : decode cL_law 511 = .ok (.aload_n 0, 1) := by decide +kernel
theorem dL_law_512 : decode cL_law 512 = .ok (.iload_n 3, 1) := by decide +kernel
theorem dL_law_513 : decode cL_law 513 = .ok (.iconst 2, 1) := by decide +kernel
theorem dL_law_514 : decode cL_law 514 = .ok (.iadd, 1) := by decide +kernel
theorem dL_law_515 : decode cL_law 515 = .ok (.iaload, 1) := by decide +kernel
theorem dL_law_516 : decode cL_law 516 = .ok (.aload_n 0, 1) := by decide +kernel
theorem dL_law_517 : decode cL_law 517 = .ok (.iload_n 3, 1) := by decide +kernel
theorem dL_law_518 : decode cL_law 518 = .ok (.iconst 3, 1) := by decide +kernel
theorem dL_law_519 : decode cL_law 519 = .ok (.iadd, 1) := by decide +kernel
theorem dL_law_520 : decode cL_law 520 = .ok (.iaload, 1) := by decide +kernel
theorem dL_law_521 : decode cL_law 521 = .ok (.invokevirtual 54, 3) := by decide +kernel
theorem dL_law_524 : decode cL_law 524 = .ok (.aload_n 2, 1) := by decide +kernel
theorem dL_law_525 : decode cL_law 525 = .ok (.aload_n 0, 1) := by decide +kernel
theorem dL_law_526 : decode cL_law 526 = .ok (.iload_n 3, 1) := by decide +kernel
theorem dL_law_527 : decode cL_law 527 = .ok (.iconst 1, 1) := by decide +kernel
theorem dL_law_528 : decode cL_law 528 = .ok (.iadd, 1) := by decide +kernel
theorem dL_law_529 : decode cL_law 529 = .ok (.iaload, 1) := by decide +kernel
theorem dL_law_530 : decode cL_law 530 = .ok (.aload_n 0, 1) := by decide +kernel
theorem dL_law_531 : decode cL_law 531 = .ok (.iload_n 3, 1) := by decide +kernel
theorem dL_law_532 : decode cL_law 532 = .ok (.iconst 2, 1) := by decide +kernel
theorem dL_law_533 : decode cL_law 533 = .ok (.iadd, 1) := by decide +kernel
theorem dL_law_534 : decode cL_law 534 = .ok (.iaload, 1) := by decide +kernel
theorem dL_law_535 : decode cL_law 535 = .ok (.aload_n 0, 1) := by decide +kernel
theorem dL_law_536 : decode cL_law 536 = .ok (.iload_n 3, 1) := by decide +kernel
theorem dL_law_537 : decode cL_law 537 = .ok (.iconst 3, 1) := by decide +kernel
theorem dL_law_538 : decode cL_law 538 = .ok (.iadd, 1) := by decide +kernel
theorem dL_law_539 : decode cL_law 539 = .ok (.iaload, 1) := by decide +kernel
theorem dL_law_540 : decode cL_law 540 = .ok (.invokevirtual 58, 3) := by decide +kernel
theorem dL_law_543 : decode cL_law 543 = .ok (.if_icmp .eq 537, 3) := by decide +kernel
theorem dL_law_548 : decode cL_law 548 = .ok (.aload_n 1, 1) := by decide +kernel
theorem dL_law_549 : decode cL_law 549 = .ok (.aload_n 0, 1) := by decide +kernel
theorem dL_law_550 : decode cL_law 550 = .ok (.iload_n 3, 1) := by decide +kernel
theorem dL_law_551 : decode cL_law 551 = .ok (.iconst 1, 1) := by decide +kernel
theorem dL_law_552 : decode cL_law 552 = .ok (.iadd, 1) := by decide +kernel
theorem dL_law_553 : decode cL_law 553 = .ok (.iaload, 1) := by decide +kernel
theorem dL_law_554 : decode cL_law 554 = .ok (.aload_n 0, 1) := by decide +kernel
theorem dL_law_555 : decode cL_law 555 = .ok (.iload_n 3, 1) := by decide +kernel
theorem dL_law_556 : decode cL_law 556 = .ok (.iconst 2, 1) := by decide +kernel
theorem dL_law_557 : decode cL_law 557 = .ok (.iadd, 1) := by decide +kernel
theorem dL_law_558 : decode cL_law 558 = .ok (.iaload, 1) := by decide +kernel
theorem dL_law_559 : decode cL_law 559 = .ok (.aload_n 0, 1) := by decide +kernel
theorem dL_law_560 : decode cL_law 560 = .ok (.iload_n 3, 1) := by decide +kernel
theorem dL_law_561 : decode cL_law 561 = .ok (.iconst 3, 1) := by decide +kernel
theorem dL_law_562 : decode cL_law 562 = .ok (.iadd, 1) := by decide +kernel
theorem dL_law_563 : decode cL_law 563 = .ok (.iaload, 1) := by decide +kernel
theorem dL_law_564 : decode cL_law 564 = .ok (.invokevirtual 59, 3) := by decide +kernel
theorem dL_law_567 : decode cL_law 567 = .ok (.aload_n 2, 1) := by decide +kernel
theorem dL_law_568 : decode cL_law 568 = .ok (.aload_n 0, 1) := by decide +kernel
theorem dL_law_569 : decode cL_law 569 = .ok (.iload_n 3, 1) := by decide +kernel
theorem dL_law_570 : decode cL_law 570 = .ok (.iconst 1, 1) := by decide +kernel
theorem dL_law_571 : decode cL_law 571 = .ok (.iadd, 1) := by decide +kernel
theorem dL_law_572 : decode cL_law 572 = .ok (.iaload, 1) := by decide +kernel
theorem dL_law_573 : decode cL_law 573 = .ok (.aload_n 0, 1) := by decide +kernel
theorem dL_law_574 : decode cL_law 574 = .ok (.iload_n 3, 1) := by decide +kernel
theorem dL_law_575 : decode cL_law 575 = .ok (.iconst 2, 1) := by decide +kernel
theorem dL_law_576 : decode cL_law 576 = .ok (.iadd, 1) := by decide +kernel
theorem dL_law_577 : decode cL_law 577 = .ok (.iaload, 1) := by decide +kernel
theorem dL_law_578 : decode cL_law 578 = .ok (.aload_n 0, 1) := by decide +kernel
theorem dL_law_579 : decode cL_law 579 = .ok (.iload_n 3, 1) := by decide +kernel
theorem dL_law_580 : decode cL_law 580 = .ok (.iconst 3, 1) := by decide +kernel
theorem dL_law_581 : decode cL_law 581 = .ok (.iadd, 1) := by decide +kernel
theorem dL_law_582 : decode cL_law 582 = .ok (.iaload, 1) := by decide +kernel
theorem dL_law_583 : decode cL_law 583 = .ok (.invokevirtual 62, 3) := by decide +kernel
theorem dL_law_586 : decode cL_law 586 = .ok (.if_icmp .eq 494, 3) := by decide +kernel
theorem dL_law_591 : decode cL_law 591 = .ok (.aload_n 1, 1) := by decide +kernel
theorem dL_law_592 : decode cL_law 592 = .ok (.invokevirtual 63, 3) := by decide +kernel
theorem dL_law_595 : decode cL_law 595 = .ok (.aload_n 2, 1) := by decide +kernel
theorem dL_law_596 : decode cL_law 596 = .ok (.invokevirtual 67, 3) := by decide +kernel
theorem dL_law_599 : decode cL_law 599 = .ok (.if_icmp .eq 481, 3) := by decide +kernel
theorem dL_law_604 : decode cL_law 604 = .ok (.aload_n 1, 1) := by decide +kernel
theorem dL_law_605 : decode cL_law 605 = .ok (.invokevirtual 68, 3) := by decide +kernel
theorem dL_law_608 : decode cL_law 608 = .ok (.aload_n 2, 1) := by decide +kernel
theorem dL_law_609 : decode cL_law 609 = .ok (.invokevirtual 71, 3) := by decide +kernel
theorem dL_law_612 : decode cL_law 612 = .ok (.if_icmp .eq 468, 3) := by decide +kernel
theorem dL_law_617 : decode cL_law 617 = .ok (.aload_n 1, 1) := by decide +kernel
theorem dL_law_618 : decode cL_law 618 = .ok (.aload_n 0, 1) := by decide +kernel
theorem dL_law_619 : decode cL_law 619 = .ok (.iload_n 3, 1) := by decide +kernel
theorem dL_law_620 : decode cL_law 620 = .ok (.iconst 1, 1) := by decide +kernel
theorem dL_law_621 : decode cL_law 621 = .ok (.iadd, 1) := by decide +kernel
theorem dL_law_622 : decode cL_law 622 = .ok (.iaload, 1) := by decide +kernel
theorem dL_law_623 : decode cL_law 623 = .ok (.aload_n 0, 1) := by decide +kernel
theorem dL_law_624 : decode cL_law 624 = .ok (.iload_n 3, 1) := by decide +kernel
theorem dL_law_625 : decode cL_law 625 = .ok (.iconst 2, 1) := by decide +kernel
theorem dL_law_626 : decode cL_law 626 = .ok (.iadd, 1) := by decide +kernel
theorem dL_law_627 : decode cL_law 627 = .ok (.iaload, 1) := by decide +kernel
theorem dL_law_628 : decode cL_law 628 = .ok (.invokevirtual 72, 3) := by decide +kernel
theorem dL_law_631 : decode cL_law 631 = .ok (.aload_n 2, 1) := by decide +kernel
theorem dL_law_632 : decode cL_law 632 = .ok (.aload_n 0, 1) := by decide +kernel
theorem dL_law_633 : decode cL_law 633 = .ok (.iload_n 3, 1) := by decide +kernel
theorem dL_law_634 : decode cL_law 634 = .ok (.iconst 1, 1) := by decide +kernel
theorem dL_law_635 : decode cL_law 635 = .ok (.iadd, 1) := by decide +kernel
theorem dL_law_636 : decode cL_law 636 = .ok (.iaload, 1) := by decide +kernel
theorem dL_law_637 : decode cL_law 637 = .ok (.aload_n 0, 1) := by decide +kernel
theorem dL_law_638 : decode cL_law 638 = .ok (.iload_n 3, 1) := by decide +kernel
theorem dL_law_639 : decode cL_law 639 = .ok (.iconst 2, 1) := by decide +kernel
theorem dL_law_640 : decode cL_law 640 = .ok (.iadd, 1) := by decide +kernel
theorem dL_law_641 : decode cL_law 641 = .ok (.iaload, 1) := by decide +kernel
theorem dL_law_642 : decode cL_law 642 = .ok (.invokevirtual 75, 3) := by decide +kernel
theorem dL_law_645 : decode cL_law 645 = .ok (.if_icmp .eq 435, 3) := by decide +kernel
theorem dL_law_650 : decode cL_law 650 = .ok (.aload_n 1, 1) := by decide +kernel
theorem dL_law_651 : decode cL_law 651 = .ok (.aload_n 0, 1) := by decide +kernel
theorem dL_law_652 : decode cL_law 652 = .ok (.iload_n 3, 1) := by decide +kernel
theorem dL_law_653 : decode cL_law 653 = .ok (.iconst 1, 1) := by decide +kernel
theorem dL_law_654 : decode cL_law 654 = .ok (.iadd, 1) := by decide +kernel
theorem dL_law_655 : decode cL_law 655 = .ok (.iaload, 1) := by decide +kernel
theorem dL_law_656 : decode cL_law 656 = .ok (.aload_n 0, 1) := by decide +kernel
theorem dL_law_657 : decode cL_law 657 = .ok (.iload_n 3, 1) := by decide +kernel
theorem dL_law_658 : decode cL_law 658 = .ok (.iconst 2, 1) := by decide +kernel
theorem dL_law_659 : decode cL_law 659 = .ok (.iadd, 1) := by decide +kernel
theorem dL_law_660 : decode cL_law 660 = .ok (.iaload, 1) := by decide +kernel
theorem dL_law_661 : decode cL_law 661 = .ok (.invokevirtual 76, 3) := by decide +kernel
theorem dL_law_664 : decode cL_law 664 = .ok (.aload_n 2, 1) := by decide +kernel
theorem dL_law_665 : decode cL_law 665 = .ok (.aload_n 0, 1) := by decide +kernel
theorem dL_law_666 : decode cL_law 666 = .ok (.iload_n 3, 1) := by decide +kernel
theorem dL_law_667 : decode cL_law 667 = .ok (.iconst 1, 1) := by decide +kernel
theorem dL_law_668 : decode cL_law 668 = .ok (.iadd, 1) := by decide +kernel
theorem dL_law_669 : decode cL_law 669 = .ok (.iaload, 1) := by decide +kernel
theorem dL_law_670 : decode cL_law 670 = .ok (.aload_n 0, 1) := by decide +kernel
theorem dL_law_671 : decode cL_law 671 = .ok (.iload_n 3, 1) := by decide +kernel
theorem dL_law_672 : decode cL_law 672 = .ok (.iconst 2, 1) := by decide +kernel
theorem dL_law_673 : decode cL_law 673 = .ok (.iadd, 1) := by decide +kernel
theorem dL_law_674 : decode cL_law 674 = .ok (.iaload, 1) := by decide +kernel
theorem dL_law_675 : decode cL_law 675 = .ok (.invokevirtual 79, 3) := by decide +kernel
theorem dL_law_678 : decode cL_law 678 = .ok (.if_icmp .eq 402, 3) := by decide +kernel
theorem dL_law_683 : decode cL_law 683 = .ok (.aload_n 1, 1) := by decide +kernel
theorem dL_law_684 : decode cL_law 684 = .ok (.aload_n 0, 1) := by decide +kernel
theorem dL_law_685 : decode cL_law 685 = .ok (.iload_n 3, 1) := by decide +kernel
theorem dL_law_686 : decode cL_law 686 = .ok (.iconst 1, 1) := by decide +kernel
theorem dL_law_687 : decode cL_law 687 = .ok (.iadd, 1) := by decide +kernel
theorem dL_law_688 : decode cL_law 688 = .ok (.iaload, 1) := by decide +kernel
theorem dL_law_689 : decode cL_law 689 = .ok (.aload_n 0, 1) := by decide +kernel
theorem dL_law_690 : decode cL_law 690 = .ok (.iload_n 3, 1) := by decide +kernel
theorem dL_law_691 : decode cL_law 691 = .ok (.iconst 2, 1) := by decide +kernel
theorem dL_law_692 : decode cL_law 692 = .ok (.iadd, 1) := by decide +kernel
theorem dL_law_693 : decode cL_law 693 = .ok (.iaload, 1) := by decide +kernel
theorem dL_law_694 : decode cL_law 694 = .ok (.invokevirtual 80, 3) := by decide +kernel
theorem dL_law_697 : decode cL_law 697 = .ok (.aload_n 2, 1) := by decide +kernel
theorem dL_law_698 : decode cL_law 698 = .ok (.aload_n 0, 1) := by decide +kernel
theorem dL_law_699 : decode cL_law 699 = .ok (.iload_n 3, 1) := by decide +kernel
theorem dL_law_700 : decode cL_law 700 = .ok (.iconst 1, 1) := by decide +kernel
theorem dL_law_701 : decode cL_law 701 = .ok (.iadd, 1) := by decide +kernel
theorem dL_law_702 : decode cL_law 702 = .ok (.iaload, 1) := by decide +kernel
theorem dL_law_703 : decode cL_law 703 = .ok (.aload_n 0, 1) := by decide +kernel
theorem dL_law_704 : decode cL_law 704 = .ok (.iload_n 3, 1) := by decide +kernel
theorem dL_law_705 : decode cL_law 705 = .ok (.iconst 2, 1) := by decide +kernel
theorem dL_law_706 : decode cL_law 706 = .ok (.iadd, 1) := by decide +kernel
theorem dL_law_707 : decode cL_law 707 = .ok (.iaload, 1) := by decide +kernel
theorem dL_law_708 : decode cL_law 708 = .ok (.invokevirtual 83, 3) := by decide +kernel
theorem dL_law_711 : decode cL_law 711 = .ok (.if_icmp .eq 369, 3) := by decide +kernel
theorem dL_law_716 : decode cL_law 716 = .ok (.aload_n 1, 1) := by decide +kernel
theorem dL_law_717 : decode cL_law 717 = .ok (.invokevirtual 84, 3) := by decide +kernel
theorem dL_law_720 : decode cL_law 720 = .ok (.aload_n 2, 1) := by decide +kernel
theorem dL_law_721 : decode cL_law 721 = .ok (.invokevirtual 88, 3) := by decide +kernel
theorem dL_law_724 : decode cL_law 724 = .ok (.if_icmp .eq 356, 3) := by decide +kernel
theorem dL_law_729 : decode cL_law 729 = .ok (.aload_n 1, 1) := by decide +kernel
theorem dL_law_730 : decode cL_law 730 = .ok (.invokevirtual 89, 3) := by decide +kernel
theorem dL_law_733 : decode cL_law 733 = .ok (.aload_n 2, 1) := by decide +kernel
theorem dL_law_734 : decode cL_law 734 = .ok (.invokevirtual 92, 3) := by decide +kernel
theorem dL_law_737 : decode cL_law 737 = .ok (.if_icmp .eq 343, 3) := by decide +kernel
theorem dL_law_742 : decode cL_law 742 = .ok (.aload_n 1, 1) := by decide +kernel
theorem dL_law_743 : decode cL_law 743 = .ok (.aload_n 0, 1) := by decide +kernel
theorem dL_law_744 : decode cL_law 744 = .ok (.iload_n 3, 1) := by decide +kernel
theorem dL_law_745 : decode cL_law 745 = .ok (.iconst 1, 1) := by decide +kernel
theorem dL_law_746 : decode cL_law 746 = .ok (.iadd, 1) := by decide +kernel
theorem dL_law_747 : decode cL_law 747 = .ok (.iaload, 1) := by decide +kernel
theorem dL_law_748 : decode cL_law 748 = .ok (.aload_n 0, 1) := by decide +kernel
theorem dL_law_749 : decode cL_law 749 = .ok (.iload_n 3, 1) := by decide +kernel
theorem dL_law_750 : decode cL_law 750 = .ok (.iconst 2, 1) := by decide +kernel
theorem dL_law_751 : decode cL_law 751 = .ok (.iadd, 1) := by decide +kernel
theorem dL_law_752 : decode cL_law 752 = .ok (.iaload, 1) := by decide +kernel
theorem dL_law_753 : decode cL_law 753 = .ok (.invokevirtual 93, 3) := by decide +kernel
theorem dL_law_756 : decode cL_law 756 = .ok (.aload_n 2, 1) := by decide +kernel
theorem dL_law_757 : decode cL_law 757 = .ok (.aload_n 0, 1) := by decide +kernel
theorem dL_law_758 : decode cL_law 758 = .ok (.iload_n 3, 1) := by decide +kernel
theorem dL_law_759 : decode cL_law 759 = .ok (.iconst 1, 1) := by decide +kernel
theorem dL_law_760 : decode cL_law 760 = .ok (.iadd, 1) := by decide +kernel
theorem dL_law_761 : decode cL_law 761 = .ok (.iaload, 1) := by decide +kernel
theorem dL_law_762 : decode cL_law 762 = .ok (.aload_n 0, 1) := by decide +kernel
theorem dL_law_763 : decode cL_law 763 = .ok (.iload_n 3, 1) := by decide +kernel
theorem dL_law_764 : decode cL_law 764 = .ok (.iconst 2, 1) := by decide +kernel
theorem dL_law_765 : decode cL_law 765 = .ok (.iadd, 1) := by decide +kernel
theorem dL_law_766 : decode cL_law 766 = .ok (.iaload, 1) := by decide +kernel
theorem dL_law_767 : decode cL_law 767 = .ok (.invokevirtual 96, 3) := by decide +kernel
theorem dL_law_770 : decode cL_law 770 = .ok (.if_icmp .eq 310, 3) := by decide +kernel
theorem dL_law_775 : decode cL_law 775 = .ok (.aload_n 1, 1) := by decide +kernel
theorem dL_law_776 : decode cL_law 776 = .ok (.aload_n 0, 1) := by decide +kernel
theorem dL_law_777 : decode cL_law 777 = .ok (.iload_n 3, 1) := by decide +kernel
theorem dL_law_778 : decode cL_law 778 = .ok (.iconst 1, 1) := by decide +kernel
theorem dL_law_779 : decode cL_law 779 = .ok (.iadd, 1) := by decide +kernel
theorem dL_law_780 : decode cL_law 780 = .ok (.iaload, 1) := by decide +kernel
theorem dL_law_781 : decode cL_law 781 = .ok (.aload_n 0, 1) := by decide +kernel
theorem dL_law_782 : decode cL_law 782 = .ok (.iload_n 3, 1) := by decide +kernel
theorem dL_law_783 : decode cL_law 783 = .ok (.iconst 2, 1) := by decide +kernel
theorem dL_law_784 : decode cL_law 784 = .ok (.iadd, 1) := by decide +kernel
theorem dL_law_785 : decode cL_law 785 = .ok (.iaload, 1) := by decide +kernel
theorem dL_law_786 : decode cL_law 786 = .ok (.invokevirtual 97, 3) := by decide +kernel
theorem dL_law_789 : decode cL_law 789 = .ok (.aload_n 2, 1) := by decide +kernel
theorem dL_law_790 : decode cL_law 790 = .ok (.aload_n 0, 1) := by decide +kernel
theorem dL_law_791 : decode cL_law 791 = .ok (.iload_n 3, 1) := by decide +kernel
theorem dL_law_792 : decode cL_law 792 = .ok (.iconst 1, 1) := by decide +kernel
theorem dL_law_793 : decode cL_law 793 = .ok (.iadd, 1) := by decide +kernel
theorem dL_law_794 : decode cL_law 794 = .ok (.iaload, 1) := by decide +kernel
theorem dL_law_795 : decode cL_law 795 = .ok (.aload_n 0, 1) := by decide +kernel
theorem dL_law_796 : decode cL_law 796 = .ok (.iload_n 3, 1) := by decide +kernel
theorem dL_law_797 : decode cL_law 797 = .ok (.iconst 2, 1) := by decide +kernel
theorem dL_law_798 : decode cL_law 798 = .ok (.iadd, 1) := by decide +kernel
theorem dL_law_799 : decode cL_law 799 = .ok (.iaload, 1) := by decide +kernel
theorem dL_law_800 : decode cL_law 800 = .ok (.invokevirtual 100, 3) := by decide +kernel
theorem dL_law_803 : decode cL_law 803 = .ok (.if_icmp .eq 277, 3) := by decide +kernel
theorem dL_law_808 : decode cL_law 808 = .ok (.aload_n 1, 1) := by decide +kernel
theorem dL_law_809 : decode cL_law 809 = .ok (.invokevirtual 101, 3) := by decide +kernel
theorem dL_law_812 : decode cL_law 812 = .ok (.aload_n 2, 1) := by decide +kernel
theorem dL_law_813 : decode cL_law 813 = .ok (.invokevirtual 104, 3) := by decide +kernel
theorem dL_law_816 : decode cL_law 816 = .ok (.if_icmp .eq 264, 3) := by decide +kernel
theorem dL_law_821 : decode cL_law 821 = .ok (.aload_n 1, 1) := by decide +kernel
theorem dL_law_822 : decode cL_law 822 = .ok (.invokevirtual 105, 3) := by decide +kernel
theorem dL_law_825 : decode cL_law 825 = .ok (.aload_n 2, 1) := by decide +kernel
theorem dL_law_826 : decode cL_law 826 = .ok (.invokevirtual 108, 3) := by decide +kernel
theorem dL_law_829 : decode cL_law 829 = .ok (.if_icmp .eq 251, 3) := by decide +kernel
theorem dL_law_834 : decode cL_law 834 = .ok (.aload_n 1, 1) := by decide +kernel
theorem dL_law_835 : decode cL_law 835 = .ok (.invokevirtual 109, 3) := by decide +kernel
theorem dL_law_838 : decode cL_law 838 = .ok (.aload_n 2, 1) := by decide +kernel
theorem dL_law_839 : decode cL_law 839 = .ok (.invokevirtual 112, 3) := by decide +kernel
theorem dL_law_842 : decode cL_law 842 = .ok (.if_icmp .eq 238, 3) := by decide +kernel
theorem dL_law_847 : decode cL_law 847 = .ok (.aload_n 1, 1) := by decide +kernel
theorem dL_law_848 : decode cL_law 848 = .ok (.aload_n 0, 1) := by decide +kernel
theorem dL_law_849 : decode cL_law 849 = .ok (.iload_n 3, 1) := by decide +kernel
theorem dL_law_850 : decode cL_law 850 = .ok (.iconst 1, 1) := by decide +kernel
theorem dL_law_851 : decode cL_law 851 = .ok (.iadd, 1) := by decide +kernel
theorem dL_law_852 : decode cL_law 852 = .ok (.iaload, 1) := by decide +kernel
theorem dL_law_853 : decode cL_law 853 = .ok (.aload_n 0, 1) := by decide +kernel
theorem dL_law_854 : decode cL_law 854 = .ok (.iload_n 3, 1) := by decide +kernel
theorem dL_law_855 : decode cL_law 855 = .ok (.iconst 2, 1) := by decide +kernel
theorem dL_law_856 : decode cL_law 856 = .ok (.iadd, 1) := by decide +kernel
theorem dL_law_857 : decode cL_law 857 = .ok (.iaload, 1) := by decide +kernel
theorem dL_law_858 : decode cL_law 858 = .ok (.aload_n 0, 1) := by decide +kernel
theorem dL_law_859 : decode cL_law 859 = .ok (.iload_n 3, 1) := by decide +kernel
theorem dL_law_860 : decode cL_law 860 = .ok (.iconst 3, 1) := by decide +kernel
theorem dL_law_861 : decode cL_law 861 = .ok (.iadd, 1) := by decide +kernel
theorem dL_law_862 : decode cL_law 862 = .ok (.iaload, 1) := by decide +kernel
theorem dL_law_863 : decode cL_law 863 = .ok (.aload_n 0, 1) := by decide +kernel
theorem dL_law_864 : decode cL_law 864 = .ok (.iload_n 3, 1) := by decide +kernel
theorem dL_law_865 : decode cL_law 865 = .ok (.iconst 4, 1) := by decide +kernel
theorem dL_law_866 : decode cL_law 866 = .ok (.iadd, 1) := by decide +kernel
theorem dL_law_867 : decode cL_law 867 = .ok (.iaload, 1) := by decide +kernel
theorem dL_law_868 : decode cL_law 868 = .ok (.invokevirtual 113, 3) := by decide +kernel
theorem dL_law_871 : decode cL_law 871 = .ok (.aload_n 2, 1) := by decide +kernel
theorem dL_law_872 : decode cL_law 872 = .ok (.aload_n 0, 1) := by decide +kernel
theorem dL_law_873 : decode cL_law 873 = .ok (.iload_n 3, 1) := by decide +kernel
theorem dL_law_874 : decode cL_law 874 = .ok (.iconst 1, 1) := by decide +kernel
theorem dL_law_875 : decode cL_law 875 = .ok (.iadd, 1) := by decide +kernel
theorem dL_law_876 : decode cL_law 876 = .ok (.iaload, 1) := by decide +kernel
theorem dL_law_877 : decode cL_law 877 = .ok (.aload_n 0, 1) := by decide +kernel
theorem dL_law_878 : decode cL_law 878 = .ok (.iload_n 3, 1) := by decide +kernel
theorem dL_law_879 : decode cL_law 879 = .ok (.iconst 2, 1) := by decide +kernel
theorem dL_law_880 : decode cL_law 880 = .ok (.iadd, 1) := by decide +kernel
theorem dL_law_881 : decode cL_law 881 = .ok (.iaload, 1) := by decide +kernel
theorem dL_law_882 : decode cL_law 882 = .ok (.aload_n 0, 1) := by decide +kernel
theorem dL_law_883 : decode cL_law 883 = .ok (.iload_n 3, 1) := by decide +kernel
theorem dL_law_884 : decode cL_law 884 = .ok (.iconst 3, 1) := by decide +kernel
theorem dL_law_885 : decode cL_law 885 = .ok (.iadd, 1) := by decide +kernel
theorem dL_law_886 : decode cL_law 886 = .ok (.iaload, 1) := by decide +kernel
theorem dL_law_887 : decode cL_law 887 = .ok (.aload_n 0, 1) := by decide +kernel
theorem dL_law_888 : decode cL_law 888 = .ok (.iload_n 3, 1) := by decide +kernel
theorem dL_law_889 : decode cL_law 889 = .ok (.iconst 4, 1) := by decide +kernel
theorem dL_law_890 : decode cL_law 890 = .ok (.iadd, 1) := by decide +kernel
theorem dL_law_891 : decode cL_law 891 = .ok (.iaload, 1) := by decide +kernel
theorem dL_law_892 : decode cL_law 892 = .ok (.invokevirtual 116, 3) := by decide +kernel
theorem dL_law_895 : decode cL_law 895 = .ok (.if_icmp .eq 185, 3) := by decide +kernel
theorem dL_law_900 : decode cL_law 900 = .ok (.aload_n 1, 1) := by decide +kernel
theorem dL_law_901 : decode cL_law 901 = .ok (.invokevirtual 117, 3) := by decide +kernel
theorem dL_law_904 : decode cL_law 904 = .ok (.aload_n 2, 1) := by decide +kernel
theorem dL_law_905 : decode cL_law 905 = .ok (.invokevirtual 120, 3) := by decide +kernel
theorem dL_law_908 : decode cL_law 908 = .ok (.if_icmp .eq 172, 3) := by decide +kernel
theorem dL_law_913 : decode cL_law 913 = .ok (.aload_n 1, 1) := by decide +kernel
theorem dL_law_914 : decode cL_law 914 = .ok (.invokevirtual 121, 3) := by decide +kernel
theorem dL_law_917 : decode cL_law 917 = .ok (.aload_n 2, 1) := by decide +kernel
theorem dL_law_918 : decode cL_law 918 = .ok (.invokevirtual 124, 3) := by decide +kernel
theorem dL_law_921 : decode cL_law 921 = .ok (.if_icmp .eq 159, 3) := by decide +kernel
theorem dL_law_926 : decode cL_law 926 = .ok (.aload_n 1, 1) := by decide +kernel
theorem dL_law_927 : decode cL_law 927 = .ok (.aload_n 0, 1) := by decide +kernel
theorem dL_law_928 : decode cL_law 928 = .ok (.iload_n 3, 1) := by decide +kernel
theorem dL_law_929 : decode cL_law 929 = .ok (.iconst 1, 1) := by decide +kernel
theorem dL_law_930 : decode cL_law 930 = .ok (.iadd, 1) := by decide +kernel
theorem dL_law_931 : decode cL_law 931 = .ok (.iaload, 1) := by decide +kernel
theorem dL_law_932 : decode cL_law 932 = .ok (.invokevirtual 125, 3) := by decide +kernel
theorem dL_law_935 : decode cL_law 935 = .ok (.aload_n 2, 1) := by decide +kernel
theorem dL_law_936 : decode cL_law 936 = .ok (.aload_n 0, 1) := by decide +kernel
theorem dL_law_937 : decode cL_law 937 = .ok (.iload_n 3, 1) := by decide +kernel
theorem dL_law_938 : decode cL_law 938 = .ok (.iconst 1, 1) := by decide +kernel
theorem dL_law_939 : decode cL_law 939 = .ok (.iadd, 1) := by decide +kernel
theorem dL_law_940 : decode cL_law 940 = .ok (.iaload, 1) := by decide +kernel
theorem dL_law_941 : decode cL_law 941 = .ok (.invokevirtual 128, 3) := by decide +kernel
theorem dL_law_944 : decode cL_law 944 = .ok (.if_icmp .eq 136, 3) := by decide +kernel
theorem dL_law_949 : decode cL_law 949 = .ok (.aload_n 1, 1) := by decide +kernel
theorem dL_law_950 : decode cL_law 950 = .ok (.invokevirtual 129, 3) := by decide +kernel
theorem dL_law_953 : decode cL_law 953 = .ok (.aload_n 2, 1) := by decide +kernel
theorem dL_law_954 : decode cL_law 954 = .ok (.invokevirtual 132, 3) := by decide +kernel
theorem dL_law_957 : decode cL_law 957 = .ok (.if_icmp .eq 123, 3) := by decide +kernel
theorem dL_law_962 : decode cL_law 962 = .ok (.aload_n 1, 1) := by decide +kernel
theorem dL_law_963 : decode cL_law 963 = .ok (.aload_n 0, 1) := by decide +kernel
theorem dL_law_964 : decode cL_law 964 = .ok (.iload_n 3, 1) := by decide +kernel
theorem dL_law_965 : decode cL_law 965 = .ok (.iconst 1, 1) := by decide +kernel
theorem dL_law_966 : decode cL_law 966 = .ok (.iadd, 1) := by decide +kernel
theorem dL_law_967 : decode cL_law 967 = .ok (.iaload, 1) := by decide +kernel
theorem dL_law_968 : decode cL_law 968 = .ok (.invokevirtual 133, 3) := by decide +kernel
theorem dL_law_971 : decode cL_law 971 = .ok (.aload_n 2, 1) := by decide +kernel
theorem dL_law_972 : decode cL_law 972 = .ok (.aload_n 0, 1) := by decide +kernel
theorem dL_law_973 : decode cL_law 973 = .ok (.iload_n 3, 1) := by decide +kernel
theorem dL_law_974 : decode cL_law 974 = .ok (.iconst 1, 1) := by decide +kernel
theorem dL_law_975 : decode cL_law 975 = .ok (.iadd, 1) := by decide +kernel
theorem dL_law_976 : decode cL_law 976 = .ok (.iaload, 1) := by decide +kernel
theorem dL_law_977 : decode cL_law 977 = .ok (.invokevirtual 136, 3) := by decide +kernel
theorem dL_law_980 : decode cL_law 980 = .ok (.if_icmp .eq 100, 3) := by decide +kernel
theorem dL_law_985 : decode cL_law 985 = .ok (.aload_n 1, 1) := by decide +kernel
theorem dL_law_986 : decode cL_law 986 = .ok (.invokevirtual 137, 3) := by decide +kernel
theorem dL_law_989 : decode cL_law 989 = .ok (.aload_n 2, 1) := by decide +kernel
theorem dL_law_990 : decode cL_law 990 = .ok (.invokevirtual 140, 3) := by decide +kernel
theorem dL_law_993 : decode cL_law 993 = .ok (.if_icmp .eq 87, 3) := by decide +kernel
theorem dL_law_998 : decode cL_law 998 = .ok (.aload_n 1, 1) := by decide +kernel
theorem dL_law_999 : decode cL_law 999 = .ok (.aload_n 0, 1) := by decide +kernel
theorem dL_law_1000 : decode cL_law 1000 = .ok (.iload_n 3, 1) := by decide +kernel
theorem dL_law_1001 : decode cL_law 1001 = .ok (.iconst 1, 1) := by decide +kernel
theorem dL_law_1002 : decode cL_law 1002 = .ok (.iadd, 1) := by decide +kernel
theorem dL_law_1003 : decode cL_law 1003 = .ok (.iaload, 1) := by decide +kernel
theorem dL_law_1004 : decode cL_law 1004 = .ok (.aload_n 0, 1) := by decide +kernel
theorem dL_law_1005 : decode cL_law 1005 = .ok (.iload_n 3, 1) := by decide +kernel
theorem dL_law_1006 : decode cL_law 1006 = .ok (.iconst 2, 1) := by decide +kernel
theorem dL_law_1007 : decode cL_law 1007 = .ok (.iadd, 1) := by decide +kernel
theorem dL_law_1008 : decode cL_law 1008 = .ok (.iaload, 1) := by decide +kernel
theorem dL_law_1009 : decode cL_law 1009 = .ok (.invokevirtual 141, 3) := by decide +kernel
theorem dL_law_1012 : decode cL_law 1012 = .ok (.aload_n 2, 1) := by decide +kernel
theorem dL_law_1013 : decode cL_law 1013 = .ok (.aload_n 0, 1) := by decide +kernel
theorem dL_law_1014 : decode cL_law 1014 = .ok (.iload_n 3, 1) := by decide +kernel
theorem dL_law_1015 : decode cL_law 1015 = .ok (.iconst 1, 1) := by decide +kernel
theorem dL_law_1016 : decode cL_law 1016 = .ok (.iadd, 1) := by decide +kernel
theorem dL_law_1017 : decode cL_law 1017 = .ok (.iaload, 1) := by decide +kernel
theorem dL_law_1018 : decode cL_law 1018 = .ok (.aload_n 0, 1) := by decide +kernel
theorem dL_law_1019 : decode cL_law 1019 = .ok (.iload_n 3, 1) := by decide +kernel
theorem dL_law_1020 : decode cL_law 1020 = .ok (.iconst 2, 1) := by decide +kernel
theorem dL_law_1021 : decode cL_law 1021 = .ok (.iadd, 1) := by decide +kernel
theorem dL_law_1022 : decode cL_law 1022 = .ok (.iaload, 1) := by decide +kernel
theorem dL_law_1023 : decode cL_law 1023 = .ok (.invokevirtual 144, 3) := by decide +kernel
theorem dL_law_1026 : decode cL_law 1026 = .ok (.if_icmp .eq 54, 3) := by decide +kernel
theorem dL_law_1031 : decode cL_law 1031 = .ok (.aload_n 1, 1) := by decide +kernel
theorem dL_law_1032 : decode cL_law 1032 = .ok (.invokevirtual 145, 3) := by decide +kernel
theorem dL_law_1035 : decode cL_law 1035 = .ok (.aload_n 2, 1) := by decide +kernel
theorem dL_law_1036 : decode cL_law 1036 = .ok (.invokevirtual 148, 3) := by decide +kernel
theorem dL_law_1039 : decode cL_law 1039 = .ok (.if_icmp .eq 41, 3) := by decide +kernel
theorem dL_law_1044 : decode cL_law 1044 = .ok (.aload_n 1, 1) := by decide +kernel
theorem dL_law_1045 : decode cL_law 1045 = .ok (.invokevirtual 149, 3) := by decide +kernel
theorem dL_law_1048 : decode cL_law 1048 = .ok (.aload_n 2, 1) := by decide +kernel
theorem dL_law_1049 : decode cL_law 1049 = .ok (.invokevirtual 152, 3) := by decide +kernel
theorem dL_law_1052 : decode cL_law 1052 = .ok (.if_icmp .eq 28, 3) := by decide +kernel
theorem dL_law_1057 : decode cL_law 1057 = .ok (.aload_n 1, 1) := by decide +kernel
theorem dL_law_1058 : decode cL_law 1058 = .ok (.aload_n 0, 1) := by decide +kernel
theorem dL_law_1059 : decode cL_law 1059 = .ok (.iload_n 3, 1) := by decide +kernel
theorem dL_law_1060 : decode cL_law 1060 = .ok (.iconst 1, 1) := by decide +kernel
theorem dL_law_1061 : decode cL_law 1061 = .ok (.iadd, 1) := by decide +kernel
theorem dL_law_1062 : decode cL_law 1062 = .ok (.iaload, 1) := by decide +kernel
theorem dL_law_1063 : decode cL_law 1063 = .ok (.invokevirtual 153, 3) := by decide +kernel
theorem dL_law_1066 : decode cL_law 1066 = .ok (.aload_n 2, 1) := by decide +kernel
theorem dL_law_1067 : decode cL_law 1067 = .ok (.aload_n 0, 1) := by decide +kernel
theorem dL_law_1068 : decode cL_law 1068 = .ok (.iload_n 3, 1) := by decide +kernel
theorem dL_law_1069 : decode cL_law 1069 = .ok (.iconst 1, 1) := by decide +kernel
theorem dL_law_1070 : decode cL_law 1070 = .ok (.iadd, 1) := by decide +kernel
theorem dL_law_1071 : decode cL_law 1071 = .ok (.iaload, 1) := by decide +kernel
theorem dL_law_1072 : decode cL_law 1072 = .ok (.invokevirtual 156, 3) := by decide +kernel
theorem dL_law_1075 : decode cL_law 1075 = .ok (.if_icmp .eq 5, 3) := by decide +kernel
theorem dL_law_1080 : decode cL_law 1080 = .ok (.iinc 3 5, 3) := by decide +kernel
theorem dL_law_1083 : decode cL_law 1083 = .ok (.goto (-1045), 3) := by decide +kernel
theorem dL_law_1086 : decode cL_law 1086 = .ok (.iconst 1, 1) := by decide +kernel
theorem dL_law_1087 : decode cL_law 1087 = .ok (.ireturn, 1) := by decide +kernel
end
section
/-! What every contract here takes as given, and calls in one row each. -/
section QB
abbrev qK (D : va_G) (kI kZ kJ : ClassId) (U : State) : Prop := va_K D vwCl [(kI, .int), (kZ, .boolean), (kJ, .long)] U
/-- the nest mates' links that the methods walked here use -/
def qN_l : List (String × Nat × MethodName × String) := [(RX3, 25, yX8_has, RX8), (RX0, 38, yX8_isField, RX8), (RX6, 55, yX8_isField, RX8)]
def qN (U : State) : Prop := ∀ q ∈ qN_l, va_Nw (.methodLinkNest q.1 q.2.1 q.2.2.1 q.2.2.2) U
theorem qN_warm {s U : State} (hW : s.WarmedH U.vm) (h : qN s) : qN U := fun q hq => va_Nw.warmM hW (h q hq)
theorem qN_vm {u U : State} (e : u.vm = U.vm) (h : qN u) : qN U := fun q hq => va_tabs rfl e (h q hq)
/-- a method that only reads: its world -/
def qR (D : va_G) (kI kZ kJ : ClassId) (ws : va_W) (av : List Value) : Array Value → State → Prop := va_Pc av (fun U => va_P D vwCl ws U.heap ∧ qK D kI kZ kJ U ∧ qN U)
theorem qR_blind {D : va_G} {kI kZ kJ : ClassId} {ws : va_W} {av : List Value} : FrameBlind (qR D kI kZ kJ ws av) := fun a U g mk q => ⟨q.1, q.2.1, va_K.moved (u := U) (U := U.calling g mk a) (Vm.Alike.refl U.vm) q.2.2.1, qN_vm (u := U) rfl q.2.2.2⟩
/-- a method that writes: its world, and how large the heap is -/
def qW (D : va_G) (kI kZ kJ : ClassId) (ws : va_W) (sz : Nat) (av : List Value) : Array Value → State → Prop := va_Pc av (fun U => U.heap.size = sz ∧ va_P D vwCl ws U.heap ∧ qK D kI kZ kJ U ∧ va_D (fun _ => True) ws ∧ qN U)
theorem qW_blind {D : va_G} {kI kZ kJ : ClassId} {ws : va_W} {sz : Nat} {av : List Value} : FrameBlind (qW D kI kZ kJ ws sz av) := fun a U g mk q => ⟨q.1, q.2.1, q.2.2.1, va_K.moved (u := U) (U := U.calling g mk a) (Vm.Alike.refl U.vm) q.2.2.2.1, q.2.2.2.2.1, qN_vm (u := U) rfl q.2.2.2.2.2⟩
/-- the world behind a method that writes -/
def qB (D : va_G) {S : Type} (w1 : S → va_W) (A : Nat → Prop) : S → State → Prop := fun u t => va_P D vwCl (w1 u) t.heap ∧ va_D A (w1 u)
variable {p : Program} {l : Launch} {e : Env} {R : Room} {s : State} {m : MethodId} {args : Array Value} {below : List Frame} {meth : Method} {c : Code} {H : Heap} {locs : List Loc} {cells slots : Nat} {Q : State → Prop}
variable {D : va_G} {kI kZ kJ : ClassId} {cc : ByteArray} {pc nL : Nat} {ls : Array Slot} {rest st0 : List Value} {A : Nat → Prop} {H0 : Heap} {wsH wc wr : va_W}
variable {y : MethodName} {bytes : ByteArray} {maxL mc ms n index : Nat} {ret : Option FieldType} {ws ws' Ts : List Cond} {rm : Room} {Qc : Array Value → State → Outcome → State → Prop} {own C : String} {b : Nat} {As : List Value}
/-- an object's method that only reads -/
theorem qV_R (S : CallFix p m c cc nL s args Ts own) (hK : qK D kI kZ kJ s) (hN : qN s) (hP : va_P D vwCl wsH H) (is : List Nat) (hsub : is.filterMap (fun i => wsH[i]?) = wc)
    (hM : Met l y ws rm (qR D kI kZ kJ wc (.ref b :: As)) Qc 0 0 (fun _ => False)) (hT : GoodIn Ts (wsV own index C y ws)) (hw : ws = Cond.code y bytes maxL ret :: ws') (hrc : rm.cells = 0) (hrs : rm.slots = 0)
    (hd : y.cls = C ∧ y.cls ≠ "java/lang/invoke/MethodHandle" ∧ y.cls ≠ "java/lang/invoke/VarHandle" ∧ (parseMethodDescriptor y.desc).map (fun d => d.parameters.length) = some n) (hR : rm.frames + 1 ≤ R.frames ∧ 8 + (maxL + 11) + rm.locals ≤ R.locals)
    (q0 ci : Nat) {fs : List Value} {cq : vw_C} (hc : vwCl[ci]? = some cq) (he : wsH[q0]? = some (b, .inr (ci, fs))) (hC : cq.1 = C) (hn : As.length = n) (hsize : ls.size = nL) (hstack : st0 = As.reverse ++ .ref b :: rest) (hroom : (rest.map fun v => v.category).sum ≤ 8)
    (hdg : decode cc pc = .ok (.invokevirtual index, 3)) (hf : cells + 0 ≤ R.cells ∧ slots + 0 ≤ R.slots) :
    va_Run p l e R s m args below meth c H locs cells slots 0 0 (F0 m pc ls st0) rest (Qc (Value.ref b :: As).toArray) (fun _ => False) := by
  subst hC
  have hPc := hP.sub is hsub
  exact va_runV S hM (cwV n S.2.2.2.2 hT hw hrc hrs hd hR) ⟨qR_blind, va_recv hK hP hc he, fun U hU hW => ⟨rfl, by rw [hU]; exact hPc, va_K.moved hW.alike hK, qN_warm hW hN⟩⟩ rfl hn hsize hstack (lv_room hroom) hdg hf
/-- a static method that only reads -/
theorem qS_R (S : CallFix p m c cc nL s args Ts own) (hK : qK D kI kZ kJ s) (hN : qN s) (hP : va_P D vwCl wsH H) (is : List Nat) (hsub : is.filterMap (fun i => wsH[i]?) = wc)
    (hM : Met l y ws rm (qR D kI kZ kJ wc As) Qc 0 0 (fun _ => False)) (hT : GoodIn Ts (va_wsS own index y ws)) (hw : ws = Cond.code y bytes maxL ret :: ws') (hrc : rm.cells = 0) (hrs : rm.slots = 0)
    (hd : y.cls ≠ "java/lang/invoke/MethodHandle" ∧ y.cls ≠ "java/lang/invoke/VarHandle" ∧ (parseMethodDescriptor y.desc).map (fun d => d.parameters.length) = some n) (hR : rm.frames + 1 ≤ R.frames ∧ 8 + (maxL + 11) + rm.locals ≤ R.locals)
    (hn : As.length = n) (hsize : ls.size = nL) (hstack : st0 = As.reverse ++ rest) (hroom : (rest.map fun v => v.category).sum ≤ 8)
    (hdg : decode cc pc = .ok (.invokestatic index, 3)) (hf : cells + 0 ≤ R.cells ∧ slots + 0 ≤ R.slots) :
    va_Run p l e R s m args below meth c H locs cells slots 0 0 (F0 m pc ls st0) rest (Qc As.toArray) (fun _ => False) := by
  have hPc := hP.sub is hsub
  exact va_runS S hM (va_cwS n S.2.2.2.2 hT hw hrc hrs hd hR) ⟨qR_blind, fun U hU hW => ⟨rfl, by rw [hU]; exact hPc, va_K.moved hW.alike hK, qN_warm hW hN⟩⟩ rfl hn hsize hstack (lv_room hroom) hdg hf
/-- a nest mate's static method that only reads -/
theorem qSN_R (S : CallFix p m c cc nL s args Ts own) (hK : qK D kI kZ kJ s) (hN : qN s) (hP : va_P D vwCl wsH H) (is : List Nat) (hsub : is.filterMap (fun i => wsH[i]?) = wc)
    (hM : Met l y ws rm (qR D kI kZ kJ wc As) Qc 0 0 (fun _ => False)) {host : String} (hG : GoodIn Ts ws) (hw : ws = Cond.code y bytes maxL ret :: ws') (hrc : rm.cells = 0) (hrs : rm.slots = 0) (hq : (own, index, y, host) ∈ qN_l) (hini : (Cond.initialized y.cls).before args s = true) (hst : (Cond.static y).before args s = true)
    (hd : y.cls ≠ "java/lang/invoke/MethodHandle" ∧ y.cls ≠ "java/lang/invoke/VarHandle" ∧ (parseMethodDescriptor y.desc).map (fun d => d.parameters.length) = some n) (hR : rm.frames + 1 ≤ R.frames ∧ 8 + (maxL + 11) + rm.locals ≤ R.locals)
    (hn : As.length = n) (hsize : ls.size = nL) (hstack : st0 = As.reverse ++ rest) (hroom : (rest.map fun v => v.category).sum ≤ 8)
    (hdg : decode cc pc = .ok (.invokestatic index, 3)) (hf : cells + 0 ≤ R.cells ∧ slots + 0 ≤ R.slots) :
    va_Run p l e R s m args below meth c H locs cells slots 0 0 (F0 m pc ls st0) rest (Qc As.toArray) (fun _ => False) := by
  have hPc := hP.sub is hsub
  exact va_runSN S hM ⟨va_cnB n S.2.2.2.2 hG hw hrc hrs (hN _ hq) hini hd hR, hst, trivial⟩ ⟨qR_blind, fun U hU hW => ⟨rfl, by rw [hU]; exact hPc, va_K.moved hW.alike hK, qN_warm hW hN⟩⟩ rfl hn hsize hstack (lv_room hroom) hdg hf
/-- an object's method that writes -/
theorem qV_W (S : CallFix p m c cc nL s args Ts own) (hK : qK D kI kZ kJ s) (hN : qN s) (hP : va_P D vwCl wsH H) (hD : va_D A wsH) (is : List Nat) (hsub : is.filterMap (fun i => wsH[i]?) = wc) (hsub2 : is.map (fun i => wsH[i]?) = wc.map some) (hnd : va_nd is = true) {free : Addr → Prop}
    (hM : Met l y ws rm (qW D kI kZ kJ wc H.size (.ref b :: As)) Qc mc ms free) (hT : GoodIn Ts (wsV own index C y ws)) (hw : ws = Cond.code y bytes maxL ret :: ws') (hrc : rm.cells = mc) (hrs : rm.slots = ms)
    (hd : y.cls = C ∧ y.cls ≠ "java/lang/invoke/MethodHandle" ∧ y.cls ≠ "java/lang/invoke/VarHandle" ∧ (parseMethodDescriptor y.desc).map (fun d => d.parameters.length) = some n) (hR : rm.frames + 1 ≤ R.frames ∧ 8 + (maxL + 11) + rm.locals ≤ R.locals)
    (q0 ci : Nat) {fs : List Value} {cq : vw_C} (hc : vwCl[ci]? = some cq) (he : wsH[q0]? = some (b, .inr (ci, fs))) (hC : cq.1 = C) (hn : As.length = n) (hsize : ls.size = nL) (hstack : st0 = As.reverse ++ .ref b :: rest) (hroom : (rest.map fun v => v.category).sum ≤ 8)
    (hdg : decode cc pc = .ok (.invokevirtual index, 3)) (hf : cells + mc ≤ R.cells ∧ slots + ms ≤ R.slots) :
    va_Run p l e R s m args below meth c H locs cells slots mc ms (F0 m pc ls st0) rest (Qc (Value.ref b :: As).toArray) free := by
  subst hC
  have hPc := hP.sub is hsub
  have hDc := hD.sub is hnd hsub2
  exact va_runV S hM (cwV n S.2.2.2.2 hT hw hrc hrs hd hR) ⟨qW_blind, va_recv hK hP hc he, fun U hU hW => ⟨rfl, by rw [hU], by rw [hU]; exact hPc, va_K.moved hW.alike hK, hDc.weaken (fun _ _ _ _ => trivial), qN_warm hW hN⟩⟩ rfl hn hsize hstack (lv_room hroom) hdg hf
/-- a static method that writes -/
theorem qS_W (S : CallFix p m c cc nL s args Ts own) (hK : qK D kI kZ kJ s) (hN : qN s) (hP : va_P D vwCl wsH H) (hD : va_D A wsH) (is : List Nat) (hsub : is.filterMap (fun i => wsH[i]?) = wc) (hsub2 : is.map (fun i => wsH[i]?) = wc.map some) (hnd : va_nd is = true) {free : Addr → Prop}
    (hM : Met l y ws rm (qW D kI kZ kJ wc H.size As) Qc mc ms free) (hT : GoodIn Ts (va_wsS own index y ws)) (hw : ws = Cond.code y bytes maxL ret :: ws') (hrc : rm.cells = mc) (hrs : rm.slots = ms)
    (hd : y.cls ≠ "java/lang/invoke/MethodHandle" ∧ y.cls ≠ "java/lang/invoke/VarHandle" ∧ (parseMethodDescriptor y.desc).map (fun d => d.parameters.length) = some n) (hR : rm.frames + 1 ≤ R.frames ∧ 8 + (maxL + 11) + rm.locals ≤ R.locals)
    (hn : As.length = n) (hsize : ls.size = nL) (hstack : st0 = As.reverse ++ rest) (hroom : (rest.map fun v => v.category).sum ≤ 8)
    (hdg : decode cc pc = .ok (.invokestatic index, 3)) (hf : cells + mc ≤ R.cells ∧ slots + ms ≤ R.slots) :
    va_Run p l e R s m args below meth c H locs cells slots mc ms (F0 m pc ls st0) rest (Qc As.toArray) free := by
  have hPc := hP.sub is hsub
  have hDc := hD.sub is hnd hsub2
  exact va_runS S hM (va_cwS n S.2.2.2.2 hT hw hrc hrs hd hR) ⟨qW_blind, fun U hU hW => ⟨rfl, by rw [hU], by rw [hU]; exact hPc, va_K.moved hW.alike hK, hDc.weaken (fun _ _ _ _ => trivial), qN_warm hW hN⟩⟩ rfl hn hsize hstack (lv_room hroom) hdg hf
/-- a constructor -/
theorem qI_W (S : CallFix p m c cc nL s args Ts own) (hK : qK D kI kZ kJ s) (hN : qN s) (hP : va_P D vwCl wsH H) (hD : va_D A wsH) (is : List Nat) (hsub : is.filterMap (fun i => wsH[i]?) = wc) (hsub2 : is.map (fun i => wsH[i]?) = wc.map some) (hnd : va_nd is = true) {free : Addr → Prop}
    (hM : Met l y ws rm (qW D kI kZ kJ wc H.size (.ref b :: As)) Qc mc ms free) (hG : GoodIn Ts ws) (hw : ws = Cond.code y bytes maxL none :: ws') (hrc : rm.cells = mc) (hrs : rm.slots = ms) (hini : (Cond.initialized y.cls).before args s = true) (hl : (Cond.methodLink own index y).before args s = true) (hin : (Cond.instanceMethod y).before args s = true) (hy1 : y.name = "<init>")
    (hd : y.cls ≠ "java/lang/invoke/MethodHandle" ∧ y.cls ≠ "java/lang/invoke/VarHandle" ∧ (parseMethodDescriptor y.desc).map (fun d => d.parameters.length) = some n) (hR : rm.frames + 1 ≤ R.frames ∧ 8 + (maxL + 11) + rm.locals ≤ R.locals)
    (hn : As.length = n) (hsize : ls.size = nL) (hstack : st0 = As.reverse ++ .ref b :: rest) (hroom : (rest.map fun v => v.category).sum ≤ 8)
    (hdg : decode cc pc = .ok (.invokespecial index, 3)) (hf : cells + mc ≤ R.cells ∧ slots + ms ≤ R.slots) :
    va_Run p l e R s m args below meth c H locs cells slots mc ms (F0 m pc ls st0) rest (Qc (Value.ref b :: As).toArray) free := by
  have hPc := hP.sub is hsub
  have hDc := hD.sub is hnd hsub2
  exact va_runI S hM (cwI n S.2.2.2.2 hG hw hrc hrs hini hl hin hy1 hd hR) ⟨qW_blind, fun U hU hW => ⟨rfl, by rw [hU], by rw [hU]; exact hPc, va_K.moved hW.alike hK, hDc.weaken (fun _ _ _ _ => trivial), qN_warm hW hN⟩⟩ rfl hn hsize hstack (lv_room hroom) hdg hf
/-- behind a call that writes: the rest of the world beside what came back -/
theorem qc_i {T : Type} {post : Int32 → T → Prop} {w1 : T → va_W} {a : Array Value} (hr : va_Run p l e R s m args below meth c H locs cells slots mc ms (F0 m pc ls st0) rest (va_Qi post (qB D w1 (va_A wc H.size)) (va_A wc H.size) a) (va_A wc H.size)) (hP : va_P D vwCl wsH H) (hD : va_D A wsH) (hS : va_S A H0 H locs) (hA : ∀ q, H0.size ≤ q → A q)
    (is isR : List Nat) (hC : is.map (fun i => wsH[i]?) = wc.map some) (hR2 : isR.map (fun i => wsH[i]?) = wr.map some) (hn : va_nd isR = true) (hdis : ∀ i ∈ isR, i ∉ is)
    (kk : ∀ (r : Int32) (u : T) (H1 : Heap) (locs1 : List Loc), post r u → va_P D vwCl (wr ++ w1 u) H1 → va_D A (wr ++ w1 u) → va_S A H0 H1 locs1 → W p l e R s m args below meth c H1 locs1 (cells + mc) (slots + ms) Q (F0 m (pc + 3) ls (.int r :: rest))) : W p l e R s m args below meth c H locs cells slots Q (F0 m pc ls st0) := by
  have hFc := va_free (wc := wc) hD hS hA is hC
  refine va_calli hr hS (fun q _ h => hFc q h) hFc (fun r u t H1 locs1 ht hvm hw hB hz1 hk1 hS1 => ?_)
  obtain ⟨hP1, hD1⟩ := hB
  rw [ht] at hP1
  obtain ⟨hP2, hD2⟩ := va_join (wr := wr) (w1 := w1 u) hP hD is isR hC hR2 hn hdis hk1 hFc hP1 hD1
  exact kk r u H1 locs1 hw hP2 hD2 hS1
theorem qc_v {T : Type} {post : T → Prop} {w1 : T → va_W} {a : Array Value} (hr : va_Run p l e R s m args below meth c H locs cells slots mc ms (F0 m pc ls st0) rest (va_Qv post (qB D w1 (va_A wc H.size)) (va_A wc H.size) a) (va_A wc H.size)) (hP : va_P D vwCl wsH H) (hD : va_D A wsH) (hS : va_S A H0 H locs) (hA : ∀ q, H0.size ≤ q → A q)
    (is isR : List Nat) (hC : is.map (fun i => wsH[i]?) = wc.map some) (hR2 : isR.map (fun i => wsH[i]?) = wr.map some) (hn : va_nd isR = true) (hdis : ∀ i ∈ isR, i ∉ is)
    (kk : ∀ (u : T) (H1 : Heap) (locs1 : List Loc), post u → va_P D vwCl (wr ++ w1 u) H1 → va_D A (wr ++ w1 u) → va_S A H0 H1 locs1 → W p l e R s m args below meth c H1 locs1 (cells + mc) (slots + ms) Q (F0 m (pc + 3) ls rest)) : W p l e R s m args below meth c H locs cells slots Q (F0 m pc ls st0) := by
  have hFc := va_free (wc := wc) hD hS hA is hC
  refine va_callv hr hS (fun q _ h => hFc q h) hFc (fun u t H1 locs1 ht hvm hw hB hz1 hk1 hS1 => ?_)
  obtain ⟨hP1, hD1⟩ := hB
  rw [ht] at hP1
  obtain ⟨hP2, hD2⟩ := va_join (wr := wr) (w1 := w1 u) hP hD is isR hC hR2 hn hdis hk1 hFc hP1 hD1
  exact kk u H1 locs1 hw hP2 hD2 hS1
/-- a new array -/
theorem qn_I (hexec : p.tables.exec = Jvm.exec) (hb : c.code = cc) (harr : (Cond.arrayClass .int).before args s = true) (hK : qK D kI kZ kJ s) (hP : va_P D vwCl wsH H) (hD : va_D A wsH) (hS : va_S A H0 H locs) (hA : ∀ q, H0.size ≤ q → A q)
    {v : Int32} {N : Nat} (hn : ¬ v < 0) (hN : v.toNatClampNeg = N) (hbytes : N * 4 ≤ 536870912) (hcells : cells + 1 ≤ R.cells) (hslots : slots + N ≤ R.slots) (hdg : decode cc pc = .ok (.newarray .int, 2))
    (kk : ∀ (q : Nat) (H1 : Heap), va_P D vwCl (wsH ++ [(q, .inl (kI, N, .inl (fun _ => 0)))]) H1 → va_D A (wsH ++ [(q, .inl (kI, N, .inl (fun _ => 0)))]) → va_S A H0 H1 locs → W p l e R s m args below meth c H1 locs (cells + 1) (slots + N) Q (F0 m (pc + 2) ls (.ref q :: rest))) : W p l e R s m args below meth c H locs cells slots Q (F0 m pc ls (.int v :: rest)) := by
  refine va_newa (atype := .int) hexec hb harr rfl hK hP hD hS hA (a0 := (N, .inl (fun _ => 0))) (N' := N) (fun _ => rfl) hn hN hbytes hcells hslots hdg (fun q cA H1 hK1 hP1 hD1 hS1 => ?_)
  have h1 := (hK1.2 3 _ rfl).2
  have h2 := (hK.2 0 _ rfl).2
  have h3 : cA = kI := Option.some.inj (h1.symm.trans h2)
  subst h3
  exact kk q H1 hP1 hD1 hS1
theorem qn_Z (hexec : p.tables.exec = Jvm.exec) (hb : c.code = cc) (harr : (Cond.arrayClass .boolean).before args s = true) (hK : qK D kI kZ kJ s) (hP : va_P D vwCl wsH H) (hD : va_D A wsH) (hS : va_S A H0 H locs) (hA : ∀ q, H0.size ≤ q → A q)
    {v : Int32} {N : Nat} (hn : ¬ v < 0) (hN : v.toNatClampNeg = N) (hbytes : N * 1 ≤ 536870912) (hcells : cells + 1 ≤ R.cells) (hslots : slots + N ≤ R.slots) (hdg : decode cc pc = .ok (.newarray .boolean, 2))
    (kk : ∀ (q : Nat) (H1 : Heap), va_P D vwCl (wsH ++ [(q, .inl (kZ, N, .inl (fun _ => 0)))]) H1 → va_D A (wsH ++ [(q, .inl (kZ, N, .inl (fun _ => 0)))]) → va_S A H0 H1 locs → W p l e R s m args below meth c H1 locs (cells + 1) (slots + N) Q (F0 m (pc + 2) ls (.ref q :: rest))) : W p l e R s m args below meth c H locs cells slots Q (F0 m pc ls (.int v :: rest)) := by
  refine va_newa (atype := .boolean) hexec hb harr rfl hK hP hD hS hA (a0 := (N, .inl (fun _ => 0))) (N' := N) (fun _ => rfl) hn hN hbytes hcells hslots hdg (fun q cA H1 hK1 hP1 hD1 hS1 => ?_)
  have h1 := (hK1.2 3 _ rfl).2
  have h2 := (hK.2 1 _ rfl).2
  have h3 : cA = kZ := Option.some.inj (h1.symm.trans h2)
  subst h3
  exact kk q H1 hP1 hD1 hS1
theorem qn_J (hexec : p.tables.exec = Jvm.exec) (hb : c.code = cc) (harr : (Cond.arrayClass .long).before args s = true) (hK : qK D kI kZ kJ s) (hP : va_P D vwCl wsH H) (hD : va_D A wsH) (hS : va_S A H0 H locs) (hA : ∀ q, H0.size ≤ q → A q)
    {v : Int32} {N : Nat} (hn : ¬ v < 0) (hN : v.toNatClampNeg = N) (hbytes : N * 8 ≤ 536870912) (hcells : cells + 1 ≤ R.cells) (hslots : slots + N ≤ R.slots) (hdg : decode cc pc = .ok (.newarray .long, 2))
    (kk : ∀ (q : Nat) (H1 : Heap), va_P D vwCl (wsH ++ [(q, .inl (kJ, N, .inr (.inl (fun _ => 0))))]) H1 → va_D A (wsH ++ [(q, .inl (kJ, N, .inr (.inl (fun _ => 0))))]) → va_S A H0 H1 locs → W p l e R s m args below meth c H1 locs (cells + 1) (slots + N) Q (F0 m (pc + 2) ls (.ref q :: rest))) : W p l e R s m args below meth c H locs cells slots Q (F0 m pc ls (.int v :: rest)) := by
  refine va_newa (atype := .long) hexec hb harr rfl hK hP hD hS hA (a0 := (N, .inr (.inl (fun _ => 0)))) (N' := N) (fun _ => rfl) hn hN hbytes hcells hslots hdg (fun q cA H1 hK1 hP1 hD1 hS1 => ?_)
  have h1 := (hK1.2 3 _ rfl).2
  have h2 := (hK.2 2 _ rfl).2
  have h3 : cA = kJ := Option.some.inj (h1.symm.trans h2)
  subst h3
  exact kk q H1 hP1 hD1 hS1
end QB
end
section
/-! Small rows on numbers, and what the fresh cellar's answers are. -/
theorem q_ne1 {n : Nat} {c : Int32} (hc : c < 0) (h : n < 2 ^ 31) : ¬ nI n = c := fun e => nI_pos h (e ▸ hc)
theorem q_inc (k : Nat) : nI k + Int32.ofInt 1 = nI (k + 1) := nI_1 k
theorem q_cl {i : Int32} {n : Nat} (h : vp_in i n) : i.toNatClampNeg < n := Nat.not_le.mp fun q => h (Or.inr q)
theorem q_shr0 (y : Int32) : ((0 : Int64).toUInt64 >>> (y.toInt64.toUInt64 &&& Int64.toUInt64 63)).toInt64 = 0 := by
  have h : ∀ z : UInt64, (0 : UInt64) >>> z = 0 := fun z => by
    apply UInt64.toBitVec_inj.mp
    simp
  rw [show (0 : Int64).toUInt64 = 0 from rfl, h]
  rfl
theorem q_and0 (x : Int64) : (0 : Int64) &&& x = 0 := Int64.toBitVec_inj.mp (by simp)
theorem q_genH {p : Program} {l : Launch} {e : Env} {R : Room} {s : State} {m : MethodId} {args : Array Value} {below : List Frame} {meth : Method} {c : Code} {H : Heap} {locs : List Loc} {cells slots : Nat} {Q : State → Prop} {g : JFrame} {P : Heap → List Loc → Prop} (h : P H locs) (kk : ∀ (H : Heap) (locs : List Loc), P H locs → W p l e R s m args below meth c H locs cells slots Q g) : W p l e R s m args below meth c H locs cells slots Q g := kk H locs h
def q_in (bw bh : Nat) (x y : Int32) : Prop := ¬ x < 0 ∧ ¬ nI bw ≤ x ∧ ¬ y < 0 ∧ ¬ nI bh ≤ y
def q_way (x : Int32) : Prop := ¬ x < 0 ∧ ¬ (4 : Int32) ≤ x
theorem q_lo {x : Int32} {b : Nat} (hb : b ≤ 8) (h0 : ¬ x < 0) (h1 : ¬ nI b ≤ x) : ∃ k : Nat, k < b ∧ x = nI k := by
  obtain ⟨k, hk, rfl⟩ := nI_of h0
  refine ⟨k, ?_, rfl⟩
  have := mt (nI_leI (a := b) (b := k) (by omega) hk).mpr h1
  omega
theorem q_num {bw bh : Nat} (hbw : bw ≤ 8) (hbh : bh ≤ 8) {x y : Int32} (h : q_in bw bh x y) : ∃ n : Nat, n < 64 ∧ (8 * y) + x = nI n := by
  obtain ⟨h1, h2, h3, h4⟩ := h
  obtain ⟨i, hi, rfl⟩ := q_lo hbw h1 h2
  obtain ⟨j, hj, rfl⟩ := q_lo hbh h3 h4
  refine ⟨8 * j + i, by omega, ?_⟩
  rw [show (8 : Int32) * nI j = nI (8 * j) from pk_mul 8 j, nI_add]
theorem q_numE {bw bh : Nat} (hbw : bw ≤ 8) (hbh : bh ≤ 8) {x y : Int32} (h : q_in bw bh x y) : ∃ n : Nat, n < 64 ∧ ((8 * y) + x) = nI n := q_num hbw hbh h
theorem q_row {y : Int32} {b : Nat} (hb : b ≤ 8) (h0 : ¬ y < 0) (h1 : y < nI b) : ∃ k : Nat, k < b ∧ y = nI k := q_lo hb h0 (fun h => Int32.lt_irrefl (Int32.lt_of_lt_of_le h1 h))
theorem q_inN {bw bh i k : Nat} (hbw : bw ≤ 8) (hbh : bh ≤ 8) (hi : i < bw) (hk : k < bh) : q_in bw bh (nI i) (nI k) := ⟨nI_pos (by omega), nI_ge hi (by omega), nI_pos (by omega), nI_ge hk (by omega)⟩
def q_rowP (bh : Nat) (y : Int32) : Prop := ¬ y < 0 ∧ y < nI bh
def q_fld (bw bh : Nat) (x y k v : Int32) : Prop := q_in bw bh x y ∧ ¬ k < 0 ∧ k ≤ 5 ∧ (k = 4 → q_way v) ∧ (¬ k = 4 → v = 0)
/-- the answer when something holds, and when not -/
def q_if (P : Prop) (a b r : Int32) : Prop := (P → r = a) ∧ (¬ P → r = b)
theorem q_ift {P : Prop} {a b : Int32} (h : P) : q_if P a b a := ⟨fun _ => rfl, fun n => absurd h n⟩
theorem q_iff {P : Prop} {a b : Int32} (h : ¬ P) : q_if P a b b := ⟨fun n => absurd n h, fun _ => rfl⟩
theorem q_ifU {P : Prop} {a b r t : Int32} (h : q_if P a b r) (h2 : q_if P a b t) : r = t := by
  by_cases hp : P
  · rw [h.1 hp, h2.1 hp]
  · rw [h.2 hp, h2.2 hp]
/-- what count() answers of a fresh cellar -/
def q_cnt (x r : Int32) : Prop := (x = 8 ∧ r = -1) ∨ ((x = 0 ∨ x = 1 ∨ x = 2 ∨ x = 3 ∨ x = 4 ∨ x = 5 ∨ x = 6 ∨ x = 7) ∧ r = 0) ∨ ((x.toInt < 0 ∨ 8 < x.toInt) ∧ r = -2)
theorem q_cntU {x r t : Int32} (h : q_cnt x r) (h2 : q_cnt x t) : r = t := by
  have e8 : (8 : Int32).toInt = 8 := rfl
  rcases h with ⟨rfl, rfl⟩ | ⟨hx, rfl⟩ | ⟨hx, rfl⟩
  · rcases h2 with ⟨-, rfl⟩ | ⟨h2, rfl⟩ | ⟨h2, rfl⟩
    · rfl
    · exact absurd h2 (by decide)
    · exact absurd h2 (by decide)
  · rcases h2 with ⟨rfl, rfl⟩ | ⟨h2, rfl⟩ | ⟨h2, rfl⟩
    · exact absurd hx (by decide)
    · rfl
    · rcases hx with rfl | rfl | rfl | rfl | rfl | rfl | rfl | rfl <;> exact absurd h2 (by decide)
  · rcases h2 with ⟨rfl, rfl⟩ | ⟨h2, rfl⟩ | ⟨h2, rfl⟩
    · exact absurd hx (by decide)
    · rcases h2 with rfl | rfl | rfl | rfl | rfl | rfl | rfl | rfl <;> exact absurd hx (by decide)
    · rfl
theorem q_sw (x : Int32) : x = 0 ∨ x = 1 ∨ x = 2 ∨ x = 3 ∨ x = 4 ∨ x = 5 ∨ x = 6 ∨ x = 7 ∨ x = 8 ∨ (x.toInt < 0 ∨ 8 < x.toInt) := by
  by_cases h : x.toInt < 0 ∨ 8 < x.toInt
  · simp [h]
  · have h3 : 0 ≤ x.toInt ∧ x.toInt ≤ 8 := by omega
    obtain ⟨h1, h2⟩ := h3
    have e : x = Int32.ofInt x.toInt := (Int32.ofInt_toInt x).symm
    rcases (show x.toInt = 0 ∨ x.toInt = 1 ∨ x.toInt = 2 ∨ x.toInt = 3 ∨ x.toInt = 4 ∨ x.toInt = 5 ∨ x.toInt = 6 ∨ x.toInt = 7 ∨ x.toInt = 8 by omega) with h | h | h | h | h | h | h | h | h <;> rw [h] at e <;> rw [e] <;> decide
/-- a side of the cellar -/
def q_side (x : Int32) : Nat := if x < 2 then 2 else if 8 < x then 8 else x.toNatClampNeg
theorem q_side_le (x : Int32) : q_side x ≤ 8 := by
  unfold q_side
  split
  · omega
  · split
    · omega
    · rename_i h1 h2
      have h3 := Int32.not_lt.mp h1
      have h4 := Int32.not_lt.mp h2
      rw [Int32.le_iff_toInt_le] at h3 h4
      have e2 : (2 : Int32).toInt = 2 := rfl
      have e8 : (8 : Int32).toInt = 8 := rfl
      rw [e2] at h3
      rw [e8] at h4
      unfold Int32.toNatClampNeg
      omega
theorem q_sA {x : Int32} (h : ¬ (2 : Int32) ≤ x) : (2 : Int32) = nI (q_side x) := by
  unfold q_side
  rw [if_pos (Int32.not_le.mp h)]
  rfl
theorem q_sB {x : Int32} (h1 : (2 : Int32) ≤ x) (h2 : x ≤ 8) : x = nI (q_side x) := by
  unfold q_side
  rw [if_neg (Int32.not_lt.mpr h1), if_neg (Int32.not_lt.mpr h2)]
  have h0 : ¬ x < 0 := fun h => Int32.lt_irrefl (Int32.lt_of_lt_of_le h (Int32.le_trans (by decide : (0 : Int32) ≤ 2) h1))
  obtain ⟨k, hk, rfl⟩ := nI_of h0
  rw [nI_clamp hk]
theorem q_sC {x : Int32} (h1 : (2 : Int32) ≤ x) (h2 : ¬ x ≤ 8) : (8 : Int32) = nI (q_side x) := by
  unfold q_side
  rw [if_neg (Int32.not_lt.mpr h1), if_pos (Int32.not_le.mp h2)]
  rfl
theorem q_sideX (x : Int32) : (if 2 < (if x < 8 then x else 8) then (if x < 8 then x else 8) else 2) = nI (q_side x) := by
  by_cases h8 : x < 8
  · rw [if_pos h8]
    by_cases h2 : 2 < x
    · rw [if_pos h2]
      exact q_sB (Int32.le_of_lt h2) (Int32.le_of_lt h8)
    · rw [if_neg h2]
      by_cases h3 : (2 : Int32) ≤ x
      · have h4 : x = 2 := Int32.le_antisymm (Int32.not_lt.mp h2) h3
        rw [h4]
        exact q_sB (by decide) (by decide)
      · exact q_sA h3
  · rw [if_neg h8, if_pos (by decide)]
    have h3 := Int32.not_lt.mp h8
    by_cases h4 : x ≤ 8
    · have h5 : x = 8 := Int32.le_antisymm h4 h3
      rw [h5]
      exact q_sB (by decide) (by decide)
    · exact q_sC (Int32.le_trans (by decide : (2 : Int32) ≤ 8) h3) h4
end
section
set_option maxHeartbeats 4000000 in
set_option maxRecDepth 100000 in
theorem k_X8_isField (l : Launch) (D : va_G) (kI kZ kJ : ClassId)  (x : Int32) : Met l yX8_isField wsX8_isField ({ frames := 0, cells := 0, slots := 0, locals := 0 }) (qR D kI kZ kJ [] [.int x]) (vp_Si (fun r : Int32 => (x < 0 ∨ (64 : Int32) ≤ x → r = 0) ∧ (¬ x < 0 → ¬ (64 : Int32) ≤ x → r = 1))) 0 0 (fun _ => False) := by
  refine Met.ofW (cc := cX8_isField) (maxL := 1) (ret := (some .boolean)) (by decide) rfl ?_
  intro p e s m args below meth c s₁ B hml hv
  obtain ⟨rfl, hP, hK, hN⟩ := hv
  have hx := B.exec
  have hb := B.bytes
  have hr := B.returns
  have hts := atoms_spec (ws := wsX8_isField) B.pre
  have hown : s.vm.findClass RX8 = some m.cls := findClass_of_methodNamed B.named
  have hlocks := B.notSynchronized
  have hP : va_P D vwCl [] s.heap := hP
  have hl := lv_entry ([.int x]) (n := 1) (Nat.le_of_ble_eq_true rfl)
  rw [lg_entry_eq]
  generalize (lg_sl ([.int x]) ++ List.replicate (1 - (lg_sl ([.int x])).length) Slot.unset).toArray = ls at hl ⊢
  have hl : lv_has ls 1 [(0, .int x)] := hl
  refine lv_iload_n hx hb dX8_isField_0 rfl (lv_at hl 0 rfl) ?_
  refine lv_if_lt (tgt := 14) hx hb dX8_isField_1 (by decide) (fun c_1 => ?_) (fun c_1 => ?_)
  · skip
    refine lv_iconst (v := 0) hx hb dX8_isField_14 (by decide) ?_
    exact W.zret (v := 0) (ty := .boolean) hx hb hr rfl (fun t ht hW => ⟨_, rfl, (by refine ⟨fun h => ?_, fun h1 h2 => ?_⟩ <;> first | rfl | contradiction | (rcases h with h | h <;> contradiction)), ht⟩) (fun q hq => by cases hq) dX8_isField_15
  · skip
    refine lv_iload_n hx hb dX8_isField_4 rfl (lv_at hl 0 rfl) ?_
    refine lv_bipush (v := 64) hx hb dX8_isField_5 (by decide) ?_
    refine lv_icmp_ge (tgt := 14) hx hb dX8_isField_7 (by decide) (fun c_2 => ?_) (fun c_2 => ?_)
    · skip
      refine lv_iconst (v := 0) hx hb dX8_isField_14 (by decide) ?_
      exact W.zret (v := 0) (ty := .boolean) hx hb hr rfl (fun t ht hW => ⟨_, rfl, (by refine ⟨fun h => ?_, fun h1 h2 => ?_⟩ <;> first | rfl | contradiction | (rcases h with h | h <;> contradiction)), ht⟩) (fun q hq => by cases hq) dX8_isField_15
    · skip
      refine lv_iconst (v := 1) hx hb dX8_isField_10 (by decide) ?_
      refine lv_goto (tgt := 15) hx hb dX8_isField_11 (by decide) ?_
      exact W.zret (v := 1) (ty := .boolean) hx hb hr rfl (fun t ht hW => ⟨_, rfl, (by refine ⟨fun h => ?_, fun h1 h2 => ?_⟩ <;> first | rfl | contradiction | (rcases h with h | h <;> contradiction)), ht⟩) (fun q hq => by cases hq) dX8_isField_15
set_option maxHeartbeats 4000000 in
set_option maxRecDepth 100000 in
theorem k_X8_isWay (l : Launch) (D : va_G) (kI kZ kJ : ClassId)  (x : Int32) : Met l yX8_isWay wsX8_isWay ({ frames := 0, cells := 0, slots := 0, locals := 0 }) (qR D kI kZ kJ [] [.int x]) (vp_Si (fun r : Int32 => q_way x ∧ r = 1 ∨ ¬ q_way x ∧ r = 0)) 0 0 (fun _ => False) := by
  refine Met.ofW (cc := cX8_isWay) (maxL := 1) (ret := (some .boolean)) (by decide) rfl ?_
  intro p e s m args below meth c s₁ B hml hv
  obtain ⟨rfl, hP, hK, hN⟩ := hv
  have hx := B.exec
  have hb := B.bytes
  have hr := B.returns
  have hts := atoms_spec (ws := wsX8_isWay) B.pre
  have hown : s.vm.findClass RX8 = some m.cls := findClass_of_methodNamed B.named
  have hlocks := B.notSynchronized
  have hP : va_P D vwCl [] s.heap := hP
  have hl := lv_entry ([.int x]) (n := 1) (Nat.le_of_ble_eq_true rfl)
  rw [lg_entry_eq]
  generalize (lg_sl ([.int x]) ++ List.replicate (1 - (lg_sl ([.int x])).length) Slot.unset).toArray = ls at hl ⊢
  have hl : lv_has ls 1 [(0, .int x)] := hl
  refine lv_iload_n hx hb dX8_isWay_0 rfl (lv_at hl 0 rfl) ?_
  refine lv_if_lt (tgt := 13) hx hb dX8_isWay_1 (by decide) (fun c_1 => ?_) (fun c_1 => ?_)
  · skip
    refine lv_iconst (v := 0) hx hb dX8_isWay_13 (by decide) ?_
    exact W.zret (v := 0) (ty := .boolean) hx hb hr rfl (fun t ht hW => ⟨_, rfl, (by first | exact Or.inr ⟨fun h => by obtain ⟨h1, h2⟩ := h; contradiction, rfl⟩ | exact Or.inl ⟨⟨by assumption, by assumption⟩, rfl⟩), ht⟩) (fun q hq => by cases hq) dX8_isWay_14
  · skip
    refine lv_iload_n hx hb dX8_isWay_4 rfl (lv_at hl 0 rfl) ?_
    refine lv_iconst (v := 4) hx hb dX8_isWay_5 (by decide) ?_
    refine lv_icmp_ge (tgt := 13) hx hb dX8_isWay_6 (by decide) (fun c_2 => ?_) (fun c_2 => ?_)
    · skip
      refine lv_iconst (v := 0) hx hb dX8_isWay_13 (by decide) ?_
      exact W.zret (v := 0) (ty := .boolean) hx hb hr rfl (fun t ht hW => ⟨_, rfl, (by first | exact Or.inr ⟨fun h => by obtain ⟨h1, h2⟩ := h; contradiction, rfl⟩ | exact Or.inl ⟨⟨by assumption, by assumption⟩, rfl⟩), ht⟩) (fun q hq => by cases hq) dX8_isWay_14
    · skip
      refine lv_iconst (v := 1) hx hb dX8_isWay_9 (by decide) ?_
      refine lv_goto (tgt := 14) hx hb dX8_isWay_10 (by decide) ?_
      exact W.zret (v := 1) (ty := .boolean) hx hb hr rfl (fun t ht hW => ⟨_, rfl, (by first | exact Or.inr ⟨fun h => by obtain ⟨h1, h2⟩ := h; contradiction, rfl⟩ | exact Or.inl ⟨⟨by assumption, by assumption⟩, rfl⟩), ht⟩) (fun q hq => by cases hq) dX8_isWay_14
set_option maxHeartbeats 4000000 in
set_option maxRecDepth 100000 in
theorem k_X9_isWay (l : Launch) (D : va_G) (kI kZ kJ : ClassId)  (x : Int32) : Met l yX9_isWay wsX9_isWay ({ frames := 0, cells := 0, slots := 0, locals := 0 }) (qR D kI kZ kJ [] [.int x]) (vp_Si (fun r : Int32 => q_way x ∧ r = 1 ∨ ¬ q_way x ∧ r = 0)) 0 0 (fun _ => False) := by
  refine Met.ofW (cc := cX9_isWay) (maxL := 1) (ret := (some .boolean)) (by decide) rfl ?_
  intro p e s m args below meth c s₁ B hml hv
  obtain ⟨rfl, hP, hK, hN⟩ := hv
  have hx := B.exec
  have hb := B.bytes
  have hr := B.returns
  have hts := atoms_spec (ws := wsX9_isWay) B.pre
  have hown : s.vm.findClass RX9 = some m.cls := findClass_of_methodNamed B.named
  have hlocks := B.notSynchronized
  have hP : va_P D vwCl [] s.heap := hP
  have hl := lv_entry ([.int x]) (n := 1) (Nat.le_of_ble_eq_true rfl)
  rw [lg_entry_eq]
  generalize (lg_sl ([.int x]) ++ List.replicate (1 - (lg_sl ([.int x])).length) Slot.unset).toArray = ls at hl ⊢
  have hl : lv_has ls 1 [(0, .int x)] := hl
  refine lv_iload_n hx hb dX9_isWay_0 rfl (lv_at hl 0 rfl) ?_
  refine lv_if_lt (tgt := 13) hx hb dX9_isWay_1 (by decide) (fun c_1 => ?_) (fun c_1 => ?_)
  · skip
    refine lv_iconst (v := 0) hx hb dX9_isWay_13 (by decide) ?_
    exact W.zret (v := 0) (ty := .boolean) hx hb hr rfl (fun t ht hW => ⟨_, rfl, (by first | exact Or.inr ⟨fun h => by obtain ⟨h1, h2⟩ := h; contradiction, rfl⟩ | exact Or.inl ⟨⟨by assumption, by assumption⟩, rfl⟩), ht⟩) (fun q hq => by cases hq) dX9_isWay_14
  · skip
    refine lv_iload_n hx hb dX9_isWay_4 rfl (lv_at hl 0 rfl) ?_
    refine lv_iconst (v := 4) hx hb dX9_isWay_5 (by decide) ?_
    refine lv_icmp_ge (tgt := 13) hx hb dX9_isWay_6 (by decide) (fun c_2 => ?_) (fun c_2 => ?_)
    · skip
      refine lv_iconst (v := 0) hx hb dX9_isWay_13 (by decide) ?_
      exact W.zret (v := 0) (ty := .boolean) hx hb hr rfl (fun t ht hW => ⟨_, rfl, (by first | exact Or.inr ⟨fun h => by obtain ⟨h1, h2⟩ := h; contradiction, rfl⟩ | exact Or.inl ⟨⟨by assumption, by assumption⟩, rfl⟩), ht⟩) (fun q hq => by cases hq) dX9_isWay_14
    · skip
      refine lv_iconst (v := 1) hx hb dX9_isWay_9 (by decide) ?_
      refine lv_goto (tgt := 14) hx hb dX9_isWay_10 (by decide) ?_
      exact W.zret (v := 1) (ty := .boolean) hx hb hr rfl (fun t ht hW => ⟨_, rfl, (by first | exact Or.inr ⟨fun h => by obtain ⟨h1, h2⟩ := h; contradiction, rfl⟩ | exact Or.inl ⟨⟨by assumption, by assumption⟩, rfl⟩), ht⟩) (fun q hq => by cases hq) dX9_isWay_14
set_option maxHeartbeats 4000000 in
set_option maxRecDepth 100000 in
theorem k_X8_has (l : Launch) (D : va_G) (kI kZ kJ : ClassId)  (n : Nat) (hn : n < 64) : Met l yX8_has wsX8_has ({ frames := 1, cells := 0, slots := 0, locals := 20 }) (qR D kI kZ kJ [] [.long 0, .int (nI n)]) (vp_Si (fun r : Int32 => r = 0)) 0 0 (fun _ => False) := by
  refine Met.ofW (cc := cX8_has) (maxL := 3) (ret := (some .boolean)) (by decide) rfl ?_
  intro p e s m args below meth c s₁ B hml hv
  obtain ⟨rfl, hP, hK, hN⟩ := hv
  have hx := B.exec
  have hb := B.bytes
  have hr := B.returns
  have hts := atoms_spec (ws := wsX8_has) B.pre
  have hown : s.vm.findClass RX8 = some m.cls := findClass_of_methodNamed B.named
  have hlocks := B.notSynchronized
  have hP : va_P D vwCl [] s.heap := hP
  have hl := lv_entry ([.long 0, .int (nI n)]) (n := 3) (Nat.le_of_ble_eq_true rfl)
  rw [lg_entry_eq]
  generalize (lg_sl ([.long 0, .int (nI n)]) ++ List.replicate (3 - (lg_sl ([.long 0, .int (nI n)])).length) Slot.unset).toArray = ls at hl ⊢
  have hl : lv_has ls 3 [(0, .long 0), (2, .int (nI n))] := hl
  refine lv_iload_n hx hb dX8_has_0 rfl (lv_at hl 1 rfl) ?_
  refine vp_callSi (qS_R (n := 1) (As := [.int (nI n)]) (rest := []) (wc := []) ⟨hx, hb, hml, hown, hts⟩ hK hN hP [] rfl (k_X8_isField l D kI kZ kJ (nI n)) gX8_has_X8_isField rfl rfl rfl (by decide +kernel) ⟨(Nat.le_of_ble_eq_true rfl), (Nat.le_of_ble_eq_true rfl)⟩ rfl hl.1 rfl (Nat.le_of_ble_eq_true rfl) dX8_has_1 ⟨(Nat.le_of_ble_eq_true rfl), (Nat.le_of_ble_eq_true rfl)⟩).run (fun r hw => ?_)
  obtain ⟨hw0, hw1⟩ := hw
  obtain rfl := hw1 (nI_pos (by have := hn; omega)) (nI_ge (b := 64) (by have := hn; omega) (by decide))
  refine lv_if_eq (tgt := 21) hx hb dX8_has_4 (by decide) (fun h9 => absurd h9 (by decide : ¬ ((1 : Int32) = (0 : Int32)))) (fun _ => ?_)
  refine lv_lload_n hx hb dX8_has_7 rfl (lv_at hl 0 rfl) ?_
  refine lv_iload_n hx hb dX8_has_8 rfl (lv_at hl 1 rfl) ?_
  refine lv_lushr (v := 0) hx hb dX8_has_9 (q_shr0 _) ?_
  refine lv_lconst (v := 1) hx hb dX8_has_10 (by decide) ?_
  refine lv_land hx hb dX8_has_11 ?_
  refine lv_topl (fun z_1 ez_1 => ?_)
  obtain rfl : z_1 = 0 := ez_1.trans (by decide)
  refine lv_lconst (v := 0) hx hb dX8_has_12 (by decide) ?_
  refine W.lcmp hx hb dX8_has_13 ?_
  refine lv_topi (fun z_2 ez_2 => ?_)
  obtain rfl : z_2 = 0 := ez_2.trans (by decide)
  refine lv_if_eq (tgt := 21) hx hb dX8_has_14 (by decide) (fun _ => ?_) (fun h9 => absurd (by decide : (0 : Int32) = (0 : Int32)) h9)
  refine lv_iconst (v := 0) hx hb dX8_has_21 (by decide) ?_
  exact W.zret (v := 0) (ty := .boolean) hx hb hr rfl (fun t ht hW => ⟨_, rfl, rfl, ht⟩) (fun q hq => by cases hq) dX8_has_22
set_option maxHeartbeats 4000000 in
set_option maxRecDepth 100000 in
theorem k_X8_with (l : Launch) (D : va_G) (kI kZ kJ : ClassId)  (n : Nat) (hn : n < 64) : Met l yX8_with wsX8_with ({ frames := 1, cells := 0, slots := 0, locals := 20 }) (qR D kI kZ kJ [] [.long 0, .int (nI n), .int 0]) (vp_Sl (fun r : Int64 => r = 0)) 0 0 (fun _ => False) := by
  refine Met.ofW (cc := cX8_with) (maxL := 6) (ret := (some .long)) (by decide) rfl ?_
  intro p e s m args below meth c s₁ B hml hv
  obtain ⟨rfl, hP, hK, hN⟩ := hv
  have hx := B.exec
  have hb := B.bytes
  have hr := B.returns
  have hts := atoms_spec (ws := wsX8_with) B.pre
  have hown : s.vm.findClass RX8 = some m.cls := findClass_of_methodNamed B.named
  have hlocks := B.notSynchronized
  have hP : va_P D vwCl [] s.heap := hP
  have hl := lv_entry ([.long 0, .int (nI n), .int 0]) (n := 6) (Nat.le_of_ble_eq_true rfl)
  rw [lg_entry_eq]
  generalize (lg_sl ([.long 0, .int (nI n), .int 0]) ++ List.replicate (6 - (lg_sl ([.long 0, .int (nI n), .int 0])).length) Slot.unset).toArray = ls at hl ⊢
  have hl : lv_has ls 6 [(0, .long 0), (2, .int (nI n)), (3, .int 0)] := hl
  refine lv_iload_n hx hb dX8_with_0 rfl (lv_at hl 1 rfl) ?_
  refine vp_callSi (qS_R (n := 1) (As := [.int (nI n)]) (rest := []) (wc := []) ⟨hx, hb, hml, hown, hts⟩ hK hN hP [] rfl (k_X8_isField l D kI kZ kJ (nI n)) gX8_with_X8_isField rfl rfl rfl (by decide +kernel) ⟨(Nat.le_of_ble_eq_true rfl), (Nat.le_of_ble_eq_true rfl)⟩ rfl hl.1 rfl (Nat.le_of_ble_eq_true rfl) dX8_with_1 ⟨(Nat.le_of_ble_eq_true rfl), (Nat.le_of_ble_eq_true rfl)⟩).run (fun r hw => ?_)
  obtain ⟨hw0, hw1⟩ := hw
  obtain rfl := hw1 (nI_pos (by have := hn; omega)) (nI_ge (b := 64) (by have := hn; omega) (by decide))
  refine lv_if_ne (tgt := 9) hx hb dX8_with_4 (by decide) (fun _ => ?_) (fun h9 => absurd h9 (by decide : ¬ (1 : Int32) = (0 : Int32)))
  refine lv_lconst (v := 1) hx hb dX8_with_9 (by decide) ?_
  refine lv_iload_n hx hb dX8_with_10 rfl (lv_at hl 1 rfl) ?_
  refine lv_lshl hx hb dX8_with_11 rfl ?_
  refine lv_topl (fun v_1 ev_1 => ?_)
  refine lv_lstore (lv' := [(4, .long v_1), (0, .long 0), (2, .int (nI n)), (3, .int 0)]) hx hb dX8_with_12 hl (by decide) rfl (fun ls hl => ?_)
  refine lv_iload_n hx hb dX8_with_14 rfl (lv_at hl 3 rfl) ?_
  refine lv_if_eq (tgt := 25) hx hb dX8_with_15 (by decide) (fun _ => ?_) (fun h9 => absurd (by decide : (0 : Int32) = (0 : Int32)) h9)
  refine lv_lload_n hx hb dX8_with_25 rfl (lv_at hl 1 rfl) ?_
  refine lv_lload hx hb dX8_with_26 (lv_at hl 0 rfl) ?_
  refine lv_ldc2 (v := (-1)) hx hb hown (hts (.constantLong RX8 196 (-1)) (by decide +kernel)) dX8_with_28 ?_
  refine lv_lxor hx hb dX8_with_31 ?_
  refine lv_land hx hb dX8_with_32 ?_
  refine lv_topl (fun z_2 ez_2 => ?_)
  obtain rfl : z_2 = 0 := ez_2.trans (q_and0 _)
  exact W.lret (v := 0) hx hb hr (fun t ht hW => ⟨_, rfl, rfl, ht⟩) (fun q hq => by cases hq) dX8_with_33
set_option maxHeartbeats 4000000 in
set_option maxRecDepth 100000 in
theorem k_J13_bitCount_95d88 (l : Launch) (D : va_G) (kI kZ kJ : ClassId)  : Met l yJ13_bitCount_95d88 wsJ13_bitCount_95d88 ({ frames := 0, cells := 0, slots := 0, locals := 0 }) (qR D kI kZ kJ [] [.long 0]) (vp_Si (fun r : Int32 => r = 0)) 0 0 (fun _ => False) := by
  refine Met.ofW (cc := cJ13_bitCount_95d88) (maxL := 2) (ret := (some .int)) (by decide) rfl ?_
  intro p e s m args below meth c s₁ B hml hv
  obtain ⟨rfl, hP, hK, hN⟩ := hv
  have hx := B.exec
  have hb := B.bytes
  have hr := B.returns
  have hts := atoms_spec (ws := wsJ13_bitCount_95d88) B.pre
  have hown : s.vm.findClass RJ13 = some m.cls := findClass_of_methodNamed B.named
  have hlocks := B.notSynchronized
  have hP : va_P D vwCl [] s.heap := hP
  have hl := lv_entry ([.long 0]) (n := 2) (Nat.le_of_ble_eq_true rfl)
  rw [lg_entry_eq]
  generalize (lg_sl ([.long 0]) ++ List.replicate (2 - (lg_sl ([.long 0])).length) Slot.unset).toArray = ls at hl ⊢
  have hl : lv_has ls 2 [(0, .long 0)] := hl
  refine lv_lload_n hx hb dJ13_bitCount_95d88_0 rfl (lv_at hl 0 rfl) ?_
  refine lv_lload_n hx hb dJ13_bitCount_95d88_1 rfl (lv_at hl 0 rfl) ?_
  refine lv_iconst (v := 1) hx hb dJ13_bitCount_95d88_2 (by decide) ?_
  refine lv_lushr (v := 0) hx hb dJ13_bitCount_95d88_3 (by decide) ?_
  refine lv_ldc2 (v := 6148914691236517205) hx hb hown (hts (.constantLong RJ13 314 (6148914691236517205)) (by decide +kernel)) dJ13_bitCount_95d88_4 ?_
  refine lv_land hx hb dJ13_bitCount_95d88_7 ?_
  refine lv_topl (fun z_1 ez_1 => ?_)
  obtain rfl : z_1 = 0 := ez_1.trans (by decide)
  refine lv_lsub hx hb dJ13_bitCount_95d88_8 ?_
  refine lv_topl (fun z_2 ez_2 => ?_)
  obtain rfl : z_2 = 0 := ez_2.trans (by decide)
  refine lv_lstore_n (lv' := [(0, .long 0)]) hx hb dJ13_bitCount_95d88_9 rfl hl (by decide) rfl (fun ls hl => ?_)
  refine lv_lload_n hx hb dJ13_bitCount_95d88_10 rfl (lv_at hl 0 rfl) ?_
  refine lv_ldc2 (v := 3689348814741910323) hx hb hown (hts (.constantLong RJ13 316 (3689348814741910323)) (by decide +kernel)) dJ13_bitCount_95d88_11 ?_
  refine lv_land hx hb dJ13_bitCount_95d88_14 ?_
  refine lv_topl (fun z_3 ez_3 => ?_)
  obtain rfl : z_3 = 0 := ez_3.trans (by decide)
  refine lv_lload_n hx hb dJ13_bitCount_95d88_15 rfl (lv_at hl 0 rfl) ?_
  refine lv_iconst (v := 2) hx hb dJ13_bitCount_95d88_16 (by decide) ?_
  refine lv_lushr (v := 0) hx hb dJ13_bitCount_95d88_17 (by decide) ?_
  refine lv_ldc2 (v := 3689348814741910323) hx hb hown (hts (.constantLong RJ13 316 (3689348814741910323)) (by decide +kernel)) dJ13_bitCount_95d88_18 ?_
  refine lv_land hx hb dJ13_bitCount_95d88_21 ?_
  refine lv_topl (fun z_4 ez_4 => ?_)
  obtain rfl : z_4 = 0 := ez_4.trans (by decide)
  refine lv_ladd hx hb dJ13_bitCount_95d88_22 ?_
  refine lv_topl (fun z_5 ez_5 => ?_)
  obtain rfl : z_5 = 0 := ez_5.trans (by decide)
  refine lv_lstore_n (lv' := [(0, .long 0)]) hx hb dJ13_bitCount_95d88_23 rfl hl (by decide) rfl (fun ls hl => ?_)
  refine lv_lload_n hx hb dJ13_bitCount_95d88_24 rfl (lv_at hl 0 rfl) ?_
  refine lv_lload_n hx hb dJ13_bitCount_95d88_25 rfl (lv_at hl 0 rfl) ?_
  refine lv_iconst (v := 4) hx hb dJ13_bitCount_95d88_26 (by decide) ?_
  refine lv_lushr (v := 0) hx hb dJ13_bitCount_95d88_27 (by decide) ?_
  refine lv_ladd hx hb dJ13_bitCount_95d88_28 ?_
  refine lv_topl (fun z_6 ez_6 => ?_)
  obtain rfl : z_6 = 0 := ez_6.trans (by decide)
  refine lv_ldc2 (v := 1085102592571150095) hx hb hown (hts (.constantLong RJ13 318 (1085102592571150095)) (by decide +kernel)) dJ13_bitCount_95d88_29 ?_
  refine lv_land hx hb dJ13_bitCount_95d88_32 ?_
  refine lv_topl (fun z_7 ez_7 => ?_)
  obtain rfl : z_7 = 0 := ez_7.trans (by decide)
  refine lv_lstore_n (lv' := [(0, .long 0)]) hx hb dJ13_bitCount_95d88_33 rfl hl (by decide) rfl (fun ls hl => ?_)
  refine lv_lload_n hx hb dJ13_bitCount_95d88_34 rfl (lv_at hl 0 rfl) ?_
  refine lv_lload_n hx hb dJ13_bitCount_95d88_35 rfl (lv_at hl 0 rfl) ?_
  refine lv_bipush (v := 8) hx hb dJ13_bitCount_95d88_36 (by decide) ?_
  refine lv_lushr (v := 0) hx hb dJ13_bitCount_95d88_38 (by decide) ?_
  refine lv_ladd hx hb dJ13_bitCount_95d88_39 ?_
  refine lv_topl (fun z_8 ez_8 => ?_)
  obtain rfl : z_8 = 0 := ez_8.trans (by decide)
  refine lv_lstore_n (lv' := [(0, .long 0)]) hx hb dJ13_bitCount_95d88_40 rfl hl (by decide) rfl (fun ls hl => ?_)
  refine lv_lload_n hx hb dJ13_bitCount_95d88_41 rfl (lv_at hl 0 rfl) ?_
  refine lv_lload_n hx hb dJ13_bitCount_95d88_42 rfl (lv_at hl 0 rfl) ?_
  refine lv_bipush (v := 16) hx hb dJ13_bitCount_95d88_43 (by decide) ?_
  refine lv_lushr (v := 0) hx hb dJ13_bitCount_95d88_45 (by decide) ?_
  refine lv_ladd hx hb dJ13_bitCount_95d88_46 ?_
  refine lv_topl (fun z_9 ez_9 => ?_)
  obtain rfl : z_9 = 0 := ez_9.trans (by decide)
  refine lv_lstore_n (lv' := [(0, .long 0)]) hx hb dJ13_bitCount_95d88_47 rfl hl (by decide) rfl (fun ls hl => ?_)
  refine lv_lload_n hx hb dJ13_bitCount_95d88_48 rfl (lv_at hl 0 rfl) ?_
  refine lv_lload_n hx hb dJ13_bitCount_95d88_49 rfl (lv_at hl 0 rfl) ?_
  refine lv_bipush (v := 32) hx hb dJ13_bitCount_95d88_50 (by decide) ?_
  refine lv_lushr (v := 0) hx hb dJ13_bitCount_95d88_52 (by decide) ?_
  refine lv_ladd hx hb dJ13_bitCount_95d88_53 ?_
  refine lv_topl (fun z_10 ez_10 => ?_)
  obtain rfl : z_10 = 0 := ez_10.trans (by decide)
  refine lv_lstore_n (lv' := [(0, .long 0)]) hx hb dJ13_bitCount_95d88_54 rfl hl (by decide) rfl (fun ls hl => ?_)
  refine lv_lload_n hx hb dJ13_bitCount_95d88_55 rfl (lv_at hl 0 rfl) ?_
  refine lv_l2i (v := 0) hx hb dJ13_bitCount_95d88_56 (by decide) ?_
  refine lv_bipush (v := 127) hx hb dJ13_bitCount_95d88_57 (by decide) ?_
  refine lv_iand hx hb dJ13_bitCount_95d88_59 ?_
  refine lv_topi (fun z_11 ez_11 => ?_)
  obtain rfl : z_11 = 0 := ez_11.trans (by decide)
  exact W.iret (v := 0) hx hb hr (fun t ht hW => ⟨_, rfl, rfl, ht⟩) (fun q hq => by cases hq) dJ13_bitCount_95d88_60
set_option maxHeartbeats 4000000 in
set_option maxRecDepth 100000 in
theorem k_X0_numberOf (l : Launch) (D : va_G) (kI kZ kJ : ClassId)  (g kd rw ms : Nat) (bw bh : Nat) (hbw : bw ≤ 8) (hbh : bh ≤ 8) (x y : Int32) : Met l yX0_numberOf wsX0_numberOf ({ frames := 0, cells := 0, slots := 0, locals := 0 }) (qR D kI kZ kJ [(g, .inr (0, [.int (nI bw), .int (nI bh), .long 0, .ref kd, .ref rw, .ref ms]))] [.ref g, .int x, .int y]) (vp_Si (fun r : Int32 => q_in bw bh x y ∧ (∃ n : Nat, n < 64 ∧ r = nI n) ∨ ¬ q_in bw bh x y ∧ r = -1)) 0 0 (fun _ => False) := by
  refine Met.ofW (cc := cX0_numberOf) (maxL := 4) (ret := (some .int)) (by decide) rfl ?_
  intro p e s m args below meth c s₁ B hml hv
  obtain ⟨rfl, hP, hK, hN⟩ := hv
  have hx := B.exec
  have hb := B.bytes
  have hr := B.returns
  have hts := atoms_spec (ws := wsX0_numberOf) B.pre
  have hown : s.vm.findClass RX0 = some m.cls := findClass_of_methodNamed B.named
  have hlocks := B.notSynchronized
  have hP : va_P D vwCl [(g, .inr (0, [.int (nI bw), .int (nI bh), .long 0, .ref kd, .ref rw, .ref ms]))] s.heap := hP
  have hl := lv_entry ([.ref g, .int x, .int y]) (n := 4) (Nat.le_of_ble_eq_true rfl)
  rw [lg_entry_eq]
  generalize (lg_sl ([.ref g, .int x, .int y]) ++ List.replicate (4 - (lg_sl ([.ref g, .int x, .int y])).length) Slot.unset).toArray = ls at hl ⊢
  have hl : lv_has ls 4 [(0, .ref g), (1, .int x), (2, .int y)] := hl
  refine lv_iload_n hx hb dX0_numberOf_0 rfl (lv_at hl 1 rfl) ?_
  refine lv_if_lt (tgt := 28) hx hb dX0_numberOf_1 (by decide) (fun c_1 => ?_) (fun c_1 => ?_)
  · skip
    refine lv_iconst (v := 0) hx hb dX0_numberOf_28 (by decide) ?_
    refine lv_istore_n (lv' := [(3, .int 0), (0, .ref g), (1, .int x), (2, .int y)]) hx hb dX0_numberOf_29 rfl hl (by decide) rfl (fun ls hl => ?_)
    refine lv_iload_n hx hb dX0_numberOf_30 rfl (lv_at hl 0 rfl) ?_
    refine lv_if_eq (tgt := 43) hx hb dX0_numberOf_31 (by decide) (fun _ => ?_) (fun h9 => absurd (by decide : (0 : Int32) = (0 : Int32)) h9)
    refine lv_iconst (v := (-1)) hx hb dX0_numberOf_43 (by decide) ?_
    exact W.iret (v := (-1)) hx hb hr (fun t ht hW => ⟨_, rfl, (by first | exact Or.inr ⟨fun h => by obtain ⟨h1, h2, h3, h4⟩ := h; contradiction, rfl⟩ | exact Or.inl ⟨⟨by assumption, by assumption, by assumption, by assumption⟩, q_num hbw hbh ⟨by assumption, by assumption, by assumption, by assumption⟩⟩), ht⟩) (fun q hq => by cases hq) dX0_numberOf_44
  · skip
    refine lv_iload_n hx hb dX0_numberOf_4 rfl (lv_at hl 1 rfl) ?_
    refine lv_aload_n hx hb dX0_numberOf_5 rfl (lv_at hl 0 rfl) ?_
    refine va_get (D := D) (ci := 0) (v := .int (nI bw)) (C := RX0) (T := TX0) (N := 6) hx hb hts (by decide +kernel) hown hK hP 0 rfl rfl 0 (by decide) (hts (.fieldLink RX0 18 "CellarPushers$Ground" "width" "I") (by decide +kernel)) (fun _ h9 => h9) rfl dX0_numberOf_6 ?_
    refine lv_icmp_ge (tgt := 28) hx hb dX0_numberOf_9 (by decide) (fun c_2 => ?_) (fun c_2 => ?_)
    · skip
      refine lv_iconst (v := 0) hx hb dX0_numberOf_28 (by decide) ?_
      refine lv_istore_n (lv' := [(3, .int 0), (0, .ref g), (1, .int x), (2, .int y)]) hx hb dX0_numberOf_29 rfl hl (by decide) rfl (fun ls hl => ?_)
      refine lv_iload_n hx hb dX0_numberOf_30 rfl (lv_at hl 0 rfl) ?_
      refine lv_if_eq (tgt := 43) hx hb dX0_numberOf_31 (by decide) (fun _ => ?_) (fun h9 => absurd (by decide : (0 : Int32) = (0 : Int32)) h9)
      refine lv_iconst (v := (-1)) hx hb dX0_numberOf_43 (by decide) ?_
      exact W.iret (v := (-1)) hx hb hr (fun t ht hW => ⟨_, rfl, (by first | exact Or.inr ⟨fun h => by obtain ⟨h1, h2, h3, h4⟩ := h; contradiction, rfl⟩ | exact Or.inl ⟨⟨by assumption, by assumption, by assumption, by assumption⟩, q_num hbw hbh ⟨by assumption, by assumption, by assumption, by assumption⟩⟩), ht⟩) (fun q hq => by cases hq) dX0_numberOf_44
    · skip
      refine lv_iload_n hx hb dX0_numberOf_12 rfl (lv_at hl 2 rfl) ?_
      refine lv_if_lt (tgt := 28) hx hb dX0_numberOf_13 (by decide) (fun c_3 => ?_) (fun c_3 => ?_)
      · skip
        refine lv_iconst (v := 0) hx hb dX0_numberOf_28 (by decide) ?_
        refine lv_istore_n (lv' := [(3, .int 0), (0, .ref g), (1, .int x), (2, .int y)]) hx hb dX0_numberOf_29 rfl hl (by decide) rfl (fun ls hl => ?_)
        refine lv_iload_n hx hb dX0_numberOf_30 rfl (lv_at hl 0 rfl) ?_
        refine lv_if_eq (tgt := 43) hx hb dX0_numberOf_31 (by decide) (fun _ => ?_) (fun h9 => absurd (by decide : (0 : Int32) = (0 : Int32)) h9)
        refine lv_iconst (v := (-1)) hx hb dX0_numberOf_43 (by decide) ?_
        exact W.iret (v := (-1)) hx hb hr (fun t ht hW => ⟨_, rfl, (by first | exact Or.inr ⟨fun h => by obtain ⟨h1, h2, h3, h4⟩ := h; contradiction, rfl⟩ | exact Or.inl ⟨⟨by assumption, by assumption, by assumption, by assumption⟩, q_num hbw hbh ⟨by assumption, by assumption, by assumption, by assumption⟩⟩), ht⟩) (fun q hq => by cases hq) dX0_numberOf_44
      · skip
        refine lv_iload_n hx hb dX0_numberOf_16 rfl (lv_at hl 2 rfl) ?_
        refine lv_aload_n hx hb dX0_numberOf_17 rfl (lv_at hl 0 rfl) ?_
        refine va_get (D := D) (ci := 0) (v := .int (nI bh)) (C := RX0) (T := TX0) (N := 6) hx hb hts (by decide +kernel) hown hK hP 0 rfl rfl 1 (by decide) (hts (.fieldLink RX0 24 "CellarPushers$Ground" "height" "I") (by decide +kernel)) (fun _ h9 => h9) rfl dX0_numberOf_18 ?_
        refine lv_icmp_ge (tgt := 28) hx hb dX0_numberOf_21 (by decide) (fun c_4 => ?_) (fun c_4 => ?_)
        · skip
          refine lv_iconst (v := 0) hx hb dX0_numberOf_28 (by decide) ?_
          refine lv_istore_n (lv' := [(3, .int 0), (0, .ref g), (1, .int x), (2, .int y)]) hx hb dX0_numberOf_29 rfl hl (by decide) rfl (fun ls hl => ?_)
          refine lv_iload_n hx hb dX0_numberOf_30 rfl (lv_at hl 0 rfl) ?_
          refine lv_if_eq (tgt := 43) hx hb dX0_numberOf_31 (by decide) (fun _ => ?_) (fun h9 => absurd (by decide : (0 : Int32) = (0 : Int32)) h9)
          refine lv_iconst (v := (-1)) hx hb dX0_numberOf_43 (by decide) ?_
          exact W.iret (v := (-1)) hx hb hr (fun t ht hW => ⟨_, rfl, (by first | exact Or.inr ⟨fun h => by obtain ⟨h1, h2, h3, h4⟩ := h; contradiction, rfl⟩ | exact Or.inl ⟨⟨by assumption, by assumption, by assumption, by assumption⟩, q_num hbw hbh ⟨by assumption, by assumption, by assumption, by assumption⟩⟩), ht⟩) (fun q hq => by cases hq) dX0_numberOf_44
        · skip
          refine lv_iconst (v := 1) hx hb dX0_numberOf_24 (by decide) ?_
          refine lv_goto (tgt := 29) hx hb dX0_numberOf_25 (by decide) ?_
          refine lv_istore_n (lv' := [(3, .int 1), (0, .ref g), (1, .int x), (2, .int y)]) hx hb dX0_numberOf_29 rfl hl (by decide) rfl (fun ls hl => ?_)
          refine lv_iload_n hx hb dX0_numberOf_30 rfl (lv_at hl 0 rfl) ?_
          refine lv_if_eq (tgt := 43) hx hb dX0_numberOf_31 (by decide) (fun h9 => absurd h9 (by decide : ¬ ((1 : Int32) = (0 : Int32)))) (fun _ => ?_)
          refine lv_bipush (v := 8) hx hb dX0_numberOf_34 (by decide) ?_
          refine lv_iload_n hx hb dX0_numberOf_36 rfl (lv_at hl 3 rfl) ?_
          refine lv_imul hx hb dX0_numberOf_37 ?_
          refine lv_iload_n hx hb dX0_numberOf_38 rfl (lv_at hl 2 rfl) ?_
          refine lv_iadd hx hb dX0_numberOf_39 ?_
          refine lv_goto (tgt := 44) hx hb dX0_numberOf_40 (by decide) ?_
          exact W.iret (v := ((8 * y) + x)) hx hb hr (fun t ht hW => ⟨_, rfl, (by first | exact Or.inr ⟨fun h => by obtain ⟨h1, h2, h3, h4⟩ := h; contradiction, rfl⟩ | exact Or.inl ⟨⟨by assumption, by assumption, by assumption, by assumption⟩, q_num hbw hbh ⟨by assumption, by assumption, by assumption, by assumption⟩⟩), ht⟩) (fun q hq => by cases hq) dX0_numberOf_44
set_option maxHeartbeats 4000000 in
set_option maxRecDepth 100000 in
theorem k_X0_kindNow_n (l : Launch) (D : va_G) (kI kZ kJ : ClassId)  (g kd rw ms : Nat) (bw bh : Nat) (hbw : bw ≤ 8) (hbh : bh ≤ 8) (n : Nat) (hn : n < 64) : Met l yX0_kindNow wsX0_kindNow ({ frames := 0, cells := 0, slots := 0, locals := 0 }) (qR D kI kZ kJ [(g, .inr (0, [.int (nI bw), .int (nI bh), .long 0, .ref kd, .ref rw, .ref ms])), (kd, .inl (kI, 64, .inl (fun _ => 0))), (ms, .inl (kZ, 8, .inl (fun _ => 0)))] [.ref g, .int (nI n)]) (vp_Si (fun r : Int32 => r = 0)) 0 0 (fun _ => False) := by
  refine Met.ofW (cc := cX0_kindNow) (maxL := 2) (ret := (some .int)) (by decide) rfl ?_
  intro p e s m args below meth c s₁ B hml hv
  obtain ⟨rfl, hP, hK, hN⟩ := hv
  have hx := B.exec
  have hb := B.bytes
  have hr := B.returns
  have hts := atoms_spec (ws := wsX0_kindNow) B.pre
  have hown : s.vm.findClass RX0 = some m.cls := findClass_of_methodNamed B.named
  have hlocks := B.notSynchronized
  have hP : va_P D vwCl [(g, .inr (0, [.int (nI bw), .int (nI bh), .long 0, .ref kd, .ref rw, .ref ms])), (kd, .inl (kI, 64, .inl (fun _ => 0))), (ms, .inl (kZ, 8, .inl (fun _ => 0)))] s.heap := hP
  have hl := lv_entry ([.ref g, .int (nI n)]) (n := 2) (Nat.le_of_ble_eq_true rfl)
  rw [lg_entry_eq]
  generalize (lg_sl ([.ref g, .int (nI n)]) ++ List.replicate (2 - (lg_sl ([.ref g, .int (nI n)])).length) Slot.unset).toArray = ls at hl ⊢
  have hl : lv_has ls 2 [(0, .ref g), (1, .int (nI n))] := hl
  refine lv_iload_n hx hb dX0_kindNow_0 rfl (lv_at hl 1 rfl) ?_
  refine lv_if_lt (tgt := 22) hx hb dX0_kindNow_1 (by decide) (fun h9 => absurd h9 (by have hq := hn; exact nI_pos (by omega))) (fun _ => ?_)
  refine lv_iload_n hx hb dX0_kindNow_4 rfl (lv_at hl 1 rfl) ?_
  refine lv_bipush (v := 64) hx hb dX0_kindNow_5 (by decide) ?_
  refine lv_icmp_ge (tgt := 22) hx hb dX0_kindNow_7 (by decide) (fun h9 => absurd h9 (by have hq := hn; exact nI_ge (b := 64) (by omega) (by decide))) (fun _ => ?_)
  refine lv_aload_n hx hb dX0_kindNow_10 rfl (lv_at hl 0 rfl) ?_
  refine va_get (D := D) (ci := 0) (v := .ref ms) (C := RX0) (T := TX0) (N := 6) hx hb hts (by decide +kernel) hown hK hP 0 rfl rfl 5 (by decide) (hts (.fieldLink RX0 34 "CellarPushers$Ground" "missing" "[Z") (by decide +kernel)) (fun _ h9 => h9) rfl dX0_kindNow_11 ?_
  refine lv_iload_n hx hb dX0_kindNow_14 rfl (lv_at hl 1 rfl) ?_
  refine lv_bipush (v := 8) hx hb dX0_kindNow_15 (by decide) ?_
  refine lv_idiv hx hb dX0_kindNow_17 (by decide) ?_
  refine lv_topi (fun z_1 ez_1 => ?_)
  obtain rfl : z_1 = nI (n / 8) := ez_1.trans (pk_div (d := 8) (by have := hn; omega) (by decide) (by decide))
  refine va_zald hx hb hK hP 2 1 rfl rfl (vp_in_nI (by have := (show n / 8 < 8 by have := hn; omega); omega) (by decide)) dX0_kindNow_18 ?_
  refine lv_topi (fun z_2 ez_2 => ?_)
  obtain rfl : z_2 = 0 := ez_2
  refine lv_if_eq (tgt := 24) hx hb dX0_kindNow_19 (by decide) (fun _ => ?_) (fun h9 => absurd (by decide : (0 : Int32) = (0 : Int32)) h9)
  refine lv_aload_n hx hb dX0_kindNow_24 rfl (lv_at hl 0 rfl) ?_
  refine va_get (D := D) (ci := 0) (v := .ref kd) (C := RX0) (T := TX0) (N := 6) hx hb hts (by decide +kernel) hown hK hP 0 rfl rfl 3 (by decide) (hts (.fieldLink RX0 27 "CellarPushers$Ground" "kinds" "[I") (by decide +kernel)) (fun _ h9 => h9) rfl dX0_kindNow_25 ?_
  refine lv_iload_n hx hb dX0_kindNow_28 rfl (lv_at hl 1 rfl) ?_
  refine va_iald hx hb hK hP 1 0 rfl rfl (vp_in_nI (by have := hn; omega) (by decide)) dX0_kindNow_29 ?_
  refine lv_topi (fun z_3 ez_3 => ?_)
  obtain rfl : z_3 = 0 := ez_3
  exact W.iret (v := 0) hx hb hr (fun t ht hW => ⟨_, rfl, rfl, ht⟩) (fun q hq => by cases hq) dX0_kindNow_30
set_option maxHeartbeats 4000000 in
set_option maxRecDepth 100000 in
theorem k_X0_kindNow_m (l : Launch) (D : va_G) (kI kZ kJ : ClassId)  (g kd rw ms : Nat) (bw bh : Nat) (hbw : bw ≤ 8) (hbh : bh ≤ 8) : Met l yX0_kindNow wsX0_kindNow ({ frames := 0, cells := 0, slots := 0, locals := 0 }) (qR D kI kZ kJ [(g, .inr (0, [.int (nI bw), .int (nI bh), .long 0, .ref kd, .ref rw, .ref ms])), (kd, .inl (kI, 64, .inl (fun _ => 0))), (ms, .inl (kZ, 8, .inl (fun _ => 0)))] [.ref g, .int (-1)]) (vp_Si (fun r : Int32 => r = 0)) 0 0 (fun _ => False) := by
  refine Met.ofW (cc := cX0_kindNow) (maxL := 2) (ret := (some .int)) (by decide) rfl ?_
  intro p e s m args below meth c s₁ B hml hv
  obtain ⟨rfl, hP, hK, hN⟩ := hv
  have hx := B.exec
  have hb := B.bytes
  have hr := B.returns
  have hts := atoms_spec (ws := wsX0_kindNow) B.pre
  have hown : s.vm.findClass RX0 = some m.cls := findClass_of_methodNamed B.named
  have hlocks := B.notSynchronized
  have hP : va_P D vwCl [(g, .inr (0, [.int (nI bw), .int (nI bh), .long 0, .ref kd, .ref rw, .ref ms])), (kd, .inl (kI, 64, .inl (fun _ => 0))), (ms, .inl (kZ, 8, .inl (fun _ => 0)))] s.heap := hP
  have hl := lv_entry ([.ref g, .int (-1)]) (n := 2) (Nat.le_of_ble_eq_true rfl)
  rw [lg_entry_eq]
  generalize (lg_sl ([.ref g, .int (-1)]) ++ List.replicate (2 - (lg_sl ([.ref g, .int (-1)])).length) Slot.unset).toArray = ls at hl ⊢
  have hl : lv_has ls 2 [(0, .ref g), (1, .int (-1))] := hl
  refine lv_iload_n hx hb dX0_kindNow_0 rfl (lv_at hl 1 rfl) ?_
  refine lv_if_lt (tgt := 22) hx hb dX0_kindNow_1 (by decide) (fun _ => ?_) (fun h9 => absurd (by decide : ((-1) : Int32) < (0 : Int32)) h9)
  refine lv_iconst (v := 0) hx hb dX0_kindNow_22 (by decide) ?_
  exact W.iret (v := 0) hx hb hr (fun t ht hW => ⟨_, rfl, rfl, ht⟩) (fun q hq => by cases hq) dX0_kindNow_23
set_option maxHeartbeats 4000000 in
set_option maxRecDepth 100000 in
theorem k_X0_isForMan (l : Launch) (D : va_G) (kI kZ kJ : ClassId)  (g kd rw ms : Nat) (bw bh : Nat) (hbw : bw ≤ 8) (hbh : bh ≤ 8) (n : Nat) (hn : n < 64) : Met l yX0_isForMan wsX0_isForMan ({ frames := 1, cells := 0, slots := 0, locals := 21 }) (qR D kI kZ kJ [(g, .inr (0, [.int (nI bw), .int (nI bh), .long 0, .ref kd, .ref rw, .ref ms])), (kd, .inl (kI, 64, .inl (fun _ => 0))), (ms, .inl (kZ, 8, .inl (fun _ => 0)))] [.ref g, .int (nI n)]) (vp_Si (fun r : Int32 => r = 0)) 0 0 (fun _ => False) := by
  refine Met.ofW (cc := cX0_isForMan) (maxL := 3) (ret := (some .boolean)) (by decide) rfl ?_
  intro p e s m args below meth c s₁ B hml hv
  obtain ⟨rfl, hP, hK, hN⟩ := hv
  have hx := B.exec
  have hb := B.bytes
  have hr := B.returns
  have hts := atoms_spec (ws := wsX0_isForMan) B.pre
  have hown : s.vm.findClass RX0 = some m.cls := findClass_of_methodNamed B.named
  have hlocks := B.notSynchronized
  have hP : va_P D vwCl [(g, .inr (0, [.int (nI bw), .int (nI bh), .long 0, .ref kd, .ref rw, .ref ms])), (kd, .inl (kI, 64, .inl (fun _ => 0))), (ms, .inl (kZ, 8, .inl (fun _ => 0)))] s.heap := hP
  have hl := lv_entry ([.ref g, .int (nI n)]) (n := 3) (Nat.le_of_ble_eq_true rfl)
  rw [lg_entry_eq]
  generalize (lg_sl ([.ref g, .int (nI n)]) ++ List.replicate (3 - (lg_sl ([.ref g, .int (nI n)])).length) Slot.unset).toArray = ls at hl ⊢
  have hl : lv_has ls 3 [(0, .ref g), (1, .int (nI n))] := hl
  refine lv_aload_n hx hb dX0_isForMan_0 rfl (lv_at hl 0 rfl) ?_
  refine lv_iload_n hx hb dX0_isForMan_1 rfl (lv_at hl 1 rfl) ?_
  refine vp_callSi (qV_R (n := 1) (As := [.int (nI n)]) (rest := []) (wc := [(g, .inr (0, [.int (nI bw), .int (nI bh), .long 0, .ref kd, .ref rw, .ref ms])), (kd, .inl (kI, 64, .inl (fun _ => 0))), (ms, .inl (kZ, 8, .inl (fun _ => 0)))]) ⟨hx, hb, hml, hown, hts⟩ hK hN hP [0, 1, 2] rfl (k_X0_kindNow_n l D kI kZ kJ g kd rw ms bw bh hbw hbh n hn) gX0_isForMan_X0_kindNow rfl rfl rfl (by decide +kernel) ⟨(Nat.le_of_ble_eq_true rfl), (Nat.le_of_ble_eq_true rfl)⟩ 0 0 rfl rfl rfl rfl hl.1 rfl (Nat.le_of_ble_eq_true rfl) dX0_isForMan_2 ⟨(Nat.le_of_ble_eq_true rfl), (Nat.le_of_ble_eq_true rfl)⟩).run (fun r hw => ?_)
  obtain rfl := hw
  refine lv_istore_n (lv' := [(2, .int 0), (0, .ref g), (1, .int (nI n))]) hx hb dX0_isForMan_5 rfl hl (by decide) rfl (fun ls hl => ?_)
  refine lv_iload_n hx hb dX0_isForMan_6 rfl (lv_at hl 0 rfl) ?_
  refine lv_if_eq (tgt := 19) hx hb dX0_isForMan_7 (by decide) (fun _ => ?_) (fun h9 => absurd (by decide : (0 : Int32) = (0 : Int32)) h9)
  refine lv_iconst (v := 0) hx hb dX0_isForMan_19 (by decide) ?_
  exact W.zret (v := 0) (ty := .boolean) hx hb hr rfl (fun t ht hW => ⟨_, rfl, rfl, ht⟩) (fun q hq => by cases hq) dX0_isForMan_20
set_option maxHeartbeats 4000000 in
set_option maxRecDepth 100000 in
theorem k_X0_lay (l : Launch) (D : va_G) (kI kZ kJ : ClassId)  (g kd rw ms : Nat) (bw bh : Nat) (hbw : bw ≤ 8) (hbh : bh ≤ 8) (n : Nat) (hn : n < 64) (k v : Int32) (sz : Nat) : Met l yX0_lay wsX0_lay ({ frames := 1, cells := 0, slots := 0, locals := 20 }) (qW D kI kZ kJ [(g, .inr (0, [.int (nI bw), .int (nI bh), .long 0, .ref kd, .ref rw, .ref ms])), (kd, .inl (kI, 64, .inl (fun _ => 0))), (rw, .inl (kI, 64, .inl (fun _ => 0)))] sz [.ref g, .int (nI n), .int k, .int v]) (va_Qi (fun (r : Int32) (u : Unit) => r = 0) (qB D (fun u : Unit => []) (va_A [(g, .inr (0, [.int (nI bw), .int (nI bh), .long 0, .ref kd, .ref rw, .ref ms])), (kd, .inl (kI, 64, .inl (fun _ => 0))), (rw, .inl (kI, 64, .inl (fun _ => 0)))] sz)) (va_A [(g, .inr (0, [.int (nI bw), .int (nI bh), .long 0, .ref kd, .ref rw, .ref ms])), (kd, .inl (kI, 64, .inl (fun _ => 0))), (rw, .inl (kI, 64, .inl (fun _ => 0)))] sz)) 0 0 (va_A [(g, .inr (0, [.int (nI bw), .int (nI bh), .long 0, .ref kd, .ref rw, .ref ms])), (kd, .inl (kI, 64, .inl (fun _ => 0))), (rw, .inl (kI, 64, .inl (fun _ => 0)))] sz) := by
  refine Met.ofW (cc := cX0_lay) (maxL := 5) (ret := (some .int)) (by decide) rfl ?_
  intro p e s m args below meth c s₁ B hml hv
  obtain ⟨rfl, hsz, hP, hK, hD0, hN⟩ := hv
  have hx := B.exec
  have hb := B.bytes
  have hr := B.returns
  have hts := atoms_spec (ws := wsX0_lay) B.pre
  have hown : s.vm.findClass RX0 = some m.cls := findClass_of_methodNamed B.named
  have hlocks := B.notSynchronized
  subst hsz
  have hD := hD0.self (sz := s.heap.size)
  generalize hAe : va_A [(g, .inr (0, [.int (nI bw), .int (nI bh), .long 0, .ref kd, .ref rw, .ref ms])), (kd, .inl (kI, 64, .inl (fun _ => 0))), (rw, .inl (kI, 64, .inl (fun _ => 0)))] s.heap.size = A at hD ⊢
  have hA : ∀ q : Nat, s.heap.size ≤ q → A q := fun q h => by rw [← hAe]; exact Or.inr h
  have hS : va_S A s.heap s.heap [] := va_S.rf
  have hP : va_P D vwCl [(g, .inr (0, [.int (nI bw), .int (nI bh), .long 0, .ref kd, .ref rw, .ref ms])), (kd, .inl (kI, 64, .inl (fun _ => 0))), (rw, .inl (kI, 64, .inl (fun _ => 0)))] s.heap := hP
  have hl := lv_entry ([.ref g, .int (nI n), .int k, .int v]) (n := 5) (Nat.le_of_ble_eq_true rfl)
  rw [lg_entry_eq]
  generalize (lg_sl ([.ref g, .int (nI n), .int k, .int v]) ++ List.replicate (5 - (lg_sl ([.ref g, .int (nI n), .int k, .int v])).length) Slot.unset).toArray = ls at hl ⊢
  have hl : lv_has ls 5 [(0, .ref g), (1, .int (nI n)), (2, .int k), (3, .int v)] := hl
  refine lv_iload_n hx hb dX0_lay_0 rfl (lv_at hl 1 rfl) ?_
  refine vp_callSi (qSN_R (n := 1) (As := [.int (nI n)]) (rest := []) (wc := []) (host := RX8) ⟨hx, hb, hml, hown, hts⟩ hK hN hP [] rfl (k_X8_isField l D kI kZ kJ (nI n)) gX0_lay_X8_isField_n38 rfl rfl rfl (by decide) (hts (.initialized RX8) (by decide +kernel)) (hts (.static yX8_isField) (by decide +kernel)) (by decide +kernel) ⟨(Nat.le_of_ble_eq_true rfl), (Nat.le_of_ble_eq_true rfl)⟩ rfl hl.1 rfl (Nat.le_of_ble_eq_true rfl) dX0_lay_1 ⟨(Nat.le_of_ble_eq_true rfl), (Nat.le_of_ble_eq_true rfl)⟩).run (fun r hw => ?_)
  obtain ⟨hw0, hw1⟩ := hw
  obtain rfl := hw1 (nI_pos (by have := hn; omega)) (nI_ge (b := 64) (by have := hn; omega) (by decide))
  refine lv_if_ne (tgt := 9) hx hb dX0_lay_4 (by decide) (fun _ => ?_) (fun h9 => absurd h9 (by decide : ¬ (1 : Int32) = (0 : Int32)))
  refine lv_aload_n hx hb dX0_lay_9 rfl (lv_at hl 0 rfl) ?_
  refine va_get (D := D) (ci := 0) (v := .ref kd) (C := RX0) (T := TX0) (N := 6) hx hb hts (by decide +kernel) hown hK hP 0 rfl rfl 3 (by decide) (hts (.fieldLink RX0 27 "CellarPushers$Ground" "kinds" "[I") (by decide +kernel)) (fun _ h9 => h9) rfl dX0_lay_10 ?_
  refine lv_iload_n hx hb dX0_lay_13 rfl (lv_at hl 1 rfl) ?_
  refine va_iald hx hb hK hP 1 0 rfl rfl (vp_in_nI (by have := hn; omega) (by decide)) dX0_lay_14 ?_
  refine lv_topi (fun z_1 ez_1 => ?_)
  obtain rfl : z_1 = 0 := ez_1
  refine lv_istore (lv' := [(4, .int 0), (0, .ref g), (1, .int (nI n)), (2, .int k), (3, .int v)]) hx hb dX0_lay_15 hl (by decide) rfl (fun ls hl => ?_)
  refine lv_aload_n hx hb dX0_lay_17 rfl (lv_at hl 1 rfl) ?_
  refine va_get (D := D) (ci := 0) (v := .ref kd) (C := RX0) (T := TX0) (N := 6) hx hb hts (by decide +kernel) hown hK hP 0 rfl rfl 3 (by decide) (hts (.fieldLink RX0 27 "CellarPushers$Ground" "kinds" "[I") (by decide +kernel)) (fun _ h9 => h9) rfl dX0_lay_18 ?_
  refine lv_iload_n hx hb dX0_lay_21 rfl (lv_at hl 2 rfl) ?_
  refine lv_iload_n hx hb dX0_lay_22 rfl (lv_at hl 3 rfl) ?_
  refine va_iast hx hb hK hP hD hS 1 0 rfl rfl (vp_in_nI (by have := hn; omega) (by decide)) dX0_lay_23 (fun H locs hP hD hS => ?_)
  have hP : va_P D vwCl [(g, .inr (0, [.int (nI bw), .int (nI bh), .long 0, .ref kd, .ref rw, .ref ms])), (kd, .inl (kI, 64, .inl (upd (fun _ => 0) (Int32.toNatClampNeg (nI n)) k))), (rw, .inl (kI, 64, .inl (fun _ => 0)))] H := hP
  have hD : va_D A [(g, .inr (0, [.int (nI bw), .int (nI bh), .long 0, .ref kd, .ref rw, .ref ms])), (kd, .inl (kI, 64, .inl (upd (fun _ => 0) (Int32.toNatClampNeg (nI n)) k))), (rw, .inl (kI, 64, .inl (fun _ => 0)))] := hD
  refine lv_aload_n hx hb dX0_lay_24 rfl (lv_at hl 1 rfl) ?_
  refine va_get (D := D) (ci := 0) (v := .ref rw) (C := RX0) (T := TX0) (N := 6) hx hb hts (by decide +kernel) hown hK hP 0 rfl rfl 4 (by decide) (hts (.fieldLink RX0 31 "CellarPushers$Ground" "rampWays" "[I") (by decide +kernel)) (fun _ h9 => h9) rfl dX0_lay_25 ?_
  refine lv_iload_n hx hb dX0_lay_28 rfl (lv_at hl 2 rfl) ?_
  refine lv_iload_n hx hb dX0_lay_29 rfl (lv_at hl 4 rfl) ?_
  refine va_iast hx hb hK hP hD hS 2 0 rfl rfl (vp_in_nI (by have := hn; omega) (by decide)) dX0_lay_30 (fun H locs hP hD hS => ?_)
  have hP : va_P D vwCl [(g, .inr (0, [.int (nI bw), .int (nI bh), .long 0, .ref kd, .ref rw, .ref ms])), (kd, .inl (kI, 64, .inl (upd (fun _ => 0) (Int32.toNatClampNeg (nI n)) k))), (rw, .inl (kI, 64, .inl (upd (fun _ => 0) (Int32.toNatClampNeg (nI n)) v)))] H := hP
  have hD : va_D A [(g, .inr (0, [.int (nI bw), .int (nI bh), .long 0, .ref kd, .ref rw, .ref ms])), (kd, .inl (kI, 64, .inl (upd (fun _ => 0) (Int32.toNatClampNeg (nI n)) k))), (rw, .inl (kI, 64, .inl (upd (fun _ => 0) (Int32.toNatClampNeg (nI n)) v)))] := hD
  refine lv_iload hx hb dX0_lay_31 (lv_at hl 0 rfl) ?_
  have hP9 := hP.sub (ws' := []) [] rfl
  have hD9 := hD.sub (ws' := []) [] (by decide) rfl
  exact W.iret (v := 0) hx hb hr (fun t ht hW => ⟨⟨_, (), rfl, rfl, ⟨by rw [ht]; exact hP9, hD9⟩⟩, hS.F ht⟩) hS.2.2 dX0_lay_33
set_option maxHeartbeats 4000000 in
set_option maxRecDepth 100000 in
theorem k_X0_letMiss (l : Launch) (D : va_G) (kI kZ kJ : ClassId)  (g kd rw ms : Nat) (bw bh : Nat) (hbw : bw ≤ 8) (hbh : bh ≤ 8) (n : Nat) (hn : n < 8) (v : Int32) (sz : Nat) : Met l yX0_letMiss wsX0_letMiss ({ frames := 0, cells := 0, slots := 0, locals := 0 }) (qW D kI kZ kJ [(g, .inr (0, [.int (nI bw), .int (nI bh), .long 0, .ref kd, .ref rw, .ref ms])), (ms, .inl (kZ, 8, .inl (fun _ => 0)))] sz [.ref g, .int (nI n), .int v]) (va_Qi (fun (r : Int32) (u : Unit) => r = 0) (qB D (fun u : Unit => []) (va_A [(g, .inr (0, [.int (nI bw), .int (nI bh), .long 0, .ref kd, .ref rw, .ref ms])), (ms, .inl (kZ, 8, .inl (fun _ => 0)))] sz)) (va_A [(g, .inr (0, [.int (nI bw), .int (nI bh), .long 0, .ref kd, .ref rw, .ref ms])), (ms, .inl (kZ, 8, .inl (fun _ => 0)))] sz)) 0 0 (va_A [(g, .inr (0, [.int (nI bw), .int (nI bh), .long 0, .ref kd, .ref rw, .ref ms])), (ms, .inl (kZ, 8, .inl (fun _ => 0)))] sz) := by
  refine Met.ofW (cc := cX0_letMiss) (maxL := 4) (ret := (some .boolean)) (by decide) rfl ?_
  intro p e s m args below meth c s₁ B hml hv
  obtain ⟨rfl, hsz, hP, hK, hD0, hN⟩ := hv
  have hx := B.exec
  have hb := B.bytes
  have hr := B.returns
  have hts := atoms_spec (ws := wsX0_letMiss) B.pre
  have hown : s.vm.findClass RX0 = some m.cls := findClass_of_methodNamed B.named
  have hlocks := B.notSynchronized
  subst hsz
  have hD := hD0.self (sz := s.heap.size)
  generalize hAe : va_A [(g, .inr (0, [.int (nI bw), .int (nI bh), .long 0, .ref kd, .ref rw, .ref ms])), (ms, .inl (kZ, 8, .inl (fun _ => 0)))] s.heap.size = A at hD ⊢
  have hA : ∀ q : Nat, s.heap.size ≤ q → A q := fun q h => by rw [← hAe]; exact Or.inr h
  have hS : va_S A s.heap s.heap [] := va_S.rf
  have hP : va_P D vwCl [(g, .inr (0, [.int (nI bw), .int (nI bh), .long 0, .ref kd, .ref rw, .ref ms])), (ms, .inl (kZ, 8, .inl (fun _ => 0)))] s.heap := hP
  have hl := lv_entry ([.ref g, .int (nI n), .int v]) (n := 4) (Nat.le_of_ble_eq_true rfl)
  rw [lg_entry_eq]
  generalize (lg_sl ([.ref g, .int (nI n), .int v]) ++ List.replicate (4 - (lg_sl ([.ref g, .int (nI n), .int v])).length) Slot.unset).toArray = ls at hl ⊢
  have hl : lv_has ls 4 [(0, .ref g), (1, .int (nI n)), (2, .int v)] := hl
  refine lv_iload_n hx hb dX0_letMiss_0 rfl (lv_at hl 1 rfl) ?_
  refine lv_if_lt (tgt := 10) hx hb dX0_letMiss_1 (by decide) (fun h9 => absurd h9 (by have hq := hn; exact nI_pos (by omega))) (fun _ => ?_)
  refine lv_iload_n hx hb dX0_letMiss_4 rfl (lv_at hl 1 rfl) ?_
  refine lv_bipush (v := 8) hx hb dX0_letMiss_5 (by decide) ?_
  refine lv_icmp_lt (tgt := 12) hx hb dX0_letMiss_7 (by decide) (fun _ => ?_) (fun h9 => absurd (by have hq := hn; exact nI_lt (b := 8) (by omega) (by decide)) h9)
  refine lv_aload_n hx hb dX0_letMiss_12 rfl (lv_at hl 0 rfl) ?_
  refine va_get (D := D) (ci := 0) (v := .ref ms) (C := RX0) (T := TX0) (N := 6) hx hb hts (by decide +kernel) hown hK hP 0 rfl rfl 5 (by decide) (hts (.fieldLink RX0 34 "CellarPushers$Ground" "missing" "[Z") (by decide +kernel)) (fun _ h9 => h9) rfl dX0_letMiss_13 ?_
  refine lv_iload_n hx hb dX0_letMiss_16 rfl (lv_at hl 1 rfl) ?_
  refine va_zald hx hb hK hP 1 1 rfl rfl (vp_in_nI (by have := hn; omega) (by decide)) dX0_letMiss_17 ?_
  refine lv_topi (fun z_1 ez_1 => ?_)
  obtain rfl : z_1 = 0 := ez_1
  refine lv_istore_n (lv' := [(3, .int 0), (0, .ref g), (1, .int (nI n)), (2, .int v)]) hx hb dX0_letMiss_18 rfl hl (by decide) rfl (fun ls hl => ?_)
  refine lv_aload_n hx hb dX0_letMiss_19 rfl (lv_at hl 1 rfl) ?_
  refine va_get (D := D) (ci := 0) (v := .ref ms) (C := RX0) (T := TX0) (N := 6) hx hb hts (by decide +kernel) hown hK hP 0 rfl rfl 5 (by decide) (hts (.fieldLink RX0 34 "CellarPushers$Ground" "missing" "[Z") (by decide +kernel)) (fun _ h9 => h9) rfl dX0_letMiss_20 ?_
  refine lv_iload_n hx hb dX0_letMiss_23 rfl (lv_at hl 2 rfl) ?_
  refine lv_iload_n hx hb dX0_letMiss_24 rfl (lv_at hl 3 rfl) ?_
  refine va_zast hx hb hK hP hD hS 1 1 rfl rfl (vp_in_nI (by have := hn; omega) (by decide)) dX0_letMiss_25 (fun H locs hP hD hS => ?_)
  have hP : va_P D vwCl [(g, .inr (0, [.int (nI bw), .int (nI bh), .long 0, .ref kd, .ref rw, .ref ms])), (ms, .inl (kZ, 8, .inl (upd (fun _ => 0) (Int32.toNatClampNeg (nI n)) (vp_nar .boolean v))))] H := hP
  have hD : va_D A [(g, .inr (0, [.int (nI bw), .int (nI bh), .long 0, .ref kd, .ref rw, .ref ms])), (ms, .inl (kZ, 8, .inl (upd (fun _ => 0) (Int32.toNatClampNeg (nI n)) (vp_nar .boolean v))))] := hD
  refine lv_iload_n hx hb dX0_letMiss_26 rfl (lv_at hl 0 rfl) ?_
  have hP9 := hP.sub (ws' := []) [] rfl
  have hD9 := hD.sub (ws' := []) [] (by decide) rfl
  exact W.zret (v := 0) (ty := .boolean) hx hb hr rfl (fun t ht hW => ⟨⟨_, (), rfl, rfl, ⟨by rw [ht]; exact hP9, hD9⟩⟩, hS.F ht⟩) hS.2.2 dX0_letMiss_27
set_option maxHeartbeats 4000000 in
set_option maxRecDepth 100000 in
theorem k_X0_openFields (l : Launch) (D : va_G) (kI kZ kJ : ClassId)  (g kd rw ms : Nat) (bw bh : Nat) (hbw : bw ≤ 8) (hbh : bh ≤ 8) : Met l yX0_openFields wsX0_openFields ({ frames := 1, cells := 0, slots := 0, locals := 21 }) (qR D kI kZ kJ [(g, .inr (0, [.int (nI bw), .int (nI bh), .long 0, .ref kd, .ref rw, .ref ms])), (kd, .inl (kI, 64, .inl (fun _ => 0))), (ms, .inl (kZ, 8, .inl (fun _ => 0)))] [.ref g]) (vp_Si (fun r : Int32 => r = 0)) 0 0 (fun _ => False) := by
  refine Met.ofW (cc := cX0_openFields) (maxL := 3) (ret := (some .int)) (by decide) rfl ?_
  intro p e s m args below meth c s₁ B hml hv
  obtain ⟨rfl, hP, hK, hN⟩ := hv
  have hx := B.exec
  have hb := B.bytes
  have hr := B.returns
  have hts := atoms_spec (ws := wsX0_openFields) B.pre
  have hown : s.vm.findClass RX0 = some m.cls := findClass_of_methodNamed B.named
  have hlocks := B.notSynchronized
  have hP : va_P D vwCl [(g, .inr (0, [.int (nI bw), .int (nI bh), .long 0, .ref kd, .ref rw, .ref ms])), (kd, .inl (kI, 64, .inl (fun _ => 0))), (ms, .inl (kZ, 8, .inl (fun _ => 0)))] s.heap := hP
  have hl := lv_entry ([.ref g]) (n := 3) (Nat.le_of_ble_eq_true rfl)
  rw [lg_entry_eq]
  generalize (lg_sl ([.ref g]) ++ List.replicate (3 - (lg_sl ([.ref g])).length) Slot.unset).toArray = ls at hl ⊢
  have hl : lv_has ls 3 [(0, .ref g)] := hl
  refine lv_iconst (v := 0) hx hb dX0_openFields_0 (by decide) ?_
  refine lv_istore_n (lv' := [(1, .int 0), (0, .ref g)]) hx hb dX0_openFields_1 rfl hl (by decide) rfl (fun ls hl => ?_)
  refine lv_iconst (v := 0) hx hb dX0_openFields_2 (by decide) ?_
  refine lv_istore_n (lv' := [(2, .int 0), (1, .int 0), (0, .ref g)]) hx hb dX0_openFields_3 rfl hl (by decide) rfl (fun ls hl => ?_)
  obtain ⟨i4, hk4, hl4⟩ : ∃ i4 : Nat, i4 ≤ 64 ∧ lv_has ls 3 [(2, .int (nI i4)), (1, .int 0), (0, .ref g)] := ⟨0, by omega, hl⟩
  clear hl
  have hl := hl4
  clear hl4
  obtain ⟨f4, hf4⟩ : ∃ f4 : Nat, 64 < i4 + f4 := ⟨64 + 1, by omega⟩
  induction f4 generalizing i4 ls with
  | zero => exact absurd hf4 (by omega)
  | succ f4 ih4 =>
    refine lv_iload_n hx hb dX0_openFields_4 rfl (lv_at hl 0 rfl) ?_
    refine lv_bipush (v := 64) hx hb dX0_openFields_5 (by decide) ?_
    refine lv_icmp_ge (tgt := 27) hx hb dX0_openFields_7 (by decide) (fun c_1 => ?_) (fun c_1 => ?_)
    · skip
      have hi4 : i4 = 64 := by have := (nI_leI (a := 64) (b := i4) (by omega) (by omega)).mp c_1; omega
      refine lv_iload_n hx hb dX0_openFields_27 rfl (lv_at hl 1 rfl) ?_
      exact W.iret (v := 0) hx hb hr (fun t ht hW => ⟨_, rfl, rfl, ht⟩) (fun q hq => by cases hq) dX0_openFields_28
    · skip
      have hi4 : i4 < 64 := by have := mt (nI_leI (a := 64) (b := i4) (by omega) (by omega)).mpr c_1; omega
      refine lv_aload_n hx hb dX0_openFields_10 rfl (lv_at hl 2 rfl) ?_
      refine lv_iload_n hx hb dX0_openFields_11 rfl (lv_at hl 0 rfl) ?_
      refine vp_callSi (qV_R (n := 1) (As := [.int (nI i4)]) (rest := []) (wc := [(g, .inr (0, [.int (nI bw), .int (nI bh), .long 0, .ref kd, .ref rw, .ref ms])), (kd, .inl (kI, 64, .inl (fun _ => 0))), (ms, .inl (kZ, 8, .inl (fun _ => 0)))]) ⟨hx, hb, hml, hown, hts⟩ hK hN hP [0, 1, 2] rfl (k_X0_kindNow_n l D kI kZ kJ g kd rw ms bw bh hbw hbh i4 hi4) gX0_openFields_X0_kindNow rfl rfl rfl (by decide +kernel) ⟨(Nat.le_of_ble_eq_true rfl), (Nat.le_of_ble_eq_true rfl)⟩ 0 0 rfl rfl rfl rfl hl.1 rfl (Nat.le_of_ble_eq_true rfl) dX0_openFields_12 ⟨(Nat.le_of_ble_eq_true rfl), (Nat.le_of_ble_eq_true rfl)⟩).run (fun r hw => ?_)
      obtain rfl := hw
      refine lv_if_eq (tgt := 21) hx hb dX0_openFields_15 (by decide) (fun _ => ?_) (fun h9 => absurd (by decide : (0 : Int32) = (0 : Int32)) h9)
      refine lv_iinc (v := (nI (i4 + 1))) (lv' := [(2, .int (nI (i4 + 1))), (1, .int 0), (0, .ref g)]) hx hb dX0_openFields_21 hl (k := 0) rfl (q_inc _) (by decide) rfl (fun ls hl => ?_)
      refine lv_goto (tgt := 4) hx hb dX0_openFields_24 (by decide) ?_
      exact ih4 (i4 := (i4 + 1)) (ls := ls) (hk4 := by omega) (hl := lv_sub hl [0, 1, 2] rfl) (hf4 := by omega)
set_option maxHeartbeats 4000000 in
set_option maxRecDepth 100000 in
theorem k_X3_become (l : Launch) (D : va_G) (kI kZ kJ : ClassId)  (tr sc : Nat) (sz : Nat) : Met l yX3_become wsX3_become ({ frames := 0, cells := 0, slots := 0, locals := 0 }) (qW D kI kZ kJ [(tr, .inr (3, [.int (-1), .long 0, .int 0, .int 0])), (sc, .inr (3, [.int (-1), .long 0, .int 0, .int 0]))] sz [.ref tr, .ref sc]) (va_Qv (fun (u : Unit) => True) (qB D (fun u : Unit => [(tr, .inr (3, [.int (-1), .long 0, .int 0, .int 0])), (sc, .inr (3, [.int (-1), .long 0, .int 0, .int 0]))]) (va_A [(tr, .inr (3, [.int (-1), .long 0, .int 0, .int 0])), (sc, .inr (3, [.int (-1), .long 0, .int 0, .int 0]))] sz)) (va_A [(tr, .inr (3, [.int (-1), .long 0, .int 0, .int 0])), (sc, .inr (3, [.int (-1), .long 0, .int 0, .int 0]))] sz)) 0 0 (va_A [(tr, .inr (3, [.int (-1), .long 0, .int 0, .int 0])), (sc, .inr (3, [.int (-1), .long 0, .int 0, .int 0]))] sz) := by
  refine Met.ofW (cc := cX3_become) (maxL := 2) (ret := none) (by decide) rfl ?_
  intro p e s m args below meth c s₁ B hml hv
  obtain ⟨rfl, hsz, hP, hK, hD0, hN⟩ := hv
  have hx := B.exec
  have hb := B.bytes
  have hr := B.returns
  have hts := atoms_spec (ws := wsX3_become) B.pre
  have hown : s.vm.findClass RX3 = some m.cls := findClass_of_methodNamed B.named
  have hlocks := B.notSynchronized
  subst hsz
  have hD := hD0.self (sz := s.heap.size)
  generalize hAe : va_A [(tr, .inr (3, [.int (-1), .long 0, .int 0, .int 0])), (sc, .inr (3, [.int (-1), .long 0, .int 0, .int 0]))] s.heap.size = A at hD ⊢
  have hA : ∀ q : Nat, s.heap.size ≤ q → A q := fun q h => by rw [← hAe]; exact Or.inr h
  have hS : va_S A s.heap s.heap [] := va_S.rf
  have hP : va_P D vwCl [(tr, .inr (3, [.int (-1), .long 0, .int 0, .int 0])), (sc, .inr (3, [.int (-1), .long 0, .int 0, .int 0]))] s.heap := hP
  have hl := lv_entry ([.ref tr, .ref sc]) (n := 2) (Nat.le_of_ble_eq_true rfl)
  rw [lg_entry_eq]
  generalize (lg_sl ([.ref tr, .ref sc]) ++ List.replicate (2 - (lg_sl ([.ref tr, .ref sc])).length) Slot.unset).toArray = ls at hl ⊢
  have hl : lv_has ls 2 [(0, .ref tr), (1, .ref sc)] := hl
  refine lv_aload_n hx hb dX3_become_0 rfl (lv_at hl 0 rfl) ?_
  refine lv_aload_n hx hb dX3_become_1 rfl (lv_at hl 1 rfl) ?_
  refine va_get (D := D) (ci := 3) (v := .int (-1)) (C := RX3) (T := TX3) (N := 4) hx hb hts (by decide +kernel) hown hK hP 1 rfl rfl 0 (by decide) (hts (.fieldLink RX3 9 "CellarPushers$Scene" "manAt" "I") (by decide +kernel)) (fun _ h9 => h9) rfl dX3_become_2 ?_
  refine va_put (D := D) (ci := 3) (v := .int (-1)) (ty := .int) (C := RX3) (T := TX3) (N := 4) hx hb hts (by decide +kernel) tyX3 tyX3_ok nmX3 hown hK hP hD hS 0 rfl rfl 0 (by decide) (hts (.fieldLink RX3 9 "CellarPushers$Scene" "manAt" "I") (by decide +kernel)) (fun _ h9 => h9) rfl (by decide +kernel) rfl rfl (Nat.le_of_ble_eq_true rfl) dX3_become_5 (fun H locs hP hD hS => ?_)
  have hP : va_P D vwCl [(tr, .inr (3, [.int (-1), .long 0, .int 0, .int 0])), (sc, .inr (3, [.int (-1), .long 0, .int 0, .int 0]))] H := hP
  have hD : va_D A [(tr, .inr (3, [.int (-1), .long 0, .int 0, .int 0])), (sc, .inr (3, [.int (-1), .long 0, .int 0, .int 0]))] := hD
  refine lv_aload_n hx hb dX3_become_8 rfl (lv_at hl 0 rfl) ?_
  refine lv_aload_n hx hb dX3_become_9 rfl (lv_at hl 1 rfl) ?_
  refine va_get (D := D) (ci := 3) (v := .long 0) (C := RX3) (T := TX3) (N := 4) hx hb hts (by decide +kernel) hown hK hP 1 rfl rfl 1 (by decide) (hts (.fieldLink RX3 15 "CellarPushers$Scene" "barrels" "J") (by decide +kernel)) (fun _ h9 => h9) rfl dX3_become_10 ?_
  refine va_put (D := D) (ci := 3) (v := .long 0) (ty := .long) (C := RX3) (T := TX3) (N := 4) hx hb hts (by decide +kernel) tyX3 tyX3_ok nmX3 hown hK hP hD hS 0 rfl rfl 1 (by decide) (hts (.fieldLink RX3 15 "CellarPushers$Scene" "barrels" "J") (by decide +kernel)) (fun _ h9 => h9) rfl (by decide +kernel) rfl rfl (Nat.le_of_ble_eq_true rfl) dX3_become_13 (fun H locs hP hD hS => ?_)
  have hP : va_P D vwCl [(tr, .inr (3, [.int (-1), .long 0, .int 0, .int 0])), (sc, .inr (3, [.int (-1), .long 0, .int 0, .int 0]))] H := hP
  have hD : va_D A [(tr, .inr (3, [.int (-1), .long 0, .int 0, .int 0])), (sc, .inr (3, [.int (-1), .long 0, .int 0, .int 0]))] := hD
  refine lv_aload_n hx hb dX3_become_16 rfl (lv_at hl 0 rfl) ?_
  refine lv_aload_n hx hb dX3_become_17 rfl (lv_at hl 1 rfl) ?_
  refine va_get (D := D) (ci := 3) (v := .int 0) (C := RX3) (T := TX3) (N := 4) hx hb hts (by decide +kernel) hown hK hP 1 rfl rfl 2 (by decide) (hts (.fieldLink RX3 19 "CellarPushers$Scene" "stepsDone" "I") (by decide +kernel)) (fun _ h9 => h9) rfl dX3_become_18 ?_
  refine va_put (D := D) (ci := 3) (v := .int 0) (ty := .int) (C := RX3) (T := TX3) (N := 4) hx hb hts (by decide +kernel) tyX3 tyX3_ok nmX3 hown hK hP hD hS 0 rfl rfl 2 (by decide) (hts (.fieldLink RX3 19 "CellarPushers$Scene" "stepsDone" "I") (by decide +kernel)) (fun _ h9 => h9) rfl (by decide +kernel) rfl rfl (Nat.le_of_ble_eq_true rfl) dX3_become_21 (fun H locs hP hD hS => ?_)
  have hP : va_P D vwCl [(tr, .inr (3, [.int (-1), .long 0, .int 0, .int 0])), (sc, .inr (3, [.int (-1), .long 0, .int 0, .int 0]))] H := hP
  have hD : va_D A [(tr, .inr (3, [.int (-1), .long 0, .int 0, .int 0])), (sc, .inr (3, [.int (-1), .long 0, .int 0, .int 0]))] := hD
  refine lv_aload_n hx hb dX3_become_24 rfl (lv_at hl 0 rfl) ?_
  refine lv_aload_n hx hb dX3_become_25 rfl (lv_at hl 1 rfl) ?_
  refine va_get (D := D) (ci := 3) (v := .int 0) (C := RX3) (T := TX3) (N := 4) hx hb hts (by decide +kernel) hown hK hP 1 rfl rfl 3 (by decide) (hts (.fieldLink RX3 22 "CellarPushers$Scene" "pushesDone" "I") (by decide +kernel)) (fun _ h9 => h9) rfl dX3_become_26 ?_
  refine va_put (D := D) (ci := 3) (v := .int 0) (ty := .int) (C := RX3) (T := TX3) (N := 4) hx hb hts (by decide +kernel) tyX3 tyX3_ok nmX3 hown hK hP hD hS 0 rfl rfl 3 (by decide) (hts (.fieldLink RX3 22 "CellarPushers$Scene" "pushesDone" "I") (by decide +kernel)) (fun _ h9 => h9) rfl (by decide +kernel) rfl rfl (Nat.le_of_ble_eq_true rfl) dX3_become_29 (fun H locs hP hD hS => ?_)
  have hP : va_P D vwCl [(tr, .inr (3, [.int (-1), .long 0, .int 0, .int 0])), (sc, .inr (3, [.int (-1), .long 0, .int 0, .int 0]))] H := hP
  have hD : va_D A [(tr, .inr (3, [.int (-1), .long 0, .int 0, .int 0])), (sc, .inr (3, [.int (-1), .long 0, .int 0, .int 0]))] := hD
  have hP9 := hP.sub (ws' := [(tr, .inr (3, [.int (-1), .long 0, .int 0, .int 0])), (sc, .inr (3, [.int (-1), .long 0, .int 0, .int 0]))]) [0, 1] rfl
  have hD9 := hD.sub (ws' := [(tr, .inr (3, [.int (-1), .long 0, .int 0, .int 0])), (sc, .inr (3, [.int (-1), .long 0, .int 0, .int 0]))]) [0, 1] (by decide) rfl
  exact W.vret hx hb hr (fun t ht hW => ⟨⟨(), rfl, trivial, ⟨by rw [ht]; exact hP9, hD9⟩⟩, hS.F ht⟩) hS.2.2 dX3_become_32
set_option maxHeartbeats 4000000 in
set_option maxRecDepth 100000 in
theorem k_X3_hasMan (l : Launch) (D : va_G) (kI kZ kJ : ClassId)  (sc : Nat) : Met l yX3_hasMan wsX3_hasMan ({ frames := 0, cells := 0, slots := 0, locals := 0 }) (qR D kI kZ kJ [(sc, .inr (3, [.int (-1), .long 0, .int 0, .int 0]))] [.ref sc]) (vp_Si (fun r : Int32 => r = 0)) 0 0 (fun _ => False) := by
  refine Met.ofW (cc := cX3_hasMan) (maxL := 1) (ret := (some .boolean)) (by decide) rfl ?_
  intro p e s m args below meth c s₁ B hml hv
  obtain ⟨rfl, hP, hK, hN⟩ := hv
  have hx := B.exec
  have hb := B.bytes
  have hr := B.returns
  have hts := atoms_spec (ws := wsX3_hasMan) B.pre
  have hown : s.vm.findClass RX3 = some m.cls := findClass_of_methodNamed B.named
  have hlocks := B.notSynchronized
  have hP : va_P D vwCl [(sc, .inr (3, [.int (-1), .long 0, .int 0, .int 0]))] s.heap := hP
  have hl := lv_entry ([.ref sc]) (n := 1) (Nat.le_of_ble_eq_true rfl)
  rw [lg_entry_eq]
  generalize (lg_sl ([.ref sc]) ++ List.replicate (1 - (lg_sl ([.ref sc])).length) Slot.unset).toArray = ls at hl ⊢
  have hl : lv_has ls 1 [(0, .ref sc)] := hl
  refine lv_aload_n hx hb dX3_hasMan_0 rfl (lv_at hl 0 rfl) ?_
  refine va_get (D := D) (ci := 3) (v := .int (-1)) (C := RX3) (T := TX3) (N := 4) hx hb hts (by decide +kernel) hown hK hP 0 rfl rfl 0 (by decide) (hts (.fieldLink RX3 9 "CellarPushers$Scene" "manAt" "I") (by decide +kernel)) (fun _ h9 => h9) rfl dX3_hasMan_1 ?_
  refine lv_iconst (v := (-1)) hx hb dX3_hasMan_4 (by decide) ?_
  refine lv_icmp_eq (tgt := 12) hx hb dX3_hasMan_5 (by decide) (fun _ => ?_) (fun h9 => absurd (by decide : ((-1) : Int32) = ((-1) : Int32)) h9)
  refine lv_iconst (v := 0) hx hb dX3_hasMan_12 (by decide) ?_
  exact W.zret (v := 0) (ty := .boolean) hx hb hr rfl (fun t ht hW => ⟨_, rfl, rfl, ht⟩) (fun q hq => by cases hq) dX3_hasMan_13
set_option maxHeartbeats 4000000 in
set_option maxRecDepth 100000 in
theorem k_X3_hasBarrel (l : Launch) (D : va_G) (kI kZ kJ : ClassId)  (sc : Nat) (n : Nat) (hn : n < 64) : Met l yX3_hasBarrel wsX3_hasBarrel ({ frames := 2, cells := 0, slots := 0, locals := 42 }) (qR D kI kZ kJ [(sc, .inr (3, [.int (-1), .long 0, .int 0, .int 0]))] [.ref sc, .int (nI n)]) (vp_Si (fun r : Int32 => r = 0)) 0 0 (fun _ => False) := by
  refine Met.ofW (cc := cX3_hasBarrel) (maxL := 2) (ret := (some .boolean)) (by decide) rfl ?_
  intro p e s m args below meth c s₁ B hml hv
  obtain ⟨rfl, hP, hK, hN⟩ := hv
  have hx := B.exec
  have hb := B.bytes
  have hr := B.returns
  have hts := atoms_spec (ws := wsX3_hasBarrel) B.pre
  have hown : s.vm.findClass RX3 = some m.cls := findClass_of_methodNamed B.named
  have hlocks := B.notSynchronized
  have hP : va_P D vwCl [(sc, .inr (3, [.int (-1), .long 0, .int 0, .int 0]))] s.heap := hP
  have hl := lv_entry ([.ref sc, .int (nI n)]) (n := 2) (Nat.le_of_ble_eq_true rfl)
  rw [lg_entry_eq]
  generalize (lg_sl ([.ref sc, .int (nI n)]) ++ List.replicate (2 - (lg_sl ([.ref sc, .int (nI n)])).length) Slot.unset).toArray = ls at hl ⊢
  have hl : lv_has ls 2 [(0, .ref sc), (1, .int (nI n))] := hl
  refine lv_aload_n hx hb dX3_hasBarrel_0 rfl (lv_at hl 0 rfl) ?_
  refine va_get (D := D) (ci := 3) (v := .long 0) (C := RX3) (T := TX3) (N := 4) hx hb hts (by decide +kernel) hown hK hP 0 rfl rfl 1 (by decide) (hts (.fieldLink RX3 15 "CellarPushers$Scene" "barrels" "J") (by decide +kernel)) (fun _ h9 => h9) rfl dX3_hasBarrel_1 ?_
  refine lv_iload_n hx hb dX3_hasBarrel_4 rfl (lv_at hl 1 rfl) ?_
  refine vp_callSi (qSN_R (n := 2) (As := [.long 0, .int (nI n)]) (rest := []) (wc := []) (host := RX8) ⟨hx, hb, hml, hown, hts⟩ hK hN hP [] rfl (k_X8_has l D kI kZ kJ n hn) gX3_hasBarrel_X8_has_n25 rfl rfl rfl (by decide) (hts (.initialized RX8) (by decide +kernel)) (hts (.static yX8_has) (by decide +kernel)) (by decide +kernel) ⟨(Nat.le_of_ble_eq_true rfl), (Nat.le_of_ble_eq_true rfl)⟩ rfl hl.1 rfl (Nat.le_of_ble_eq_true rfl) dX3_hasBarrel_5 ⟨(Nat.le_of_ble_eq_true rfl), (Nat.le_of_ble_eq_true rfl)⟩).run (fun r hw => ?_)
  obtain rfl := hw
  exact W.zret (v := 0) (ty := .boolean) hx hb hr rfl (fun t ht hW => ⟨_, rfl, rfl, ht⟩) (fun q hq => by cases hq) dX3_hasBarrel_8
set_option maxHeartbeats 4000000 in
set_option maxRecDepth 100000 in
theorem k_X3_isTaken (l : Launch) (D : va_G) (kI kZ kJ : ClassId)  (sc : Nat) (n : Nat) (hn : n < 64) : Met l yX3_isTaken wsX3_isTaken ({ frames := 3, cells := 0, slots := 0, locals := 63 }) (qR D kI kZ kJ [(sc, .inr (3, [.int (-1), .long 0, .int 0, .int 0]))] [.ref sc, .int (nI n)]) (vp_Si (fun r : Int32 => r = 0)) 0 0 (fun _ => False) := by
  refine Met.ofW (cc := cX3_isTaken) (maxL := 2) (ret := (some .boolean)) (by decide) rfl ?_
  intro p e s m args below meth c s₁ B hml hv
  obtain ⟨rfl, hP, hK, hN⟩ := hv
  have hx := B.exec
  have hb := B.bytes
  have hr := B.returns
  have hts := atoms_spec (ws := wsX3_isTaken) B.pre
  have hown : s.vm.findClass RX3 = some m.cls := findClass_of_methodNamed B.named
  have hlocks := B.notSynchronized
  have hP : va_P D vwCl [(sc, .inr (3, [.int (-1), .long 0, .int 0, .int 0]))] s.heap := hP
  have hl := lv_entry ([.ref sc, .int (nI n)]) (n := 2) (Nat.le_of_ble_eq_true rfl)
  rw [lg_entry_eq]
  generalize (lg_sl ([.ref sc, .int (nI n)]) ++ List.replicate (2 - (lg_sl ([.ref sc, .int (nI n)])).length) Slot.unset).toArray = ls at hl ⊢
  have hl : lv_has ls 2 [(0, .ref sc), (1, .int (nI n))] := hl
  refine lv_aload_n hx hb dX3_isTaken_0 rfl (lv_at hl 0 rfl) ?_
  refine va_get (D := D) (ci := 3) (v := .int (-1)) (C := RX3) (T := TX3) (N := 4) hx hb hts (by decide +kernel) hown hK hP 0 rfl rfl 0 (by decide) (hts (.fieldLink RX3 9 "CellarPushers$Scene" "manAt" "I") (by decide +kernel)) (fun _ h9 => h9) rfl dX3_isTaken_1 ?_
  refine lv_iload_n hx hb dX3_isTaken_4 rfl (lv_at hl 1 rfl) ?_
  refine lv_icmp_eq (tgt := 16) hx hb dX3_isTaken_5 (by decide) (fun h9 => absurd h9 (by have hq := hn; exact fun h => q_ne1 (c := (-1)) (by decide) (by omega) h.symm)) (fun _ => ?_)
  refine lv_aload_n hx hb dX3_isTaken_8 rfl (lv_at hl 0 rfl) ?_
  refine lv_iload_n hx hb dX3_isTaken_9 rfl (lv_at hl 1 rfl) ?_
  refine vp_callSi (qV_R (n := 1) (As := [.int (nI n)]) (rest := []) (wc := [(sc, .inr (3, [.int (-1), .long 0, .int 0, .int 0]))]) ⟨hx, hb, hml, hown, hts⟩ hK hN hP [0] rfl (k_X3_hasBarrel l D kI kZ kJ sc n hn) gX3_isTaken_X3_hasBarrel rfl rfl rfl (by decide +kernel) ⟨(Nat.le_of_ble_eq_true rfl), (Nat.le_of_ble_eq_true rfl)⟩ 0 3 rfl rfl rfl rfl hl.1 rfl (Nat.le_of_ble_eq_true rfl) dX3_isTaken_10 ⟨(Nat.le_of_ble_eq_true rfl), (Nat.le_of_ble_eq_true rfl)⟩).run (fun r hw => ?_)
  obtain rfl := hw
  refine lv_if_eq (tgt := 20) hx hb dX3_isTaken_13 (by decide) (fun _ => ?_) (fun h9 => absurd (by decide : (0 : Int32) = (0 : Int32)) h9)
  refine lv_iconst (v := 0) hx hb dX3_isTaken_20 (by decide) ?_
  exact W.zret (v := 0) (ty := .boolean) hx hb hr rfl (fun t ht hW => ⟨_, rfl, rfl, ht⟩) (fun q hq => by cases hq) dX3_isTaken_21
set_option maxHeartbeats 4000000 in
set_option maxRecDepth 100000 in
theorem k_X3_advance (l : Launch) (D : va_G) (kI kZ kJ : ClassId)  (sc g : Nat) (w : Int32) : Met l yX3_advance wsX3_advance ({ frames := 1, cells := 0, slots := 0, locals := 20 }) (qR D kI kZ kJ [(sc, .inr (3, [.int (-1), .long 0, .int 0, .int 0]))] [.ref sc, .ref g, .int w]) (vp_Si (fun r : Int32 => r = -2)) 0 0 (fun _ => False) := by
  refine Met.ofW (cc := cX3_advance) (maxL := 6) (ret := (some .int)) (by decide) rfl ?_
  intro p e s m args below meth c s₁ B hml hv
  obtain ⟨rfl, hP, hK, hN⟩ := hv
  have hx := B.exec
  have hb := B.bytes
  have hr := B.returns
  have hts := atoms_spec (ws := wsX3_advance) B.pre
  have hown : s.vm.findClass RX3 = some m.cls := findClass_of_methodNamed B.named
  have hlocks := B.notSynchronized
  have hP : va_P D vwCl [(sc, .inr (3, [.int (-1), .long 0, .int 0, .int 0]))] s.heap := hP
  have hl := lv_entry ([.ref sc, .ref g, .int w]) (n := 6) (Nat.le_of_ble_eq_true rfl)
  rw [lg_entry_eq]
  generalize (lg_sl ([.ref sc, .ref g, .int w]) ++ List.replicate (6 - (lg_sl ([.ref sc, .ref g, .int w])).length) Slot.unset).toArray = ls at hl ⊢
  have hl : lv_has ls 6 [(0, .ref sc), (1, .ref g), (2, .int w)] := hl
  refine lv_aload_n hx hb dX3_advance_0 rfl (lv_at hl 0 rfl) ?_
  refine vp_callSi (qV_R (n := 0) (As := []) (rest := []) (wc := [(sc, .inr (3, [.int (-1), .long 0, .int 0, .int 0]))]) ⟨hx, hb, hml, hown, hts⟩ hK hN hP [0] rfl (k_X3_hasMan l D kI kZ kJ sc) gX3_advance_X3_hasMan rfl rfl rfl (by decide +kernel) ⟨(Nat.le_of_ble_eq_true rfl), (Nat.le_of_ble_eq_true rfl)⟩ 0 3 rfl rfl rfl rfl hl.1 rfl (Nat.le_of_ble_eq_true rfl) dX3_advance_1 ⟨(Nat.le_of_ble_eq_true rfl), (Nat.le_of_ble_eq_true rfl)⟩).run (fun r hw => ?_)
  obtain rfl := hw
  refine lv_if_eq (tgt := 14) hx hb dX3_advance_4 (by decide) (fun _ => ?_) (fun h9 => absurd (by decide : (0 : Int32) = (0 : Int32)) h9)
  refine lv_bipush (v := (-2)) hx hb dX3_advance_14 (by decide) ?_
  exact W.iret (v := (-2)) hx hb hr (fun t ht hW => ⟨_, rfl, rfl, ht⟩) (fun q hq => by cases hq) dX3_advance_16
set_option maxHeartbeats 4000000 in
set_option maxRecDepth 100000 in
theorem k_X3_advanceBy (l : Launch) (D : va_G) (kI kZ kJ : ClassId)  (sc g o w : Nat) : Met l yX3_advanceBy wsX3_advanceBy ({ frames := 0, cells := 0, slots := 0, locals := 0 }) (qR D kI kZ kJ [(o, .inr (7, [.int 0, .ref w]))] [.ref sc, .ref g, .ref o]) (vp_Si (fun r : Int32 => r = 0)) 0 0 (fun _ => False) := by
  refine Met.ofW (cc := cX3_advanceBy) (maxL := 4) (ret := (some .int)) (by decide) rfl ?_
  intro p e s m args below meth c s₁ B hml hv
  obtain ⟨rfl, hP, hK, hN⟩ := hv
  have hx := B.exec
  have hb := B.bytes
  have hr := B.returns
  have hts := atoms_spec (ws := wsX3_advanceBy) B.pre
  have hown : s.vm.findClass RX3 = some m.cls := findClass_of_methodNamed B.named
  have hlocks := B.notSynchronized
  have hP : va_P D vwCl [(o, .inr (7, [.int 0, .ref w]))] s.heap := hP
  have hl := lv_entry ([.ref sc, .ref g, .ref o]) (n := 4) (Nat.le_of_ble_eq_true rfl)
  rw [lg_entry_eq]
  generalize (lg_sl ([.ref sc, .ref g, .ref o]) ++ List.replicate (4 - (lg_sl ([.ref sc, .ref g, .ref o])).length) Slot.unset).toArray = ls at hl ⊢
  have hl : lv_has ls 4 [(0, .ref sc), (1, .ref g), (2, .ref o)] := hl
  refine lv_iconst (v := 0) hx hb dX3_advanceBy_0 (by decide) ?_
  refine lv_istore_n (lv' := [(3, .int 0), (0, .ref sc), (1, .ref g), (2, .ref o)]) hx hb dX3_advanceBy_1 rfl hl (by decide) rfl (fun ls hl => ?_)
  refine lv_iload_n hx hb dX3_advanceBy_2 rfl (lv_at hl 0 rfl) ?_
  refine lv_aload_n hx hb dX3_advanceBy_3 rfl (lv_at hl 3 rfl) ?_
  refine va_get (D := D) (ci := 7) (v := .int 0) (C := RX7) (T := TX7) (N := 2) hx hb hts (by decide +kernel) hown hK hP 0 rfl rfl 0 (by decide) (hts (.fieldLink RX3 54 "CellarPushers$Ways" "size" "I") (by decide +kernel)) (fun _ h9 => h9) rfl dX3_advanceBy_4 ?_
  refine lv_icmp_ge (tgt := 29) hx hb dX3_advanceBy_7 (by decide) (fun _ => ?_) (fun h9 => absurd (by decide : (0 : Int32) ≤ (0 : Int32)) h9)
  refine lv_iload_n hx hb dX3_advanceBy_29 rfl (lv_at hl 0 rfl) ?_
  exact W.iret (v := 0) hx hb hr (fun t ht hW => ⟨_, rfl, rfl, ht⟩) (fun q hq => by cases hq) dX3_advanceBy_30
set_option maxHeartbeats 4000000 in
set_option maxRecDepth 100000 in
theorem k_X5_forget (l : Launch) (D : va_G) (kI kZ kJ : ClassId)  (tl tm tb ts tq : Nat) (sz : Nat) : Met l yX5_forget wsX5_forget ({ frames := 0, cells := 0, slots := 0, locals := 0 }) (qW D kI kZ kJ [(tl, .inr (5, [.int 0, .int 0, .ref tm, .ref tb, .ref ts, .ref tq]))] sz [.ref tl]) (va_Qv (fun (u : Unit) => True) (qB D (fun u : Unit => []) (va_A [(tl, .inr (5, [.int 0, .int 0, .ref tm, .ref tb, .ref ts, .ref tq]))] sz)) (va_A [(tl, .inr (5, [.int 0, .int 0, .ref tm, .ref tb, .ref ts, .ref tq]))] sz)) 0 0 (va_A [(tl, .inr (5, [.int 0, .int 0, .ref tm, .ref tb, .ref ts, .ref tq]))] sz) := by
  refine Met.ofW (cc := cX5_forget) (maxL := 1) (ret := none) (by decide) rfl ?_
  intro p e s m args below meth c s₁ B hml hv
  obtain ⟨rfl, hsz, hP, hK, hD0, hN⟩ := hv
  have hx := B.exec
  have hb := B.bytes
  have hr := B.returns
  have hts := atoms_spec (ws := wsX5_forget) B.pre
  have hown : s.vm.findClass RX5 = some m.cls := findClass_of_methodNamed B.named
  have hlocks := B.notSynchronized
  subst hsz
  have hD := hD0.self (sz := s.heap.size)
  generalize hAe : va_A [(tl, .inr (5, [.int 0, .int 0, .ref tm, .ref tb, .ref ts, .ref tq]))] s.heap.size = A at hD ⊢
  have hA : ∀ q : Nat, s.heap.size ≤ q → A q := fun q h => by rw [← hAe]; exact Or.inr h
  have hS : va_S A s.heap s.heap [] := va_S.rf
  have hP : va_P D vwCl [(tl, .inr (5, [.int 0, .int 0, .ref tm, .ref tb, .ref ts, .ref tq]))] s.heap := hP
  have hl := lv_entry ([.ref tl]) (n := 1) (Nat.le_of_ble_eq_true rfl)
  rw [lg_entry_eq]
  generalize (lg_sl ([.ref tl]) ++ List.replicate (1 - (lg_sl ([.ref tl])).length) Slot.unset).toArray = ls at hl ⊢
  have hl : lv_has ls 1 [(0, .ref tl)] := hl
  refine lv_aload_n hx hb dX5_forget_0 rfl (lv_at hl 0 rfl) ?_
  refine lv_iconst (v := 0) hx hb dX5_forget_1 (by decide) ?_
  refine va_put (D := D) (ci := 5) (v := .int 0) (ty := .int) (C := RX5) (T := TX5) (N := 6) hx hb hts (by decide +kernel) tyX5 tyX5_ok nmX5 hown hK hP hD hS 0 rfl rfl 0 (by decide) (hts (.fieldLink RX5 25 "CellarPushers$Timeline" "now" "I") (by decide +kernel)) (fun _ h9 => h9) rfl (by decide +kernel) rfl rfl (Nat.le_of_ble_eq_true rfl) dX5_forget_2 (fun H locs hP hD hS => ?_)
  have hP : va_P D vwCl [(tl, .inr (5, [.int 0, .int 0, .ref tm, .ref tb, .ref ts, .ref tq]))] H := hP
  have hD : va_D A [(tl, .inr (5, [.int 0, .int 0, .ref tm, .ref tb, .ref ts, .ref tq]))] := hD
  refine lv_aload_n hx hb dX5_forget_5 rfl (lv_at hl 0 rfl) ?_
  refine lv_iconst (v := 0) hx hb dX5_forget_6 (by decide) ?_
  refine va_put (D := D) (ci := 5) (v := .int 0) (ty := .int) (C := RX5) (T := TX5) (N := 6) hx hb hts (by decide +kernel) tyX5 tyX5_ok nmX5 hown hK hP hD hS 0 rfl rfl 1 (by decide) (hts (.fieldLink RX5 29 "CellarPushers$Timeline" "last" "I") (by decide +kernel)) (fun _ h9 => h9) rfl (by decide +kernel) rfl rfl (Nat.le_of_ble_eq_true rfl) dX5_forget_7 (fun H locs hP hD hS => ?_)
  have hP : va_P D vwCl [(tl, .inr (5, [.int 0, .int 0, .ref tm, .ref tb, .ref ts, .ref tq]))] H := hP
  have hD : va_D A [(tl, .inr (5, [.int 0, .int 0, .ref tm, .ref tb, .ref ts, .ref tq]))] := hD
  have hP9 := hP.sub (ws' := []) [] rfl
  have hD9 := hD.sub (ws' := []) [] (by decide) rfl
  exact W.vret hx hb hr (fun t ht hW => ⟨⟨(), rfl, trivial, ⟨by rw [ht]; exact hP9, hD9⟩⟩, hS.F ht⟩) hS.2.2 dX5_forget_10
set_option maxHeartbeats 4000000 in
set_option maxRecDepth 100000 in
theorem k_X5_goBack (l : Launch) (D : va_G) (kI kZ kJ : ClassId)  (tl tm tb ts tq : Nat) (sc : Nat) : Met l yX5_goBack wsX5_goBack ({ frames := 0, cells := 0, slots := 0, locals := 0 }) (qR D kI kZ kJ [(tl, .inr (5, [.int 0, .int 0, .ref tm, .ref tb, .ref ts, .ref tq]))] [.ref tl, .ref sc]) (vp_Si (fun r : Int32 => r = -2)) 0 0 (fun _ => False) := by
  refine Met.ofW (cc := cX5_goBack) (maxL := 2) (ret := (some .int)) (by decide) rfl ?_
  intro p e s m args below meth c s₁ B hml hv
  obtain ⟨rfl, hP, hK, hN⟩ := hv
  have hx := B.exec
  have hb := B.bytes
  have hr := B.returns
  have hts := atoms_spec (ws := wsX5_goBack) B.pre
  have hown : s.vm.findClass RX5 = some m.cls := findClass_of_methodNamed B.named
  have hlocks := B.notSynchronized
  have hP : va_P D vwCl [(tl, .inr (5, [.int 0, .int 0, .ref tm, .ref tb, .ref ts, .ref tq]))] s.heap := hP
  have hl := lv_entry ([.ref tl, .ref sc]) (n := 2) (Nat.le_of_ble_eq_true rfl)
  rw [lg_entry_eq]
  generalize (lg_sl ([.ref tl, .ref sc]) ++ List.replicate (2 - (lg_sl ([.ref tl, .ref sc])).length) Slot.unset).toArray = ls at hl ⊢
  have hl : lv_has ls 2 [(0, .ref tl), (1, .ref sc)] := hl
  refine lv_aload_n hx hb dX5_goBack_0 rfl (lv_at hl 0 rfl) ?_
  refine va_get (D := D) (ci := 5) (v := .int 0) (C := RX5) (T := TX5) (N := 6) hx hb hts (by decide +kernel) hown hK hP 0 rfl rfl 0 (by decide) (hts (.fieldLink RX5 25 "CellarPushers$Timeline" "now" "I") (by decide +kernel)) (fun _ h9 => h9) rfl dX5_goBack_1 ?_
  refine lv_if_gt (tgt := 10) hx hb dX5_goBack_4 (by decide) (fun h9 => absurd h9 (by decide : ¬ ((0 : Int32) < (0 : Int32)))) (fun _ => ?_)
  refine lv_bipush (v := (-2)) hx hb dX5_goBack_7 (by decide) ?_
  exact W.iret (v := (-2)) hx hb hr (fun t ht hW => ⟨_, rfl, rfl, ht⟩) (fun q hq => by cases hq) dX5_goBack_9
set_option maxHeartbeats 4000000 in
set_option maxRecDepth 100000 in
theorem k_X5_goForth (l : Launch) (D : va_G) (kI kZ kJ : ClassId)  (tl tm tb ts tq : Nat) (sc : Nat) : Met l yX5_goForth wsX5_goForth ({ frames := 0, cells := 0, slots := 0, locals := 0 }) (qR D kI kZ kJ [(tl, .inr (5, [.int 0, .int 0, .ref tm, .ref tb, .ref ts, .ref tq]))] [.ref tl, .ref sc]) (vp_Si (fun r : Int32 => r = -2)) 0 0 (fun _ => False) := by
  refine Met.ofW (cc := cX5_goForth) (maxL := 2) (ret := (some .int)) (by decide) rfl ?_
  intro p e s m args below meth c s₁ B hml hv
  obtain ⟨rfl, hP, hK, hN⟩ := hv
  have hx := B.exec
  have hb := B.bytes
  have hr := B.returns
  have hts := atoms_spec (ws := wsX5_goForth) B.pre
  have hown : s.vm.findClass RX5 = some m.cls := findClass_of_methodNamed B.named
  have hlocks := B.notSynchronized
  have hP : va_P D vwCl [(tl, .inr (5, [.int 0, .int 0, .ref tm, .ref tb, .ref ts, .ref tq]))] s.heap := hP
  have hl := lv_entry ([.ref tl, .ref sc]) (n := 2) (Nat.le_of_ble_eq_true rfl)
  rw [lg_entry_eq]
  generalize (lg_sl ([.ref tl, .ref sc]) ++ List.replicate (2 - (lg_sl ([.ref tl, .ref sc])).length) Slot.unset).toArray = ls at hl ⊢
  have hl : lv_has ls 2 [(0, .ref tl), (1, .ref sc)] := hl
  refine lv_aload_n hx hb dX5_goForth_0 rfl (lv_at hl 0 rfl) ?_
  refine va_get (D := D) (ci := 5) (v := .int 0) (C := RX5) (T := TX5) (N := 6) hx hb hts (by decide +kernel) hown hK hP 0 rfl rfl 0 (by decide) (hts (.fieldLink RX5 25 "CellarPushers$Timeline" "now" "I") (by decide +kernel)) (fun _ h9 => h9) rfl dX5_goForth_1 ?_
  refine lv_aload_n hx hb dX5_goForth_4 rfl (lv_at hl 0 rfl) ?_
  refine va_get (D := D) (ci := 5) (v := .int 0) (C := RX5) (T := TX5) (N := 6) hx hb hts (by decide +kernel) hown hK hP 0 rfl rfl 1 (by decide) (hts (.fieldLink RX5 29 "CellarPushers$Timeline" "last" "I") (by decide +kernel)) (fun _ h9 => h9) rfl dX5_goForth_5 ?_
  refine lv_icmp_lt (tgt := 14) hx hb dX5_goForth_8 (by decide) (fun h9 => absurd h9 (by decide : ¬ ((0 : Int32) < (0 : Int32)))) (fun _ => ?_)
  refine lv_bipush (v := (-2)) hx hb dX5_goForth_11 (by decide) ?_
  exact W.iret (v := (-2)) hx hb hr (fun t ht hW => ⟨_, rfl, rfl, ht⟩) (fun q hq => by cases hq) dX5_goForth_13
set_option maxHeartbeats 4000000 in
set_option maxRecDepth 100000 in
theorem k_X7_isIn (l : Launch) (D : va_G) (kI kZ kJ : ClassId)  (o w : Nat) (x : Int32) : Met l yX7_isIn wsX7_isIn ({ frames := 0, cells := 0, slots := 0, locals := 0 }) (qR D kI kZ kJ [(o, .inr (7, [.int 0, .ref w])), (w, .inl (kI, 400, .inl (fun _ => 0)))] [.ref o, .int x]) (vp_Si (fun r : Int32 => r = 0)) 0 0 (fun _ => False) := by
  refine Met.ofW (cc := cX7_isIn) (maxL := 2) (ret := (some .boolean)) (by decide) rfl ?_
  intro p e s m args below meth c s₁ B hml hv
  obtain ⟨rfl, hP, hK, hN⟩ := hv
  have hx := B.exec
  have hb := B.bytes
  have hr := B.returns
  have hts := atoms_spec (ws := wsX7_isIn) B.pre
  have hown : s.vm.findClass RX7 = some m.cls := findClass_of_methodNamed B.named
  have hlocks := B.notSynchronized
  have hP : va_P D vwCl [(o, .inr (7, [.int 0, .ref w])), (w, .inl (kI, 400, .inl (fun _ => 0)))] s.heap := hP
  have hl := lv_entry ([.ref o, .int x]) (n := 2) (Nat.le_of_ble_eq_true rfl)
  rw [lg_entry_eq]
  generalize (lg_sl ([.ref o, .int x]) ++ List.replicate (2 - (lg_sl ([.ref o, .int x])).length) Slot.unset).toArray = ls at hl ⊢
  have hl : lv_has ls 2 [(0, .ref o), (1, .int x)] := hl
  refine lv_iload_n hx hb dX7_isIn_0 rfl (lv_at hl 1 rfl) ?_
  refine lv_if_lt (tgt := 25) hx hb dX7_isIn_1 (by decide) (fun c_1 => ?_) (fun c_1 => ?_)
  · skip
    refine lv_iconst (v := 0) hx hb dX7_isIn_25 (by decide) ?_
    exact W.zret (v := 0) (ty := .boolean) hx hb hr rfl (fun t ht hW => ⟨_, rfl, rfl, ht⟩) (fun q hq => by cases hq) dX7_isIn_26
  · skip
    refine lv_iload_n hx hb dX7_isIn_4 rfl (lv_at hl 1 rfl) ?_
    refine lv_aload_n hx hb dX7_isIn_5 rfl (lv_at hl 0 rfl) ?_
    refine va_get (D := D) (ci := 7) (v := .int 0) (C := RX7) (T := TX7) (N := 2) hx hb hts (by decide +kernel) hown hK hP 0 rfl rfl 0 (by decide) (hts (.fieldLink RX7 19 "CellarPushers$Ways" "size" "I") (by decide +kernel)) (fun _ h9 => h9) rfl dX7_isIn_6 ?_
    refine lv_icmp_ge (tgt := 25) hx hb dX7_isIn_9 (by decide) (fun _ => ?_) (fun h9 => absurd (Int32.not_lt.mp (by assumption)) h9)
    refine lv_iconst (v := 0) hx hb dX7_isIn_25 (by decide) ?_
    exact W.zret (v := 0) (ty := .boolean) hx hb hr rfl (fun t ht hW => ⟨_, rfl, rfl, ht⟩) (fun q hq => by cases hq) dX7_isIn_26
set_option maxHeartbeats 4000000 in
set_option maxRecDepth 100000 in
theorem k_X7_wayAt (l : Launch) (D : va_G) (kI kZ kJ : ClassId)  (o w : Nat) (x : Int32) : Met l yX7_wayAt wsX7_wayAt ({ frames := 1, cells := 0, slots := 0, locals := 21 }) (qR D kI kZ kJ [(o, .inr (7, [.int 0, .ref w])), (w, .inl (kI, 400, .inl (fun _ => 0)))] [.ref o, .int x]) (vp_Si (fun r : Int32 => r = -2)) 0 0 (fun _ => False) := by
  refine Met.ofW (cc := cX7_wayAt) (maxL := 2) (ret := (some .int)) (by decide) rfl ?_
  intro p e s m args below meth c s₁ B hml hv
  obtain ⟨rfl, hP, hK, hN⟩ := hv
  have hx := B.exec
  have hb := B.bytes
  have hr := B.returns
  have hts := atoms_spec (ws := wsX7_wayAt) B.pre
  have hown : s.vm.findClass RX7 = some m.cls := findClass_of_methodNamed B.named
  have hlocks := B.notSynchronized
  have hP : va_P D vwCl [(o, .inr (7, [.int 0, .ref w])), (w, .inl (kI, 400, .inl (fun _ => 0)))] s.heap := hP
  have hl := lv_entry ([.ref o, .int x]) (n := 2) (Nat.le_of_ble_eq_true rfl)
  rw [lg_entry_eq]
  generalize (lg_sl ([.ref o, .int x]) ++ List.replicate (2 - (lg_sl ([.ref o, .int x])).length) Slot.unset).toArray = ls at hl ⊢
  have hl : lv_has ls 2 [(0, .ref o), (1, .int x)] := hl
  refine lv_aload_n hx hb dX7_wayAt_0 rfl (lv_at hl 0 rfl) ?_
  refine lv_iload_n hx hb dX7_wayAt_1 rfl (lv_at hl 1 rfl) ?_
  refine vp_callSi (qV_R (n := 1) (As := [.int x]) (rest := []) (wc := [(o, .inr (7, [.int 0, .ref w])), (w, .inl (kI, 400, .inl (fun _ => 0)))]) ⟨hx, hb, hml, hown, hts⟩ hK hN hP [0, 1] rfl (k_X7_isIn l D kI kZ kJ o w x) gX7_wayAt_X7_isIn rfl rfl rfl (by decide +kernel) ⟨(Nat.le_of_ble_eq_true rfl), (Nat.le_of_ble_eq_true rfl)⟩ 0 7 rfl rfl rfl rfl hl.1 rfl (Nat.le_of_ble_eq_true rfl) dX7_wayAt_2 ⟨(Nat.le_of_ble_eq_true rfl), (Nat.le_of_ble_eq_true rfl)⟩).run (fun r hw => ?_)
  obtain rfl := hw
  refine lv_if_eq (tgt := 17) hx hb dX7_wayAt_5 (by decide) (fun _ => ?_) (fun h9 => absurd (by decide : (0 : Int32) = (0 : Int32)) h9)
  refine lv_bipush (v := (-2)) hx hb dX7_wayAt_17 (by decide) ?_
  exact W.iret (v := (-2)) hx hb hr (fun t ht hW => ⟨_, rfl, rfl, ht⟩) (fun q hq => by cases hq) dX7_wayAt_19
set_option maxHeartbeats 4000000 in
set_option maxRecDepth 100000 in
theorem k_X7_append (l : Launch) (D : va_G) (kI kZ kJ : ClassId)  (o w : Nat) (x : Int32) (sz : Nat) : Met l yX7_append wsX7_append ({ frames := 0, cells := 0, slots := 0, locals := 0 }) (qW D kI kZ kJ [(o, .inr (7, [.int 0, .ref w])), (w, .inl (kI, 400, .inl (fun _ => 0)))] sz [.ref o, .int x]) (va_Qv (fun (u : Unit) => True) (qB D (fun u : Unit => [(o, .inr (7, [.int 1, .ref w]))]) (va_A [(o, .inr (7, [.int 0, .ref w])), (w, .inl (kI, 400, .inl (fun _ => 0)))] sz)) (va_A [(o, .inr (7, [.int 0, .ref w])), (w, .inl (kI, 400, .inl (fun _ => 0)))] sz)) 0 0 (va_A [(o, .inr (7, [.int 0, .ref w])), (w, .inl (kI, 400, .inl (fun _ => 0)))] sz) := by
  refine Met.ofW (cc := cX7_append) (maxL := 2) (ret := none) (by decide) rfl ?_
  intro p e s m args below meth c s₁ B hml hv
  obtain ⟨rfl, hsz, hP, hK, hD0, hN⟩ := hv
  have hx := B.exec
  have hb := B.bytes
  have hr := B.returns
  have hts := atoms_spec (ws := wsX7_append) B.pre
  have hown : s.vm.findClass RX7 = some m.cls := findClass_of_methodNamed B.named
  have hlocks := B.notSynchronized
  subst hsz
  have hD := hD0.self (sz := s.heap.size)
  generalize hAe : va_A [(o, .inr (7, [.int 0, .ref w])), (w, .inl (kI, 400, .inl (fun _ => 0)))] s.heap.size = A at hD ⊢
  have hA : ∀ q : Nat, s.heap.size ≤ q → A q := fun q h => by rw [← hAe]; exact Or.inr h
  have hS : va_S A s.heap s.heap [] := va_S.rf
  have hP : va_P D vwCl [(o, .inr (7, [.int 0, .ref w])), (w, .inl (kI, 400, .inl (fun _ => 0)))] s.heap := hP
  have hl := lv_entry ([.ref o, .int x]) (n := 2) (Nat.le_of_ble_eq_true rfl)
  rw [lg_entry_eq]
  generalize (lg_sl ([.ref o, .int x]) ++ List.replicate (2 - (lg_sl ([.ref o, .int x])).length) Slot.unset).toArray = ls at hl ⊢
  have hl : lv_has ls 2 [(0, .ref o), (1, .int x)] := hl
  refine lv_aload_n hx hb dX7_append_0 rfl (lv_at hl 0 rfl) ?_
  refine va_get (D := D) (ci := 7) (v := .int 0) (C := RX7) (T := TX7) (N := 2) hx hb hts (by decide +kernel) hown hK hP 0 rfl rfl 0 (by decide) (hts (.fieldLink RX7 19 "CellarPushers$Ways" "size" "I") (by decide +kernel)) (fun _ h9 => h9) rfl dX7_append_1 ?_
  refine lv_aload_n hx hb dX7_append_4 rfl (lv_at hl 0 rfl) ?_
  refine va_get (D := D) (ci := 7) (v := .ref w) (C := RX7) (T := TX7) (N := 2) hx hb hts (by decide +kernel) hown hK hP 0 rfl rfl 1 (by decide) (hts (.fieldLink RX7 9 "CellarPushers$Ways" "ways" "[I") (by decide +kernel)) (fun _ h9 => h9) rfl dX7_append_5 ?_
  refine va_alen (v := 400) hx hb hK hP 1 0 rfl rfl (by decide) dX7_append_8 ?_
  refine lv_icmp_lt (tgt := 40) hx hb dX7_append_9 (by decide) (fun _ => ?_) (fun h9 => absurd (by decide : (0 : Int32) < (400 : Int32)) h9)
  refine lv_aload_n hx hb dX7_append_40 rfl (lv_at hl 0 rfl) ?_
  refine va_get (D := D) (ci := 7) (v := .int 0) (C := RX7) (T := TX7) (N := 2) hx hb hts (by decide +kernel) hown hK hP 0 rfl rfl 0 (by decide) (hts (.fieldLink RX7 19 "CellarPushers$Ways" "size" "I") (by decide +kernel)) (fun _ h9 => h9) rfl dX7_append_41 ?_
  refine lv_aload_n hx hb dX7_append_44 rfl (lv_at hl 0 rfl) ?_
  refine va_get (D := D) (ci := 7) (v := .ref w) (C := RX7) (T := TX7) (N := 2) hx hb hts (by decide +kernel) hown hK hP 0 rfl rfl 1 (by decide) (hts (.fieldLink RX7 9 "CellarPushers$Ways" "ways" "[I") (by decide +kernel)) (fun _ h9 => h9) rfl dX7_append_45 ?_
  refine va_alen (v := 400) hx hb hK hP 1 0 rfl rfl (by decide) dX7_append_48 ?_
  refine lv_icmp_ge (tgt := 72) hx hb dX7_append_49 (by decide) (fun h9 => absurd h9 (by decide : ¬ ((400 : Int32) ≤ (0 : Int32)))) (fun _ => ?_)
  refine lv_aload_n hx hb dX7_append_52 rfl (lv_at hl 0 rfl) ?_
  refine va_get (D := D) (ci := 7) (v := .ref w) (C := RX7) (T := TX7) (N := 2) hx hb hts (by decide +kernel) hown hK hP 0 rfl rfl 1 (by decide) (hts (.fieldLink RX7 9 "CellarPushers$Ways" "ways" "[I") (by decide +kernel)) (fun _ h9 => h9) rfl dX7_append_53 ?_
  refine lv_aload_n hx hb dX7_append_56 rfl (lv_at hl 0 rfl) ?_
  refine va_get (D := D) (ci := 7) (v := .int 0) (C := RX7) (T := TX7) (N := 2) hx hb hts (by decide +kernel) hown hK hP 0 rfl rfl 0 (by decide) (hts (.fieldLink RX7 19 "CellarPushers$Ways" "size" "I") (by decide +kernel)) (fun _ h9 => h9) rfl dX7_append_57 ?_
  refine lv_iload_n hx hb dX7_append_60 rfl (lv_at hl 1 rfl) ?_
  refine va_iast hx hb hK hP hD hS 1 0 rfl rfl (vp_in_nI (n := 0) (by decide) (by decide)) dX7_append_61 (fun H locs hP hD hS => ?_)
  have hP : va_P D vwCl [(o, .inr (7, [.int 0, .ref w])), (w, .inl (kI, 400, .inl (upd (fun _ => 0) (Int32.toNatClampNeg 0) x)))] H := hP
  have hD : va_D A [(o, .inr (7, [.int 0, .ref w])), (w, .inl (kI, 400, .inl (upd (fun _ => 0) (Int32.toNatClampNeg 0) x)))] := hD
  refine lv_aload_n hx hb dX7_append_62 rfl (lv_at hl 0 rfl) ?_
  refine lv_dup hx hb dX7_append_63 rfl ?_
  refine va_get (D := D) (ci := 7) (v := .int 0) (C := RX7) (T := TX7) (N := 2) hx hb hts (by decide +kernel) hown hK hP 0 rfl rfl 0 (by decide) (hts (.fieldLink RX7 19 "CellarPushers$Ways" "size" "I") (by decide +kernel)) (fun _ h9 => h9) rfl dX7_append_64 ?_
  refine lv_iconst (v := 1) hx hb dX7_append_67 (by decide) ?_
  refine lv_iadd hx hb dX7_append_68 ?_
  refine lv_topi (fun z_2 ez_2 => ?_)
  obtain rfl : z_2 = 1 := ez_2.trans (by decide)
  refine va_put (D := D) (ci := 7) (v := .int 1) (ty := .int) (C := RX7) (T := TX7) (N := 2) hx hb hts (by decide +kernel) tyX7 tyX7_ok nmX7 hown hK hP hD hS 0 rfl rfl 0 (by decide) (hts (.fieldLink RX7 19 "CellarPushers$Ways" "size" "I") (by decide +kernel)) (fun _ h9 => h9) rfl (by decide +kernel) rfl rfl (Nat.le_of_ble_eq_true rfl) dX7_append_69 (fun H locs hP hD hS => ?_)
  have hP : va_P D vwCl [(o, .inr (7, [.int 1, .ref w])), (w, .inl (kI, 400, .inl (upd (fun _ => 0) (Int32.toNatClampNeg 0) x)))] H := hP
  have hD : va_D A [(o, .inr (7, [.int 1, .ref w])), (w, .inl (kI, 400, .inl (upd (fun _ => 0) (Int32.toNatClampNeg 0) x)))] := hD
  have hP9 := hP.sub (ws' := [(o, .inr (7, [.int 1, .ref w]))]) [0] rfl
  have hD9 := hD.sub (ws' := [(o, .inr (7, [.int 1, .ref w]))]) [0] (by decide) rfl
  exact W.vret hx hb hr (fun t ht hW => ⟨⟨(), rfl, trivial, ⟨by rw [ht]; exact hP9, hD9⟩⟩, hS.F ht⟩) hS.2.2 dX7_append_72
set_option maxHeartbeats 4000000 in
set_option maxRecDepth 100000 in
theorem k_X7_become (l : Launch) (D : va_G) (kI kZ kJ : ClassId)  (o w q v : Nat) (sz : Nat) : Met l yX7_become wsX7_become ({ frames := 0, cells := 0, slots := 0, locals := 0 }) (qW D kI kZ kJ [(o, .inr (7, [.int 0, .ref w])), (q, .inr (7, [.int 0, .ref v]))] sz [.ref o, .ref q]) (va_Qv (fun (u : Unit) => True) (qB D (fun u : Unit => [(o, .inr (7, [.int 0, .ref w]))]) (va_A [(o, .inr (7, [.int 0, .ref w])), (q, .inr (7, [.int 0, .ref v]))] sz)) (va_A [(o, .inr (7, [.int 0, .ref w])), (q, .inr (7, [.int 0, .ref v]))] sz)) 0 0 (va_A [(o, .inr (7, [.int 0, .ref w])), (q, .inr (7, [.int 0, .ref v]))] sz) := by
  refine Met.ofW (cc := cX7_become) (maxL := 3) (ret := none) (by decide) rfl ?_
  intro p e s m args below meth c s₁ B hml hv
  obtain ⟨rfl, hsz, hP, hK, hD0, hN⟩ := hv
  have hx := B.exec
  have hb := B.bytes
  have hr := B.returns
  have hts := atoms_spec (ws := wsX7_become) B.pre
  have hown : s.vm.findClass RX7 = some m.cls := findClass_of_methodNamed B.named
  have hlocks := B.notSynchronized
  subst hsz
  have hD := hD0.self (sz := s.heap.size)
  generalize hAe : va_A [(o, .inr (7, [.int 0, .ref w])), (q, .inr (7, [.int 0, .ref v]))] s.heap.size = A at hD ⊢
  have hA : ∀ q : Nat, s.heap.size ≤ q → A q := fun q h => by rw [← hAe]; exact Or.inr h
  have hS : va_S A s.heap s.heap [] := va_S.rf
  have hP : va_P D vwCl [(o, .inr (7, [.int 0, .ref w])), (q, .inr (7, [.int 0, .ref v]))] s.heap := hP
  have hl := lv_entry ([.ref o, .ref q]) (n := 3) (Nat.le_of_ble_eq_true rfl)
  rw [lg_entry_eq]
  generalize (lg_sl ([.ref o, .ref q]) ++ List.replicate (3 - (lg_sl ([.ref o, .ref q])).length) Slot.unset).toArray = ls at hl ⊢
  have hl : lv_has ls 3 [(0, .ref o), (1, .ref q)] := hl
  refine lv_aload_n hx hb dX7_become_0 rfl (lv_at hl 0 rfl) ?_
  refine lv_iconst (v := 0) hx hb dX7_become_1 (by decide) ?_
  refine va_put (D := D) (ci := 7) (v := .int 0) (ty := .int) (C := RX7) (T := TX7) (N := 2) hx hb hts (by decide +kernel) tyX7 tyX7_ok nmX7 hown hK hP hD hS 0 rfl rfl 0 (by decide) (hts (.fieldLink RX7 19 "CellarPushers$Ways" "size" "I") (by decide +kernel)) (fun _ h9 => h9) rfl (by decide +kernel) rfl rfl (Nat.le_of_ble_eq_true rfl) dX7_become_2 (fun H locs hP hD hS => ?_)
  have hP : va_P D vwCl [(o, .inr (7, [.int 0, .ref w])), (q, .inr (7, [.int 0, .ref v]))] H := hP
  have hD : va_D A [(o, .inr (7, [.int 0, .ref w])), (q, .inr (7, [.int 0, .ref v]))] := hD
  refine lv_iconst (v := 0) hx hb dX7_become_5 (by decide) ?_
  refine lv_istore_n (lv' := [(2, .int 0), (0, .ref o), (1, .ref q)]) hx hb dX7_become_6 rfl hl (by decide) rfl (fun ls hl => ?_)
  refine lv_iload_n hx hb dX7_become_7 rfl (lv_at hl 0 rfl) ?_
  refine lv_aload_n hx hb dX7_become_8 rfl (lv_at hl 2 rfl) ?_
  refine va_get (D := D) (ci := 7) (v := .int 0) (C := RX7) (T := TX7) (N := 2) hx hb hts (by decide +kernel) hown hK hP 1 rfl rfl 0 (by decide) (hts (.fieldLink RX7 19 "CellarPushers$Ways" "size" "I") (by decide +kernel)) (fun _ h9 => h9) rfl dX7_become_9 ?_
  refine lv_icmp_ge (tgt := 30) hx hb dX7_become_12 (by decide) (fun _ => ?_) (fun h9 => absurd (by decide : (0 : Int32) ≤ (0 : Int32)) h9)
  have hP9 := hP.sub (ws' := [(o, .inr (7, [.int 0, .ref w]))]) [0] rfl
  have hD9 := hD.sub (ws' := [(o, .inr (7, [.int 0, .ref w]))]) [0] (by decide) rfl
  exact W.vret hx hb hr (fun t ht hW => ⟨⟨(), rfl, trivial, ⟨by rw [ht]; exact hP9, hD9⟩⟩, hS.F ht⟩) hS.2.2 dX7_become_30
set_option maxHeartbeats 4000000 in
set_option maxRecDepth 100000 in
theorem k_X6_reach (l : Launch) (D : va_G) (kI kZ kJ : ClassId)  (wk : Nat) (x : Int32) : Met l yX6_reach wsX6_reach ({ frames := 1, cells := 0, slots := 0, locals := 20 }) (qR D kI kZ kJ [] [.ref wk, .int (-1), .int x]) (va_Sv (fun _ => True)) 0 0 (fun _ => False) := by
  refine Met.ofW (cc := cX6_reach) (maxL := 3) (ret := none) (by decide) rfl ?_
  intro p e s m args below meth c s₁ B hml hv
  obtain ⟨rfl, hP, hK, hN⟩ := hv
  have hx := B.exec
  have hb := B.bytes
  have hr := B.returns
  have hts := atoms_spec (ws := wsX6_reach) B.pre
  have hown : s.vm.findClass RX6 = some m.cls := findClass_of_methodNamed B.named
  have hlocks := B.notSynchronized
  have hP : va_P D vwCl [] s.heap := hP
  have hl := lv_entry ([.ref wk, .int (-1), .int x]) (n := 3) (Nat.le_of_ble_eq_true rfl)
  rw [lg_entry_eq]
  generalize (lg_sl ([.ref wk, .int (-1), .int x]) ++ List.replicate (3 - (lg_sl ([.ref wk, .int (-1), .int x])).length) Slot.unset).toArray = ls at hl ⊢
  have hl : lv_has ls 3 [(0, .ref wk), (1, .int (-1)), (2, .int x)] := hl
  refine lv_iload_n hx hb dX6_reach_0 rfl (lv_at hl 1 rfl) ?_
  refine vp_callSi (qSN_R (n := 1) (As := [.int (-1)]) (rest := []) (wc := []) (host := RX8) ⟨hx, hb, hml, hown, hts⟩ hK hN hP [] rfl (k_X8_isField l D kI kZ kJ (-1)) gX6_reach_X8_isField_n55 rfl rfl rfl (by decide) (hts (.initialized RX8) (by decide +kernel)) (hts (.static yX8_isField) (by decide +kernel)) (by decide +kernel) ⟨(Nat.le_of_ble_eq_true rfl), (Nat.le_of_ble_eq_true rfl)⟩ rfl hl.1 rfl (Nat.le_of_ble_eq_true rfl) dX6_reach_1 ⟨(Nat.le_of_ble_eq_true rfl), (Nat.le_of_ble_eq_true rfl)⟩).run (fun r hw => ?_)
  obtain ⟨hw0, hw1⟩ := hw
  obtain rfl := hw0 (Or.inl (by decide))
  refine lv_if_eq (tgt := 53) hx hb dX6_reach_4 (by decide) (fun _ => ?_) (fun h9 => absurd (by decide : (0 : Int32) = (0 : Int32)) h9)
  exact W.vret hx hb hr (fun t ht hW => ⟨rfl, trivial, ht⟩) (fun q hq => by cases hq) dX6_reach_53
set_option maxHeartbeats 4000000 in
set_option maxRecDepth 100000 in
theorem k_J7_fill_53178 (l : Launch) (D : va_G) (kI kZ kJ : ClassId)  (a : Nat) (x : Int32) (sz : Nat) : Met l yJ7_fill_53178 wsJ7_fill_53178 ({ frames := 0, cells := 0, slots := 0, locals := 0 }) (qW D kI kZ kJ [(a, .inl (kI, 64, .inl (fun _ => 0)))] sz [.ref a, .int x]) (va_Qv (fun (u : Unit) => True) (qB D (fun u : Unit => []) (va_A [(a, .inl (kI, 64, .inl (fun _ => 0)))] sz)) (va_A [(a, .inl (kI, 64, .inl (fun _ => 0)))] sz)) 0 0 (va_A [(a, .inl (kI, 64, .inl (fun _ => 0)))] sz) := by
  refine Met.ofW (cc := cJ7_fill_53178) (maxL := 4) (ret := none) (by decide) rfl ?_
  intro p e s m args below meth c s₁ B hml hv
  obtain ⟨rfl, hsz, hP, hK, hD0, hN⟩ := hv
  have hx := B.exec
  have hb := B.bytes
  have hr := B.returns
  have hts := atoms_spec (ws := wsJ7_fill_53178) B.pre
  have hown : s.vm.findClass RJ7 = some m.cls := findClass_of_methodNamed B.named
  have hlocks := B.notSynchronized
  subst hsz
  have hD := hD0.self (sz := s.heap.size)
  generalize hAe : va_A [(a, .inl (kI, 64, .inl (fun _ => 0)))] s.heap.size = A at hD ⊢
  have hA : ∀ q : Nat, s.heap.size ≤ q → A q := fun q h => by rw [← hAe]; exact Or.inr h
  have hS : va_S A s.heap s.heap [] := va_S.rf
  have hP : va_P D vwCl [(a, .inl (kI, 64, .inl (fun _ => 0)))] s.heap := hP
  have hl := lv_entry ([.ref a, .int x]) (n := 4) (Nat.le_of_ble_eq_true rfl)
  rw [lg_entry_eq]
  generalize (lg_sl ([.ref a, .int x]) ++ List.replicate (4 - (lg_sl ([.ref a, .int x])).length) Slot.unset).toArray = ls at hl ⊢
  have hl : lv_has ls 4 [(0, .ref a), (1, .int x)] := hl
  refine lv_iconst (v := 0) hx hb dJ7_fill_53178_0 (by decide) ?_
  refine lv_istore_n (lv' := [(2, .int 0), (0, .ref a), (1, .int x)]) hx hb dJ7_fill_53178_1 rfl hl (by decide) rfl (fun ls hl => ?_)
  refine lv_aload_n hx hb dJ7_fill_53178_2 rfl (lv_at hl 1 rfl) ?_
  refine va_alen (v := 64) hx hb hK hP 0 0 rfl rfl (by decide) dJ7_fill_53178_3 ?_
  refine lv_istore_n (lv' := [(3, .int 64), (2, .int 0), (0, .ref a), (1, .int x)]) hx hb dJ7_fill_53178_4 rfl hl (by decide) rfl (fun ls hl => ?_)
  refine q_genH (P := fun H locs => ∃ fa : Nat → Int32, va_P D vwCl [(a, .inl (kI, 64, .inl fa))] H ∧ va_D A [(a, .inl (kI, 64, .inl fa))] ∧ va_S A s.heap H locs) ⟨(fun _ => 0), hP, hD, hS⟩ (fun H locs hh => ?_)
  obtain ⟨fa, hP, hD, hS⟩ := hh
  obtain ⟨i5, hk5, hl5⟩ : ∃ i5 : Nat, i5 ≤ 64 ∧ lv_has ls 4 [(3, .int 64), (2, .int (nI i5)), (0, .ref a), (1, .int x)] := ⟨0, by omega, hl⟩
  clear hl
  have hl := hl5
  clear hl5
  obtain ⟨f5, hf5⟩ : ∃ f5 : Nat, 64 < i5 + f5 := ⟨64 + 1, by omega⟩
  induction f5 generalizing i5 ls H locs fa with
  | zero => exact absurd hf5 (by omega)
  | succ f5 ih5 =>
    refine lv_iload_n hx hb dJ7_fill_53178_5 rfl (lv_at hl 1 rfl) ?_
    refine lv_iload_n hx hb dJ7_fill_53178_6 rfl (lv_at hl 0 rfl) ?_
    refine lv_icmp_ge (tgt := 20) hx hb dJ7_fill_53178_7 (by decide) (fun c_1 => ?_) (fun c_1 => ?_)
    · skip
      have hi5 : i5 = 64 := by have := (nI_leI (a := 64) (b := i5) (by omega) (by omega)).mp c_1; omega
      have hP9 := hP.sub (ws' := []) [] rfl
      have hD9 := hD.sub (ws' := []) [] (by decide) rfl
      exact W.vret hx hb hr (fun t ht hW => ⟨⟨(), rfl, trivial, ⟨by rw [ht]; exact hP9, hD9⟩⟩, hS.F ht⟩) hS.2.2 dJ7_fill_53178_20
    · skip
      have hi5 : i5 < 64 := by have := mt (nI_leI (a := 64) (b := i5) (by omega) (by omega)).mpr c_1; omega
      refine lv_aload_n hx hb dJ7_fill_53178_10 rfl (lv_at hl 2 rfl) ?_
      refine lv_iload_n hx hb dJ7_fill_53178_11 rfl (lv_at hl 1 rfl) ?_
      refine lv_iload_n hx hb dJ7_fill_53178_12 rfl (lv_at hl 3 rfl) ?_
      refine va_iast hx hb hK hP hD hS 0 0 rfl rfl (vp_in_nI (by have := hi5; omega) (by decide)) dJ7_fill_53178_13 (fun H locs hP hD hS => ?_)
      have hP : va_P D vwCl [(a, .inl (kI, 64, .inl (upd fa (Int32.toNatClampNeg (nI i5)) x)))] H := hP
      have hD : va_D A [(a, .inl (kI, 64, .inl (upd fa (Int32.toNatClampNeg (nI i5)) x)))] := hD
      refine lv_iinc (v := (nI (i5 + 1))) (lv' := [(2, .int (nI (i5 + 1))), (3, .int 64), (0, .ref a), (1, .int x)]) hx hb dJ7_fill_53178_14 hl (k := 1) rfl (q_inc _) (by decide) rfl (fun ls hl => ?_)
      refine lv_goto (tgt := 5) hx hb dJ7_fill_53178_17 (by decide) ?_
      exact ih5 (i5 := (i5 + 1)) (ls := ls) (hk5 := by omega) (hl := lv_sub hl [1, 0, 2, 3] rfl) (hf5 := by omega) (H := H) (locs := locs) (fa := (upd fa (Int32.toNatClampNeg (nI i5)) x)) (hP := hP) (hD := hD) (hS := hS)
set_option maxHeartbeats 4000000 in
set_option maxRecDepth 100000 in
theorem k_X6_measure (l : Launch) (D : va_G) (kI kZ kJ : ClassId)  (wk wf wq g sc : Nat) (sz : Nat) : Met l yX6_measure wsX6_measure ({ frames := 2, cells := 0, slots := 0, locals := 42 }) (qW D kI kZ kJ [(wk, .inr (6, [.int 0, .ref wf, .ref wq])), (wf, .inl (kI, 64, .inl (fun _ => 0))), (sc, .inr (3, [.int (-1), .long 0, .int 0, .int 0]))] sz [.ref wk, .ref g, .ref sc]) (va_Qv (fun (u : Unit) => True) (qB D (fun u : Unit => [(wk, .inr (6, [.int 0, .ref wf, .ref wq]))]) (va_A [(wk, .inr (6, [.int 0, .ref wf, .ref wq])), (wf, .inl (kI, 64, .inl (fun _ => 0))), (sc, .inr (3, [.int (-1), .long 0, .int 0, .int 0]))] sz)) (va_A [(wk, .inr (6, [.int 0, .ref wf, .ref wq])), (wf, .inl (kI, 64, .inl (fun _ => 0))), (sc, .inr (3, [.int (-1), .long 0, .int 0, .int 0]))] sz)) 0 0 (va_A [(wk, .inr (6, [.int 0, .ref wf, .ref wq])), (wf, .inl (kI, 64, .inl (fun _ => 0))), (sc, .inr (3, [.int (-1), .long 0, .int 0, .int 0]))] sz) := by
  refine Met.ofW (cc := cX6_measure) (maxL := 7) (ret := none) (by decide) rfl ?_
  intro p e s m args below meth c s₁ B hml hv
  obtain ⟨rfl, hsz, hP, hK, hD0, hN⟩ := hv
  have hx := B.exec
  have hb := B.bytes
  have hr := B.returns
  have hts := atoms_spec (ws := wsX6_measure) B.pre
  have hown : s.vm.findClass RX6 = some m.cls := findClass_of_methodNamed B.named
  have hlocks := B.notSynchronized
  subst hsz
  have hD := hD0.self (sz := s.heap.size)
  generalize hAe : va_A [(wk, .inr (6, [.int 0, .ref wf, .ref wq])), (wf, .inl (kI, 64, .inl (fun _ => 0))), (sc, .inr (3, [.int (-1), .long 0, .int 0, .int 0]))] s.heap.size = A at hD ⊢
  have hA : ∀ q : Nat, s.heap.size ≤ q → A q := fun q h => by rw [← hAe]; exact Or.inr h
  have hS : va_S A s.heap s.heap [] := va_S.rf
  have hP : va_P D vwCl [(wk, .inr (6, [.int 0, .ref wf, .ref wq])), (wf, .inl (kI, 64, .inl (fun _ => 0))), (sc, .inr (3, [.int (-1), .long 0, .int 0, .int 0]))] s.heap := hP
  have hl := lv_entry ([.ref wk, .ref g, .ref sc]) (n := 7) (Nat.le_of_ble_eq_true rfl)
  rw [lg_entry_eq]
  generalize (lg_sl ([.ref wk, .ref g, .ref sc]) ++ List.replicate (7 - (lg_sl ([.ref wk, .ref g, .ref sc])).length) Slot.unset).toArray = ls at hl ⊢
  have hl : lv_has ls 7 [(0, .ref wk), (1, .ref g), (2, .ref sc)] := hl
  refine lv_aload_n hx hb dX6_measure_0 rfl (lv_at hl 0 rfl) ?_
  refine va_get (D := D) (ci := 6) (v := .ref wf) (C := RX6) (T := TX6) (N := 3) hx hb hts (by decide +kernel) hown hK hP 0 rfl rfl 1 (by decide) (hts (.fieldLink RX6 9 "CellarPushers$Walks" "far" "[I") (by decide +kernel)) (fun _ h9 => h9) rfl dX6_measure_1 ?_
  refine lv_iconst (v := (-1)) hx hb dX6_measure_4 (by decide) ?_
  refine qc_v (wr := [(wk, .inr (6, [.int 0, .ref wf, .ref wq])), (sc, .inr (3, [.int (-1), .long 0, .int 0, .int 0]))]) (qS_W (n := 2) (As := [.ref wf, .int (-1)]) (rest := []) (wc := [(wf, .inl (kI, 64, .inl (fun _ => 0)))]) ⟨hx, hb, hml, hown, hts⟩ hK hN hP hD [1] rfl rfl (by decide) (k_J7_fill_53178 l D kI kZ kJ wf (-1) s.heap.size) gX6_measure_J7_fill_53178 rfl rfl rfl (by decide +kernel) ⟨(Nat.le_of_ble_eq_true rfl), (Nat.le_of_ble_eq_true rfl)⟩ rfl hl.1 rfl (Nat.le_of_ble_eq_true rfl) dX6_measure_5 ⟨(Nat.le_of_ble_eq_true rfl), (Nat.le_of_ble_eq_true rfl)⟩) hP hD hS hA [1] [0, 2] rfl rfl (by decide) (by decide) (fun u H locs hw hP hD hS => ?_)
  have hP : va_P D vwCl [(wk, .inr (6, [.int 0, .ref wf, .ref wq])), (sc, .inr (3, [.int (-1), .long 0, .int 0, .int 0]))] H := hP
  have hD : va_D A [(wk, .inr (6, [.int 0, .ref wf, .ref wq])), (sc, .inr (3, [.int (-1), .long 0, .int 0, .int 0]))] := hD
  refine lv_aload_n hx hb dX6_measure_8 rfl (lv_at hl 0 rfl) ?_
  refine lv_iconst (v := 0) hx hb dX6_measure_9 (by decide) ?_
  refine va_put (D := D) (ci := 6) (v := .int 0) (ty := .int) (C := RX6) (T := TX6) (N := 3) hx hb hts (by decide +kernel) tyX6 tyX6_ok nmX6 hown hK hP hD hS 0 rfl rfl 0 (by decide) (hts (.fieldLink RX6 24 "CellarPushers$Walks" "reached" "I") (by decide +kernel)) (fun _ h9 => h9) rfl (by decide +kernel) rfl rfl (Nat.le_of_ble_eq_true rfl) dX6_measure_10 (fun H locs hP hD hS => ?_)
  have hP : va_P D vwCl [(wk, .inr (6, [.int 0, .ref wf, .ref wq])), (sc, .inr (3, [.int (-1), .long 0, .int 0, .int 0]))] H := hP
  have hD : va_D A [(wk, .inr (6, [.int 0, .ref wf, .ref wq])), (sc, .inr (3, [.int (-1), .long 0, .int 0, .int 0]))] := hD
  refine lv_aload_n hx hb dX6_measure_13 rfl (lv_at hl 0 rfl) ?_
  refine lv_aload_n hx hb dX6_measure_14 rfl (lv_at hl 2 rfl) ?_
  refine va_get (D := D) (ci := 3) (v := .int (-1)) (C := RX3) (T := TX3) (N := 4) hx hb hts (by decide +kernel) hown hK hP 1 rfl rfl 0 (by decide) (hts (.fieldLink RX6 28 "CellarPushers$Scene" "manAt" "I") (by decide +kernel)) (fun _ h9 => h9) rfl dX6_measure_15 ?_
  refine lv_iconst (v := 0) hx hb dX6_measure_18 (by decide) ?_
  refine va_csv (qV_R (n := 2) (As := [.int (-1), .int 0]) (rest := []) (wc := []) ⟨hx, hb, hml, hown, hts⟩ hK hN hP [] rfl (k_X6_reach l D kI kZ kJ wk 0) gX6_measure_X6_reach rfl rfl rfl (by decide +kernel) ⟨(Nat.le_of_ble_eq_true rfl), (Nat.le_of_ble_eq_true rfl)⟩ 0 6 rfl rfl rfl rfl hl.1 rfl (Nat.le_of_ble_eq_true rfl) dX6_measure_19 ⟨(Nat.le_of_ble_eq_true rfl), (Nat.le_of_ble_eq_true rfl)⟩).run (fun hw => ?_)
  refine lv_iconst (v := 0) hx hb dX6_measure_22 (by decide) ?_
  refine lv_istore_n (lv' := [(3, .int 0), (0, .ref wk), (1, .ref g), (2, .ref sc)]) hx hb dX6_measure_23 rfl hl (by decide) rfl (fun ls hl => ?_)
  refine lv_iload_n hx hb dX6_measure_24 rfl (lv_at hl 0 rfl) ?_
  refine lv_aload_n hx hb dX6_measure_25 rfl (lv_at hl 1 rfl) ?_
  refine va_get (D := D) (ci := 6) (v := .int 0) (C := RX6) (T := TX6) (N := 3) hx hb hts (by decide +kernel) hown hK hP 0 rfl rfl 0 (by decide) (hts (.fieldLink RX6 24 "CellarPushers$Walks" "reached" "I") (by decide +kernel)) (fun _ h9 => h9) rfl dX6_measure_26 ?_
  refine lv_icmp_ge (tgt := 111) hx hb dX6_measure_29 (by decide) (fun _ => ?_) (fun h9 => absurd (by decide : (0 : Int32) ≤ (0 : Int32)) h9)
  have hP9 := hP.sub (ws' := [(wk, .inr (6, [.int 0, .ref wf, .ref wq]))]) [0] rfl
  have hD9 := hD.sub (ws' := [(wk, .inr (6, [.int 0, .ref wf, .ref wq]))]) [0] (by decide) rfl
  exact W.vret hx hb hr (fun t ht hW => ⟨⟨(), rfl, trivial, ⟨by rw [ht]; exact hP9, hD9⟩⟩, hS.F ht⟩) hS.2.2 dX6_measure_111
set_option maxHeartbeats 4000000 in
set_option maxRecDepth 100000 in
theorem k_X2_isDead (l : Launch) (D : va_G) (kI kZ kJ : ClassId)  (g kd rw ms : Nat) (bw bh : Nat) (hbw : bw ≤ 8) (hbh : bh ≤ 8) (pr : Nat) (n : Nat) (hn : n < 64) : Met l yX2_isDead wsX2_isDead ({ frames := 1, cells := 0, slots := 0, locals := 21 }) (qR D kI kZ kJ [(g, .inr (0, [.int (nI bw), .int (nI bh), .long 0, .ref kd, .ref rw, .ref ms])), (kd, .inl (kI, 64, .inl (fun _ => 0))), (ms, .inl (kZ, 8, .inl (fun _ => 0)))] [.ref pr, .ref g, .int (nI n)]) (vp_Si (fun r : Int32 => r = 0)) 0 0 (fun _ => False) := by
  refine Met.ofW (cc := cX2_isDead) (maxL := 4) (ret := (some .boolean)) (by decide) rfl ?_
  intro p e s m args below meth c s₁ B hml hv
  obtain ⟨rfl, hP, hK, hN⟩ := hv
  have hx := B.exec
  have hb := B.bytes
  have hr := B.returns
  have hts := atoms_spec (ws := wsX2_isDead) B.pre
  have hown : s.vm.findClass RX2 = some m.cls := findClass_of_methodNamed B.named
  have hlocks := B.notSynchronized
  have hP : va_P D vwCl [(g, .inr (0, [.int (nI bw), .int (nI bh), .long 0, .ref kd, .ref rw, .ref ms])), (kd, .inl (kI, 64, .inl (fun _ => 0))), (ms, .inl (kZ, 8, .inl (fun _ => 0)))] s.heap := hP
  have hl := lv_entry ([.ref pr, .ref g, .int (nI n)]) (n := 4) (Nat.le_of_ble_eq_true rfl)
  rw [lg_entry_eq]
  generalize (lg_sl ([.ref pr, .ref g, .int (nI n)]) ++ List.replicate (4 - (lg_sl ([.ref pr, .ref g, .int (nI n)])).length) Slot.unset).toArray = ls at hl ⊢
  have hl : lv_has ls 4 [(0, .ref pr), (1, .ref g), (2, .int (nI n))] := hl
  refine lv_aload_n hx hb dX2_isDead_0 rfl (lv_at hl 1 rfl) ?_
  refine lv_iload_n hx hb dX2_isDead_1 rfl (lv_at hl 2 rfl) ?_
  refine vp_callSi (qV_R (n := 1) (As := [.int (nI n)]) (rest := []) (wc := [(g, .inr (0, [.int (nI bw), .int (nI bh), .long 0, .ref kd, .ref rw, .ref ms])), (kd, .inl (kI, 64, .inl (fun _ => 0))), (ms, .inl (kZ, 8, .inl (fun _ => 0)))]) ⟨hx, hb, hml, hown, hts⟩ hK hN hP [0, 1, 2] rfl (k_X0_kindNow_n l D kI kZ kJ g kd rw ms bw bh hbw hbh n hn) gX2_isDead_X0_kindNow rfl rfl rfl (by decide +kernel) ⟨(Nat.le_of_ble_eq_true rfl), (Nat.le_of_ble_eq_true rfl)⟩ 0 0 rfl rfl rfl rfl hl.1 rfl (Nat.le_of_ble_eq_true rfl) dX2_isDead_2 ⟨(Nat.le_of_ble_eq_true rfl), (Nat.le_of_ble_eq_true rfl)⟩).run (fun r hw => ?_)
  obtain rfl := hw
  refine lv_if_ne (tgt := 10) hx hb dX2_isDead_5 (by decide) (fun h9 => absurd h9 (by decide : ¬ (¬ (0 : Int32) = (0 : Int32)))) (fun _ => ?_)
  refine lv_iconst (v := 0) hx hb dX2_isDead_8 (by decide) ?_
  exact W.zret (v := 0) (ty := .boolean) hx hb hr rfl (fun t ht hW => ⟨_, rfl, rfl, ht⟩) (fun q hq => by cases hq) dX2_isDead_9
end
