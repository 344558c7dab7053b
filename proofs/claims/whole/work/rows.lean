section
-- ===== PART A: goes FIRST, ahead of the names: the tables' words, and 'selects' of the private methods out of them =====
/-- a private method of a class that the tables say can be made, by its rows of tables_1 -/
def lw_okq (q : MethodName × Nat) : Prop := (q.1.cls ≠ "java/lang/invoke/MethodHandle" ∧ q.1.cls ≠ "java/lang/invoke/VarHandle") ∧ Cond.instantiable q.1.cls q.2 ∈ tables_1 ∧ Cond.privateMethod q.1 ∈ tables_1 ∧ Cond.instanceMethod q.1 ∈ tables_1
theorem lw_p0 : lw_okq (⟨"MazeForms$Grid", "numberDoors", "()V"⟩, 9) := ⟨⟨by decide +kernel, by decide +kernel⟩, List.mem_of_getElem? (i := 22) (by decide +kernel), List.mem_of_getElem? (i := 37) (by decide +kernel), List.mem_of_getElem? (i := 38) (by decide +kernel)⟩
theorem lw_p1 : lw_okq (⟨"MazeForms$Grid", "addDoor", "(IIII)V"⟩, 9) := ⟨⟨by decide +kernel, by decide +kernel⟩, List.mem_of_getElem? (i := 22) (by decide +kernel), List.mem_of_getElem? (i := 48) (by decide +kernel), List.mem_of_getElem? (i := 49) (by decide +kernel)⟩
theorem lw_p2 : lw_okq (⟨"MazeForms$Maker", "goDeep", "()V"⟩, 7) := ⟨⟨by decide +kernel, by decide +kernel⟩, List.mem_of_getElem? (i := 127) (by decide +kernel), List.mem_of_getElem? (i := 282) (by decide +kernel), List.mem_of_getElem? (i := 283) (by decide +kernel)⟩
theorem lw_p3 : lw_okq (⟨"MazeForms$Maker", "begin", "(I)V"⟩, 7) := ⟨⟨by decide +kernel, by decide +kernel⟩, List.mem_of_getElem? (i := 127) (by decide +kernel), List.mem_of_getElem? (i := 290) (by decide +kernel), List.mem_of_getElem? (i := 291) (by decide +kernel)⟩
theorem lw_p4 : lw_okq (⟨"MazeForms$Maker", "enter", "(I)V"⟩, 7) := ⟨⟨by decide +kernel, by decide +kernel⟩, List.mem_of_getElem? (i := 127) (by decide +kernel), List.mem_of_getElem? (i := 294) (by decide +kernel), List.mem_of_getElem? (i := 295) (by decide +kernel)⟩
theorem lw_p5 : lw_okq (⟨"MazeForms$Maker", "offerUnreached", "(I)V"⟩, 7) := ⟨⟨by decide +kernel, by decide +kernel⟩, List.mem_of_getElem? (i := 127) (by decide +kernel), List.mem_of_getElem? (i := 299) (by decide +kernel), List.mem_of_getElem? (i := 300) (by decide +kernel)⟩
theorem lw_p6 : lw_okq (⟨"MazeForms$Maker", "isReached", "(I)Z"⟩, 7) := ⟨⟨by decide +kernel, by decide +kernel⟩, List.mem_of_getElem? (i := 127) (by decide +kernel), List.mem_of_getElem? (i := 319) (by decide +kernel), List.mem_of_getElem? (i := 320) (by decide +kernel)⟩
theorem lw_p7 : lw_okq (⟨"MazeForms$Maker", "traceOf", "(I)I"⟩, 7) := ⟨⟨by decide +kernel, by decide +kernel⟩, List.mem_of_getElem? (i := 127) (by decide +kernel), List.mem_of_getElem? (i := 341) (by decide +kernel), List.mem_of_getElem? (i := 342) (by decide +kernel)⟩
theorem lw_p8 : lw_okq (⟨"MazeForms$Maker", "openDoor", "(I)V"⟩, 7) := ⟨⟨by decide +kernel, by decide +kernel⟩, List.mem_of_getElem? (i := 127) (by decide +kernel), List.mem_of_getElem? (i := 345) (by decide +kernel), List.mem_of_getElem? (i := 346) (by decide +kernel)⟩
theorem lw_p9 : lw_okq (⟨"MazeForms$Maker", "setTrace", "(II)V"⟩, 7) := ⟨⟨by decide +kernel, by decide +kernel⟩, List.mem_of_getElem? (i := 127) (by decide +kernel), List.mem_of_getElem? (i := 353) (by decide +kernel), List.mem_of_getElem? (i := 354) (by decide +kernel)⟩
theorem lw_p10 : lw_okq (⟨"MazeForms$Maker", "joinSets", "()V"⟩, 7) := ⟨⟨by decide +kernel, by decide +kernel⟩, List.mem_of_getElem? (i := 127) (by decide +kernel), List.mem_of_getElem? (i := 357) (by decide +kernel), List.mem_of_getElem? (i := 358) (by decide +kernel)⟩
theorem lw_p11 : lw_okq (⟨"MazeForms$DoorRow", "exchange", "(II)V"⟩, 3) := ⟨⟨by decide +kernel, by decide +kernel⟩, List.mem_of_getElem? (i := 143) (by decide +kernel), List.mem_of_getElem? (i := 369) (by decide +kernel), List.mem_of_getElem? (i := 370) (by decide +kernel)⟩
theorem lw_p12 : lw_okq (⟨"MazeForms$Joined", "root", "(I)I"⟩, 2) := ⟨⟨by decide +kernel, by decide +kernel⟩, List.mem_of_getElem? (i := 90) (by decide +kernel), List.mem_of_getElem? (i := 390) (by decide +kernel), List.mem_of_getElem? (i := 391) (by decide +kernel)⟩
theorem lw_p13 : lw_okq (⟨"MazeForms$Maker", "grow", "()V"⟩, 7) := ⟨⟨by decide +kernel, by decide +kernel⟩, List.mem_of_getElem? (i := 127) (by decide +kernel), List.mem_of_getElem? (i := 399) (by decide +kernel), List.mem_of_getElem? (i := 400) (by decide +kernel)⟩
theorem lw_p14 : lw_okq (⟨"MazeForms$Maker", "offerRim", "()V"⟩, 7) := ⟨⟨by decide +kernel, by decide +kernel⟩, List.mem_of_getElem? (i := 127) (by decide +kernel), List.mem_of_getElem? (i := 403) (by decide +kernel), List.mem_of_getElem? (i := 404) (by decide +kernel)⟩
theorem lw_p15 : lw_okq (⟨"MazeForms$Maker", "walkAll", "()V"⟩, 7) := ⟨⟨by decide +kernel, by decide +kernel⟩, List.mem_of_getElem? (i := 127) (by decide +kernel), List.mem_of_getElem? (i := 409) (by decide +kernel), List.mem_of_getElem? (i := 410) (by decide +kernel)⟩
def lw_privs_1 : List (MethodName × Nat) := [(⟨"MazeForms$Grid", "numberDoors", "()V"⟩, 9), (⟨"MazeForms$Grid", "addDoor", "(IIII)V"⟩, 9), (⟨"MazeForms$Maker", "goDeep", "()V"⟩, 7), (⟨"MazeForms$Maker", "begin", "(I)V"⟩, 7), (⟨"MazeForms$Maker", "enter", "(I)V"⟩, 7), (⟨"MazeForms$Maker", "offerUnreached", "(I)V"⟩, 7), (⟨"MazeForms$Maker", "isReached", "(I)Z"⟩, 7), (⟨"MazeForms$Maker", "traceOf", "(I)I"⟩, 7), (⟨"MazeForms$Maker", "openDoor", "(I)V"⟩, 7), (⟨"MazeForms$Maker", "setTrace", "(II)V"⟩, 7), (⟨"MazeForms$Maker", "joinSets", "()V"⟩, 7), (⟨"MazeForms$DoorRow", "exchange", "(II)V"⟩, 3), (⟨"MazeForms$Joined", "root", "(I)I"⟩, 2), (⟨"MazeForms$Maker", "grow", "()V"⟩, 7), (⟨"MazeForms$Maker", "offerRim", "()V"⟩, 7), (⟨"MazeForms$Maker", "walkAll", "()V"⟩, 7)]
theorem lw_r1 : ∀ q ∈ lw_privs_1, lw_okq q := List.forall_mem_cons.mpr ⟨lw_p0, List.forall_mem_cons.mpr ⟨lw_p1, List.forall_mem_cons.mpr ⟨lw_p2, List.forall_mem_cons.mpr ⟨lw_p3, List.forall_mem_cons.mpr ⟨lw_p4, List.forall_mem_cons.mpr ⟨lw_p5, List.forall_mem_cons.mpr ⟨lw_p6, List.forall_mem_cons.mpr ⟨lw_p7, List.forall_mem_cons.mpr ⟨lw_p8, List.forall_mem_cons.mpr ⟨lw_p9, List.forall_mem_cons.mpr ⟨lw_p10, List.forall_mem_cons.mpr ⟨lw_p11, List.forall_mem_cons.mpr ⟨lw_p12, List.forall_mem_cons.mpr ⟨lw_p13, List.forall_mem_cons.mpr ⟨lw_p14, List.forall_mem_cons.mpr ⟨lw_p15, fun _ h => absurd h List.not_mem_nil⟩⟩⟩⟩⟩⟩⟩⟩⟩⟩⟩⟩⟩⟩⟩⟩
theorem lw_p16 : lw_okq (⟨"MazeForms$Flood", "reach", "(II)V"⟩, 4) := ⟨⟨by decide +kernel, by decide +kernel⟩, List.mem_of_getElem? (i := 107) (by decide +kernel), List.mem_of_getElem? (i := 418) (by decide +kernel), List.mem_of_getElem? (i := 419) (by decide +kernel)⟩
theorem lw_p17 : lw_okq (⟨"MazeForms$Flood", "spreadOn", "(IZ)V"⟩, 4) := ⟨⟨by decide +kernel, by decide +kernel⟩, List.mem_of_getElem? (i := 107) (by decide +kernel), List.mem_of_getElem? (i := 423) (by decide +kernel), List.mem_of_getElem? (i := 424) (by decide +kernel)⟩
theorem lw_p18 : lw_okq (⟨"MazeForms$Maker", "walkToTree", "(I)Z"⟩, 7) := ⟨⟨by decide +kernel, by decide +kernel⟩, List.mem_of_getElem? (i := 127) (by decide +kernel), List.mem_of_getElem? (i := 438) (by decide +kernel), List.mem_of_getElem? (i := 439) (by decide +kernel)⟩
theorem lw_p19 : lw_okq (⟨"MazeForms$Maker", "offerAll", "(I)V"⟩, 7) := ⟨⟨by decide +kernel, by decide +kernel⟩, List.mem_of_getElem? (i := 127) (by decide +kernel), List.mem_of_getElem? (i := 443) (by decide +kernel), List.mem_of_getElem? (i := 444) (by decide +kernel)⟩
theorem lw_p20 : lw_okq (⟨"MazeForms$Maker", "joinWalk", "(I)V"⟩, 7) := ⟨⟨by decide +kernel, by decide +kernel⟩, List.mem_of_getElem? (i := 127) (by decide +kernel), List.mem_of_getElem? (i := 447) (by decide +kernel), List.mem_of_getElem? (i := 448) (by decide +kernel)⟩
theorem lw_p21 : lw_okq (⟨"MazeForms$Maker", "comb", "()V"⟩, 7) := ⟨⟨by decide +kernel, by decide +kernel⟩, List.mem_of_getElem? (i := 127) (by decide +kernel), List.mem_of_getElem? (i := 451) (by decide +kernel), List.mem_of_getElem? (i := 452) (by decide +kernel)⟩
theorem lw_p22 : lw_okq (⟨"MazeForms$Trail", "nearerCell", "(I)I"⟩, 5) := ⟨⟨by decide +kernel, by decide +kernel⟩, List.mem_of_getElem? (i := 187) (by decide +kernel), List.mem_of_getElem? (i := 491) (by decide +kernel), List.mem_of_getElem? (i := 492) (by decide +kernel)⟩
theorem lw_p23 : lw_okq (⟨"MazeForms$Trail", "isFound", "()Z"⟩, 5) := ⟨⟨by decide +kernel, by decide +kernel⟩, List.mem_of_getElem? (i := 187) (by decide +kernel), List.mem_of_getElem? (i := 510) (by decide +kernel), List.mem_of_getElem? (i := 511) (by decide +kernel)⟩
theorem lw_p24 : lw_okq (⟨"MazeForms$TreeCount", "numberFreeCells", "()I"⟩, 7) := ⟨⟨by decide +kernel, by decide +kernel⟩, List.mem_of_getElem? (i := 210) (by decide +kernel), List.mem_of_getElem? (i := 574) (by decide +kernel), List.mem_of_getElem? (i := 575) (by decide +kernel)⟩
theorem lw_p25 : lw_okq (⟨"MazeForms$TreeCount", "fillIn", "()V"⟩, 7) := ⟨⟨by decide +kernel, by decide +kernel⟩, List.mem_of_getElem? (i := 210) (by decide +kernel), List.mem_of_getElem? (i := 579) (by decide +kernel), List.mem_of_getElem? (i := 580) (by decide +kernel)⟩
theorem lw_p26 : lw_okq (⟨"MazeForms$TreeCount", "placeIn", "(I)I"⟩, 7) := ⟨⟨by decide +kernel, by decide +kernel⟩, List.mem_of_getElem? (i := 210) (by decide +kernel), List.mem_of_getElem? (i := 588) (by decide +kernel), List.mem_of_getElem? (i := 589) (by decide +kernel)⟩
theorem lw_p27 : lw_okq (⟨"MazeForms$TreeCount", "addTo", "(IIJ)V"⟩, 7) := ⟨⟨by decide +kernel, by decide +kernel⟩, List.mem_of_getElem? (i := 210) (by decide +kernel), List.mem_of_getElem? (i := 594) (by decide +kernel), List.mem_of_getElem? (i := 595) (by decide +kernel)⟩
theorem lw_p28 : lw_okq (⟨"MazeForms$TreeCount", "slotOf", "(II)I"⟩, 7) := ⟨⟨by decide +kernel, by decide +kernel⟩, List.mem_of_getElem? (i := 210) (by decide +kernel), List.mem_of_getElem? (i := 598) (by decide +kernel), List.mem_of_getElem? (i := 599) (by decide +kernel)⟩
theorem lw_p29 : lw_okq (⟨"MazeForms$TreeCount", "determinant", "()J"⟩, 7) := ⟨⟨by decide +kernel, by decide +kernel⟩, List.mem_of_getElem? (i := 210) (by decide +kernel), List.mem_of_getElem? (i := 602) (by decide +kernel), List.mem_of_getElem? (i := 603) (by decide +kernel)⟩
theorem lw_p30 : lw_okq (⟨"MazeForms$TreeCount", "pivotRow", "(I)I"⟩, 7) := ⟨⟨by decide +kernel, by decide +kernel⟩, List.mem_of_getElem? (i := 210) (by decide +kernel), List.mem_of_getElem? (i := 606) (by decide +kernel), List.mem_of_getElem? (i := 607) (by decide +kernel)⟩
theorem lw_p31 : lw_okq (⟨"MazeForms$TreeCount", "lastRow", "(I)I"⟩, 7) := ⟨⟨by decide +kernel, by decide +kernel⟩, List.mem_of_getElem? (i := 210) (by decide +kernel), List.mem_of_getElem? (i := 610) (by decide +kernel), List.mem_of_getElem? (i := 611) (by decide +kernel)⟩
def lw_privs_2 : List (MethodName × Nat) := [(⟨"MazeForms$Flood", "reach", "(II)V"⟩, 4), (⟨"MazeForms$Flood", "spreadOn", "(IZ)V"⟩, 4), (⟨"MazeForms$Maker", "walkToTree", "(I)Z"⟩, 7), (⟨"MazeForms$Maker", "offerAll", "(I)V"⟩, 7), (⟨"MazeForms$Maker", "joinWalk", "(I)V"⟩, 7), (⟨"MazeForms$Maker", "comb", "()V"⟩, 7), (⟨"MazeForms$Trail", "nearerCell", "(I)I"⟩, 5), (⟨"MazeForms$Trail", "isFound", "()Z"⟩, 5), (⟨"MazeForms$TreeCount", "numberFreeCells", "()I"⟩, 7), (⟨"MazeForms$TreeCount", "fillIn", "()V"⟩, 7), (⟨"MazeForms$TreeCount", "placeIn", "(I)I"⟩, 7), (⟨"MazeForms$TreeCount", "addTo", "(IIJ)V"⟩, 7), (⟨"MazeForms$TreeCount", "slotOf", "(II)I"⟩, 7), (⟨"MazeForms$TreeCount", "determinant", "()J"⟩, 7), (⟨"MazeForms$TreeCount", "pivotRow", "(I)I"⟩, 7), (⟨"MazeForms$TreeCount", "lastRow", "(I)I"⟩, 7)]
theorem lw_r2 : ∀ q ∈ lw_privs_2, lw_okq q := List.forall_mem_cons.mpr ⟨lw_p16, List.forall_mem_cons.mpr ⟨lw_p17, List.forall_mem_cons.mpr ⟨lw_p18, List.forall_mem_cons.mpr ⟨lw_p19, List.forall_mem_cons.mpr ⟨lw_p20, List.forall_mem_cons.mpr ⟨lw_p21, List.forall_mem_cons.mpr ⟨lw_p22, List.forall_mem_cons.mpr ⟨lw_p23, List.forall_mem_cons.mpr ⟨lw_p24, List.forall_mem_cons.mpr ⟨lw_p25, List.forall_mem_cons.mpr ⟨lw_p26, List.forall_mem_cons.mpr ⟨lw_p27, List.forall_mem_cons.mpr ⟨lw_p28, List.forall_mem_cons.mpr ⟨lw_p29, List.forall_mem_cons.mpr ⟨lw_p30, List.forall_mem_cons.mpr ⟨lw_p31, fun _ h => absurd h List.not_mem_nil⟩⟩⟩⟩⟩⟩⟩⟩⟩⟩⟩⟩⟩⟩⟩⟩
theorem lw_p32 : lw_okq (⟨"MazeForms$TreeCount", "entry", "(II)J"⟩, 7) := ⟨⟨by decide +kernel, by decide +kernel⟩, List.mem_of_getElem? (i := 210) (by decide +kernel), List.mem_of_getElem? (i := 615) (by decide +kernel), List.mem_of_getElem? (i := 616) (by decide +kernel)⟩
theorem lw_p33 : lw_okq (⟨"MazeForms$TreeCount", "exchangeRows", "(II)V"⟩, 7) := ⟨⟨by decide +kernel, by decide +kernel⟩, List.mem_of_getElem? (i := 210) (by decide +kernel), List.mem_of_getElem? (i := 619) (by decide +kernel), List.mem_of_getElem? (i := 620) (by decide +kernel)⟩
theorem lw_p34 : lw_okq (⟨"MazeForms$TreeCount", "lastColumn", "(I)I"⟩, 7) := ⟨⟨by decide +kernel, by decide +kernel⟩, List.mem_of_getElem? (i := 210) (by decide +kernel), List.mem_of_getElem? (i := 623) (by decide +kernel), List.mem_of_getElem? (i := 624) (by decide +kernel)⟩
theorem lw_p35 : lw_okq (⟨"MazeForms$TreeCount", "times", "(JJ)J"⟩, 7) := ⟨⟨by decide +kernel, by decide +kernel⟩, List.mem_of_getElem? (i := 210) (by decide +kernel), List.mem_of_getElem? (i := 627) (by decide +kernel), List.mem_of_getElem? (i := 628) (by decide +kernel)⟩
theorem lw_p36 : lw_okq (⟨"MazeForms$TreeCount", "clearBelow", "(I)V"⟩, 7) := ⟨⟨by decide +kernel, by decide +kernel⟩, List.mem_of_getElem? (i := 210) (by decide +kernel), List.mem_of_getElem? (i := 631) (by decide +kernel), List.mem_of_getElem? (i := 632) (by decide +kernel)⟩
theorem lw_p37 : lw_okq (⟨"MazeForms$TreeCount", "inverse", "(J)J"⟩, 7) := ⟨⟨by decide +kernel, by decide +kernel⟩, List.mem_of_getElem? (i := 210) (by decide +kernel), List.mem_of_getElem? (i := 635) (by decide +kernel), List.mem_of_getElem? (i := 636) (by decide +kernel)⟩
theorem lw_p38 : lw_okq (⟨"MazeForms$TreeCount", "addRow", "(IIJ)V"⟩, 7) := ⟨⟨by decide +kernel, by decide +kernel⟩, List.mem_of_getElem? (i := 210) (by decide +kernel), List.mem_of_getElem? (i := 639) (by decide +kernel), List.mem_of_getElem? (i := 640) (by decide +kernel)⟩
theorem lw_p39 : lw_okq (⟨"MazeFormsModel", "number", "()V"⟩, 19) := ⟨⟨by decide +kernel, by decide +kernel⟩, List.mem_of_getElem? (i := 646) (by decide +kernel), List.mem_of_getElem? (i := 652) (by decide +kernel), List.mem_of_getElem? (i := 653) (by decide +kernel)⟩
theorem lw_p40 : lw_okq (⟨"MazeFormsModel", "cells", "()I"⟩, 19) := ⟨⟨by decide +kernel, by decide +kernel⟩, List.mem_of_getElem? (i := 646) (by decide +kernel), List.mem_of_getElem? (i := 656) (by decide +kernel), List.mem_of_getElem? (i := 657) (by decide +kernel)⟩
theorem lw_p41 : lw_okq (⟨"MazeFormsModel", "addDoor", "(II)V"⟩, 19) := ⟨⟨by decide +kernel, by decide +kernel⟩, List.mem_of_getElem? (i := 646) (by decide +kernel), List.mem_of_getElem? (i := 660) (by decide +kernel), List.mem_of_getElem? (i := 661) (by decide +kernel)⟩
theorem lw_p42 : lw_okq (⟨"MazeFormsModel", "firstCell", "()I"⟩, 19) := ⟨⟨by decide +kernel, by decide +kernel⟩, List.mem_of_getElem? (i := 646) (by decide +kernel), List.mem_of_getElem? (i := 730) (by decide +kernel), List.mem_of_getElem? (i := 731) (by decide +kernel)⟩
theorem lw_p43 : lw_okq (⟨"MazeFormsModel", "deep", "(I)V"⟩, 19) := ⟨⟨by decide +kernel, by decide +kernel⟩, List.mem_of_getElem? (i := 646) (by decide +kernel), List.mem_of_getElem? (i := 734) (by decide +kernel), List.mem_of_getElem? (i := 735) (by decide +kernel)⟩
theorem lw_p44 : lw_okq (⟨"MazeFormsModel", "none", "()V"⟩, 19) := ⟨⟨by decide +kernel, by decide +kernel⟩, List.mem_of_getElem? (i := 646) (by decide +kernel), List.mem_of_getElem? (i := 738) (by decide +kernel), List.mem_of_getElem? (i := 739) (by decide +kernel)⟩
theorem lw_p45 : lw_okq (⟨"MazeFormsModel", "doorAt", "(II)I"⟩, 19) := ⟨⟨by decide +kernel, by decide +kernel⟩, List.mem_of_getElem? (i := 646) (by decide +kernel), List.mem_of_getElem? (i := 742) (by decide +kernel), List.mem_of_getElem? (i := 743) (by decide +kernel)⟩
theorem lw_p46 : lw_okq (⟨"MazeFormsModel", "beside", "(II)I"⟩, 19) := ⟨⟨by decide +kernel, by decide +kernel⟩, List.mem_of_getElem? (i := 646) (by decide +kernel), List.mem_of_getElem? (i := 746) (by decide +kernel), List.mem_of_getElem? (i := 747) (by decide +kernel)⟩
theorem lw_p47 : lw_okq (⟨"MazeFormsModel", "isCell", "(I)Z"⟩, 19) := ⟨⟨by decide +kernel, by decide +kernel⟩, List.mem_of_getElem? (i := 646) (by decide +kernel), List.mem_of_getElem? (i := 750) (by decide +kernel), List.mem_of_getElem? (i := 751) (by decide +kernel)⟩
def lw_privs_3 : List (MethodName × Nat) := [(⟨"MazeForms$TreeCount", "entry", "(II)J"⟩, 7), (⟨"MazeForms$TreeCount", "exchangeRows", "(II)V"⟩, 7), (⟨"MazeForms$TreeCount", "lastColumn", "(I)I"⟩, 7), (⟨"MazeForms$TreeCount", "times", "(JJ)J"⟩, 7), (⟨"MazeForms$TreeCount", "clearBelow", "(I)V"⟩, 7), (⟨"MazeForms$TreeCount", "inverse", "(J)J"⟩, 7), (⟨"MazeForms$TreeCount", "addRow", "(IIJ)V"⟩, 7), (⟨"MazeFormsModel", "number", "()V"⟩, 19), (⟨"MazeFormsModel", "cells", "()I"⟩, 19), (⟨"MazeFormsModel", "addDoor", "(II)V"⟩, 19), (⟨"MazeFormsModel", "firstCell", "()I"⟩, 19), (⟨"MazeFormsModel", "deep", "(I)V"⟩, 19), (⟨"MazeFormsModel", "none", "()V"⟩, 19), (⟨"MazeFormsModel", "doorAt", "(II)I"⟩, 19), (⟨"MazeFormsModel", "beside", "(II)I"⟩, 19), (⟨"MazeFormsModel", "isCell", "(I)Z"⟩, 19)]
theorem lw_r3 : ∀ q ∈ lw_privs_3, lw_okq q := List.forall_mem_cons.mpr ⟨lw_p32, List.forall_mem_cons.mpr ⟨lw_p33, List.forall_mem_cons.mpr ⟨lw_p34, List.forall_mem_cons.mpr ⟨lw_p35, List.forall_mem_cons.mpr ⟨lw_p36, List.forall_mem_cons.mpr ⟨lw_p37, List.forall_mem_cons.mpr ⟨lw_p38, List.forall_mem_cons.mpr ⟨lw_p39, List.forall_mem_cons.mpr ⟨lw_p40, List.forall_mem_cons.mpr ⟨lw_p41, List.forall_mem_cons.mpr ⟨lw_p42, List.forall_mem_cons.mpr ⟨lw_p43, List.forall_mem_cons.mpr ⟨lw_p44, List.forall_mem_cons.mpr ⟨lw_p45, List.forall_mem_cons.mpr ⟨lw_p46, List.forall_mem_cons.mpr ⟨lw_p47, fun _ h => absurd h List.not_mem_nil⟩⟩⟩⟩⟩⟩⟩⟩⟩⟩⟩⟩⟩⟩⟩⟩
theorem lw_p48 : lw_okq (⟨"MazeFormsModel", "doorOf", "(II)I"⟩, 19) := ⟨⟨by decide +kernel, by decide +kernel⟩, List.mem_of_getElem? (i := 646) (by decide +kernel), List.mem_of_getElem? (i := 754) (by decide +kernel), List.mem_of_getElem? (i := 755) (by decide +kernel)⟩
theorem lw_p49 : lw_okq (⟨"MazeFormsModel", "across", "(II)I"⟩, 19) := ⟨⟨by decide +kernel, by decide +kernel⟩, List.mem_of_getElem? (i := 646) (by decide +kernel), List.mem_of_getElem? (i := 758) (by decide +kernel), List.mem_of_getElem? (i := 759) (by decide +kernel)⟩
theorem lw_p50 : lw_okq (⟨"MazeFormsModel", "below", "(I)I"⟩, 19) := ⟨⟨by decide +kernel, by decide +kernel⟩, List.mem_of_getElem? (i := 646) (by decide +kernel), List.mem_of_getElem? (i := 762) (by decide +kernel), List.mem_of_getElem? (i := 763) (by decide +kernel)⟩
theorem lw_p51 : lw_okq (⟨"MazeFormsModel", "sets", "()V"⟩, 19) := ⟨⟨by decide +kernel, by decide +kernel⟩, List.mem_of_getElem? (i := 646) (by decide +kernel), List.mem_of_getElem? (i := 768) (by decide +kernel), List.mem_of_getElem? (i := 769) (by decide +kernel)⟩
theorem lw_p52 : lw_okq (⟨"MazeFormsModel", "grown", "(I)V"⟩, 19) := ⟨⟨by decide +kernel, by decide +kernel⟩, List.mem_of_getElem? (i := 646) (by decide +kernel), List.mem_of_getElem? (i := 772) (by decide +kernel), List.mem_of_getElem? (i := 773) (by decide +kernel)⟩
theorem lw_p53 : lw_okq (⟨"MazeFormsModel", "walked", "(I)V"⟩, 19) := ⟨⟨by decide +kernel, by decide +kernel⟩, List.mem_of_getElem? (i := 646) (by decide +kernel), List.mem_of_getElem? (i := 776) (by decide +kernel), List.mem_of_getElem? (i := 777) (by decide +kernel)⟩
theorem lw_p54 : lw_okq (⟨"MazeFormsModel", "colour", "(Z)V"⟩, 19) := ⟨⟨by decide +kernel, by decide +kernel⟩, List.mem_of_getElem? (i := 646) (by decide +kernel), List.mem_of_getElem? (i := 780) (by decide +kernel), List.mem_of_getElem? (i := 781) (by decide +kernel)⟩
theorem lw_p55 : lw_okq (⟨"MazeFormsModel", "combed", "()V"⟩, 19) := ⟨⟨by decide +kernel, by decide +kernel⟩, List.mem_of_getElem? (i := 646) (by decide +kernel), List.mem_of_getElem? (i := 784) (by decide +kernel), List.mem_of_getElem? (i := 785) (by decide +kernel)⟩
theorem lw_p56 : lw_okq (⟨"MazeFormsModel", "openDoors", "()I"⟩, 19) := ⟨⟨by decide +kernel, by decide +kernel⟩, List.mem_of_getElem? (i := 646) (by decide +kernel), List.mem_of_getElem? (i := 788) (by decide +kernel), List.mem_of_getElem? (i := 789) (by decide +kernel)⟩
theorem lw_p57 : lw_okq (⟨"MazeFormsModel", "spread", "(I)V"⟩, 19) := ⟨⟨by decide +kernel, by decide +kernel⟩, List.mem_of_getElem? (i := 646) (by decide +kernel), List.mem_of_getElem? (i := 812) (by decide +kernel), List.mem_of_getElem? (i := 813) (by decide +kernel)⟩
theorem lw_p58 : lw_okq (⟨"MazeFormsModel", "leads", "(II)Z"⟩, 19) := ⟨⟨by decide +kernel, by decide +kernel⟩, List.mem_of_getElem? (i := 646) (by decide +kernel), List.mem_of_getElem? (i := 816) (by decide +kernel), List.mem_of_getElem? (i := 817) (by decide +kernel)⟩
theorem lw_p59 : lw_okq (⟨"MazeFormsModel", "openAt", "(I)I"⟩, 19) := ⟨⟨by decide +kernel, by decide +kernel⟩, List.mem_of_getElem? (i := 646) (by decide +kernel), List.mem_of_getElem? (i := 829) (by decide +kernel), List.mem_of_getElem? (i := 830) (by decide +kernel)⟩
theorem lw_p60 : lw_okq (⟨"MazeFormsModel", "countParts", "()I"⟩, 19) := ⟨⟨by decide +kernel, by decide +kernel⟩, List.mem_of_getElem? (i := 646) (by decide +kernel), List.mem_of_getElem? (i := 841) (by decide +kernel), List.mem_of_getElem? (i := 842) (by decide +kernel)⟩
theorem lw_p61 : lw_okq (⟨"MazeFormsModel", "cellsThere", "()I"⟩, 19) := ⟨⟨by decide +kernel, by decide +kernel⟩, List.mem_of_getElem? (i := 646) (by decide +kernel), List.mem_of_getElem? (i := 849) (by decide +kernel), List.mem_of_getElem? (i := 850) (by decide +kernel)⟩
theorem lw_p62 : lw_okq (⟨"MazeFormsModel", "add", "(IIJJ)V"⟩, 19) := ⟨⟨by decide +kernel, by decide +kernel⟩, List.mem_of_getElem? (i := 646) (by decide +kernel), List.mem_of_getElem? (i := 860) (by decide +kernel), List.mem_of_getElem? (i := 861) (by decide +kernel)⟩
theorem lw_p63 : lw_okq (⟨"MazeFormsModel", "determinant", "(J)J"⟩, 19) := ⟨⟨by decide +kernel, by decide +kernel⟩, List.mem_of_getElem? (i := 646) (by decide +kernel), List.mem_of_getElem? (i := 864) (by decide +kernel), List.mem_of_getElem? (i := 865) (by decide +kernel)⟩
def lw_privs_4 : List (MethodName × Nat) := [(⟨"MazeFormsModel", "doorOf", "(II)I"⟩, 19), (⟨"MazeFormsModel", "across", "(II)I"⟩, 19), (⟨"MazeFormsModel", "below", "(I)I"⟩, 19), (⟨"MazeFormsModel", "sets", "()V"⟩, 19), (⟨"MazeFormsModel", "grown", "(I)V"⟩, 19), (⟨"MazeFormsModel", "walked", "(I)V"⟩, 19), (⟨"MazeFormsModel", "colour", "(Z)V"⟩, 19), (⟨"MazeFormsModel", "combed", "()V"⟩, 19), (⟨"MazeFormsModel", "openDoors", "()I"⟩, 19), (⟨"MazeFormsModel", "spread", "(I)V"⟩, 19), (⟨"MazeFormsModel", "leads", "(II)Z"⟩, 19), (⟨"MazeFormsModel", "openAt", "(I)I"⟩, 19), (⟨"MazeFormsModel", "countParts", "()I"⟩, 19), (⟨"MazeFormsModel", "cellsThere", "()I"⟩, 19), (⟨"MazeFormsModel", "add", "(IIJJ)V"⟩, 19), (⟨"MazeFormsModel", "determinant", "(J)J"⟩, 19)]
theorem lw_r4 : ∀ q ∈ lw_privs_4, lw_okq q := List.forall_mem_cons.mpr ⟨lw_p48, List.forall_mem_cons.mpr ⟨lw_p49, List.forall_mem_cons.mpr ⟨lw_p50, List.forall_mem_cons.mpr ⟨lw_p51, List.forall_mem_cons.mpr ⟨lw_p52, List.forall_mem_cons.mpr ⟨lw_p53, List.forall_mem_cons.mpr ⟨lw_p54, List.forall_mem_cons.mpr ⟨lw_p55, List.forall_mem_cons.mpr ⟨lw_p56, List.forall_mem_cons.mpr ⟨lw_p57, List.forall_mem_cons.mpr ⟨lw_p58, List.forall_mem_cons.mpr ⟨lw_p59, List.forall_mem_cons.mpr ⟨lw_p60, List.forall_mem_cons.mpr ⟨lw_p61, List.forall_mem_cons.mpr ⟨lw_p62, List.forall_mem_cons.mpr ⟨lw_p63, fun _ h => absurd h List.not_mem_nil⟩⟩⟩⟩⟩⟩⟩⟩⟩⟩⟩⟩⟩⟩⟩⟩
theorem lw_p64 : lw_okq (⟨"MazeFormsModel", "get", "(II)J"⟩, 19) := ⟨⟨by decide +kernel, by decide +kernel⟩, List.mem_of_getElem? (i := 646) (by decide +kernel), List.mem_of_getElem? (i := 868) (by decide +kernel), List.mem_of_getElem? (i := 869) (by decide +kernel)⟩
def lw_privs_5 : List (MethodName × Nat) := [(⟨"MazeFormsModel", "get", "(II)J"⟩, 19)]
theorem lw_r5 : ∀ q ∈ lw_privs_5, lw_okq q := List.forall_mem_cons.mpr ⟨lw_p64, fun _ h => absurd h List.not_mem_nil⟩
def lw_privs : List (MethodName × Nat) := lw_privs_1 ++ (lw_privs_2 ++ (lw_privs_3 ++ (lw_privs_4 ++ (lw_privs_5))))
def lw_tbl : List Cond := k2_sels lw_privs ++ tables_1
theorem lw_privs_ok : ∀ q ∈ lw_privs, lw_okq q := by
  show ∀ q ∈ lw_privs_1 ++ (lw_privs_2 ++ (lw_privs_3 ++ (lw_privs_4 ++ (lw_privs_5)))), lw_okq q
  exact List.forall_mem_append.mpr ⟨lw_r1, List.forall_mem_append.mpr ⟨lw_r2, List.forall_mem_append.mpr ⟨lw_r3, List.forall_mem_append.mpr ⟨lw_r4, lw_r5⟩⟩⟩⟩
end
section
/-! A PURE MEMORY AND A WALK OVER IT (the verifier's own words).
A layout entry: .inl (t, c, n) is an array, the t-th, of the type with code c (0 int, 1 boolean, 2 long, 3 byte, 4 char, 5 short), of length n; .inr (ci, ks) is an object of class number ci with field kinds ks: 0 an int, 1 a long, 2 null, t + 3 a reference to place t. -/
abbrev mz_E : Type := (Nat × Nat × Nat) ⊕ (Nat × List Nat)
abbrev mz_M : Type := List mz_E × (Nat → Nat → Int32) × (Nat → Nat → Int64)
abbrev mz_L : Type := List (Option Value)
abbrev mz_K : Type := Nat → mz_L → List Value → mz_M → Prop
abbrev mz_Q : Type := Option Value → mz_M → Prop
abbrev mz_Op : Type := mz_Q → mz_K → mz_L → List Value → mz_M → Prop
abbrev mz_PT : Type := List Value → mz_M → mz_Q → Prop
/-- places from here on are read only arrays outside of the layout: the script, static arrays -/
abbrev mz_ro0 : Nat := 1000000
def mz_cv (ad : Nat → Nat) (v : Value) : Value := match v with
  | .ref q => .ref (ad q)
  | w => w
def mz_up {α : Type} (f : Nat → Nat → α) (q k : Nat) (x : α) : Nat → Nat → α := fun a b => if a = q then (if b = k then x else f a b) else f a b
def mz_fv (ad : Nat → Nat) (M : mz_M) (q k kind : Nat) : Value := match kind with
  | 0 => .int (M.2.1 q k)
  | 1 => .long (M.2.2 q k)
  | 2 => .null
  | t + 3 => .ref (ad t)
def mz_ce (ad : Nat → Nat) (cA : Nat → ClassId) (M : mz_M) (q : Nat) (e : mz_E) : va_E := match e with
  | .inl (t, c, n) => .inl (cA t, n, match Nat.beq c 2 with
    | true => .inr (.inl (M.2.2 q))
    | false => .inl (M.2.1 q))
  | .inr (ci, ks) => .inr (ci, ks.mapIdx (fun k kind => mz_fv ad M q k kind))
def mz_w (ad : Nat → Nat) (cA : Nat → ClassId) (M : mz_M) : va_W := M.1.mapIdx (fun q e => (ad q, mz_ce ad cA M q e))
def mz_tc (c : Nat) : FieldType := match c with
  | 0 => .int
  | 1 => .boolean
  | 2 => .long
  | 3 => .byte
  | 4 => .char
  | _ => .short
def mz_ty1 (cA : Nat → ClassId) (e : mz_E) : Option (ClassId × FieldType) := match e with
  | .inl (t, c, _) => some (cA t, mz_tc c)
  | .inr _ => none
def mz_ty (cA : Nat → ClassId) (lay : List mz_E) : List (ClassId × FieldType) := lay.filterMap (mz_ty1 cA)
def mz_sz1 (e : mz_E) : Nat := match e with
  | .inl (_, _, n) => n
  | .inr (_, ks) => ks.length
def mz_sz (lay : List mz_E) : Nat := (lay.map mz_sz1).sum
/-- the locals: as listed -/
def mz_lh (ad : Nat → Nat) (ls : Array Slot) (nL : Nat) (L : mz_L) : Prop := ls.size = nL ∧ lv_wf ls ∧ ∀ (i : Nat) (v : Value), L[i]? = some (some v) → ls[i]? = some (.val (mz_cv ad v))
/-- a value's reference is a place of the layout, or read only -/
def mz_vw (n : Nat) (v : Value) : Prop := match v with
  | .ref q => q < n ∨ mz_ro0 ≤ q
  | .int _ => True
  | .long _ => True
  | .null => True
  | _ => False
def mz_kw (n kind : Nat) : Prop := match kind with
  | t + 3 => t < n
  | _ => True
def mz_ew (n : Nat) (e : mz_E) : Prop := match e with
  | .inl _ => True
  | .inr (_, ks) => ∀ x ∈ ks, mz_kw n x
def mz_wf (L : mz_L) (S : List Value) (M : mz_M) : Prop := M.1.length ≤ mz_ro0 ∧ (∀ e ∈ M.1, mz_ew M.1.length e) ∧ (∀ v ∈ S, mz_vw M.1.length v) ∧ ∀ v : Value, some v ∈ L → mz_vw M.1.length v
-- the operations
def mz_push (v : Value) (n : Nat) : mz_Op := fun _ K L S M => K n L (v :: S) M
def mz_ldi (i n : Nat) : mz_Op := fun _ K L S M => match L[i]? with
  | some (some (.int x)) => K n L (.int x :: S) M
  | _ => False
def mz_ldl (i n : Nat) : mz_Op := fun _ K L S M => match L[i]? with
  | some (some (.long x)) => K n L (.long x :: S) M
  | _ => False
def mz_lda (i n : Nat) : mz_Op := fun _ K L S M => match L[i]? with
  | some (some (.ref x)) => K n L (.ref x :: S) M
  | _ => False
def mz_pre (L : mz_L) (i : Nat) : mz_L := match i with
  | 0 => L
  | j + 1 => match L[j]? with
    | some (some (.long _)) => L.set j none
    | _ => L
def mz_sti (i n : Nat) : mz_Op := fun _ K L S M => match S with
  | .int x :: r => K n ((mz_pre L i).set i (some (.int x))) r M
  | _ => False
def mz_sta (i n : Nat) : mz_Op := fun _ K L S M => match S with
  | .ref x :: r => K n ((mz_pre L i).set i (some (.ref x))) r M
  | _ => False
def mz_stl (i n : Nat) : mz_Op := fun _ K L S M => match S with
  | .long x :: r => K n (((mz_pre L i).set i (some (.long x))).set (i + 1) none) r M
  | _ => False
def mz_inc (i : Nat) (d : Int32) (n : Nat) : mz_Op := fun _ K L S M => match L[i]? with
  | some (some (.int x)) => K n ((mz_pre L i).set i (some (.int (x + d)))) S M
  | _ => False
def mz_bi (f : Int32 → Int32 → Int32) (n : Nat) : mz_Op := fun _ K L S M => match S with
  | .int y :: .int x :: r => K n L (.int (f x y) :: r) M
  | _ => False
def mz_bid (f : Int32 → Int32 → Int32) (n : Nat) : mz_Op := fun _ K L S M => match S with
  | .int y :: .int x :: r => ¬ y = 0 ∧ K n L (.int (f x y) :: r) M
  | _ => False
def mz_bl (f : Int64 → Int64 → Int64) (n : Nat) : mz_Op := fun _ K L S M => match S with
  | .long y :: .long x :: r => K n L (.long (f x y) :: r) M
  | _ => False
def mz_bld (f : Int64 → Int64 → Int64) (n : Nat) : mz_Op := fun _ K L S M => match S with
  | .long y :: .long x :: r => ¬ y = 0 ∧ K n L (.long (f x y) :: r) M
  | _ => False
def mz_sh (f : Int64 → Int32 → Int64) (n : Nat) : mz_Op := fun _ K L S M => match S with
  | .int y :: .long x :: r => K n L (.long (f x y) :: r) M
  | _ => False
def mz_i1 (f : Int32 → Int32) (n : Nat) : mz_Op := fun _ K L S M => match S with
  | .int x :: r => K n L (.int (f x) :: r) M
  | _ => False
def mz_l1 (f : Int64 → Int64) (n : Nat) : mz_Op := fun _ K L S M => match S with
  | .long x :: r => K n L (.long (f x) :: r) M
  | _ => False
def mz_i2l (n : Nat) : mz_Op := fun _ K L S M => match S with
  | .int x :: r => K n L (.long x.toInt64 :: r) M
  | _ => False
def mz_l2i (n : Nat) : mz_Op := fun _ K L S M => match S with
  | .long x :: r => K n L (.int x.toInt32 :: r) M
  | _ => False
def mz_lcmp (n : Nat) : mz_Op := fun _ K L S M => match S with
  | .long y :: .long x :: r => K n L (.int (lg_cmp x y) :: r) M
  | _ => False
def mz_if (P : Int32 → Prop) (t n : Nat) : mz_Op := fun _ K L S M => match S with
  | .int x :: r => (P x → K t L r M) ∧ (¬ P x → K n L r M)
  | _ => False
def mz_ic (P : Int32 → Int32 → Prop) (t n : Nat) : mz_Op := fun _ K L S M => match S with
  | .int y :: .int x :: r => (P x y → K t L r M) ∧ (¬ P x y → K n L r M)
  | _ => False
def mz_go (t : Nat) : mz_Op := fun _ K L S M => K t L S M
def mz_dup (n : Nat) : mz_Op := fun _ K L S M => match S with
  | .int x :: r => K n L (.int x :: .int x :: r) M
  | .ref x :: r => K n L (.ref x :: .ref x :: r) M
  | _ => False
def mz_dupx1 (n : Nat) : mz_Op := fun _ K L S M => match S with
  | .int x :: .ref y :: r => K n L (.int x :: .ref y :: .int x :: r) M
  | .int x :: .int y :: r => K n L (.int x :: .int y :: .int x :: r) M
  | _ => False
def mz_dup2 (n : Nat) : mz_Op := fun _ K L S M => match S with
  | .long x :: r => K n L (.long x :: .long x :: r) M
  | .int x :: .ref y :: r => K n L (.int x :: .ref y :: .int x :: .ref y :: r) M
  | _ => False
def mz_pop (n : Nat) : mz_Op := fun _ K L S M => match S with
  | .int _ :: r => K n L r M
  | .ref _ :: r => K n L r M
  | _ => False
def mz_ri : mz_Op := fun Q _ _ S M => match S with
  | [.int x] => Q (some (.int x)) M
  | _ => False
def mz_rz : mz_Op := fun Q _ _ S M => match S with
  | [.int x] => (x = 0 ∨ x = 1) ∧ Q (some (.int x)) M
  | _ => False
def mz_rl : mz_Op := fun Q _ _ S M => match S with
  | [.long x] => Q (some (.long x)) M
  | _ => False
def mz_rv : mz_Op := fun Q _ _ S M => match S with
  | [] => Q none M
  | _ => False
/-- what is at place q: an object of class ci with its kinds -/
def mz_ob (M : mz_M) (q ci : Nat) (k : List Nat → Prop) : Prop := match M.1[q]? with
  | some (.inr (c, ks)) => match Nat.beq c ci with
    | true => k ks
    | false => False
  | _ => False
def mz_gf (ci k n : Nat) : mz_Op := fun _ K L S M => match S with
  | .ref q :: r => mz_ob M q ci fun ks => match ks[k]? with
    | some 0 => K n L (.int (M.2.1 q k) :: r) M
    | some 1 => K n L (.long (M.2.2 q k) :: r) M
    | some (t + 3) => K n L (.ref t :: r) M
    | _ => False
  | _ => False
def mz_pfi (ci k n : Nat) : mz_Op := fun _ K L S M => match S with
  | .int x :: .ref q :: r => mz_ob M q ci fun ks => match ks[k]? with
    | some 0 => K n L r (M.1, mz_up M.2.1 q k x, M.2.2)
    | _ => False
  | _ => False
def mz_pfl (ci k n : Nat) : mz_Op := fun _ K L S M => match S with
  | .long x :: .ref q :: r => mz_ob M q ci fun ks => match ks[k]? with
    | some 1 => K n L r (M.1, M.2.1, mz_up M.2.2 q k x)
    | _ => False
  | _ => False
/-- what is at place q: an array of the type with code c, or a read only one -/
abbrev mz_RO : Type := Nat → Option (Nat × ((Nat → Int32) ⊕ (Nat → Int64)))
def mz_ar (M : mz_M) (q c : Nat) (k : Nat → Prop) : Prop := match M.1[q]? with
  | some (.inl (_, d, n)) => match Nat.beq d c with
    | true => k n
    | false => False
  | _ => False
def mz_al (n : Nat) : mz_Op := fun _ K L S M => match S with
  | .ref q :: r => match M.1[q]? with
    | some (.inl (_, _, len)) => K n L (.int (nI len) :: r) M
    | _ => False
  | _ => False
def mz_iald (c n : Nat) : mz_Op := fun _ K L S M => match S with
  | .int i :: .ref q :: r => mz_ar M q c fun len => vp_in i len ∧ K n L (.int (M.2.1 q i.toNatClampNeg) :: r) M
  | _ => False
def mz_lald (n : Nat) : mz_Op := fun _ K L S M => match S with
  | .int i :: .ref q :: r => mz_ar M q 2 fun len => vp_in i len ∧ K n L (.long (M.2.2 q i.toNatClampNeg) :: r) M
  | _ => False
def mz_iast (c n : Nat) : mz_Op := fun _ K L S M => match S with
  | .int x :: .int i :: .ref q :: r => mz_ar M q c fun len => vp_in i len ∧ K n L r (M.1, mz_up M.2.1 q i.toNatClampNeg (vp_nar (mz_tc c) x), M.2.2)
  | _ => False
def mz_last (n : Nat) : mz_Op := fun _ K L S M => match S with
  | .long x :: .int i :: .ref q :: r => mz_ar M q 2 fun len => vp_in i len ∧ K n L r (M.1, M.2.1, mz_up M.2.2 q i.toNatClampNeg x)
  | _ => False
/-- read only arrays -/
def mz_ral (ro : mz_RO) (n : Nat) : mz_Op := fun _ K L S M => match S with
  | .ref q :: r => match ro q with
    | some (len, _) => K n L (.int (nI len) :: r) M
    | _ => False
  | _ => False
def mz_rald (ro : mz_RO) (n : Nat) : mz_Op := fun _ K L S M => match S with
  | .int i :: .ref q :: r => match ro q with
    | some (len, .inl f) => vp_in i len ∧ K n L (.int (f i.toNatClampNeg) :: r) M
    | some (len, .inr f) => vp_in i len ∧ K n L (.long (f i.toNatClampNeg) :: r) M
    | _ => False
  | _ => False
/-- calls: a contract is what the callee makes of the ints and longs, with its answer; the layout stays -/
abbrev mz_X : Type := (Nat → Nat → Int32) × (Nat → Nat → Int64)
abbrev mz_CI : Type := List mz_E → List Value → mz_X → (Int32 → mz_X → Prop) → Prop
abbrev mz_CL : Type := List mz_E → List Value → mz_X → (Int64 → mz_X → Prop) → Prop
abbrev mz_CV : Type := List mz_E → List Value → mz_X → (mz_X → Prop) → Prop
def mz_cut (na : Nat) (S : List Value) (k : List Value → List Value → Prop) : Prop := match Nat.ble na S.length with
  | true => match Nat.ble ((S.drop na).map fun v => v.category).sum 8 with
    | true => k (S.take na).reverse (S.drop na)
    | false => False
  | false => False
/-- the receiver is an object of class ci -/
def mz_rcv (M : mz_M) (as : List Value) (ci : Nat) (P : Prop) : Prop := match as with
  | .ref q :: _ => mz_ob M q ci (fun _ => P)
  | _ => False
def mz_ci (na ci : Nat) (C : mz_CI) (n : Nat) : mz_Op := fun _ K L S M => mz_cut na S fun as r => mz_rcv M as ci (C M.1 as M.2 (fun x X => K n L (.int x :: r) (M.1, X)))
def mz_cl (na ci : Nat) (C : mz_CL) (n : Nat) : mz_Op := fun _ K L S M => mz_cut na S fun as r => mz_rcv M as ci (C M.1 as M.2 (fun x X => K n L (.long x :: r) (M.1, X)))
def mz_cvo (na ci : Nat) (C : mz_CV) (n : Nat) : mz_Op := fun _ K L S M => mz_cut na S fun as r => mz_rcv M as ci (C M.1 as M.2 (fun X => K n L r (M.1, X)))
/-- static calls -/
def mz_si (na : Nat) (C : mz_CI) (n : Nat) : mz_Op := fun _ K L S M => mz_cut na S fun as r => C M.1 as M.2 (fun x X => K n L (.int x :: r) (M.1, X))
def mz_sl (na : Nat) (C : mz_CL) (n : Nat) : mz_Op := fun _ K L S M => mz_cut na S fun as r => C M.1 as M.2 (fun x X => K n L (.long x :: r) (M.1, X))
def mz_svo (na : Nat) (C : mz_CV) (n : Nat) : mz_Op := fun _ K L S M => mz_cut na S fun as r => C M.1 as M.2 (fun X => K n L r (M.1, X))
def mz_no : mz_Op := fun _ _ _ _ _ => False
def mz_at (I : List (Nat × mz_Op)) (pc : Nat) : mz_Op := match I with
  | [] => mz_no
  | (k, op) :: r => match Nat.beq k pc with
    | true => op
    | false => mz_at r pc
/-- K is closed under the method's instructions -/
def mz_Cl (I : List (Nat × mz_Op)) (Q : mz_Q) (K : mz_K) : Prop := ∀ (pc : Nat) (L : mz_L) (S : List Value) (M : mz_M), mz_at I pc Q K L S M → K pc L S M
/-- a method's first locals -/
def mz_l0 (as : List Value) : mz_L := match as with
  | [] => []
  | .long x :: r => some (.long x) :: none :: mz_l0 r
  | v :: r => some v :: mz_l0 r
def mz_ent (nL : Nat) (as : List Value) : mz_L := mz_l0 as ++ List.replicate (nL - (mz_l0 as).length) none
/-! the operations are the machine's -/
theorem mz_w_at {ad : Nat → Nat} {cA : Nat → ClassId} {M : mz_M} {q : Nat} {e : mz_E} (h : M.1[q]? = some e) : (mz_w ad cA M)[q]? = some (ad q, mz_ce ad cA M q e) := by
  simp [mz_w, List.getElem?_mapIdx, h]
theorem mz_w_len (ad : Nat → Nat) (cA : Nat → ClassId) (M : mz_M) : (mz_w ad cA M).length = M.1.length := by simp [mz_w]
theorem mz_up_off {α : Type} {f : Nat → Nat → α} {q k i : Nat} {x : α} (h : i ≠ q) : mz_up f q k x i = f i := by
  funext b
  simp [mz_up, h]
theorem mz_up_row {α : Type} (f : Nat → Nat → α) (q k : Nat) (x : α) : mz_up f q k x q = fun b => if b = k then x else f q b := by
  funext b
  simp [mz_up]
theorem mz_fv_off {ad : Nat → Nat} {M M' : mz_M} {i : Nat} (h1 : M'.2.1 i = M.2.1 i) (h2 : M'.2.2 i = M.2.2 i) (k kind : Nat) : mz_fv ad M' i k kind = mz_fv ad M i k kind := by
  unfold mz_fv
  split <;> simp [h1, h2]
theorem mz_ce_off {ad : Nat → Nat} {cA : Nat → ClassId} {M M' : mz_M} {i : Nat} (h1 : M'.2.1 i = M.2.1 i) (h2 : M'.2.2 i = M.2.2 i) (e : mz_E) : mz_ce ad cA M' i e = mz_ce ad cA M i e := by
  rcases e with ⟨t, c, n⟩ | ⟨ci, ks⟩
  · simp [mz_ce, h1, h2]
  · simp only [mz_ce]
    have : (fun k kind => mz_fv ad M' i k kind) = (fun k kind => mz_fv ad M i k kind) := by
      funext k kind
      exact mz_fv_off h1 h2 k kind
    rw [this]
/-- one place's entry is made anew -/
theorem mz_w_set {ad : Nat → Nat} {cA : Nat → ClassId} {M M' : mz_M} {q : Nat} {e : mz_E} {x : va_E} (h : M.1[q]? = some e) (hl : M'.1 = M.1) (h1 : ∀ i, i ≠ q → M'.2.1 i = M.2.1 i) (h2 : ∀ i, i ≠ q → M'.2.2 i = M.2.2 i) (hx : mz_ce ad cA M' q e = x) : (mz_w ad cA M).set q (ad q, x) = mz_w ad cA M' := by
  apply List.ext_getElem?
  intro i
  have hq : q < (mz_w ad cA M).length := by
    rw [mz_w_len]
    exact (List.getElem?_eq_some_iff.mp h).1
  by_cases hi : i = q
  · subst hi
    rw [List.getElem?_set_self hq, mz_w_at (e := e) (by rw [hl]; exact h), hx]
  · rw [List.getElem?_set_ne (Ne.symm hi)]
    simp only [mz_w, List.getElem?_mapIdx, hl]
    cases M.1[i]? with
    | none => rfl
    | some e' => simp only [Option.map_some]; rw [mz_ce_off (h1 i hi) (h2 i hi)]
theorem mz_fs_at {ad : Nat → Nat} {M : mz_M} {q k kind : Nat} {ks : List Nat} (h : ks[k]? = some kind) : (ks.mapIdx (fun k kind => mz_fv ad M q k kind))[k]? = some (mz_fv ad M q k kind) := by
  simp [List.getElem?_mapIdx, h]
theorem mz_fs_set {ad : Nat → Nat} {M M' : mz_M} {q k kind : Nat} {ks : List Nat} {v : Value} (h : ks[k]? = some kind) (hv : mz_fv ad M' q k kind = v) (ho : ∀ j kd, j ≠ k → mz_fv ad M' q j kd = mz_fv ad M q j kd) : (ks.mapIdx (fun k kind => mz_fv ad M q k kind)).set k v = ks.mapIdx (fun k kind => mz_fv ad M' q k kind) := by
  apply List.ext_getElem?
  intro i
  have hk : k < (ks.mapIdx (fun k kind => mz_fv ad M q k kind)).length := by
    rw [List.length_mapIdx]
    exact (List.getElem?_eq_some_iff.mp h).1
  by_cases hi : i = k
  · subst hi
    rw [List.getElem?_set_self hk, mz_fs_at h, hv]
  · rw [List.getElem?_set_ne (Ne.symm hi)]
    simp only [List.getElem?_mapIdx]
    cases ks[i]? with
    | none => rfl
    | some e' => simp only [Option.map_some]; rw [ho i e' hi]
theorem mz_ty_at {cA : Nat → ClassId} {lay : List mz_E} {q t c n : Nat} (h : lay[q]? = some (.inl (t, c, n))) : ∃ t0 : Nat, (mz_ty cA lay)[t0]? = some (cA t, mz_tc c) := by
  have : (cA t, mz_tc c) ∈ mz_ty cA lay := List.mem_filterMap.mpr ⟨_, List.mem_of_getElem? h, rfl⟩
  exact List.getElem?_of_mem this
/-- the locals as pairs -/
def mz_ps (ad : Nat → Nat) (L : mz_L) : List (Nat × Value) := L.zipIdx.filterMap (fun q => q.1.map (fun v => (q.2, mz_cv ad v)))
theorem mz_ps_mem {ad : Nat → Nat} {L : mz_L} {i : Nat} {w : Value} : (i, w) ∈ mz_ps ad L ↔ ∃ v, L[i]? = some (some v) ∧ w = mz_cv ad v := by
  unfold mz_ps
  rw [List.mem_filterMap]
  constructor
  · rintro ⟨⟨o, j⟩, h1, h2⟩
    cases o with
    | none => simp at h2
    | some v =>
      simp only [Option.map_some, Option.some.injEq, Prod.mk.injEq] at h2
      have h3 := List.mem_zipIdx_iff_getElem?.mp h1
      refine ⟨v, ?_, h2.2.symm⟩
      rw [← h2.1]
      simpa using h3
  · rintro ⟨v, h1, h2⟩
    refine ⟨(some v, i), List.mem_zipIdx_iff_getElem?.mpr (by simpa using h1), ?_⟩
    simp [h2]
theorem mz_lh_has {ad : Nat → Nat} {ls : Array Slot} {nL : Nat} {L : mz_L} (h : mz_lh ad ls nL L) : lv_has ls nL (mz_ps ad L) := by
  refine ⟨h.1, h.2.1, fun q hq => ?_⟩
  obtain ⟨i, w⟩ := q
  obtain ⟨v, h1, h2⟩ := mz_ps_mem.mp hq
  rw [h2]
  exact h.2.2 i v h1
theorem mz_cv_cat (ad : Nat → Nat) (v : Value) : (mz_cv ad v).category = v.category := by cases v <;> rfl
theorem mz_pre_get {L : mz_L} {i j : Nat} {v : Value} (h : (mz_pre L i)[j]? = some (some v)) : L[j]? = some (some v) ∧ ¬ (j + 1 = i ∧ ∃ x, v = .long x) := by
  cases i with
  | zero => exact ⟨h, fun q => by omega⟩
  | succ i =>
    simp only [mz_pre] at h
    split at h
    · next x hx =>
      by_cases hj : i = j
      · subst hj
        rw [List.getElem?_set] at h
        simp at h
      · rw [List.getElem?_set_ne hj] at h
        exact ⟨h, fun q => hj (by omega)⟩
    · next hx =>
      refine ⟨h, fun q => ?_⟩
      obtain ⟨q1, x, q2⟩ := q
      have : j = i := by omega
      subst this
      subst q2
      exact hx x h
theorem mz_lh_sto1 {ad : Nat → Nat} {ls' : Array Slot} {nL i : Nat} {L : mz_L} {v : Value} (hnf : ∀ (j : Nat) (u : Value), L[j]? = some (some u) → u.category = 2 → ∃ x, u = .long x) (h : lv_has ls' nL ((i, mz_cv ad v) :: (mz_ps ad L).filter (fun q => !(q.1 == i) && !(q.1 + 1 == i && q.2.category == 2)))) : mz_lh ad ls' nL ((mz_pre L i).set i (some v)) := by
  refine ⟨h.1, h.2.1, fun j u hj => ?_⟩
  by_cases hij : i = j
  · subst hij
    rw [List.getElem?_set] at hj
    simp at hj
    have hu : v = u := hj.2
    subst hu
    exact h.2.2 (i, _) List.mem_cons_self
  · rw [List.getElem?_set_ne hij] at hj
    obtain ⟨h1, h2⟩ := mz_pre_get hj
    refine h.2.2 (j, mz_cv ad u) (List.mem_cons_of_mem _ (List.mem_filter.mpr ⟨mz_ps_mem.mpr ⟨u, h1, rfl⟩, ?_⟩))
    simp only [Bool.and_eq_true, Bool.not_eq_true', beq_eq_false_iff_ne, ne_eq, Bool.and_eq_false_iff]
    refine ⟨fun q => hij q.symm, ?_⟩
    by_cases hc : u.category = 2
    · exact Or.inl (fun q => h2 ⟨q, hnf j u h1 hc⟩)
    · exact Or.inr (by rw [mz_cv_cat]; exact hc)
theorem mz_lh_sto2 {ad : Nat → Nat} {ls' : Array Slot} {nL i : Nat} {L : mz_L} {x : Int64} (hnf : ∀ (j : Nat) (u : Value), L[j]? = some (some u) → u.category = 2 → ∃ x, u = .long x) (h : lv_has ls' nL ((i, Value.long x) :: (mz_ps ad L).filter (fun q => !(q.1 == i) && (!(q.1 == i + 1) && !(q.1 + 1 == i && q.2.category == 2))))) : mz_lh ad ls' nL (((mz_pre L i).set i (some (.long x))).set (i + 1) none) := by
  refine ⟨h.1, h.2.1, fun j u hj => ?_⟩
  by_cases hij1 : i + 1 = j
  · subst hij1
    rw [List.getElem?_set] at hj
    simp at hj
  · rw [List.getElem?_set_ne hij1] at hj
    by_cases hij : i = j
    · subst hij
      rw [List.getElem?_set] at hj
      simp at hj
      have hu : Value.long x = u := hj.2
      subst hu
      exact h.2.2 (i, _) List.mem_cons_self
    · rw [List.getElem?_set_ne hij] at hj
      obtain ⟨h1, h2⟩ := mz_pre_get hj
      refine h.2.2 (j, mz_cv ad u) (List.mem_cons_of_mem _ (List.mem_filter.mpr ⟨mz_ps_mem.mpr ⟨u, h1, rfl⟩, ?_⟩))
      simp only [Bool.and_eq_true, Bool.not_eq_true', beq_eq_false_iff_ne, ne_eq, Bool.and_eq_false_iff]
      refine ⟨fun q => hij q.symm, fun q => hij1 q.symm, ?_⟩
      by_cases hc : u.category = 2
      · exact Or.inl (fun q => h2 ⟨q, hnf j u h1 hc⟩)
      · exact Or.inr (by rw [mz_cv_cat]; exact hc)
end
section
section MZV
variable {p : Program} {l : Launch} {e : Env} {R : Room} {s : State} {m : MethodId} {args : Array Value} {below : List Frame} {meth : Method} {c : Code}
variable {cc : ByteArray} {nL n0 z0 : Nat} {D : va_G} {cl : List vw_C} {G : (Nat → Nat) → (Nat → ClassId) → Prop} {A : Nat → Prop} {Qw : State → Prop} {Qv : mz_Q} {pc : Nat}
/-- from this abstract state the machine comes to Qw -/
def mz_V (p : Program) (l : Launch) (e : Env) (R : Room) (s : State) (m : MethodId) (args : Array Value) (below : List Frame) (meth : Method) (c : Code) (nL n0 z0 : Nat) (D : va_G) (cl : List vw_C) (G : (Nat → Nat) → (Nat → ClassId) → Prop) (A : Nat → Prop) (Qw : State → Prop) : mz_K := fun pc L S M =>
  ∀ (ad : Nat → Nat) (cA : Nat → ClassId) (H : Heap) (locs : List Loc) (ls : Array Slot), mz_wf L S M → G ad cA → n0 ≤ M.1.length ∧ M.1.length - n0 ≤ R.cells ∧ mz_sz M.1 - z0 ≤ R.slots → va_K D cl (mz_ty cA M.1) s → va_P D cl (mz_w ad cA M) H → va_D A (mz_w ad cA M) → va_S A s.heap H locs → mz_lh ad ls nL L →
    W p l e R s m args below meth c H locs (M.1.length - n0) (mz_sz M.1 - z0) Qw (F0 m pc ls (S.map (mz_cv ad)))
def mz_Sd (V : mz_K) (Qv : mz_Q) (op : mz_Op) (pc : Nat) : Prop := ∀ L S M, op Qv V L S M → V pc L S M
theorem mz_wf.push {L : mz_L} {S : List Value} {M : mz_M} {v : Value} (h : mz_wf L S M) (hv : mz_vw M.1.length v) : mz_wf L (v :: S) M :=
  ⟨h.1, h.2.1, fun w hw => by
    rcases List.mem_cons.mp hw with rfl | hw
    · exact hv
    · exact h.2.2.1 w hw, h.2.2.2⟩
theorem mz_wf.tail {L : mz_L} {S : List Value} {M : mz_M} {v : Value} (h : mz_wf L (v :: S) M) : mz_wf L S M := ⟨h.1, h.2.1, fun w hw => h.2.2.1 w (List.mem_cons_of_mem _ hw), h.2.2.2⟩
theorem mz_wf.head {L : mz_L} {S : List Value} {M : mz_M} {v : Value} (h : mz_wf L (v :: S) M) : mz_vw M.1.length v := h.2.2.1 v List.mem_cons_self
theorem mz_wf.loc {L : mz_L} {S : List Value} {M : mz_M} {i : Nat} {v : Value} (h : mz_wf L S M) (hi : L[i]? = some (some v)) : mz_vw M.1.length v := h.2.2.2 v (List.mem_of_getElem? hi)
theorem mz_wf.set {L : mz_L} {S : List Value} {M : mz_M} {i : Nat} {v : Value} (h : mz_wf L S M) (hv : mz_vw M.1.length v) : mz_wf (L.set i (some v)) S M :=
  ⟨h.1, h.2.1, h.2.2.1, fun w hw => by
    rcases List.mem_or_eq_of_mem_set hw with hw | hw
    · exact h.2.2.2 w hw
    · cases hw; exact hv⟩
theorem mz_wf.clr {L : mz_L} {S : List Value} {M : mz_M} {i : Nat} (h : mz_wf L S M) : mz_wf (L.set i none) S M :=
  ⟨h.1, h.2.1, h.2.2.1, fun w hw => by
    rcases List.mem_or_eq_of_mem_set hw with hw | hw
    · exact h.2.2.2 w hw
    · cases hw⟩
theorem mz_wf.pre {L : mz_L} {S : List Value} {M : mz_M} {i : Nat} (h : mz_wf L S M) : mz_wf (mz_pre L i) S M := by
  cases i with
  | zero => exact h
  | succ i =>
    simp only [mz_pre]
    split
    · exact h.clr
    · exact h
theorem mz_wf.nf {L : mz_L} {S : List Value} {M : mz_M} (h : mz_wf L S M) (j : Nat) (u : Value) (hj : L[j]? = some (some u)) (hc : u.category = 2) : ∃ x, u = .long x := by
  have := h.loc hj
  cases u with
  | long x => exact ⟨x, rfl⟩
  | _ => simp [Value.category] at hc <;> exact absurd this (by simp [mz_vw])
theorem mz_wf.mem {L : mz_L} {S : List Value} {M M' : mz_M} (h : mz_wf L S M) (hl : M'.1 = M.1) : mz_wf L S M' := by
  unfold mz_wf at *
  rw [hl]
  exact h
theorem sd_iconst (hx : p.tables.exec = Jvm.exec) (hb : c.code = cc) {n : Int} {v : Int32} (hdg : decode cc pc = .ok (.iconst n, 1)) (hv : Int32.ofInt n = v) : mz_Sd (mz_V p l e R s m args below meth c nL n0 z0 D cl G A Qw) Qv (mz_push (.int v) (pc + 1)) pc := by
  intro L S M h ad cA H locs ls hw ha hn hK hP hD hS hl
  exact lv_iconst hx hb hdg hv (h ad cA H locs ls (hw.push trivial) ha hn hK hP hD hS hl)
theorem sd_bipush (hx : p.tables.exec = Jvm.exec) (hb : c.code = cc) {n : Int} {v : Int32} (hdg : decode cc pc = .ok (.bipush n, 2)) (hv : (Int8.ofInt n).toInt32 = v) : mz_Sd (mz_V p l e R s m args below meth c nL n0 z0 D cl G A Qw) Qv (mz_push (.int v) (pc + 2)) pc := by
  intro L S M h ad cA H locs ls hw ha hn hK hP hD hS hl
  exact lv_bipush hx hb hdg hv (h ad cA H locs ls (hw.push trivial) ha hn hK hP hD hS hl)
theorem sd_sipush (hx : p.tables.exec = Jvm.exec) (hb : c.code = cc) {n : Int} {v : Int32} (hdg : decode cc pc = .ok (.sipush n, 3)) (hv : (Int16.ofInt n).toInt32 = v) : mz_Sd (mz_V p l e R s m args below meth c nL n0 z0 D cl G A Qw) Qv (mz_push (.int v) (pc + 3)) pc := by
  intro L S M h ad cA H locs ls hw ha hn hK hP hD hS hl
  exact lv_sipush hx hb hdg hv (h ad cA H locs ls (hw.push trivial) ha hn hK hP hD hS hl)
theorem sd_lconst (hx : p.tables.exec = Jvm.exec) (hb : c.code = cc) {n : Fin 2} {v : Int64} (hdg : decode cc pc = .ok (.lconst n, 1)) (hv : Int64.ofNat (n : Nat) = v) : mz_Sd (mz_V p l e R s m args below meth c nL n0 z0 D cl G A Qw) Qv (mz_push (.long v) (pc + 1)) pc := by
  intro L S M h ad cA H locs ls hw ha hn hK hP hD hS hl
  exact lv_lconst hx hb hdg hv (h ad cA H locs ls (hw.push trivial) ha hn hK hP hD hS hl)
theorem sd_ldc (hx : p.tables.exec = Jvm.exec) (hb : c.code = cc) {own : String} {index : Nat} {v : Int32} (hown : s.vm.findClass own = some m.cls) (hconst : (Jvm.Cond.constant own index v).before args s = true) (hdg : decode cc pc = .ok (.ldc index, 2)) : mz_Sd (mz_V p l e R s m args below meth c nL n0 z0 D cl G A Qw) Qv (mz_push (.int v) (pc + 2)) pc := by
  intro L S M h ad cA H locs ls hw ha hn hK hP hD hS hl
  exact lv_ldc hx hb hown hconst hdg (h ad cA H locs ls (hw.push trivial) ha hn hK hP hD hS hl)
theorem sd_ldcw (hx : p.tables.exec = Jvm.exec) (hb : c.code = cc) {own : String} {index : Nat} {v : Int32} (hown : s.vm.findClass own = some m.cls) (hconst : (Jvm.Cond.constant own index v).before args s = true) (hdg : decode cc pc = .ok (.ldc_w index, 3)) : mz_Sd (mz_V p l e R s m args below meth c nL n0 z0 D cl G A Qw) Qv (mz_push (.int v) (pc + 3)) pc := by
  intro L S M h ad cA H locs ls hw ha hn hK hP hD hS hl
  exact lv_ldcw hx hb hown hconst hdg (h ad cA H locs ls (hw.push trivial) ha hn hK hP hD hS hl)
theorem sd_ldc2 (hx : p.tables.exec = Jvm.exec) (hb : c.code = cc) {own : String} {index : Nat} {v : Int64} (hown : s.vm.findClass own = some m.cls) (hconst : (Jvm.Cond.constantLong own index v).before args s = true) (hdg : decode cc pc = .ok (.ldc2_w index, 3)) : mz_Sd (mz_V p l e R s m args below meth c nL n0 z0 D cl G A Qw) Qv (mz_push (.long v) (pc + 3)) pc := by
  intro L S M h ad cA H locs ls hw ha hn hK hP hD hS hl
  exact lv_ldc2 hx hb hown hconst hdg (h ad cA H locs ls (hw.push trivial) ha hn hK hP hD hS hl)
theorem sd_iload_n (hx : p.tables.exec = Jvm.exec) (hb : c.code = cc) {k : Fin 4} {i : Nat} (hdg : decode cc pc = .ok (.iload_n k, 1)) (hi : (k : Nat) = i) : mz_Sd (mz_V p l e R s m args below meth c nL n0 z0 D cl G A Qw) Qv (mz_ldi i (pc + 1)) pc := by
  intro L S M h ad cA H locs ls hw ha hn hK hP hD hS hl
  simp only [mz_ldi] at h
  split at h
  · next x hx2 => exact lv_iload_n hx hb hdg hi (hl.2.2 i _ hx2) (h ad cA H locs ls (hw.push (hw.loc hx2)) ha hn hK hP hD hS hl)
  · exact h.elim
theorem sd_iload (hx : p.tables.exec = Jvm.exec) (hb : c.code = cc) {i : Nat} (hdg : decode cc pc = .ok (.iload i, 2)) : mz_Sd (mz_V p l e R s m args below meth c nL n0 z0 D cl G A Qw) Qv (mz_ldi i (pc + 2)) pc := by
  intro L S M h ad cA H locs ls hw ha hn hK hP hD hS hl
  simp only [mz_ldi] at h
  split at h
  · next x hx2 => exact lv_iload hx hb hdg (hl.2.2 i _ hx2) (h ad cA H locs ls (hw.push (hw.loc hx2)) ha hn hK hP hD hS hl)
  · exact h.elim
theorem sd_istore_n (hx : p.tables.exec = Jvm.exec) (hb : c.code = cc) {k : Fin 4} {i : Nat} (hdg : decode cc pc = .ok (.istore_n k, 1)) (hi : (k : Nat) = i) (hn2 : i < nL) : mz_Sd (mz_V p l e R s m args below meth c nL n0 z0 D cl G A Qw) Qv (mz_sti i (pc + 1)) pc := by
  intro L S M h ad cA H locs ls hw ha hn hK hP hD hS hl
  simp only [mz_sti] at h
  split at h
  · next x r =>
    refine lv_istore_n hx hb hdg hi (mz_lh_has hl) hn2 rfl (fun ls' hl' => ?_)
    exact h ad cA H locs ls' (((hw.tail.pre).set hw.head)) ha hn hK hP hD hS (mz_lh_sto1 hw.nf hl')
  · exact h.elim
theorem sd_istore (hx : p.tables.exec = Jvm.exec) (hb : c.code = cc) {i : Nat} (hdg : decode cc pc = .ok (.istore i, 2)) (hn2 : i < nL) : mz_Sd (mz_V p l e R s m args below meth c nL n0 z0 D cl G A Qw) Qv (mz_sti i (pc + 2)) pc := by
  intro L S M h ad cA H locs ls hw ha hn hK hP hD hS hl
  simp only [mz_sti] at h
  split at h
  · next x r =>
    refine lv_istore hx hb hdg (mz_lh_has hl) hn2 rfl (fun ls' hl' => ?_)
    exact h ad cA H locs ls' (((hw.tail.pre).set hw.head)) ha hn hK hP hD hS (mz_lh_sto1 hw.nf hl')
  · exact h.elim
theorem sd_lload_n (hx : p.tables.exec = Jvm.exec) (hb : c.code = cc) {k : Fin 4} {i : Nat} (hdg : decode cc pc = .ok (.lload_n k, 1)) (hi : (k : Nat) = i) : mz_Sd (mz_V p l e R s m args below meth c nL n0 z0 D cl G A Qw) Qv (mz_ldl i (pc + 1)) pc := by
  intro L S M h ad cA H locs ls hw ha hn hK hP hD hS hl
  simp only [mz_ldl] at h
  split at h
  · next x hx2 => exact lv_lload_n hx hb hdg hi (hl.2.2 i _ hx2) (h ad cA H locs ls (hw.push (hw.loc hx2)) ha hn hK hP hD hS hl)
  · exact h.elim
theorem sd_lload (hx : p.tables.exec = Jvm.exec) (hb : c.code = cc) {i : Nat} (hdg : decode cc pc = .ok (.lload i, 2)) : mz_Sd (mz_V p l e R s m args below meth c nL n0 z0 D cl G A Qw) Qv (mz_ldl i (pc + 2)) pc := by
  intro L S M h ad cA H locs ls hw ha hn hK hP hD hS hl
  simp only [mz_ldl] at h
  split at h
  · next x hx2 => exact lv_lload hx hb hdg (hl.2.2 i _ hx2) (h ad cA H locs ls (hw.push (hw.loc hx2)) ha hn hK hP hD hS hl)
  · exact h.elim
theorem sd_lstore_n (hx : p.tables.exec = Jvm.exec) (hb : c.code = cc) {k : Fin 4} {i : Nat} (hdg : decode cc pc = .ok (.lstore_n k, 1)) (hi : (k : Nat) = i) (hn2 : i + 1 < nL) : mz_Sd (mz_V p l e R s m args below meth c nL n0 z0 D cl G A Qw) Qv (mz_stl i (pc + 1)) pc := by
  intro L S M h ad cA H locs ls hw ha hn hK hP hD hS hl
  simp only [mz_stl] at h
  split at h
  · next x r =>
    refine lv_lstore_n hx hb hdg hi (mz_lh_has hl) hn2 rfl (fun ls' hl' => ?_)
    exact h ad cA H locs ls' (((hw.tail.pre).set hw.head).clr) ha hn hK hP hD hS (mz_lh_sto2 hw.nf hl')
  · exact h.elim
theorem sd_lstore (hx : p.tables.exec = Jvm.exec) (hb : c.code = cc) {i : Nat} (hdg : decode cc pc = .ok (.lstore i, 2)) (hn2 : i + 1 < nL) : mz_Sd (mz_V p l e R s m args below meth c nL n0 z0 D cl G A Qw) Qv (mz_stl i (pc + 2)) pc := by
  intro L S M h ad cA H locs ls hw ha hn hK hP hD hS hl
  simp only [mz_stl] at h
  split at h
  · next x r =>
    refine lv_lstore hx hb hdg (mz_lh_has hl) hn2 rfl (fun ls' hl' => ?_)
    exact h ad cA H locs ls' (((hw.tail.pre).set hw.head).clr) ha hn hK hP hD hS (mz_lh_sto2 hw.nf hl')
  · exact h.elim
theorem sd_aload_n (hx : p.tables.exec = Jvm.exec) (hb : c.code = cc) {k : Fin 4} {i : Nat} (hdg : decode cc pc = .ok (.aload_n k, 1)) (hi : (k : Nat) = i) : mz_Sd (mz_V p l e R s m args below meth c nL n0 z0 D cl G A Qw) Qv (mz_lda i (pc + 1)) pc := by
  intro L S M h ad cA H locs ls hw ha hn hK hP hD hS hl
  simp only [mz_lda] at h
  split at h
  · next x hx2 => exact lv_aload_n hx hb hdg hi (hl.2.2 i _ hx2) (h ad cA H locs ls (hw.push (hw.loc hx2)) ha hn hK hP hD hS hl)
  · exact h.elim
theorem sd_aload (hx : p.tables.exec = Jvm.exec) (hb : c.code = cc) {i : Nat} (hdg : decode cc pc = .ok (.aload i, 2)) : mz_Sd (mz_V p l e R s m args below meth c nL n0 z0 D cl G A Qw) Qv (mz_lda i (pc + 2)) pc := by
  intro L S M h ad cA H locs ls hw ha hn hK hP hD hS hl
  simp only [mz_lda] at h
  split at h
  · next x hx2 => exact lv_aload hx hb hdg (hl.2.2 i _ hx2) (h ad cA H locs ls (hw.push (hw.loc hx2)) ha hn hK hP hD hS hl)
  · exact h.elim
theorem sd_astore_n (hx : p.tables.exec = Jvm.exec) (hb : c.code = cc) {k : Fin 4} {i : Nat} (hdg : decode cc pc = .ok (.astore_n k, 1)) (hi : (k : Nat) = i) (hn2 : i < nL) : mz_Sd (mz_V p l e R s m args below meth c nL n0 z0 D cl G A Qw) Qv (mz_sta i (pc + 1)) pc := by
  intro L S M h ad cA H locs ls hw ha hn hK hP hD hS hl
  simp only [mz_sta] at h
  split at h
  · next x r =>
    refine lv_astore_n hx hb hdg hi (mz_lh_has hl) hn2 rfl (fun ls' hl' => ?_)
    exact h ad cA H locs ls' (((hw.tail.pre).set hw.head)) ha hn hK hP hD hS (mz_lh_sto1 hw.nf hl')
  · exact h.elim
theorem sd_astore (hx : p.tables.exec = Jvm.exec) (hb : c.code = cc) {i : Nat} (hdg : decode cc pc = .ok (.astore i, 2)) (hn2 : i < nL) : mz_Sd (mz_V p l e R s m args below meth c nL n0 z0 D cl G A Qw) Qv (mz_sta i (pc + 2)) pc := by
  intro L S M h ad cA H locs ls hw ha hn hK hP hD hS hl
  simp only [mz_sta] at h
  split at h
  · next x r =>
    refine lv_astore hx hb hdg (mz_lh_has hl) hn2 rfl (fun ls' hl' => ?_)
    exact h ad cA H locs ls' (((hw.tail.pre).set hw.head)) ha hn hK hP hD hS (mz_lh_sto1 hw.nf hl')
  · exact h.elim
theorem sd_iinc (hx : p.tables.exec = Jvm.exec) (hb : c.code = cc) {i : Nat} {n : Int} {d : Int32} (hdg : decode cc pc = .ok (.iinc i n, 3)) (hd : Int32.ofInt n = d) (hn2 : i < nL) : mz_Sd (mz_V p l e R s m args below meth c nL n0 z0 D cl G A Qw) Qv (mz_inc i d (pc + 3)) pc := by
  intro L S M h ad cA H locs ls hw ha hn hK hP hD hS hl
  simp only [mz_inc] at h
  split at h
  · next x hx2 =>
    obtain ⟨k, hk⟩ := List.getElem?_of_mem (mz_ps_mem (ad := ad).mpr ⟨_, hx2, rfl⟩)
    refine lv_iinc hx hb hdg (mz_lh_has hl) hk (by rw [hd]) hn2 rfl (fun ls' hl' => ?_)
    exact h ad cA H locs ls' ((hw.pre).set trivial) ha hn hK hP hD hS (mz_lh_sto1 (v := .int (x + d)) hw.nf hl')
  · exact h.elim
theorem sd_iadd (hx : p.tables.exec = Jvm.exec) (hb : c.code = cc) (hdg : decode cc pc = .ok (.iadd, 1)) : mz_Sd (mz_V p l e R s m args below meth c nL n0 z0 D cl G A Qw) Qv (mz_bi (fun x y => x + y) (pc + 1)) pc := by
  intro L S M h ad cA H locs ls hw ha hn hK hP hD hS hl
  simp only [mz_bi] at h
  split at h
  · next y x r => exact lv_iadd hx hb hdg (h ad cA H locs ls (hw.tail.tail.push trivial) ha hn hK hP hD hS hl)
  · exact h.elim
theorem sd_isub (hx : p.tables.exec = Jvm.exec) (hb : c.code = cc) (hdg : decode cc pc = .ok (.isub, 1)) : mz_Sd (mz_V p l e R s m args below meth c nL n0 z0 D cl G A Qw) Qv (mz_bi (fun x y => x - y) (pc + 1)) pc := by
  intro L S M h ad cA H locs ls hw ha hn hK hP hD hS hl
  simp only [mz_bi] at h
  split at h
  · next y x r => exact lv_isub hx hb hdg (h ad cA H locs ls (hw.tail.tail.push trivial) ha hn hK hP hD hS hl)
  · exact h.elim
theorem sd_imul (hx : p.tables.exec = Jvm.exec) (hb : c.code = cc) (hdg : decode cc pc = .ok (.imul, 1)) : mz_Sd (mz_V p l e R s m args below meth c nL n0 z0 D cl G A Qw) Qv (mz_bi (fun x y => x * y) (pc + 1)) pc := by
  intro L S M h ad cA H locs ls hw ha hn hK hP hD hS hl
  simp only [mz_bi] at h
  split at h
  · next y x r => exact lv_imul hx hb hdg (h ad cA H locs ls (hw.tail.tail.push trivial) ha hn hK hP hD hS hl)
  · exact h.elim
theorem sd_iand (hx : p.tables.exec = Jvm.exec) (hb : c.code = cc) (hdg : decode cc pc = .ok (.iand, 1)) : mz_Sd (mz_V p l e R s m args below meth c nL n0 z0 D cl G A Qw) Qv (mz_bi (fun x y => x &&& y) (pc + 1)) pc := by
  intro L S M h ad cA H locs ls hw ha hn hK hP hD hS hl
  simp only [mz_bi] at h
  split at h
  · next y x r => exact lv_iand hx hb hdg (h ad cA H locs ls (hw.tail.tail.push trivial) ha hn hK hP hD hS hl)
  · exact h.elim
theorem sd_ior (hx : p.tables.exec = Jvm.exec) (hb : c.code = cc) (hdg : decode cc pc = .ok (.ior, 1)) : mz_Sd (mz_V p l e R s m args below meth c nL n0 z0 D cl G A Qw) Qv (mz_bi (fun x y => x ||| y) (pc + 1)) pc := by
  intro L S M h ad cA H locs ls hw ha hn hK hP hD hS hl
  simp only [mz_bi] at h
  split at h
  · next y x r => exact lv_ior hx hb hdg (h ad cA H locs ls (hw.tail.tail.push trivial) ha hn hK hP hD hS hl)
  · exact h.elim
theorem sd_ixor (hx : p.tables.exec = Jvm.exec) (hb : c.code = cc) (hdg : decode cc pc = .ok (.ixor, 1)) : mz_Sd (mz_V p l e R s m args below meth c nL n0 z0 D cl G A Qw) Qv (mz_bi (fun x y => x ^^^ y) (pc + 1)) pc := by
  intro L S M h ad cA H locs ls hw ha hn hK hP hD hS hl
  simp only [mz_bi] at h
  split at h
  · next y x r => exact lv_ixor hx hb hdg (h ad cA H locs ls (hw.tail.tail.push trivial) ha hn hK hP hD hS hl)
  · exact h.elim
theorem sd_ladd (hx : p.tables.exec = Jvm.exec) (hb : c.code = cc) (hdg : decode cc pc = .ok (.ladd, 1)) : mz_Sd (mz_V p l e R s m args below meth c nL n0 z0 D cl G A Qw) Qv (mz_bl (fun x y => x + y) (pc + 1)) pc := by
  intro L S M h ad cA H locs ls hw ha hn hK hP hD hS hl
  simp only [mz_bl] at h
  split at h
  · next y x r => exact lv_ladd hx hb hdg (h ad cA H locs ls (hw.tail.tail.push trivial) ha hn hK hP hD hS hl)
  · exact h.elim
theorem sd_lsub (hx : p.tables.exec = Jvm.exec) (hb : c.code = cc) (hdg : decode cc pc = .ok (.lsub, 1)) : mz_Sd (mz_V p l e R s m args below meth c nL n0 z0 D cl G A Qw) Qv (mz_bl (fun x y => x - y) (pc + 1)) pc := by
  intro L S M h ad cA H locs ls hw ha hn hK hP hD hS hl
  simp only [mz_bl] at h
  split at h
  · next y x r => exact lv_lsub hx hb hdg (h ad cA H locs ls (hw.tail.tail.push trivial) ha hn hK hP hD hS hl)
  · exact h.elim
theorem sd_lmul (hx : p.tables.exec = Jvm.exec) (hb : c.code = cc) (hdg : decode cc pc = .ok (.lmul, 1)) : mz_Sd (mz_V p l e R s m args below meth c nL n0 z0 D cl G A Qw) Qv (mz_bl (fun x y => x * y) (pc + 1)) pc := by
  intro L S M h ad cA H locs ls hw ha hn hK hP hD hS hl
  simp only [mz_bl] at h
  split at h
  · next y x r => exact lv_lmul hx hb hdg (h ad cA H locs ls (hw.tail.tail.push trivial) ha hn hK hP hD hS hl)
  · exact h.elim
theorem sd_land (hx : p.tables.exec = Jvm.exec) (hb : c.code = cc) (hdg : decode cc pc = .ok (.land, 1)) : mz_Sd (mz_V p l e R s m args below meth c nL n0 z0 D cl G A Qw) Qv (mz_bl (fun x y => x &&& y) (pc + 1)) pc := by
  intro L S M h ad cA H locs ls hw ha hn hK hP hD hS hl
  simp only [mz_bl] at h
  split at h
  · next y x r => exact lv_land hx hb hdg (h ad cA H locs ls (hw.tail.tail.push trivial) ha hn hK hP hD hS hl)
  · exact h.elim
theorem sd_lor (hx : p.tables.exec = Jvm.exec) (hb : c.code = cc) (hdg : decode cc pc = .ok (.lor, 1)) : mz_Sd (mz_V p l e R s m args below meth c nL n0 z0 D cl G A Qw) Qv (mz_bl (fun x y => x ||| y) (pc + 1)) pc := by
  intro L S M h ad cA H locs ls hw ha hn hK hP hD hS hl
  simp only [mz_bl] at h
  split at h
  · next y x r => exact lv_lor hx hb hdg (h ad cA H locs ls (hw.tail.tail.push trivial) ha hn hK hP hD hS hl)
  · exact h.elim
theorem sd_lxor (hx : p.tables.exec = Jvm.exec) (hb : c.code = cc) (hdg : decode cc pc = .ok (.lxor, 1)) : mz_Sd (mz_V p l e R s m args below meth c nL n0 z0 D cl G A Qw) Qv (mz_bl (fun x y => x ^^^ y) (pc + 1)) pc := by
  intro L S M h ad cA H locs ls hw ha hn hK hP hD hS hl
  simp only [mz_bl] at h
  split at h
  · next y x r => exact lv_lxor hx hb hdg (h ad cA H locs ls (hw.tail.tail.push trivial) ha hn hK hP hD hS hl)
  · exact h.elim
theorem sd_idiv (hx : p.tables.exec = Jvm.exec) (hb : c.code = cc) (hdg : decode cc pc = .ok (.idiv, 1)) : mz_Sd (mz_V p l e R s m args below meth c nL n0 z0 D cl G A Qw) Qv (mz_bid (fun x y => x / y) (pc + 1)) pc := by
  intro L S M h ad cA H locs ls hw ha hn hK hP hD hS hl
  simp only [mz_bid] at h
  split at h
  · next y x r => exact lv_idiv hx hb hdg h.1 (h.2 ad cA H locs ls (hw.tail.tail.push trivial) ha hn hK hP hD hS hl)
  · exact h.elim
theorem sd_irem (hx : p.tables.exec = Jvm.exec) (hb : c.code = cc) (hdg : decode cc pc = .ok (.irem, 1)) : mz_Sd (mz_V p l e R s m args below meth c nL n0 z0 D cl G A Qw) Qv (mz_bid (fun x y => x - x / y * y) (pc + 1)) pc := by
  intro L S M h ad cA H locs ls hw ha hn hK hP hD hS hl
  simp only [mz_bid] at h
  split at h
  · next y x r => exact lv_irem hx hb hdg h.1 (h.2 ad cA H locs ls (hw.tail.tail.push trivial) ha hn hK hP hD hS hl)
  · exact h.elim
theorem sd_ldiv (hx : p.tables.exec = Jvm.exec) (hb : c.code = cc) (hdg : decode cc pc = .ok (.ldiv, 1)) : mz_Sd (mz_V p l e R s m args below meth c nL n0 z0 D cl G A Qw) Qv (mz_bld (fun x y => x / y) (pc + 1)) pc := by
  intro L S M h ad cA H locs ls hw ha hn hK hP hD hS hl
  simp only [mz_bld] at h
  split at h
  · next y x r => exact lv_ldiv hx hb hdg h.1 (h.2 ad cA H locs ls (hw.tail.tail.push trivial) ha hn hK hP hD hS hl)
  · exact h.elim
theorem sd_lrem (hx : p.tables.exec = Jvm.exec) (hb : c.code = cc) (hdg : decode cc pc = .ok (.lrem, 1)) : mz_Sd (mz_V p l e R s m args below meth c nL n0 z0 D cl G A Qw) Qv (mz_bld (fun x y => x - x / y * y) (pc + 1)) pc := by
  intro L S M h ad cA H locs ls hw ha hn hK hP hD hS hl
  simp only [mz_bld] at h
  split at h
  · next y x r => exact lv_lrem hx hb hdg h.1 (h.2 ad cA H locs ls (hw.tail.tail.push trivial) ha hn hK hP hD hS hl)
  · exact h.elim
theorem sd_ishl (hx : p.tables.exec = Jvm.exec) (hb : c.code = cc) (hdg : decode cc pc = .ok (.ishl, 1)) : mz_Sd (mz_V p l e R s m args below meth c nL n0 z0 D cl G A Qw) Qv (mz_bi (fun x y => x <<< (y &&& 31)) (pc + 1)) pc := by
  intro L S M h ad cA H locs ls hw ha hn hK hP hD hS hl
  simp only [mz_bi] at h
  split at h
  · next y x r => exact lv_ishl hx hb hdg (h ad cA H locs ls (hw.tail.tail.push trivial) ha hn hK hP hD hS hl)
  · exact h.elim
theorem sd_ishr (hx : p.tables.exec = Jvm.exec) (hb : c.code = cc) (hdg : decode cc pc = .ok (.ishr, 1)) : mz_Sd (mz_V p l e R s m args below meth c nL n0 z0 D cl G A Qw) Qv (mz_bi (fun x y => x >>> (y &&& 31)) (pc + 1)) pc := by
  intro L S M h ad cA H locs ls hw ha hn hK hP hD hS hl
  simp only [mz_bi] at h
  split at h
  · next y x r => exact lv_ishr hx hb hdg (h ad cA H locs ls (hw.tail.tail.push trivial) ha hn hK hP hD hS hl)
  · exact h.elim
theorem sd_iushr (hx : p.tables.exec = Jvm.exec) (hb : c.code = cc) (hdg : decode cc pc = .ok (.iushr, 1)) : mz_Sd (mz_V p l e R s m args below meth c nL n0 z0 D cl G A Qw) Qv (mz_bi (fun x y => (x.toUInt32 >>> (y.toUInt32 &&& Int32.toUInt32 31)).toInt32) (pc + 1)) pc := by
  intro L S M h ad cA H locs ls hw ha hn hK hP hD hS hl
  simp only [mz_bi] at h
  split at h
  · next y x r => exact lv_iushr hx hb hdg rfl (h ad cA H locs ls (hw.tail.tail.push trivial) ha hn hK hP hD hS hl)
  · exact h.elim
theorem sd_lushr (hx : p.tables.exec = Jvm.exec) (hb : c.code = cc) (hdg : decode cc pc = .ok (.lushr, 1)) : mz_Sd (mz_V p l e R s m args below meth c nL n0 z0 D cl G A Qw) Qv (mz_sh (fun x y => (x.toUInt64 >>> (y.toInt64.toUInt64 &&& Int64.toUInt64 63)).toInt64) (pc + 1)) pc := by
  intro L S M h ad cA H locs ls hw ha hn hK hP hD hS hl
  simp only [mz_sh] at h
  split at h
  · next y x r => exact lv_lushr hx hb hdg rfl (h ad cA H locs ls (hw.tail.tail.push trivial) ha hn hK hP hD hS hl)
  · exact h.elim
theorem sd_lshl (hx : p.tables.exec = Jvm.exec) (hb : c.code = cc) (hdg : decode cc pc = .ok (.lshl, 1)) : mz_Sd (mz_V p l e R s m args below meth c nL n0 z0 D cl G A Qw) Qv (mz_sh (fun x y => x <<< (y.toInt64 &&& 63)) (pc + 1)) pc := by
  intro L S M h ad cA H locs ls hw ha hn hK hP hD hS hl
  simp only [mz_sh] at h
  split at h
  · next y x r => exact lv_lshl hx hb hdg rfl (h ad cA H locs ls (hw.tail.tail.push trivial) ha hn hK hP hD hS hl)
  · exact h.elim
theorem sd_lshr (hx : p.tables.exec = Jvm.exec) (hb : c.code = cc) (hdg : decode cc pc = .ok (.lshr, 1)) : mz_Sd (mz_V p l e R s m args below meth c nL n0 z0 D cl G A Qw) Qv (mz_sh (fun x y => x >>> (y.toInt64 &&& 63)) (pc + 1)) pc := by
  intro L S M h ad cA H locs ls hw ha hn hK hP hD hS hl
  simp only [mz_sh] at h
  split at h
  · next y x r => exact lv_lshr hx hb hdg rfl (h ad cA H locs ls (hw.tail.tail.push trivial) ha hn hK hP hD hS hl)
  · exact h.elim
theorem sd_i2l (hx : p.tables.exec = Jvm.exec) (hb : c.code = cc) (hdg : decode cc pc = .ok (.i2l, 1)) : mz_Sd (mz_V p l e R s m args below meth c nL n0 z0 D cl G A Qw) Qv (mz_i2l (pc + 1)) pc := by
  intro L S M h ad cA H locs ls hw ha hn hK hP hD hS hl
  simp only [mz_i2l] at h
  split at h
  · next x r => exact lv_i2l hx hb hdg rfl (h ad cA H locs ls (hw.tail.push trivial) ha hn hK hP hD hS hl)
  · exact h.elim
theorem sd_l2i (hx : p.tables.exec = Jvm.exec) (hb : c.code = cc) (hdg : decode cc pc = .ok (.l2i, 1)) : mz_Sd (mz_V p l e R s m args below meth c nL n0 z0 D cl G A Qw) Qv (mz_l2i (pc + 1)) pc := by
  intro L S M h ad cA H locs ls hw ha hn hK hP hD hS hl
  simp only [mz_l2i] at h
  split at h
  · next x r => exact lv_l2i hx hb hdg rfl (h ad cA H locs ls (hw.tail.push trivial) ha hn hK hP hD hS hl)
  · exact h.elim
theorem sd_ineg (hx : p.tables.exec = Jvm.exec) (hb : c.code = cc) (hdg : decode cc pc = .ok (.ineg, 1)) : mz_Sd (mz_V p l e R s m args below meth c nL n0 z0 D cl G A Qw) Qv (mz_i1 (fun x => -x) (pc + 1)) pc := by
  intro L S M h ad cA H locs ls hw ha hn hK hP hD hS hl
  simp only [mz_i1] at h
  split at h
  · next x r => exact lv_ineg hx hb hdg (h ad cA H locs ls (hw.tail.push trivial) ha hn hK hP hD hS hl)
  · exact h.elim
theorem sd_lneg (hx : p.tables.exec = Jvm.exec) (hb : c.code = cc) (hdg : decode cc pc = .ok (.lneg, 1)) : mz_Sd (mz_V p l e R s m args below meth c nL n0 z0 D cl G A Qw) Qv (mz_l1 (fun x => -x) (pc + 1)) pc := by
  intro L S M h ad cA H locs ls hw ha hn hK hP hD hS hl
  simp only [mz_l1] at h
  split at h
  · next x r => exact lv_lneg hx hb hdg (h ad cA H locs ls (hw.tail.push trivial) ha hn hK hP hD hS hl)
  · exact h.elim
theorem sd_lcmp (hx : p.tables.exec = Jvm.exec) (hb : c.code = cc) (hdg : decode cc pc = .ok (.lcmp, 1)) : mz_Sd (mz_V p l e R s m args below meth c nL n0 z0 D cl G A Qw) Qv (mz_lcmp (pc + 1)) pc := by
  intro L S M h ad cA H locs ls hw ha hn hK hP hD hS hl
  simp only [mz_lcmp] at h
  split at h
  · next y x r => exact W.lcmp hx hb hdg (h ad cA H locs ls (hw.tail.tail.push trivial) ha hn hK hP hD hS hl)
  · exact h.elim
theorem sd_if_eq (hx : p.tables.exec = Jvm.exec) (hb : c.code = cc) {off : Int} {tgt : Nat} (hdg : decode cc pc = .ok (.ifCond .eq off, 3)) (ht : (pc : Int) + off = (tgt : Int)) : mz_Sd (mz_V p l e R s m args below meth c nL n0 z0 D cl G A Qw) Qv (mz_if (fun x => x = 0) tgt (pc + 3)) pc := by
  intro L S M h ad cA H locs ls hw ha hn hK hP hD hS hl
  simp only [mz_if] at h
  split at h
  · next x r => exact lv_if_eq hx hb hdg ht (fun q => h.1 q ad cA H locs ls hw.tail ha hn hK hP hD hS hl) (fun q => h.2 q ad cA H locs ls hw.tail ha hn hK hP hD hS hl)
  · exact h.elim
theorem sd_icmp_eq (hx : p.tables.exec = Jvm.exec) (hb : c.code = cc) {off : Int} {tgt : Nat} (hdg : decode cc pc = .ok (.if_icmp .eq off, 3)) (ht : (pc : Int) + off = (tgt : Int)) : mz_Sd (mz_V p l e R s m args below meth c nL n0 z0 D cl G A Qw) Qv (mz_ic (fun x y => x = y) tgt (pc + 3)) pc := by
  intro L S M h ad cA H locs ls hw ha hn hK hP hD hS hl
  simp only [mz_ic] at h
  split at h
  · next y x r => exact lv_icmp_eq hx hb hdg ht (fun q => h.1 q ad cA H locs ls hw.tail.tail ha hn hK hP hD hS hl) (fun q => h.2 q ad cA H locs ls hw.tail.tail ha hn hK hP hD hS hl)
  · exact h.elim
theorem sd_if_ne (hx : p.tables.exec = Jvm.exec) (hb : c.code = cc) {off : Int} {tgt : Nat} (hdg : decode cc pc = .ok (.ifCond .ne off, 3)) (ht : (pc : Int) + off = (tgt : Int)) : mz_Sd (mz_V p l e R s m args below meth c nL n0 z0 D cl G A Qw) Qv (mz_if (fun x => x = 0) (pc + 3) tgt) pc := by
  intro L S M h ad cA H locs ls hw ha hn hK hP hD hS hl
  simp only [mz_if] at h
  split at h
  · next x r => exact lv_if_ne hx hb hdg ht (fun q => h.2 q ad cA H locs ls hw.tail ha hn hK hP hD hS hl) (fun q => h.1 q ad cA H locs ls hw.tail ha hn hK hP hD hS hl)
  · exact h.elim
theorem sd_icmp_ne (hx : p.tables.exec = Jvm.exec) (hb : c.code = cc) {off : Int} {tgt : Nat} (hdg : decode cc pc = .ok (.if_icmp .ne off, 3)) (ht : (pc : Int) + off = (tgt : Int)) : mz_Sd (mz_V p l e R s m args below meth c nL n0 z0 D cl G A Qw) Qv (mz_ic (fun x y => x = y) (pc + 3) tgt) pc := by
  intro L S M h ad cA H locs ls hw ha hn hK hP hD hS hl
  simp only [mz_ic] at h
  split at h
  · next y x r => exact lv_icmp_ne hx hb hdg ht (fun q => h.2 q ad cA H locs ls hw.tail.tail ha hn hK hP hD hS hl) (fun q => h.1 q ad cA H locs ls hw.tail.tail ha hn hK hP hD hS hl)
  · exact h.elim
theorem sd_if_lt (hx : p.tables.exec = Jvm.exec) (hb : c.code = cc) {off : Int} {tgt : Nat} (hdg : decode cc pc = .ok (.ifCond .lt off, 3)) (ht : (pc : Int) + off = (tgt : Int)) : mz_Sd (mz_V p l e R s m args below meth c nL n0 z0 D cl G A Qw) Qv (mz_if (fun x => x < 0) tgt (pc + 3)) pc := by
  intro L S M h ad cA H locs ls hw ha hn hK hP hD hS hl
  simp only [mz_if] at h
  split at h
  · next x r => exact lv_if_lt hx hb hdg ht (fun q => h.1 q ad cA H locs ls hw.tail ha hn hK hP hD hS hl) (fun q => h.2 q ad cA H locs ls hw.tail ha hn hK hP hD hS hl)
  · exact h.elim
theorem sd_icmp_lt (hx : p.tables.exec = Jvm.exec) (hb : c.code = cc) {off : Int} {tgt : Nat} (hdg : decode cc pc = .ok (.if_icmp .lt off, 3)) (ht : (pc : Int) + off = (tgt : Int)) : mz_Sd (mz_V p l e R s m args below meth c nL n0 z0 D cl G A Qw) Qv (mz_ic (fun x y => x < y) tgt (pc + 3)) pc := by
  intro L S M h ad cA H locs ls hw ha hn hK hP hD hS hl
  simp only [mz_ic] at h
  split at h
  · next y x r => exact lv_icmp_lt hx hb hdg ht (fun q => h.1 q ad cA H locs ls hw.tail.tail ha hn hK hP hD hS hl) (fun q => h.2 q ad cA H locs ls hw.tail.tail ha hn hK hP hD hS hl)
  · exact h.elim
theorem sd_if_ge (hx : p.tables.exec = Jvm.exec) (hb : c.code = cc) {off : Int} {tgt : Nat} (hdg : decode cc pc = .ok (.ifCond .ge off, 3)) (ht : (pc : Int) + off = (tgt : Int)) : mz_Sd (mz_V p l e R s m args below meth c nL n0 z0 D cl G A Qw) Qv (mz_if (fun x => 0 ≤ x) tgt (pc + 3)) pc := by
  intro L S M h ad cA H locs ls hw ha hn hK hP hD hS hl
  simp only [mz_if] at h
  split at h
  · next x r => exact lv_if_ge hx hb hdg ht (fun q => h.1 q ad cA H locs ls hw.tail ha hn hK hP hD hS hl) (fun q => h.2 q ad cA H locs ls hw.tail ha hn hK hP hD hS hl)
  · exact h.elim
theorem sd_icmp_ge (hx : p.tables.exec = Jvm.exec) (hb : c.code = cc) {off : Int} {tgt : Nat} (hdg : decode cc pc = .ok (.if_icmp .ge off, 3)) (ht : (pc : Int) + off = (tgt : Int)) : mz_Sd (mz_V p l e R s m args below meth c nL n0 z0 D cl G A Qw) Qv (mz_ic (fun x y => y ≤ x) tgt (pc + 3)) pc := by
  intro L S M h ad cA H locs ls hw ha hn hK hP hD hS hl
  simp only [mz_ic] at h
  split at h
  · next y x r => exact lv_icmp_ge hx hb hdg ht (fun q => h.1 q ad cA H locs ls hw.tail.tail ha hn hK hP hD hS hl) (fun q => h.2 q ad cA H locs ls hw.tail.tail ha hn hK hP hD hS hl)
  · exact h.elim
theorem sd_if_gt (hx : p.tables.exec = Jvm.exec) (hb : c.code = cc) {off : Int} {tgt : Nat} (hdg : decode cc pc = .ok (.ifCond .gt off, 3)) (ht : (pc : Int) + off = (tgt : Int)) : mz_Sd (mz_V p l e R s m args below meth c nL n0 z0 D cl G A Qw) Qv (mz_if (fun x => 0 < x) tgt (pc + 3)) pc := by
  intro L S M h ad cA H locs ls hw ha hn hK hP hD hS hl
  simp only [mz_if] at h
  split at h
  · next x r => exact lv_if_gt hx hb hdg ht (fun q => h.1 q ad cA H locs ls hw.tail ha hn hK hP hD hS hl) (fun q => h.2 q ad cA H locs ls hw.tail ha hn hK hP hD hS hl)
  · exact h.elim
theorem sd_icmp_gt (hx : p.tables.exec = Jvm.exec) (hb : c.code = cc) {off : Int} {tgt : Nat} (hdg : decode cc pc = .ok (.if_icmp .gt off, 3)) (ht : (pc : Int) + off = (tgt : Int)) : mz_Sd (mz_V p l e R s m args below meth c nL n0 z0 D cl G A Qw) Qv (mz_ic (fun x y => y < x) tgt (pc + 3)) pc := by
  intro L S M h ad cA H locs ls hw ha hn hK hP hD hS hl
  simp only [mz_ic] at h
  split at h
  · next y x r => exact lv_icmp_gt hx hb hdg ht (fun q => h.1 q ad cA H locs ls hw.tail.tail ha hn hK hP hD hS hl) (fun q => h.2 q ad cA H locs ls hw.tail.tail ha hn hK hP hD hS hl)
  · exact h.elim
theorem sd_if_le (hx : p.tables.exec = Jvm.exec) (hb : c.code = cc) {off : Int} {tgt : Nat} (hdg : decode cc pc = .ok (.ifCond .le off, 3)) (ht : (pc : Int) + off = (tgt : Int)) : mz_Sd (mz_V p l e R s m args below meth c nL n0 z0 D cl G A Qw) Qv (mz_if (fun x => x ≤ 0) tgt (pc + 3)) pc := by
  intro L S M h ad cA H locs ls hw ha hn hK hP hD hS hl
  simp only [mz_if] at h
  split at h
  · next x r => exact lv_if_le hx hb hdg ht (fun q => h.1 q ad cA H locs ls hw.tail ha hn hK hP hD hS hl) (fun q => h.2 q ad cA H locs ls hw.tail ha hn hK hP hD hS hl)
  · exact h.elim
theorem sd_icmp_le (hx : p.tables.exec = Jvm.exec) (hb : c.code = cc) {off : Int} {tgt : Nat} (hdg : decode cc pc = .ok (.if_icmp .le off, 3)) (ht : (pc : Int) + off = (tgt : Int)) : mz_Sd (mz_V p l e R s m args below meth c nL n0 z0 D cl G A Qw) Qv (mz_ic (fun x y => x ≤ y) tgt (pc + 3)) pc := by
  intro L S M h ad cA H locs ls hw ha hn hK hP hD hS hl
  simp only [mz_ic] at h
  split at h
  · next y x r => exact lv_icmp_le hx hb hdg ht (fun q => h.1 q ad cA H locs ls hw.tail.tail ha hn hK hP hD hS hl) (fun q => h.2 q ad cA H locs ls hw.tail.tail ha hn hK hP hD hS hl)
  · exact h.elim
theorem sd_goto (hx : p.tables.exec = Jvm.exec) (hb : c.code = cc) {off : Int} {tgt : Nat} (hdg : decode cc pc = .ok (.goto off, 3)) (ht : (pc : Int) + off = (tgt : Int)) : mz_Sd (mz_V p l e R s m args below meth c nL n0 z0 D cl G A Qw) Qv (mz_go tgt) pc := by
  intro L S M h ad cA H locs ls hw ha hn hK hP hD hS hl
  exact lv_goto hx hb hdg ht (h ad cA H locs ls hw ha hn hK hP hD hS hl)
theorem sd_dup (hx : p.tables.exec = Jvm.exec) (hb : c.code = cc) (hdg : decode cc pc = .ok (.dup, 1)) : mz_Sd (mz_V p l e R s m args below meth c nL n0 z0 D cl G A Qw) Qv (mz_dup (pc + 1)) pc := by
  intro L S M h ad cA H locs ls hw ha hn hK hP hD hS hl
  simp only [mz_dup] at h
  split at h
  · next x r => exact lv_dup hx hb hdg rfl (h ad cA H locs ls (hw.push hw.head) ha hn hK hP hD hS hl)
  · next x r => exact lv_dup hx hb hdg rfl (h ad cA H locs ls (hw.push hw.head) ha hn hK hP hD hS hl)
  · exact h.elim
theorem sd_dup_x1 (hx : p.tables.exec = Jvm.exec) (hb : c.code = cc) (hdg : decode cc pc = .ok (.dup_x1, 1)) : mz_Sd (mz_V p l e R s m args below meth c nL n0 z0 D cl G A Qw) Qv (mz_dupx1 (pc + 1)) pc := by
  intro L S M h ad cA H locs ls hw ha hn hK hP hD hS hl
  simp only [mz_dupx1] at h
  split at h
  · next x y r => exact lv_dup_x1 hx hb hdg rfl rfl (h ad cA H locs ls (((hw.tail.tail.push hw.head).push hw.tail.head).push hw.head) ha hn hK hP hD hS hl)
  · next x y r => exact lv_dup_x1 hx hb hdg rfl rfl (h ad cA H locs ls (((hw.tail.tail.push hw.head).push hw.tail.head).push hw.head) ha hn hK hP hD hS hl)
  · exact h.elim
theorem sd_dup2 (hx : p.tables.exec = Jvm.exec) (hb : c.code = cc) (hdg : decode cc pc = .ok (.dup2, 1)) : mz_Sd (mz_V p l e R s m args below meth c nL n0 z0 D cl G A Qw) Qv (mz_dup2 (pc + 1)) pc := by
  intro L S M h ad cA H locs ls hw ha hn hK hP hD hS hl
  simp only [mz_dup2] at h
  split at h
  · next x r => exact lv_dup2_2 hx hb hdg rfl (h ad cA H locs ls (hw.push hw.head) ha hn hK hP hD hS hl)
  · next x y r => exact lv_dup2_11 hx hb hdg rfl rfl (h ad cA H locs ls ((hw.push hw.tail.head).push hw.head) ha hn hK hP hD hS hl)
  · exact h.elim
theorem sd_pop (hx : p.tables.exec = Jvm.exec) (hb : c.code = cc) (hdg : decode cc pc = .ok (.pop, 1)) : mz_Sd (mz_V p l e R s m args below meth c nL n0 z0 D cl G A Qw) Qv (mz_pop (pc + 1)) pc := by
  intro L S M h ad cA H locs ls hw ha hn hK hP hD hS hl
  simp only [mz_pop] at h
  split at h
  · next x r => exact lv_pop hx hb hdg rfl (h ad cA H locs ls hw.tail ha hn hK hP hD hS hl)
  · next x r => exact lv_pop hx hb hdg rfl (h ad cA H locs ls hw.tail ha hn hK hP hD hS hl)
  · exact h.elim
theorem sd_get (hx : p.tables.exec = Jvm.exec) (hb : c.code = cc) {own ref C : String} {T : u_T} {N ci k index : Nat} {Ts : List Cond} (hts : ∀ w ∈ Ts, w.before args s = true) (hin : ∀ w ∈ u_ws C T N, w ∈ Ts) (hown : s.vm.findClass own = some m.cls) (hc : cl[ci]? = some (C, T, N)) (hk : k < N) (hlink : (Cond.fieldLink own index ref (T k).2.1 (T k).2.2.1).before args s = true) (hsame : ∀ x, s.fieldFound? (T k).1 (T k).2.1 (T k).2.2.1 = some x → s.fieldFound? ref (T k).2.1 (T k).2.2.1 = some x) (hdg : decode cc pc = .ok (.getfield index, 3)) : mz_Sd (mz_V p l e R s m args below meth c nL n0 z0 D cl G A Qw) Qv (mz_gf ci k (pc + 3)) pc := by
  intro L S M h ad cA H locs ls hw ha hn hK hP hD hS hl
  simp only [mz_gf, mz_ob] at h
  split at h
  · next q r =>
    split at h
    · next ci2 ks hq =>
      split at h
      · next hbe =>
        have hce : ci2 = ci := Nat.eq_of_beq_eq_true hbe
        subst hce
        have he := mz_w_at (ad := ad) (cA := cA) hq
        split at h
        · next hk2 => exact va_get hx hb hts hin hown hK hP q he hc k hk hlink hsame (mz_fs_at hk2) hdg (h ad cA H locs ls (hw.tail.push trivial) ha hn hK hP hD hS hl)
        · next hk2 => exact va_get hx hb hts hin hown hK hP q he hc k hk hlink hsame (mz_fs_at hk2) hdg (h ad cA H locs ls (hw.tail.push trivial) ha hn hK hP hD hS hl)
        · next t hk2 => exact va_get hx hb hts hin hown hK hP q he hc k hk hlink hsame (mz_fs_at hk2) hdg (h ad cA H locs ls (hw.tail.push (Or.inl (hw.2.1 _ (List.mem_of_getElem? hq) _ (List.mem_of_getElem? hk2)))) ha hn hK hP hD hS hl)
        · exact h.elim
      · exact h.elim
    · exact h.elim
  · exact h.elim
theorem sd_getN (hx : p.tables.exec = Jvm.exec) (hb : c.code = cc) {own ref C host : String} {T : u_T} {N ci k index : Nat} {Ts : List Cond} (hts : ∀ w ∈ Ts, w.before args s = true) (hin : ∀ w ∈ u_ws C T N, w ∈ Ts) (hown : s.vm.findClass own = some m.cls) (hc : cl[ci]? = some (C, T, N)) (hk : k < N) (hlink : (Cond.fieldLinkNest own index ref (T k).2.1 (T k).2.2.1 host).before args s = true) (hsame : ∀ x, s.fieldFound? (T k).1 (T k).2.1 (T k).2.2.1 = some x → s.fieldFound? ref (T k).2.1 (T k).2.2.1 = some x) (hdg : decode cc pc = .ok (.getfield index, 3)) : mz_Sd (mz_V p l e R s m args below meth c nL n0 z0 D cl G A Qw) Qv (mz_gf ci k (pc + 3)) pc := by
  intro L S M h ad cA H locs ls hw ha hn hK hP hD hS hl
  simp only [mz_gf, mz_ob] at h
  split at h
  · next q r =>
    split at h
    · next ci2 ks hq =>
      split at h
      · next hbe =>
        have hce : ci2 = ci := Nat.eq_of_beq_eq_true hbe
        subst hce
        have he := mz_w_at (ad := ad) (cA := cA) hq
        split at h
        · next hk2 => exact va_getN hx hb hts hin hown hK hP q he hc k hk hlink hsame (mz_fs_at hk2) hdg (h ad cA H locs ls (hw.tail.push trivial) ha hn hK hP hD hS hl)
        · next hk2 => exact va_getN hx hb hts hin hown hK hP q he hc k hk hlink hsame (mz_fs_at hk2) hdg (h ad cA H locs ls (hw.tail.push trivial) ha hn hK hP hD hS hl)
        · next t hk2 => exact va_getN hx hb hts hin hown hK hP q he hc k hk hlink hsame (mz_fs_at hk2) hdg (h ad cA H locs ls (hw.tail.push (Or.inl (hw.2.1 _ (List.mem_of_getElem? hq) _ (List.mem_of_getElem? hk2)))) ha hn hK hP hD hS hl)
        · exact h.elim
      · exact h.elim
    · exact h.elim
  · exact h.elim
theorem sd_puti (hx : p.tables.exec = Jvm.exec) (hb : c.code = cc) {own ref C : String} {T : u_T} {N ci k index : Nat} {Ts : List Cond} (hts : ∀ w ∈ Ts, w.before args s = true) (hin : ∀ w ∈ u_ws C T N, w ∈ Ts) (ty0 : Nat → FieldType) (hty : ∀ k, k < N → parseFieldDescriptor (T k).2.2.1 = some (ty0 k)) (hnm : ∀ a, a < N → ∀ b, b < N → a ≠ b → (T a).2.1 ≠ (T b).2.1) (hown : s.vm.findClass own = some m.cls) (hc : cl[ci]? = some (C, T, N)) (hk : k < N) (hlink : (Cond.fieldLink own index ref (T k).2.1 (T k).2.2.1).before args s = true) (hsame : ∀ x, s.fieldFound? (T k).1 (T k).2.1 (T k).2.2.1 = some x → s.fieldFound? ref (T k).2.1 (T k).2.2.1 = some x) (hfin : (T k).2.2.2 = false) (htk : ty0 k = .int) (hdg : decode cc pc = .ok (.putfield index, 3)) : mz_Sd (mz_V p l e R s m args below meth c nL n0 z0 D cl G A Qw) Qv (mz_pfi ci k (pc + 3)) pc := by
  intro L S M h ad cA H locs ls hw ha hn hK hP hD hS hl
  simp only [mz_pfi, mz_ob] at h
  split at h
  · next x q r =>
    split at h
    · next ci2 ks hq =>
      split at h
      · next hbe =>
        have hce : ci2 = ci := Nat.eq_of_beq_eq_true hbe
        subst hce
        have he := mz_w_at (ad := ad) (cA := cA) hq
        split at h
        · next hk2 =>
          have hlt : k < (ks.mapIdx (fun k kind => mz_fv ad M q k kind)).length := by
            rw [List.length_mapIdx]
            exact (List.getElem?_eq_some_iff.mp hk2).1
          refine va_put (v := .int x) hx hb hts hin ty0 hty hnm hown hK hP hD hS q he hc k hk hlink hsame hfin (hty k hk) (by rw [htk]; rfl) (by rw [htk]; rfl) hlt hdg (fun H1 locs1 hP1 hD1 hS1 => ?_)
          have hce2 : mz_ce ad cA (M.1, mz_up M.2.1 q k x, M.2.2) q (.inr (ci2, ks)) = .inr (ci2, (ks.mapIdx (fun k kind => mz_fv ad M q k kind)).set k (.int x)) := by
            simp only [mz_ce]
            rw [mz_fs_set (M' := (M.1, mz_up M.2.1 q k x, M.2.2)) hk2 (by simp [mz_fv, mz_up]) (fun j kd hj => by unfold mz_fv; split <;> simp [mz_up, hj])]
          have hse := mz_w_set (ad := ad) (cA := cA) (M' := (M.1, mz_up M.2.1 q k x, M.2.2)) hq rfl (fun i hi => by first | rfl | exact mz_up_off hi) (fun i hi => by first | rfl | exact mz_up_off hi) hce2
          rw [hse] at hP1 hD1
          exact h ad cA H1 locs1 ls (hw.tail.tail.mem rfl) ha hn hK hP1 hD1 hS1 hl
        · exact h.elim
      · exact h.elim
    · exact h.elim
  · exact h.elim
theorem sd_putl (hx : p.tables.exec = Jvm.exec) (hb : c.code = cc) {own ref C : String} {T : u_T} {N ci k index : Nat} {Ts : List Cond} (hts : ∀ w ∈ Ts, w.before args s = true) (hin : ∀ w ∈ u_ws C T N, w ∈ Ts) (ty0 : Nat → FieldType) (hty : ∀ k, k < N → parseFieldDescriptor (T k).2.2.1 = some (ty0 k)) (hnm : ∀ a, a < N → ∀ b, b < N → a ≠ b → (T a).2.1 ≠ (T b).2.1) (hown : s.vm.findClass own = some m.cls) (hc : cl[ci]? = some (C, T, N)) (hk : k < N) (hlink : (Cond.fieldLink own index ref (T k).2.1 (T k).2.2.1).before args s = true) (hsame : ∀ x, s.fieldFound? (T k).1 (T k).2.1 (T k).2.2.1 = some x → s.fieldFound? ref (T k).2.1 (T k).2.2.1 = some x) (hfin : (T k).2.2.2 = false) (htk : ty0 k = .long) (hdg : decode cc pc = .ok (.putfield index, 3)) : mz_Sd (mz_V p l e R s m args below meth c nL n0 z0 D cl G A Qw) Qv (mz_pfl ci k (pc + 3)) pc := by
  intro L S M h ad cA H locs ls hw ha hn hK hP hD hS hl
  simp only [mz_pfl, mz_ob] at h
  split at h
  · next x q r =>
    split at h
    · next ci2 ks hq =>
      split at h
      · next hbe =>
        have hce : ci2 = ci := Nat.eq_of_beq_eq_true hbe
        subst hce
        have he := mz_w_at (ad := ad) (cA := cA) hq
        split at h
        · next hk2 =>
          have hlt : k < (ks.mapIdx (fun k kind => mz_fv ad M q k kind)).length := by
            rw [List.length_mapIdx]
            exact (List.getElem?_eq_some_iff.mp hk2).1
          refine va_put (v := .long x) hx hb hts hin ty0 hty hnm hown hK hP hD hS q he hc k hk hlink hsame hfin (hty k hk) (by rw [htk]; rfl) (by rw [htk]; rfl) hlt hdg (fun H1 locs1 hP1 hD1 hS1 => ?_)
          have hce2 : mz_ce ad cA (M.1, M.2.1, mz_up M.2.2 q k x) q (.inr (ci2, ks)) = .inr (ci2, (ks.mapIdx (fun k kind => mz_fv ad M q k kind)).set k (.long x)) := by
            simp only [mz_ce]
            rw [mz_fs_set (M' := (M.1, M.2.1, mz_up M.2.2 q k x)) hk2 (by simp [mz_fv, mz_up]) (fun j kd hj => by unfold mz_fv; split <;> simp [mz_up, hj])]
          have hse := mz_w_set (ad := ad) (cA := cA) (M' := (M.1, M.2.1, mz_up M.2.2 q k x)) hq rfl (fun i hi => by first | rfl | exact mz_up_off hi) (fun i hi => by first | rfl | exact mz_up_off hi) hce2
          rw [hse] at hP1 hD1
          exact h ad cA H1 locs1 ls (hw.tail.tail.mem rfl) ha hn hK hP1 hD1 hS1 hl
        · exact h.elim
      · exact h.elim
    · exact h.elim
  · exact h.elim
theorem sd_putFi (hx : p.tables.exec = Jvm.exec) (hb : c.code = cc) {own ref C : String} {T : u_T} {N ci k index : Nat} {Ts : List Cond} (hts : ∀ w ∈ Ts, w.before args s = true) (hin : ∀ w ∈ u_ws C T N, w ∈ Ts) (ty0 : Nat → FieldType) (hty : ∀ k, k < N → parseFieldDescriptor (T k).2.2.1 = some (ty0 k)) (hnm : ∀ a, a < N → ∀ b, b < N → a ≠ b → (T a).2.1 ≠ (T b).2.1) (hown : s.vm.findClass own = some m.cls) (hc : cl[ci]? = some (C, T, N)) (hk : k < N) (hlink : (Cond.fieldLink own index ref (T k).2.1 (T k).2.2.1).before args s = true) (hsame : ∀ x, s.fieldFound? (T k).1 (T k).2.1 (T k).2.2.1 = some x → s.fieldFound? ref (T k).2.1 (T k).2.2.1 = some x) (hfin : (T k).2.2.2 = true) (hin2 : meth.name = "<init>") (hdecl : (T k).1 = own) (htk : ty0 k = .int) (hdg : decode cc pc = .ok (.putfield index, 3)) : mz_Sd (mz_V p l e R s m args below meth c nL n0 z0 D cl G A Qw) Qv (mz_pfi ci k (pc + 3)) pc := by
  intro L S M h ad cA H locs ls hw ha hn hK hP hD hS hl
  simp only [mz_pfi, mz_ob] at h
  split at h
  · next x q r =>
    split at h
    · next ci2 ks hq =>
      split at h
      · next hbe =>
        have hce : ci2 = ci := Nat.eq_of_beq_eq_true hbe
        subst hce
        have he := mz_w_at (ad := ad) (cA := cA) hq
        split at h
        · next hk2 =>
          have hlt : k < (ks.mapIdx (fun k kind => mz_fv ad M q k kind)).length := by
            rw [List.length_mapIdx]
            exact (List.getElem?_eq_some_iff.mp hk2).1
          refine va_putF (v := .int x) hx hb hts hin ty0 hty hnm hown hK hP hD hS q he hc k hk hlink hsame hfin hin2 hdecl (hty k hk) (by rw [htk]; rfl) (by rw [htk]; rfl) hlt hdg (fun H1 locs1 hP1 hD1 hS1 => ?_)
          have hce2 : mz_ce ad cA (M.1, mz_up M.2.1 q k x, M.2.2) q (.inr (ci2, ks)) = .inr (ci2, (ks.mapIdx (fun k kind => mz_fv ad M q k kind)).set k (.int x)) := by
            simp only [mz_ce]
            rw [mz_fs_set (M' := (M.1, mz_up M.2.1 q k x, M.2.2)) hk2 (by simp [mz_fv, mz_up]) (fun j kd hj => by unfold mz_fv; split <;> simp [mz_up, hj])]
          have hse := mz_w_set (ad := ad) (cA := cA) (M' := (M.1, mz_up M.2.1 q k x, M.2.2)) hq rfl (fun i hi => by first | rfl | exact mz_up_off hi) (fun i hi => by first | rfl | exact mz_up_off hi) hce2
          rw [hse] at hP1 hD1
          exact h ad cA H1 locs1 ls (hw.tail.tail.mem rfl) ha hn hK hP1 hD1 hS1 hl
        · exact h.elim
      · exact h.elim
    · exact h.elim
  · exact h.elim
theorem sd_putFl (hx : p.tables.exec = Jvm.exec) (hb : c.code = cc) {own ref C : String} {T : u_T} {N ci k index : Nat} {Ts : List Cond} (hts : ∀ w ∈ Ts, w.before args s = true) (hin : ∀ w ∈ u_ws C T N, w ∈ Ts) (ty0 : Nat → FieldType) (hty : ∀ k, k < N → parseFieldDescriptor (T k).2.2.1 = some (ty0 k)) (hnm : ∀ a, a < N → ∀ b, b < N → a ≠ b → (T a).2.1 ≠ (T b).2.1) (hown : s.vm.findClass own = some m.cls) (hc : cl[ci]? = some (C, T, N)) (hk : k < N) (hlink : (Cond.fieldLink own index ref (T k).2.1 (T k).2.2.1).before args s = true) (hsame : ∀ x, s.fieldFound? (T k).1 (T k).2.1 (T k).2.2.1 = some x → s.fieldFound? ref (T k).2.1 (T k).2.2.1 = some x) (hfin : (T k).2.2.2 = true) (hin2 : meth.name = "<init>") (hdecl : (T k).1 = own) (htk : ty0 k = .long) (hdg : decode cc pc = .ok (.putfield index, 3)) : mz_Sd (mz_V p l e R s m args below meth c nL n0 z0 D cl G A Qw) Qv (mz_pfl ci k (pc + 3)) pc := by
  intro L S M h ad cA H locs ls hw ha hn hK hP hD hS hl
  simp only [mz_pfl, mz_ob] at h
  split at h
  · next x q r =>
    split at h
    · next ci2 ks hq =>
      split at h
      · next hbe =>
        have hce : ci2 = ci := Nat.eq_of_beq_eq_true hbe
        subst hce
        have he := mz_w_at (ad := ad) (cA := cA) hq
        split at h
        · next hk2 =>
          have hlt : k < (ks.mapIdx (fun k kind => mz_fv ad M q k kind)).length := by
            rw [List.length_mapIdx]
            exact (List.getElem?_eq_some_iff.mp hk2).1
          refine va_putF (v := .long x) hx hb hts hin ty0 hty hnm hown hK hP hD hS q he hc k hk hlink hsame hfin hin2 hdecl (hty k hk) (by rw [htk]; rfl) (by rw [htk]; rfl) hlt hdg (fun H1 locs1 hP1 hD1 hS1 => ?_)
          have hce2 : mz_ce ad cA (M.1, M.2.1, mz_up M.2.2 q k x) q (.inr (ci2, ks)) = .inr (ci2, (ks.mapIdx (fun k kind => mz_fv ad M q k kind)).set k (.long x)) := by
            simp only [mz_ce]
            rw [mz_fs_set (M' := (M.1, M.2.1, mz_up M.2.2 q k x)) hk2 (by simp [mz_fv, mz_up]) (fun j kd hj => by unfold mz_fv; split <;> simp [mz_up, hj])]
          have hse := mz_w_set (ad := ad) (cA := cA) (M' := (M.1, M.2.1, mz_up M.2.2 q k x)) hq rfl (fun i hi => by first | rfl | exact mz_up_off hi) (fun i hi => by first | rfl | exact mz_up_off hi) hce2
          rw [hse] at hP1 hD1
          exact h ad cA H1 locs1 ls (hw.tail.tail.mem rfl) ha hn hK hP1 hD1 hS1 hl
        · exact h.elim
      · exact h.elim
    · exact h.elim
  · exact h.elim
theorem sd_putNi (hx : p.tables.exec = Jvm.exec) (hb : c.code = cc) {own ref C host : String} {T : u_T} {N ci k index : Nat} {Ts : List Cond} (hts : ∀ w ∈ Ts, w.before args s = true) (hin : ∀ w ∈ u_ws C T N, w ∈ Ts) (ty0 : Nat → FieldType) (hty : ∀ k, k < N → parseFieldDescriptor (T k).2.2.1 = some (ty0 k)) (hnm : ∀ a, a < N → ∀ b, b < N → a ≠ b → (T a).2.1 ≠ (T b).2.1) (hown : s.vm.findClass own = some m.cls) (hc : cl[ci]? = some (C, T, N)) (hk : k < N) (hlink : (Cond.fieldLinkNest own index ref (T k).2.1 (T k).2.2.1 host).before args s = true) (hsame : ∀ x, s.fieldFound? (T k).1 (T k).2.1 (T k).2.2.1 = some x → s.fieldFound? ref (T k).2.1 (T k).2.2.1 = some x) (hfin : (T k).2.2.2 = false) (htk : ty0 k = .int) (hdg : decode cc pc = .ok (.putfield index, 3)) : mz_Sd (mz_V p l e R s m args below meth c nL n0 z0 D cl G A Qw) Qv (mz_pfi ci k (pc + 3)) pc := by
  intro L S M h ad cA H locs ls hw ha hn hK hP hD hS hl
  simp only [mz_pfi, mz_ob] at h
  split at h
  · next x q r =>
    split at h
    · next ci2 ks hq =>
      split at h
      · next hbe =>
        have hce : ci2 = ci := Nat.eq_of_beq_eq_true hbe
        subst hce
        have he := mz_w_at (ad := ad) (cA := cA) hq
        split at h
        · next hk2 =>
          have hlt : k < (ks.mapIdx (fun k kind => mz_fv ad M q k kind)).length := by
            rw [List.length_mapIdx]
            exact (List.getElem?_eq_some_iff.mp hk2).1
          refine va_putN (v := .int x) hx hb hts hin ty0 hty hnm hown hK hP hD hS q he hc k hk hlink hsame hfin (hty k hk) (by rw [htk]; rfl) (by rw [htk]; rfl) hlt hdg (fun H1 locs1 hP1 hD1 hS1 => ?_)
          have hce2 : mz_ce ad cA (M.1, mz_up M.2.1 q k x, M.2.2) q (.inr (ci2, ks)) = .inr (ci2, (ks.mapIdx (fun k kind => mz_fv ad M q k kind)).set k (.int x)) := by
            simp only [mz_ce]
            rw [mz_fs_set (M' := (M.1, mz_up M.2.1 q k x, M.2.2)) hk2 (by simp [mz_fv, mz_up]) (fun j kd hj => by unfold mz_fv; split <;> simp [mz_up, hj])]
          have hse := mz_w_set (ad := ad) (cA := cA) (M' := (M.1, mz_up M.2.1 q k x, M.2.2)) hq rfl (fun i hi => by first | rfl | exact mz_up_off hi) (fun i hi => by first | rfl | exact mz_up_off hi) hce2
          rw [hse] at hP1 hD1
          exact h ad cA H1 locs1 ls (hw.tail.tail.mem rfl) ha hn hK hP1 hD1 hS1 hl
        · exact h.elim
      · exact h.elim
    · exact h.elim
  · exact h.elim
theorem sd_iald (hx : p.tables.exec = Jvm.exec) (hb : c.code = cc) (hdg : decode cc pc = .ok (.iaload, 1)) : mz_Sd (mz_V p l e R s m args below meth c nL n0 z0 D cl G A Qw) Qv (mz_iald 0 (pc + 1)) pc := by
  intro L S M h ad cA H locs ls hw ha hn hK hP hD hS hl
  simp only [mz_iald, mz_ar] at h
  split at h
  · next i q r =>
    split at h
    · next t d n hq =>
      split at h
      · next hbe =>
        have hde : d = 0 := Nat.eq_of_beq_eq_true hbe
        subst hde
        obtain ⟨t0, ht0⟩ := mz_ty_at (cA := cA) hq
        exact va_iald hx hb hK hP q t0 (mz_w_at (ad := ad) (cA := cA) hq) ht0 h.1 hdg (h.2 ad cA H locs ls (hw.tail.tail.push trivial) ha hn hK hP hD hS hl)
      · exact h.elim
    · exact h.elim
  · exact h.elim
theorem sd_zald (hx : p.tables.exec = Jvm.exec) (hb : c.code = cc) (hdg : decode cc pc = .ok (.baload, 1)) : mz_Sd (mz_V p l e R s m args below meth c nL n0 z0 D cl G A Qw) Qv (mz_iald 1 (pc + 1)) pc := by
  intro L S M h ad cA H locs ls hw ha hn hK hP hD hS hl
  simp only [mz_iald, mz_ar] at h
  split at h
  · next i q r =>
    split at h
    · next t d n hq =>
      split at h
      · next hbe =>
        have hde : d = 1 := Nat.eq_of_beq_eq_true hbe
        subst hde
        obtain ⟨t0, ht0⟩ := mz_ty_at (cA := cA) hq
        exact va_zald hx hb hK hP q t0 (mz_w_at (ad := ad) (cA := cA) hq) ht0 h.1 hdg (h.2 ad cA H locs ls (hw.tail.tail.push trivial) ha hn hK hP hD hS hl)
      · exact h.elim
    · exact h.elim
  · exact h.elim
theorem sd_lald (hx : p.tables.exec = Jvm.exec) (hb : c.code = cc) (hdg : decode cc pc = .ok (.laload, 1)) : mz_Sd (mz_V p l e R s m args below meth c nL n0 z0 D cl G A Qw) Qv (mz_lald (pc + 1)) pc := by
  intro L S M h ad cA H locs ls hw ha hn hK hP hD hS hl
  simp only [mz_lald, mz_ar] at h
  split at h
  · next i q r =>
    split at h
    · next t d n hq =>
      split at h
      · next hbe =>
        have hde : d = 2 := Nat.eq_of_beq_eq_true hbe
        subst hde
        obtain ⟨t0, ht0⟩ := mz_ty_at (cA := cA) hq
        exact va_lald hx hb hK hP q t0 (mz_w_at (ad := ad) (cA := cA) hq) ht0 h.1 hdg (h.2 ad cA H locs ls (hw.tail.tail.push trivial) ha hn hK hP hD hS hl)
      · exact h.elim
    · exact h.elim
  · exact h.elim
theorem sd_iast (hx : p.tables.exec = Jvm.exec) (hb : c.code = cc) (hdg : decode cc pc = .ok (.iastore, 1)) : mz_Sd (mz_V p l e R s m args below meth c nL n0 z0 D cl G A Qw) Qv (mz_iast 0 (pc + 1)) pc := by
  intro L S M h ad cA H locs ls hw ha hn hK hP hD hS hl
  simp only [mz_iast, mz_ar] at h
  split at h
  · next x i q r =>
    split at h
    · next t d n hq =>
      split at h
      · next hbe =>
        have hde : d = 0 := Nat.eq_of_beq_eq_true hbe
        subst hde
        obtain ⟨t0, ht0⟩ := mz_ty_at (cA := cA) hq
        refine va_iast hx hb hK hP hD hS q t0 (mz_w_at (ad := ad) (cA := cA) hq) ht0 h.1 hdg (fun H1 locs1 hP1 hD1 hS1 => ?_)
        have hse := mz_w_set (ad := ad) (cA := cA) (M' := (M.1, mz_up M.2.1 q i.toNatClampNeg (vp_nar (mz_tc 0) x), M.2.2)) (x := .inl (cA t, n, Sum.inl (upd (M.2.1 q) i.toNatClampNeg x))) hq rfl (fun i hi => by first | rfl | exact mz_up_off hi) (fun i hi => by first | rfl | exact mz_up_off hi) (by simp only [mz_ce, Nat.beq]; rw [mz_up_row]; rfl)
        rw [hse] at hP1 hD1
        exact h.2 ad cA H1 locs1 ls (hw.tail.tail.tail.mem rfl) ha hn hK hP1 hD1 hS1 hl
      · exact h.elim
    · exact h.elim
  · exact h.elim
theorem sd_zast (hx : p.tables.exec = Jvm.exec) (hb : c.code = cc) (hdg : decode cc pc = .ok (.bastore, 1)) : mz_Sd (mz_V p l e R s m args below meth c nL n0 z0 D cl G A Qw) Qv (mz_iast 1 (pc + 1)) pc := by
  intro L S M h ad cA H locs ls hw ha hn hK hP hD hS hl
  simp only [mz_iast, mz_ar] at h
  split at h
  · next x i q r =>
    split at h
    · next t d n hq =>
      split at h
      · next hbe =>
        have hde : d = 1 := Nat.eq_of_beq_eq_true hbe
        subst hde
        obtain ⟨t0, ht0⟩ := mz_ty_at (cA := cA) hq
        refine va_zast hx hb hK hP hD hS q t0 (mz_w_at (ad := ad) (cA := cA) hq) ht0 h.1 hdg (fun H1 locs1 hP1 hD1 hS1 => ?_)
        have hse := mz_w_set (ad := ad) (cA := cA) (M' := (M.1, mz_up M.2.1 q i.toNatClampNeg (vp_nar (mz_tc 1) x), M.2.2)) (x := .inl (cA t, n, Sum.inl (upd (M.2.1 q) i.toNatClampNeg (vp_nar .boolean x)))) hq rfl (fun i hi => by first | rfl | exact mz_up_off hi) (fun i hi => by first | rfl | exact mz_up_off hi) (by simp only [mz_ce, Nat.beq]; rw [mz_up_row]; rfl)
        rw [hse] at hP1 hD1
        exact h.2 ad cA H1 locs1 ls (hw.tail.tail.tail.mem rfl) ha hn hK hP1 hD1 hS1 hl
      · exact h.elim
    · exact h.elim
  · exact h.elim
theorem sd_last (hx : p.tables.exec = Jvm.exec) (hb : c.code = cc) (hdg : decode cc pc = .ok (.lastore, 1)) : mz_Sd (mz_V p l e R s m args below meth c nL n0 z0 D cl G A Qw) Qv (mz_last (pc + 1)) pc := by
  intro L S M h ad cA H locs ls hw ha hn hK hP hD hS hl
  simp only [mz_last, mz_ar] at h
  split at h
  · next x i q r =>
    split at h
    · next t d n hq =>
      split at h
      · next hbe =>
        have hde : d = 2 := Nat.eq_of_beq_eq_true hbe
        subst hde
        obtain ⟨t0, ht0⟩ := mz_ty_at (cA := cA) hq
        refine va_last hx hb hK hP hD hS q t0 (mz_w_at (ad := ad) (cA := cA) hq) ht0 h.1 hdg (fun H1 locs1 hP1 hD1 hS1 => ?_)
        have hse := mz_w_set (ad := ad) (cA := cA) (M' := (M.1, M.2.1, mz_up M.2.2 q i.toNatClampNeg x)) (x := .inl (cA t, n, Sum.inr (Sum.inl (vp_updL (M.2.2 q) i.toNatClampNeg x)))) hq rfl (fun i hi => by first | rfl | exact mz_up_off hi) (fun i hi => by first | rfl | exact mz_up_off hi) (by simp only [mz_ce, Nat.beq]; rw [mz_up_row]; rfl)
        rw [hse] at hP1 hD1
        exact h.2 ad cA H1 locs1 ls (hw.tail.tail.tail.mem rfl) ha hn hK hP1 hD1 hS1 hl
      · exact h.elim
    · exact h.elim
  · exact h.elim
theorem sd_alen (hx : p.tables.exec = Jvm.exec) (hb : c.code = cc) (hdg : decode cc pc = .ok (.arraylength, 1)) : mz_Sd (mz_V p l e R s m args below meth c nL n0 z0 D cl G A Qw) Qv (mz_al (pc + 1)) pc := by
  intro L S M h ad cA H locs ls hw ha hn hK hP hD hS hl
  simp only [mz_al] at h
  split at h
  · next q r =>
    split at h
    · next t d n hq =>
      obtain ⟨t0, ht0⟩ := mz_ty_at (cA := cA) hq
      exact va_alen hx hb hK hP q t0 (mz_w_at (ad := ad) (cA := cA) hq) ht0 rfl hdg (h ad cA H locs ls (hw.tail.push trivial) ha hn hK hP hD hS hl)
    · exact h.elim
  · exact h.elim
/-- behind a method: its world -/
def mz_B (D : va_G) (cl : List vw_C) (ad : Nat → Nat) (cA : Nat → ClassId) (lay : List mz_E) (A : Nat → Prop) (u : mz_X) (t : State) : Prop := va_P D cl (mz_w ad cA (lay, u)) t.heap ∧ va_K D cl (mz_ty cA lay) t ∧ va_D A (mz_w ad cA (lay, u))
def mz_Pc (D : va_G) (cl : List vw_C) (ad : Nat → Nat) (cA : Nat → ClassId) (lay : List mz_E) (as : List Value) (X : mz_X) (sz : Nat) : Array Value → State → Prop := va_Pc (as.map (mz_cv ad)) (fun U => U.heap.size = sz ∧ va_P D cl (mz_w ad cA (lay, X)) U.heap ∧ va_K D cl (mz_ty cA lay) U ∧ va_D (fun _ => True) (mz_w ad cA (lay, X)))
abbrev mz_rm (fr lo : Nat) : Room := { frames := fr, cells := 0, slots := 0, locals := lo }
def mz_MI (l : Launch) (y : MethodName) (ws : List Cond) (fr lo : Nat) (cl : List vw_C) (C : mz_CI) : Prop := ∀ (D : va_G) (ad : Nat → Nat) (cA : Nat → ClassId) (sz : Nat) (lay : List mz_E) (as : List Value) (X : mz_X) (Q : Int32 → mz_X → Prop), mz_wf [] as (lay, X) → C lay as X Q →
  Met l y ws (mz_rm fr lo) (mz_Pc D cl ad cA lay as X sz) (va_Qi Q (mz_B D cl ad cA lay (va_A (mz_w ad cA (lay, X)) sz)) (va_A (mz_w ad cA (lay, X)) sz)) 0 0 (va_A (mz_w ad cA (lay, X)) sz)
def mz_ML (l : Launch) (y : MethodName) (ws : List Cond) (fr lo : Nat) (cl : List vw_C) (C : mz_CL) : Prop := ∀ (D : va_G) (ad : Nat → Nat) (cA : Nat → ClassId) (sz : Nat) (lay : List mz_E) (as : List Value) (X : mz_X) (Q : Int64 → mz_X → Prop), mz_wf [] as (lay, X) → C lay as X Q →
  Met l y ws (mz_rm fr lo) (mz_Pc D cl ad cA lay as X sz) (va_Ql Q (mz_B D cl ad cA lay (va_A (mz_w ad cA (lay, X)) sz)) (va_A (mz_w ad cA (lay, X)) sz)) 0 0 (va_A (mz_w ad cA (lay, X)) sz)
def mz_MV (l : Launch) (y : MethodName) (ws : List Cond) (fr lo : Nat) (cl : List vw_C) (C : mz_CV) : Prop := ∀ (D : va_G) (ad : Nat → Nat) (cA : Nat → ClassId) (sz : Nat) (lay : List mz_E) (as : List Value) (X : mz_X) (Q : mz_X → Prop), mz_wf [] as (lay, X) → C lay as X Q →
  Met l y ws (mz_rm fr lo) (mz_Pc D cl ad cA lay as X sz) (va_Qv Q (mz_B D cl ad cA lay (va_A (mz_w ad cA (lay, X)) sz)) (va_A (mz_w ad cA (lay, X)) sz)) 0 0 (va_A (mz_w ad cA (lay, X)) sz)
theorem mz_Pc_blind {D : va_G} {cl : List vw_C} {ad : Nat → Nat} {cA : Nat → ClassId} {lay : List mz_E} {as : List Value} {X : mz_X} {sz : Nat} : FrameBlind (mz_Pc D cl ad cA lay as X sz) := by
  intro a U g mk q
  obtain ⟨q0, q1, qP, qK, qD⟩ := q
  exact ⟨q0, q1, qP, va_K.moved (u := U) (U := U.calling g mk a) (Vm.Alike.refl U.vm) qK, qD⟩
theorem mz_free {A : Nat → Prop} {ws : va_W} {H0 H : Heap} {locs : List Loc} (hD : va_D A ws) (hS : va_S A H0 H locs) (hA : ∀ q, H0.size ≤ q → A q) : ∀ q, va_A ws H.size q → A q := by
  rintro q (⟨k, e, h⟩ | h)
  · exact hD.2 k (q, e) h
  · exact hA q (Nat.le_trans hS.1 h)
theorem mz_split {na : Nat} {S : List Value} (ad : Nat → Nat) {q : Nat} {As : List Value} (h : (S.take na).reverse = .ref q :: As) : S.map (mz_cv ad) = (As.map (mz_cv ad)).reverse ++ .ref (ad q) :: (S.drop na).map (mz_cv ad) := by
  have h1 : S.take na = As.reverse ++ [.ref q] := by
    rw [← List.reverse_reverse (S.take na), h, List.reverse_cons]
  conv => lhs; rw [← List.take_append_drop na S, h1]
  simp [mz_cv]
theorem mz_cats (ad : Nat → Nat) (S : List Value) : ((S.map (mz_cv ad)).map fun v => v.category) = S.map fun v => v.category := by
  rw [List.map_map]
  apply List.map_congr_left
  intro v _
  exact mz_cv_cat ad v
theorem mz_wf.sub {L : mz_L} {S S' : List Value} {M : mz_M} (h : mz_wf L S M) (hs : ∀ v ∈ S', v ∈ S) : mz_wf L S' M := ⟨h.1, h.2.1, fun v hv => h.2.2.1 v (hs v hv), h.2.2.2⟩
theorem mz_wf.noL {L : mz_L} {S : List Value} {M : mz_M} (h : mz_wf L S M) : mz_wf [] S M := ⟨h.1, h.2.1, h.2.2.1, fun v hv => by cases hv⟩
theorem sd_calli {own C : String} {T : u_T} {N ci index maxL n na fr lo : Nat} {y : MethodName} {bytes : ByteArray} {ret : Option FieldType} {ws Ts : List Cond} {Cc : mz_CI} (hF : CallFix p m c cc nL s args Ts own) (hM : mz_MI l y ws fr lo cl Cc) (cw : CallW R s args own C index y bytes maxL ret ws (mz_rm fr lo) 0 0 n) (hc : cl[ci]? = some (C, T, N)) (hA : ∀ q, s.heap.size ≤ q → A q) (hna : n + 1 = na) (hdg : decode cc pc = .ok (.invokevirtual index, 3)) : mz_Sd (mz_V p l e R s m args below meth c nL n0 z0 D cl G A Qw) Qv (mz_ci na ci Cc (pc + 3)) pc := by
  intro L S M h ad cA H locs ls hw ha hn hK hP hD hS hl
  simp only [mz_ci, mz_cut] at h
  split at h
  · next hle =>
    split at h
    · next hsum =>
      generalize has : (S.take na).reverse = as at h
      simp only [mz_rcv] at h
      split at h
      · next q As =>
        simp only [mz_ob] at h
        split at h
        · next ci2 ks hq =>
          split at h
          · next hbe =>
            have hce : ci2 = ci := Nat.eq_of_beq_eq_true hbe
            subst hce
            have hlen : As.length = n := by
              have h1 := congrArg List.length has
              have h2 := Nat.le_of_ble_eq_true hle
              simp only [List.length_reverse, List.length_take, List.length_cons] at h1
              omega
            have hst := mz_split ad has
            have hFr := mz_free hD hS hA
            have hwa : mz_wf [] (.ref q :: As) (M.1, M.2) := (hw.sub (S' := .ref q :: As) (fun v hv => by rw [← has] at hv; exact List.mem_of_mem_take (List.mem_reverse.mp hv))).noL
            refine va_calli (st0 := S.map (mz_cv ad)) (va_runV (As := As.map (mz_cv ad)) (b := ad q) (rest := (S.drop na).map (mz_cv ad)) (g := F0 m pc ls (S.map (mz_cv ad))) hF (hM D ad cA H.size M.1 (.ref q :: As) M.2 _ hwa h) cw ⟨mz_Pc_blind, va_recv hK hP hc (mz_w_at (ad := ad) (cA := cA) hq), fun U hU hW => ⟨rfl, by rw [hU], by rw [hU]; exact hP, va_K.moved hW.alike hK, hD.weaken (fun _ _ _ _ => trivial)⟩⟩ rfl (by rw [List.length_map]; exact hlen) hl.1 hst (lv_room (by rw [mz_cats]; exact Nat.le_of_ble_eq_true hsum)) hdg ⟨hn.2.1, hn.2.2⟩) hS (fun q _ h => hFr q h) hFr (fun r_1 u t H1 locs1 ht hvm hw1 hB hz1 hk1 hS1 => ?_)
            obtain ⟨hP1, hK1, hD1⟩ := hB
            rw [ht] at hP1
            exact hw1 ad cA H1 locs1 ls (mz_wf.push (v := .int r_1) ((hw.sub (fun v hv => List.mem_of_mem_drop hv)).mem rfl) trivial) ha hn hK hP1 (hD1.weaken (fun _ q9 _ h9 => hFr _ h9)) hS1 hl
          · exact h.elim
        · exact h.elim
      · exact h.elim
    · exact h.elim
  · exact h.elim
theorem sd_scalli {own : String} {index maxL n na fr lo : Nat} {y : MethodName} {bytes : ByteArray} {ret : Option FieldType} {ws Ts : List Cond} {Cc : mz_CI} (hF : CallFix p m c cc nL s args Ts own) (hM : mz_MI l y ws fr lo cl Cc) (cw : CallB R s args own index y bytes maxL ret ws (mz_rm fr lo) 0 0 n ∧ (Cond.static y).before args s = true) (hA : ∀ q, s.heap.size ≤ q → A q) (hna : n = na) (hdg : decode cc pc = .ok (.invokestatic index, 3)) : mz_Sd (mz_V p l e R s m args below meth c nL n0 z0 D cl G A Qw) Qv (mz_si na Cc (pc + 3)) pc := by
  intro L S M h ad cA H locs ls hw ha hn hK hP hD hS hl
  simp only [mz_si, mz_cut] at h
  split at h
  · next hle =>
    split at h
    · next hsum =>
      have hFr := mz_free hD hS hA
      have hlen : (S.take na).reverse.length = n := by
        have h2 := Nat.le_of_ble_eq_true hle
        simp only [List.length_reverse, List.length_take]
        omega
      have hst : S.map (mz_cv ad) = ((S.take na).reverse.map (mz_cv ad)).reverse ++ (S.drop na).map (mz_cv ad) := by
        rw [← List.map_reverse, List.reverse_reverse, ← List.map_append, List.take_append_drop]
      have hwa : mz_wf [] (S.take na).reverse (M.1, M.2) := (hw.sub (fun v hv => List.mem_of_mem_take (List.mem_reverse.mp hv))).noL
      refine va_calli (st0 := S.map (mz_cv ad)) (va_runS (As := (S.take na).reverse.map (mz_cv ad)) (rest := (S.drop na).map (mz_cv ad)) (g := F0 m pc ls (S.map (mz_cv ad))) hF (hM D ad cA H.size M.1 (S.take na).reverse M.2 _ hwa h) cw ⟨mz_Pc_blind, fun U hU hW => ⟨rfl, by rw [hU], by rw [hU]; exact hP, va_K.moved hW.alike hK, hD.weaken (fun _ _ _ _ => trivial)⟩⟩ rfl (by rw [List.length_map]; exact hlen) hl.1 hst (lv_room (by rw [mz_cats]; exact Nat.le_of_ble_eq_true hsum)) hdg ⟨hn.2.1, hn.2.2⟩) hS (fun q _ h => hFr q h) hFr (fun r_1 u t H1 locs1 ht hvm hw1 hB hz1 hk1 hS1 => ?_)
      obtain ⟨hP1, hK1, hD1⟩ := hB
      rw [ht] at hP1
      exact hw1 ad cA H1 locs1 ls (mz_wf.push (v := .int r_1) ((hw.sub (fun v hv => List.mem_of_mem_drop hv)).mem rfl) trivial) ha hn hK hP1 (hD1.weaken (fun _ q9 _ h9 => hFr _ h9)) hS1 hl
    · exact h.elim
  · exact h.elim
theorem sd_calliN {own C host : String} {T : u_T} {N ci index maxL n na fr lo : Nat} {y : MethodName} {bytes : ByteArray} {ret : Option FieldType} {ws Ts : List Cond} {Cc : mz_CI} (hF : CallFix p m c cc nL s args Ts own) (hM : mz_MI l y ws fr lo cl Cc) (cw : va_CN R s args own index y host bytes maxL ret ws (mz_rm fr lo) 0 0 n ∧ (Cond.instanceMethod y).before args s = true ∧ (Cond.selects C y y).before args s = true) (hc : cl[ci]? = some (C, T, N)) (hA : ∀ q, s.heap.size ≤ q → A q) (hna : n + 1 = na) (hdg : decode cc pc = .ok (.invokevirtual index, 3)) : mz_Sd (mz_V p l e R s m args below meth c nL n0 z0 D cl G A Qw) Qv (mz_ci na ci Cc (pc + 3)) pc := by
  intro L S M h ad cA H locs ls hw ha hn hK hP hD hS hl
  simp only [mz_ci, mz_cut] at h
  split at h
  · next hle =>
    split at h
    · next hsum =>
      generalize has : (S.take na).reverse = as at h
      simp only [mz_rcv] at h
      split at h
      · next q As =>
        simp only [mz_ob] at h
        split at h
        · next ci2 ks hq =>
          split at h
          · next hbe =>
            have hce : ci2 = ci := Nat.eq_of_beq_eq_true hbe
            subst hce
            have hlen : As.length = n := by
              have h1 := congrArg List.length has
              have h2 := Nat.le_of_ble_eq_true hle
              simp only [List.length_reverse, List.length_take, List.length_cons] at h1
              omega
            have hst := mz_split ad has
            have hFr := mz_free hD hS hA
            have hwa : mz_wf [] (.ref q :: As) (M.1, M.2) := (hw.sub (S' := .ref q :: As) (fun v hv => by rw [← has] at hv; exact List.mem_of_mem_take (List.mem_reverse.mp hv))).noL
            refine va_calli (st0 := S.map (mz_cv ad)) (va_runVN (As := As.map (mz_cv ad)) (b := ad q) (rest := (S.drop na).map (mz_cv ad)) (g := F0 m pc ls (S.map (mz_cv ad))) hF (hM D ad cA H.size M.1 (.ref q :: As) M.2 _ hwa h) cw ⟨mz_Pc_blind, va_recv hK hP hc (mz_w_at (ad := ad) (cA := cA) hq), fun U hU hW => ⟨rfl, by rw [hU], by rw [hU]; exact hP, va_K.moved hW.alike hK, hD.weaken (fun _ _ _ _ => trivial)⟩⟩ rfl (by rw [List.length_map]; exact hlen) hl.1 hst (lv_room (by rw [mz_cats]; exact Nat.le_of_ble_eq_true hsum)) hdg ⟨hn.2.1, hn.2.2⟩) hS (fun q _ h => hFr q h) hFr (fun r_1 u t H1 locs1 ht hvm hw1 hB hz1 hk1 hS1 => ?_)
            obtain ⟨hP1, hK1, hD1⟩ := hB
            rw [ht] at hP1
            exact hw1 ad cA H1 locs1 ls (mz_wf.push (v := .int r_1) ((hw.sub (fun v hv => List.mem_of_mem_drop hv)).mem rfl) trivial) ha hn hK hP1 (hD1.weaken (fun _ q9 _ h9 => hFr _ h9)) hS1 hl
          · exact h.elim
        · exact h.elim
      · exact h.elim
    · exact h.elim
  · exact h.elim
theorem sd_scalliN {own host : String} {index maxL n na fr lo : Nat} {y : MethodName} {bytes : ByteArray} {ret : Option FieldType} {ws Ts : List Cond} {Cc : mz_CI} (hF : CallFix p m c cc nL s args Ts own) (hM : mz_MI l y ws fr lo cl Cc) (cw : va_CN R s args own index y host bytes maxL ret ws (mz_rm fr lo) 0 0 n ∧ (Cond.static y).before args s = true ∧ True) (hA : ∀ q, s.heap.size ≤ q → A q) (hna : n = na) (hdg : decode cc pc = .ok (.invokestatic index, 3)) : mz_Sd (mz_V p l e R s m args below meth c nL n0 z0 D cl G A Qw) Qv (mz_si na Cc (pc + 3)) pc := by
  intro L S M h ad cA H locs ls hw ha hn hK hP hD hS hl
  simp only [mz_si, mz_cut] at h
  split at h
  · next hle =>
    split at h
    · next hsum =>
      have hFr := mz_free hD hS hA
      have hlen : (S.take na).reverse.length = n := by
        have h2 := Nat.le_of_ble_eq_true hle
        simp only [List.length_reverse, List.length_take]
        omega
      have hst : S.map (mz_cv ad) = ((S.take na).reverse.map (mz_cv ad)).reverse ++ (S.drop na).map (mz_cv ad) := by
        rw [← List.map_reverse, List.reverse_reverse, ← List.map_append, List.take_append_drop]
      have hwa : mz_wf [] (S.take na).reverse (M.1, M.2) := (hw.sub (fun v hv => List.mem_of_mem_take (List.mem_reverse.mp hv))).noL
      refine va_calli (st0 := S.map (mz_cv ad)) (va_runSN (As := (S.take na).reverse.map (mz_cv ad)) (rest := (S.drop na).map (mz_cv ad)) (g := F0 m pc ls (S.map (mz_cv ad))) hF (hM D ad cA H.size M.1 (S.take na).reverse M.2 _ hwa h) cw ⟨mz_Pc_blind, fun U hU hW => ⟨rfl, by rw [hU], by rw [hU]; exact hP, va_K.moved hW.alike hK, hD.weaken (fun _ _ _ _ => trivial)⟩⟩ rfl (by rw [List.length_map]; exact hlen) hl.1 hst (lv_room (by rw [mz_cats]; exact Nat.le_of_ble_eq_true hsum)) hdg ⟨hn.2.1, hn.2.2⟩) hS (fun q _ h => hFr q h) hFr (fun r_1 u t H1 locs1 ht hvm hw1 hB hz1 hk1 hS1 => ?_)
      obtain ⟨hP1, hK1, hD1⟩ := hB
      rw [ht] at hP1
      exact hw1 ad cA H1 locs1 ls (mz_wf.push (v := .int r_1) ((hw.sub (fun v hv => List.mem_of_mem_drop hv)).mem rfl) trivial) ha hn hK hP1 (hD1.weaken (fun _ q9 _ h9 => hFr _ h9)) hS1 hl
    · exact h.elim
  · exact h.elim
theorem sd_calll {own C : String} {T : u_T} {N ci index maxL n na fr lo : Nat} {y : MethodName} {bytes : ByteArray} {ret : Option FieldType} {ws Ts : List Cond} {Cc : mz_CL} (hF : CallFix p m c cc nL s args Ts own) (hM : mz_ML l y ws fr lo cl Cc) (cw : CallW R s args own C index y bytes maxL ret ws (mz_rm fr lo) 0 0 n) (hc : cl[ci]? = some (C, T, N)) (hA : ∀ q, s.heap.size ≤ q → A q) (hna : n + 1 = na) (hdg : decode cc pc = .ok (.invokevirtual index, 3)) : mz_Sd (mz_V p l e R s m args below meth c nL n0 z0 D cl G A Qw) Qv (mz_cl na ci Cc (pc + 3)) pc := by
  intro L S M h ad cA H locs ls hw ha hn hK hP hD hS hl
  simp only [mz_cl, mz_cut] at h
  split at h
  · next hle =>
    split at h
    · next hsum =>
      generalize has : (S.take na).reverse = as at h
      simp only [mz_rcv] at h
      split at h
      · next q As =>
        simp only [mz_ob] at h
        split at h
        · next ci2 ks hq =>
          split at h
          · next hbe =>
            have hce : ci2 = ci := Nat.eq_of_beq_eq_true hbe
            subst hce
            have hlen : As.length = n := by
              have h1 := congrArg List.length has
              have h2 := Nat.le_of_ble_eq_true hle
              simp only [List.length_reverse, List.length_take, List.length_cons] at h1
              omega
            have hst := mz_split ad has
            have hFr := mz_free hD hS hA
            have hwa : mz_wf [] (.ref q :: As) (M.1, M.2) := (hw.sub (S' := .ref q :: As) (fun v hv => by rw [← has] at hv; exact List.mem_of_mem_take (List.mem_reverse.mp hv))).noL
            refine va_calll (st0 := S.map (mz_cv ad)) (va_runV (As := As.map (mz_cv ad)) (b := ad q) (rest := (S.drop na).map (mz_cv ad)) (g := F0 m pc ls (S.map (mz_cv ad))) hF (hM D ad cA H.size M.1 (.ref q :: As) M.2 _ hwa h) cw ⟨mz_Pc_blind, va_recv hK hP hc (mz_w_at (ad := ad) (cA := cA) hq), fun U hU hW => ⟨rfl, by rw [hU], by rw [hU]; exact hP, va_K.moved hW.alike hK, hD.weaken (fun _ _ _ _ => trivial)⟩⟩ rfl (by rw [List.length_map]; exact hlen) hl.1 hst (lv_room (by rw [mz_cats]; exact Nat.le_of_ble_eq_true hsum)) hdg ⟨hn.2.1, hn.2.2⟩) hS (fun q _ h => hFr q h) hFr (fun r_1 u t H1 locs1 ht hvm hw1 hB hz1 hk1 hS1 => ?_)
            obtain ⟨hP1, hK1, hD1⟩ := hB
            rw [ht] at hP1
            exact hw1 ad cA H1 locs1 ls (mz_wf.push (v := .long r_1) ((hw.sub (fun v hv => List.mem_of_mem_drop hv)).mem rfl) trivial) ha hn hK hP1 (hD1.weaken (fun _ q9 _ h9 => hFr _ h9)) hS1 hl
          · exact h.elim
        · exact h.elim
      · exact h.elim
    · exact h.elim
  · exact h.elim
theorem sd_scalll {own : String} {index maxL n na fr lo : Nat} {y : MethodName} {bytes : ByteArray} {ret : Option FieldType} {ws Ts : List Cond} {Cc : mz_CL} (hF : CallFix p m c cc nL s args Ts own) (hM : mz_ML l y ws fr lo cl Cc) (cw : CallB R s args own index y bytes maxL ret ws (mz_rm fr lo) 0 0 n ∧ (Cond.static y).before args s = true) (hA : ∀ q, s.heap.size ≤ q → A q) (hna : n = na) (hdg : decode cc pc = .ok (.invokestatic index, 3)) : mz_Sd (mz_V p l e R s m args below meth c nL n0 z0 D cl G A Qw) Qv (mz_sl na Cc (pc + 3)) pc := by
  intro L S M h ad cA H locs ls hw ha hn hK hP hD hS hl
  simp only [mz_sl, mz_cut] at h
  split at h
  · next hle =>
    split at h
    · next hsum =>
      have hFr := mz_free hD hS hA
      have hlen : (S.take na).reverse.length = n := by
        have h2 := Nat.le_of_ble_eq_true hle
        simp only [List.length_reverse, List.length_take]
        omega
      have hst : S.map (mz_cv ad) = ((S.take na).reverse.map (mz_cv ad)).reverse ++ (S.drop na).map (mz_cv ad) := by
        rw [← List.map_reverse, List.reverse_reverse, ← List.map_append, List.take_append_drop]
      have hwa : mz_wf [] (S.take na).reverse (M.1, M.2) := (hw.sub (fun v hv => List.mem_of_mem_take (List.mem_reverse.mp hv))).noL
      refine va_calll (st0 := S.map (mz_cv ad)) (va_runS (As := (S.take na).reverse.map (mz_cv ad)) (rest := (S.drop na).map (mz_cv ad)) (g := F0 m pc ls (S.map (mz_cv ad))) hF (hM D ad cA H.size M.1 (S.take na).reverse M.2 _ hwa h) cw ⟨mz_Pc_blind, fun U hU hW => ⟨rfl, by rw [hU], by rw [hU]; exact hP, va_K.moved hW.alike hK, hD.weaken (fun _ _ _ _ => trivial)⟩⟩ rfl (by rw [List.length_map]; exact hlen) hl.1 hst (lv_room (by rw [mz_cats]; exact Nat.le_of_ble_eq_true hsum)) hdg ⟨hn.2.1, hn.2.2⟩) hS (fun q _ h => hFr q h) hFr (fun r_1 u t H1 locs1 ht hvm hw1 hB hz1 hk1 hS1 => ?_)
      obtain ⟨hP1, hK1, hD1⟩ := hB
      rw [ht] at hP1
      exact hw1 ad cA H1 locs1 ls (mz_wf.push (v := .long r_1) ((hw.sub (fun v hv => List.mem_of_mem_drop hv)).mem rfl) trivial) ha hn hK hP1 (hD1.weaken (fun _ q9 _ h9 => hFr _ h9)) hS1 hl
    · exact h.elim
  · exact h.elim
theorem sd_calllN {own C host : String} {T : u_T} {N ci index maxL n na fr lo : Nat} {y : MethodName} {bytes : ByteArray} {ret : Option FieldType} {ws Ts : List Cond} {Cc : mz_CL} (hF : CallFix p m c cc nL s args Ts own) (hM : mz_ML l y ws fr lo cl Cc) (cw : va_CN R s args own index y host bytes maxL ret ws (mz_rm fr lo) 0 0 n ∧ (Cond.instanceMethod y).before args s = true ∧ (Cond.selects C y y).before args s = true) (hc : cl[ci]? = some (C, T, N)) (hA : ∀ q, s.heap.size ≤ q → A q) (hna : n + 1 = na) (hdg : decode cc pc = .ok (.invokevirtual index, 3)) : mz_Sd (mz_V p l e R s m args below meth c nL n0 z0 D cl G A Qw) Qv (mz_cl na ci Cc (pc + 3)) pc := by
  intro L S M h ad cA H locs ls hw ha hn hK hP hD hS hl
  simp only [mz_cl, mz_cut] at h
  split at h
  · next hle =>
    split at h
    · next hsum =>
      generalize has : (S.take na).reverse = as at h
      simp only [mz_rcv] at h
      split at h
      · next q As =>
        simp only [mz_ob] at h
        split at h
        · next ci2 ks hq =>
          split at h
          · next hbe =>
            have hce : ci2 = ci := Nat.eq_of_beq_eq_true hbe
            subst hce
            have hlen : As.length = n := by
              have h1 := congrArg List.length has
              have h2 := Nat.le_of_ble_eq_true hle
              simp only [List.length_reverse, List.length_take, List.length_cons] at h1
              omega
            have hst := mz_split ad has
            have hFr := mz_free hD hS hA
            have hwa : mz_wf [] (.ref q :: As) (M.1, M.2) := (hw.sub (S' := .ref q :: As) (fun v hv => by rw [← has] at hv; exact List.mem_of_mem_take (List.mem_reverse.mp hv))).noL
            refine va_calll (st0 := S.map (mz_cv ad)) (va_runVN (As := As.map (mz_cv ad)) (b := ad q) (rest := (S.drop na).map (mz_cv ad)) (g := F0 m pc ls (S.map (mz_cv ad))) hF (hM D ad cA H.size M.1 (.ref q :: As) M.2 _ hwa h) cw ⟨mz_Pc_blind, va_recv hK hP hc (mz_w_at (ad := ad) (cA := cA) hq), fun U hU hW => ⟨rfl, by rw [hU], by rw [hU]; exact hP, va_K.moved hW.alike hK, hD.weaken (fun _ _ _ _ => trivial)⟩⟩ rfl (by rw [List.length_map]; exact hlen) hl.1 hst (lv_room (by rw [mz_cats]; exact Nat.le_of_ble_eq_true hsum)) hdg ⟨hn.2.1, hn.2.2⟩) hS (fun q _ h => hFr q h) hFr (fun r_1 u t H1 locs1 ht hvm hw1 hB hz1 hk1 hS1 => ?_)
            obtain ⟨hP1, hK1, hD1⟩ := hB
            rw [ht] at hP1
            exact hw1 ad cA H1 locs1 ls (mz_wf.push (v := .long r_1) ((hw.sub (fun v hv => List.mem_of_mem_drop hv)).mem rfl) trivial) ha hn hK hP1 (hD1.weaken (fun _ q9 _ h9 => hFr _ h9)) hS1 hl
          · exact h.elim
        · exact h.elim
      · exact h.elim
    · exact h.elim
  · exact h.elim
theorem sd_scalllN {own host : String} {index maxL n na fr lo : Nat} {y : MethodName} {bytes : ByteArray} {ret : Option FieldType} {ws Ts : List Cond} {Cc : mz_CL} (hF : CallFix p m c cc nL s args Ts own) (hM : mz_ML l y ws fr lo cl Cc) (cw : va_CN R s args own index y host bytes maxL ret ws (mz_rm fr lo) 0 0 n ∧ (Cond.static y).before args s = true ∧ True) (hA : ∀ q, s.heap.size ≤ q → A q) (hna : n = na) (hdg : decode cc pc = .ok (.invokestatic index, 3)) : mz_Sd (mz_V p l e R s m args below meth c nL n0 z0 D cl G A Qw) Qv (mz_sl na Cc (pc + 3)) pc := by
  intro L S M h ad cA H locs ls hw ha hn hK hP hD hS hl
  simp only [mz_sl, mz_cut] at h
  split at h
  · next hle =>
    split at h
    · next hsum =>
      have hFr := mz_free hD hS hA
      have hlen : (S.take na).reverse.length = n := by
        have h2 := Nat.le_of_ble_eq_true hle
        simp only [List.length_reverse, List.length_take]
        omega
      have hst : S.map (mz_cv ad) = ((S.take na).reverse.map (mz_cv ad)).reverse ++ (S.drop na).map (mz_cv ad) := by
        rw [← List.map_reverse, List.reverse_reverse, ← List.map_append, List.take_append_drop]
      have hwa : mz_wf [] (S.take na).reverse (M.1, M.2) := (hw.sub (fun v hv => List.mem_of_mem_take (List.mem_reverse.mp hv))).noL
      refine va_calll (st0 := S.map (mz_cv ad)) (va_runSN (As := (S.take na).reverse.map (mz_cv ad)) (rest := (S.drop na).map (mz_cv ad)) (g := F0 m pc ls (S.map (mz_cv ad))) hF (hM D ad cA H.size M.1 (S.take na).reverse M.2 _ hwa h) cw ⟨mz_Pc_blind, fun U hU hW => ⟨rfl, by rw [hU], by rw [hU]; exact hP, va_K.moved hW.alike hK, hD.weaken (fun _ _ _ _ => trivial)⟩⟩ rfl (by rw [List.length_map]; exact hlen) hl.1 hst (lv_room (by rw [mz_cats]; exact Nat.le_of_ble_eq_true hsum)) hdg ⟨hn.2.1, hn.2.2⟩) hS (fun q _ h => hFr q h) hFr (fun r_1 u t H1 locs1 ht hvm hw1 hB hz1 hk1 hS1 => ?_)
      obtain ⟨hP1, hK1, hD1⟩ := hB
      rw [ht] at hP1
      exact hw1 ad cA H1 locs1 ls (mz_wf.push (v := .long r_1) ((hw.sub (fun v hv => List.mem_of_mem_drop hv)).mem rfl) trivial) ha hn hK hP1 (hD1.weaken (fun _ q9 _ h9 => hFr _ h9)) hS1 hl
    · exact h.elim
  · exact h.elim
theorem sd_callv {own C : String} {T : u_T} {N ci index maxL n na fr lo : Nat} {y : MethodName} {bytes : ByteArray} {ret : Option FieldType} {ws Ts : List Cond} {Cc : mz_CV} (hF : CallFix p m c cc nL s args Ts own) (hM : mz_MV l y ws fr lo cl Cc) (cw : CallW R s args own C index y bytes maxL ret ws (mz_rm fr lo) 0 0 n) (hc : cl[ci]? = some (C, T, N)) (hA : ∀ q, s.heap.size ≤ q → A q) (hna : n + 1 = na) (hdg : decode cc pc = .ok (.invokevirtual index, 3)) : mz_Sd (mz_V p l e R s m args below meth c nL n0 z0 D cl G A Qw) Qv (mz_cvo na ci Cc (pc + 3)) pc := by
  intro L S M h ad cA H locs ls hw ha hn hK hP hD hS hl
  simp only [mz_cvo, mz_cut] at h
  split at h
  · next hle =>
    split at h
    · next hsum =>
      generalize has : (S.take na).reverse = as at h
      simp only [mz_rcv] at h
      split at h
      · next q As =>
        simp only [mz_ob] at h
        split at h
        · next ci2 ks hq =>
          split at h
          · next hbe =>
            have hce : ci2 = ci := Nat.eq_of_beq_eq_true hbe
            subst hce
            have hlen : As.length = n := by
              have h1 := congrArg List.length has
              have h2 := Nat.le_of_ble_eq_true hle
              simp only [List.length_reverse, List.length_take, List.length_cons] at h1
              omega
            have hst := mz_split ad has
            have hFr := mz_free hD hS hA
            have hwa : mz_wf [] (.ref q :: As) (M.1, M.2) := (hw.sub (S' := .ref q :: As) (fun v hv => by rw [← has] at hv; exact List.mem_of_mem_take (List.mem_reverse.mp hv))).noL
            refine va_callv (st0 := S.map (mz_cv ad)) (va_runV (As := As.map (mz_cv ad)) (b := ad q) (rest := (S.drop na).map (mz_cv ad)) (g := F0 m pc ls (S.map (mz_cv ad))) hF (hM D ad cA H.size M.1 (.ref q :: As) M.2 _ hwa h) cw ⟨mz_Pc_blind, va_recv hK hP hc (mz_w_at (ad := ad) (cA := cA) hq), fun U hU hW => ⟨rfl, by rw [hU], by rw [hU]; exact hP, va_K.moved hW.alike hK, hD.weaken (fun _ _ _ _ => trivial)⟩⟩ rfl (by rw [List.length_map]; exact hlen) hl.1 hst (lv_room (by rw [mz_cats]; exact Nat.le_of_ble_eq_true hsum)) hdg ⟨hn.2.1, hn.2.2⟩) hS (fun q _ h => hFr q h) hFr (fun u t H1 locs1 ht hvm hw1 hB hz1 hk1 hS1 => ?_)
            obtain ⟨hP1, hK1, hD1⟩ := hB
            rw [ht] at hP1
            exact hw1 ad cA H1 locs1 ls ((hw.sub (fun v hv => List.mem_of_mem_drop hv)).mem rfl) ha hn hK hP1 (hD1.weaken (fun _ q9 _ h9 => hFr _ h9)) hS1 hl
          · exact h.elim
        · exact h.elim
      · exact h.elim
    · exact h.elim
  · exact h.elim
theorem sd_scallv {own : String} {index maxL n na fr lo : Nat} {y : MethodName} {bytes : ByteArray} {ret : Option FieldType} {ws Ts : List Cond} {Cc : mz_CV} (hF : CallFix p m c cc nL s args Ts own) (hM : mz_MV l y ws fr lo cl Cc) (cw : CallB R s args own index y bytes maxL ret ws (mz_rm fr lo) 0 0 n ∧ (Cond.static y).before args s = true) (hA : ∀ q, s.heap.size ≤ q → A q) (hna : n = na) (hdg : decode cc pc = .ok (.invokestatic index, 3)) : mz_Sd (mz_V p l e R s m args below meth c nL n0 z0 D cl G A Qw) Qv (mz_svo na Cc (pc + 3)) pc := by
  intro L S M h ad cA H locs ls hw ha hn hK hP hD hS hl
  simp only [mz_svo, mz_cut] at h
  split at h
  · next hle =>
    split at h
    · next hsum =>
      have hFr := mz_free hD hS hA
      have hlen : (S.take na).reverse.length = n := by
        have h2 := Nat.le_of_ble_eq_true hle
        simp only [List.length_reverse, List.length_take]
        omega
      have hst : S.map (mz_cv ad) = ((S.take na).reverse.map (mz_cv ad)).reverse ++ (S.drop na).map (mz_cv ad) := by
        rw [← List.map_reverse, List.reverse_reverse, ← List.map_append, List.take_append_drop]
      have hwa : mz_wf [] (S.take na).reverse (M.1, M.2) := (hw.sub (fun v hv => List.mem_of_mem_take (List.mem_reverse.mp hv))).noL
      refine va_callv (st0 := S.map (mz_cv ad)) (va_runS (As := (S.take na).reverse.map (mz_cv ad)) (rest := (S.drop na).map (mz_cv ad)) (g := F0 m pc ls (S.map (mz_cv ad))) hF (hM D ad cA H.size M.1 (S.take na).reverse M.2 _ hwa h) cw ⟨mz_Pc_blind, fun U hU hW => ⟨rfl, by rw [hU], by rw [hU]; exact hP, va_K.moved hW.alike hK, hD.weaken (fun _ _ _ _ => trivial)⟩⟩ rfl (by rw [List.length_map]; exact hlen) hl.1 hst (lv_room (by rw [mz_cats]; exact Nat.le_of_ble_eq_true hsum)) hdg ⟨hn.2.1, hn.2.2⟩) hS (fun q _ h => hFr q h) hFr (fun u t H1 locs1 ht hvm hw1 hB hz1 hk1 hS1 => ?_)
      obtain ⟨hP1, hK1, hD1⟩ := hB
      rw [ht] at hP1
      exact hw1 ad cA H1 locs1 ls ((hw.sub (fun v hv => List.mem_of_mem_drop hv)).mem rfl) ha hn hK hP1 (hD1.weaken (fun _ q9 _ h9 => hFr _ h9)) hS1 hl
    · exact h.elim
  · exact h.elim
theorem sd_callvN {own C host : String} {T : u_T} {N ci index maxL n na fr lo : Nat} {y : MethodName} {bytes : ByteArray} {ret : Option FieldType} {ws Ts : List Cond} {Cc : mz_CV} (hF : CallFix p m c cc nL s args Ts own) (hM : mz_MV l y ws fr lo cl Cc) (cw : va_CN R s args own index y host bytes maxL ret ws (mz_rm fr lo) 0 0 n ∧ (Cond.instanceMethod y).before args s = true ∧ (Cond.selects C y y).before args s = true) (hc : cl[ci]? = some (C, T, N)) (hA : ∀ q, s.heap.size ≤ q → A q) (hna : n + 1 = na) (hdg : decode cc pc = .ok (.invokevirtual index, 3)) : mz_Sd (mz_V p l e R s m args below meth c nL n0 z0 D cl G A Qw) Qv (mz_cvo na ci Cc (pc + 3)) pc := by
  intro L S M h ad cA H locs ls hw ha hn hK hP hD hS hl
  simp only [mz_cvo, mz_cut] at h
  split at h
  · next hle =>
    split at h
    · next hsum =>
      generalize has : (S.take na).reverse = as at h
      simp only [mz_rcv] at h
      split at h
      · next q As =>
        simp only [mz_ob] at h
        split at h
        · next ci2 ks hq =>
          split at h
          · next hbe =>
            have hce : ci2 = ci := Nat.eq_of_beq_eq_true hbe
            subst hce
            have hlen : As.length = n := by
              have h1 := congrArg List.length has
              have h2 := Nat.le_of_ble_eq_true hle
              simp only [List.length_reverse, List.length_take, List.length_cons] at h1
              omega
            have hst := mz_split ad has
            have hFr := mz_free hD hS hA
            have hwa : mz_wf [] (.ref q :: As) (M.1, M.2) := (hw.sub (S' := .ref q :: As) (fun v hv => by rw [← has] at hv; exact List.mem_of_mem_take (List.mem_reverse.mp hv))).noL
            refine va_callv (st0 := S.map (mz_cv ad)) (va_runVN (As := As.map (mz_cv ad)) (b := ad q) (rest := (S.drop na).map (mz_cv ad)) (g := F0 m pc ls (S.map (mz_cv ad))) hF (hM D ad cA H.size M.1 (.ref q :: As) M.2 _ hwa h) cw ⟨mz_Pc_blind, va_recv hK hP hc (mz_w_at (ad := ad) (cA := cA) hq), fun U hU hW => ⟨rfl, by rw [hU], by rw [hU]; exact hP, va_K.moved hW.alike hK, hD.weaken (fun _ _ _ _ => trivial)⟩⟩ rfl (by rw [List.length_map]; exact hlen) hl.1 hst (lv_room (by rw [mz_cats]; exact Nat.le_of_ble_eq_true hsum)) hdg ⟨hn.2.1, hn.2.2⟩) hS (fun q _ h => hFr q h) hFr (fun u t H1 locs1 ht hvm hw1 hB hz1 hk1 hS1 => ?_)
            obtain ⟨hP1, hK1, hD1⟩ := hB
            rw [ht] at hP1
            exact hw1 ad cA H1 locs1 ls ((hw.sub (fun v hv => List.mem_of_mem_drop hv)).mem rfl) ha hn hK hP1 (hD1.weaken (fun _ q9 _ h9 => hFr _ h9)) hS1 hl
          · exact h.elim
        · exact h.elim
      · exact h.elim
    · exact h.elim
  · exact h.elim
theorem sd_scallvN {own host : String} {index maxL n na fr lo : Nat} {y : MethodName} {bytes : ByteArray} {ret : Option FieldType} {ws Ts : List Cond} {Cc : mz_CV} (hF : CallFix p m c cc nL s args Ts own) (hM : mz_MV l y ws fr lo cl Cc) (cw : va_CN R s args own index y host bytes maxL ret ws (mz_rm fr lo) 0 0 n ∧ (Cond.static y).before args s = true ∧ True) (hA : ∀ q, s.heap.size ≤ q → A q) (hna : n = na) (hdg : decode cc pc = .ok (.invokestatic index, 3)) : mz_Sd (mz_V p l e R s m args below meth c nL n0 z0 D cl G A Qw) Qv (mz_svo na Cc (pc + 3)) pc := by
  intro L S M h ad cA H locs ls hw ha hn hK hP hD hS hl
  simp only [mz_svo, mz_cut] at h
  split at h
  · next hle =>
    split at h
    · next hsum =>
      have hFr := mz_free hD hS hA
      have hlen : (S.take na).reverse.length = n := by
        have h2 := Nat.le_of_ble_eq_true hle
        simp only [List.length_reverse, List.length_take]
        omega
      have hst : S.map (mz_cv ad) = ((S.take na).reverse.map (mz_cv ad)).reverse ++ (S.drop na).map (mz_cv ad) := by
        rw [← List.map_reverse, List.reverse_reverse, ← List.map_append, List.take_append_drop]
      have hwa : mz_wf [] (S.take na).reverse (M.1, M.2) := (hw.sub (fun v hv => List.mem_of_mem_take (List.mem_reverse.mp hv))).noL
      refine va_callv (st0 := S.map (mz_cv ad)) (va_runSN (As := (S.take na).reverse.map (mz_cv ad)) (rest := (S.drop na).map (mz_cv ad)) (g := F0 m pc ls (S.map (mz_cv ad))) hF (hM D ad cA H.size M.1 (S.take na).reverse M.2 _ hwa h) cw ⟨mz_Pc_blind, fun U hU hW => ⟨rfl, by rw [hU], by rw [hU]; exact hP, va_K.moved hW.alike hK, hD.weaken (fun _ _ _ _ => trivial)⟩⟩ rfl (by rw [List.length_map]; exact hlen) hl.1 hst (lv_room (by rw [mz_cats]; exact Nat.le_of_ble_eq_true hsum)) hdg ⟨hn.2.1, hn.2.2⟩) hS (fun q _ h => hFr q h) hFr (fun u t H1 locs1 ht hvm hw1 hB hz1 hk1 hS1 => ?_)
      obtain ⟨hP1, hK1, hD1⟩ := hB
      rw [ht] at hP1
      exact hw1 ad cA H1 locs1 ls ((hw.sub (fun v hv => List.mem_of_mem_drop hv)).mem rfl) ha hn hK hP1 (hD1.weaken (fun _ q9 _ h9 => hFr _ h9)) hS1 hl
    · exact h.elim
  · exact h.elim
/-- what a walk must end in -/
def mz_qi (lay : List mz_E) (Q : Int32 → mz_X → Prop) : mz_Q := fun v M => match v with
  | some (.int r) => M.1 = lay ∧ Q r M.2
  | _ => False
def mz_ql (lay : List mz_E) (Q : Int64 → mz_X → Prop) : mz_Q := fun v M => match v with
  | some (.long r) => M.1 = lay ∧ Q r M.2
  | _ => False
def mz_qv (lay : List mz_E) (Q : mz_X → Prop) : mz_Q := fun v M => match v with
  | none => M.1 = lay ∧ Q M.2
  | _ => False
abbrev mz_G0 (ad0 : Nat → Nat) (cA0 : Nat → ClassId) : (Nat → Nat) → (Nat → ClassId) → Prop := fun ad cA => ad = ad0 ∧ cA = cA0
theorem sd_ri {ad0 : Nat → Nat} {cA0 : Nat → ClassId} {lay : List mz_E} {Q : Int32 → mz_X → Prop} (hx : p.tables.exec = Jvm.exec) (hb : c.code = cc) (hr : meth.sig.returnType = some .int) (hlk : meth.locks = false) (hdg : decode cc pc = .ok (.ireturn, 1)) : mz_Sd (mz_V p l e R s m args below meth c nL lay.length (mz_sz lay) D cl (mz_G0 ad0 cA0) A (MQ below (va_Qi Q (mz_B D cl ad0 cA0 lay A) A) args s 0 0 A)) (mz_qi lay Q) (mz_ri) pc := by
  intro L S M h ad cA H locs ls hw ha hn hK hP hD hS hl
  obtain ⟨rfl, rfl⟩ := ha
  simp only [mz_ri] at h
  split at h
  · next x =>
    obtain ⟨hl0, hq⟩ := h
    obtain ⟨lay2, X⟩ := M
    have hl0 : lay2 = lay := hl0
    subst hl0
    have e1 : lay2.length - lay2.length = 0 := by omega
    have e2 : mz_sz lay2 - mz_sz lay2 = 0 := by omega
    show W p l e R s m args below meth c H locs (lay2.length - lay2.length) (mz_sz lay2 - mz_sz lay2) _ _
    rw [e1, e2]
    exact W.iret hx hb hr  (fun t ht hW => ⟨⟨x, X, rfl, hq, by rw [ht]; exact hP, va_K.moved hW.alike hK, hD⟩, hS.F ht⟩) hS.2.2 hdg hlk
  · exact h.elim
theorem sd_rz {ad0 : Nat → Nat} {cA0 : Nat → ClassId} {lay : List mz_E} {Q : Int32 → mz_X → Prop} (hx : p.tables.exec = Jvm.exec) (hb : c.code = cc) (hr : meth.sig.returnType = some .boolean) (hlk : meth.locks = false) (hdg : decode cc pc = .ok (.ireturn, 1)) : mz_Sd (mz_V p l e R s m args below meth c nL lay.length (mz_sz lay) D cl (mz_G0 ad0 cA0) A (MQ below (va_Qi Q (mz_B D cl ad0 cA0 lay A) A) args s 0 0 A)) (mz_qi lay Q) (mz_rz) pc := by
  intro L S M h ad cA H locs ls hw ha hn hK hP hD hS hl
  obtain ⟨rfl, rfl⟩ := ha
  simp only [mz_rz] at h
  split at h
  · next x =>
    obtain ⟨hl0, hq⟩ := h.2
    obtain ⟨lay2, X⟩ := M
    have hl0 : lay2 = lay := hl0
    subst hl0
    have e1 : lay2.length - lay2.length = 0 := by omega
    have e2 : mz_sz lay2 - mz_sz lay2 = 0 := by omega
    show W p l e R s m args below meth c H locs (lay2.length - lay2.length) (mz_sz lay2 - mz_sz lay2) _ _
    rw [e1, e2]
    exact W.zret hx hb hr (by rcases h.1 with rfl | rfl <;> rfl) (fun t ht hW => ⟨⟨x, X, rfl, hq, by rw [ht]; exact hP, va_K.moved hW.alike hK, hD⟩, hS.F ht⟩) hS.2.2 hdg hlk
  · exact h.elim
theorem sd_rl {ad0 : Nat → Nat} {cA0 : Nat → ClassId} {lay : List mz_E} {Q : Int64 → mz_X → Prop} (hx : p.tables.exec = Jvm.exec) (hb : c.code = cc) (hr : meth.sig.returnType = some .long) (hlk : meth.locks = false) (hdg : decode cc pc = .ok (.lreturn, 1)) : mz_Sd (mz_V p l e R s m args below meth c nL lay.length (mz_sz lay) D cl (mz_G0 ad0 cA0) A (MQ below (va_Ql Q (mz_B D cl ad0 cA0 lay A) A) args s 0 0 A)) (mz_ql lay Q) (mz_rl) pc := by
  intro L S M h ad cA H locs ls hw ha hn hK hP hD hS hl
  obtain ⟨rfl, rfl⟩ := ha
  simp only [mz_rl] at h
  split at h
  · next x =>
    obtain ⟨hl0, hq⟩ := h
    obtain ⟨lay2, X⟩ := M
    have hl0 : lay2 = lay := hl0
    subst hl0
    have e1 : lay2.length - lay2.length = 0 := by omega
    have e2 : mz_sz lay2 - mz_sz lay2 = 0 := by omega
    show W p l e R s m args below meth c H locs (lay2.length - lay2.length) (mz_sz lay2 - mz_sz lay2) _ _
    rw [e1, e2]
    exact W.lret hx hb hr  (fun t ht hW => ⟨⟨x, X, rfl, hq, by rw [ht]; exact hP, va_K.moved hW.alike hK, hD⟩, hS.F ht⟩) hS.2.2 hdg hlk
  · exact h.elim
theorem sd_rv {ad0 : Nat → Nat} {cA0 : Nat → ClassId} {lay : List mz_E} {Q : mz_X → Prop} (hx : p.tables.exec = Jvm.exec) (hb : c.code = cc) (hr : meth.sig.returnType = none) (hlk : meth.locks = false) (hdg : decode cc pc = .ok (.return_, 1)) : mz_Sd (mz_V p l e R s m args below meth c nL lay.length (mz_sz lay) D cl (mz_G0 ad0 cA0) A (MQ below (va_Qv Q (mz_B D cl ad0 cA0 lay A) A) args s 0 0 A)) (mz_qv lay Q) (mz_rv) pc := by
  intro L S M h ad cA H locs ls hw ha hn hK hP hD hS hl
  obtain ⟨rfl, rfl⟩ := ha
  simp only [mz_rv] at h
  split at h
  ·
    obtain ⟨hl0, hq⟩ := h
    obtain ⟨lay2, X⟩ := M
    have hl0 : lay2 = lay := hl0
    subst hl0
    have e1 : lay2.length - lay2.length = 0 := by omega
    have e2 : mz_sz lay2 - mz_sz lay2 = 0 := by omega
    show W p l e R s m args below meth c H locs (lay2.length - lay2.length) (mz_sz lay2 - mz_sz lay2) _ _
    rw [e1, e2]
    exact W.vret hx hb hr  (fun t ht hW => ⟨⟨X, rfl, hq, by rw [ht]; exact hP, va_K.moved hW.alike hK, hD⟩, hS.F ht⟩) hS.2.2 hdg hlk
  · exact h.elim
def mz_All (V : mz_K) (Q : mz_Q) (I : List (Nat × mz_Op)) : Prop := match I with
  | [] => True
  | (k, op) :: r => mz_Sd V Q op k ∧ mz_All V Q r
theorem mz_All.clo {V : mz_K} {Q : mz_Q} : ∀ {I : List (Nat × mz_Op)}, mz_All V Q I → mz_Cl I Q V
  | [], _ => fun pc L S M h => h.elim
  | (k, op) :: r, h => fun pc L S M h2 => by
    cases hbe : Nat.beq k pc with
    | true =>
      have : k = pc := Nat.eq_of_beq_eq_true hbe
      subst this
      have e1 : mz_at ((k, op) :: r) k = op := by simp only [mz_at, hbe]
      rw [e1] at h2
      exact h.1 L S M h2
    | false =>
      have e1 : mz_at ((k, op) :: r) pc = mz_at r pc := by
        rw [mz_at]
        simp only [hbe]
      rw [e1] at h2
      exact h.2.clo pc L S M h2
/-- what is known of a method at its entry -/
def mz_F (p : Program) (s : State) (m : MethodId) (args : Array Value) (meth : Method) (c : Code) (cc : ByteArray) (nL : Nat) (own : String) (ret : Option FieldType) (ws : List Cond) : Prop :=
  p.tables.exec = Jvm.exec ∧ c.code = cc ∧ c.maxLocals = nL ∧ s.vm.findClass own = some m.cls ∧ (∀ w ∈ ws, w.before args s = true) ∧ meth.sig.returnType = ret ∧ meth.locks = false
theorem mz_l0_sl (ad : Nat → Nat) : ∀ (as : List Value), (∀ v ∈ as, ∀ n, mz_vw n v ∨ True) → (∀ v ∈ as, v.category = 2 → ∃ x, v = .long x) → (lg_sl (as.map (mz_cv ad))).length = (mz_l0 as).length
  | [], _, _ => rfl
  | v :: r, h0, h => by
    have ih := mz_l0_sl ad r (fun w hw => h0 w (List.mem_cons_of_mem _ hw)) (fun w hw => h w (List.mem_cons_of_mem _ hw))
    simp only [lg_sl] at ih
    simp only [lg_sl, List.map_cons, List.flatMap_cons, List.length_append, ih]
    by_cases hc : v.category = 2
    · obtain ⟨x, rfl⟩ := h v List.mem_cons_self hc
      simp [mz_cv, mz_l0, Value.category]; omega
    · rw [mz_cv_cat, if_neg hc]
      cases v <;> simp [mz_l0, Value.category] at hc ⊢ <;> omega
theorem mz_l0_args (ad : Nat → Nat) : ∀ (as : List Value) (k i : Nat) (v : Value), (∀ v ∈ as, v.category = 2 → ∃ x, v = .long x) → (mz_l0 as)[i]? = some (some v) → (k + i, mz_cv ad v) ∈ lv_args k (as.map (mz_cv ad))
  | [], k, i, v, _, h => by simp [mz_l0] at h
  | w :: r, k, i, v, hc, h => by
    have hc' := fun w hw => hc w (List.mem_cons_of_mem _ hw)
    by_cases h2 : w.category = 2
    · obtain ⟨x, rfl⟩ := hc w List.mem_cons_self h2
      simp only [mz_l0] at h
      simp only [List.map_cons, lv_args]
      match i, h with
      | 0, h => simp at h; subst h; simp
      | 1, h => simp at h
      | i + 2, h =>
        simp only [List.getElem?_cons_succ] at h
        have := mz_l0_args ad r (k + 2) i v hc' h
        refine List.mem_cons_of_mem _ ?_
        rw [show k + (i + 2) = k + 2 + i by omega]
        simpa [mz_cv, Value.category] using this
    · have hl0 : mz_l0 (w :: r) = some w :: mz_l0 r := by cases w <;> simp [mz_l0, Value.category] at h2 ⊢
      rw [hl0] at h
      simp only [List.map_cons, lv_args, mz_cv_cat, if_neg h2]
      match i, h with
      | 0, h => simp at h; subst h; simp
      | i + 1, h =>
        simp only [List.getElem?_cons_succ] at h
        have := mz_l0_args ad r (k + 1) i v hc' h
        refine List.mem_cons_of_mem _ ?_
        rw [show k + (i + 1) = k + 1 + i by omega]
        exact this
theorem mz_l0_mem : ∀ (as : List Value) (i : Nat) (v : Value), (mz_l0 as)[i]? = some (some v) → v ∈ as
  | [], i, v, h => by simp [mz_l0] at h
  | w :: r, i, v, h => by
    by_cases h2 : ∃ x, w = .long x
    · obtain ⟨x, rfl⟩ := h2
      simp only [mz_l0] at h
      match i, h with
      | 0, h => simp at h; subst h; simp
      | 1, h => simp at h
      | i + 2, h =>
        simp only [List.getElem?_cons_succ] at h
        exact List.mem_cons_of_mem _ (mz_l0_mem r i v h)
    · have hl0 : mz_l0 (w :: r) = some w :: mz_l0 r := by
        cases w <;> first | rfl | exact absurd ⟨_, rfl⟩ h2
      rw [hl0] at h
      match i, h with
      | 0, h => simp at h; subst h; simp
      | i + 1, h =>
        simp only [List.getElem?_cons_succ] at h
        exact List.mem_cons_of_mem _ (mz_l0_mem r i v h)
theorem mz_ent_get {nL i : Nat} {as : List Value} {v : Value} (h : (mz_ent nL as)[i]? = some (some v)) : (mz_l0 as)[i]? = some (some v) := by
  unfold mz_ent at h
  by_cases hi : i < (mz_l0 as).length
  · rwa [List.getElem?_append_left hi] at h
  · rw [List.getElem?_append_right (by omega), List.getElem?_replicate] at h
    split at h <;> simp at h
theorem mz_MI_of {y : MethodName} {ws ws' : List Cond} {fr lo : Nat} {C : mz_CI} {rt : Option FieldType} (I : List (Nat × mz_Op)) (hy : plainName y.cls = true) (hws : ws = .code y cc nL rt :: ws')
    (hlen : ∀ lay as X Q, C lay as X Q → (mz_l0 as).length ≤ nL)
    (hok : ∀ lay as X Q, C lay as X Q → ∀ K : mz_K, mz_Cl I (mz_qi lay Q) K → K 0 (mz_ent nL as) [] (lay, X))
    (hsd : ∀ (p : Program) (e : Env) (s : State) (m : MethodId) (args : Array Value) (below : List Frame) (meth : Method) (c : Code) (D : va_G) (ad0 : Nat → Nat) (cA0 : Nat → ClassId) (A : Nat → Prop) (lay : List mz_E) (Q : Int32 → mz_X → Prop), mz_F p s m args meth c cc nL y.cls rt ws → (∀ q, s.heap.size ≤ q → A q) → mz_All (mz_V p l e (mz_rm fr lo) s m args below meth c nL lay.length (mz_sz lay) D cl (mz_G0 ad0 cA0) A (MQ below (va_Qi Q (mz_B D cl ad0 cA0 lay A) A) args s 0 0 A)) (mz_qi lay Q) I) : mz_MI l y ws fr lo cl C := by
  intro D ad cA sz lay as X Q hwf hC
  refine Met.ofW (cc := cc) (maxL := nL) (ret := rt) hy hws ?_
  intro p e s m args below meth c s₁ B hml hv
  obtain ⟨rfl, hsz, hP, hK, hD0⟩ := hv
  have hts := atoms_spec (ws := ws) B.pre
  have hown : s.vm.findClass y.cls = some m.cls := findClass_of_methodNamed B.named
  subst hsz
  have hD := hD0.self (sz := s.heap.size)
  have hA : ∀ q : Nat, s.heap.size ≤ q → va_A (mz_w ad cA (lay, X)) s.heap.size q := fun q h => Or.inr h
  have hal := hsd p e s m _ below meth c D ad cA (va_A (mz_w ad cA (lay, X)) s.heap.size) lay Q ⟨B.exec, B.bytes, hml, hown, hts, B.returns, B.notSynchronized⟩ hA
  have h0 := hok lay as X Q hC _ hal.clo
  have hcat : ∀ v ∈ as, v.category = 2 → ∃ x, v = .long x := fun v hv hc => by
    have := hwf.2.2.1 v hv
    cases v with
    | long x => exact ⟨x, rfl⟩
    | _ => simp [Value.category] at hc <;> exact absurd this (by simp [mz_vw])
  have hle : (lg_sl (as.map (mz_cv ad))).length ≤ nL := by
    rw [mz_l0_sl ad as (fun _ _ _ => Or.inr trivial) hcat]
    exact hlen lay as X Q hC
  have hl := lv_entry (as.map (mz_cv ad)) (n := nL) hle
  rw [lg_entry_eq]
  generalize (lg_sl (as.map (mz_cv ad)) ++ List.replicate (nL - (lg_sl (as.map (mz_cv ad))).length) Slot.unset).toArray = ls at hl ⊢
  have hwe : mz_wf (mz_ent nL as) [] (lay, X) := by
    refine ⟨hwf.1, hwf.2.1, (fun v hv => by cases hv), fun v hv => ?_⟩
    obtain ⟨i, hi⟩ := List.getElem?_of_mem hv
    exact hwf.2.2.1 v (mz_l0_mem as i v (mz_ent_get hi))
  have h9 := h0 ad cA s.heap [] ls hwe ⟨rfl, rfl⟩ ⟨Nat.le_refl _, by simp, by simp⟩ hK hP hD va_S.rf ⟨hl.1, hl.2.1, fun i v hi => by
      have h3 := mz_l0_args ad as 0 i v hcat (mz_ent_get hi)
      rw [Nat.zero_add] at h3
      exact hl.2.2 (i, _) h3⟩
  have e1 : lay.length - lay.length = 0 := by omega
  have e2 : mz_sz lay - mz_sz lay = 0 := by omega
  simp only [e1, e2] at h9
  exact h9
theorem mz_ML_of {y : MethodName} {ws ws' : List Cond} {fr lo : Nat} {C : mz_CL} {rt : Option FieldType} (I : List (Nat × mz_Op)) (hy : plainName y.cls = true) (hws : ws = .code y cc nL rt :: ws')
    (hlen : ∀ lay as X Q, C lay as X Q → (mz_l0 as).length ≤ nL)
    (hok : ∀ lay as X Q, C lay as X Q → ∀ K : mz_K, mz_Cl I (mz_ql lay Q) K → K 0 (mz_ent nL as) [] (lay, X))
    (hsd : ∀ (p : Program) (e : Env) (s : State) (m : MethodId) (args : Array Value) (below : List Frame) (meth : Method) (c : Code) (D : va_G) (ad0 : Nat → Nat) (cA0 : Nat → ClassId) (A : Nat → Prop) (lay : List mz_E) (Q : Int64 → mz_X → Prop), mz_F p s m args meth c cc nL y.cls rt ws → (∀ q, s.heap.size ≤ q → A q) → mz_All (mz_V p l e (mz_rm fr lo) s m args below meth c nL lay.length (mz_sz lay) D cl (mz_G0 ad0 cA0) A (MQ below (va_Ql Q (mz_B D cl ad0 cA0 lay A) A) args s 0 0 A)) (mz_ql lay Q) I) : mz_ML l y ws fr lo cl C := by
  intro D ad cA sz lay as X Q hwf hC
  refine Met.ofW (cc := cc) (maxL := nL) (ret := rt) hy hws ?_
  intro p e s m args below meth c s₁ B hml hv
  obtain ⟨rfl, hsz, hP, hK, hD0⟩ := hv
  have hts := atoms_spec (ws := ws) B.pre
  have hown : s.vm.findClass y.cls = some m.cls := findClass_of_methodNamed B.named
  subst hsz
  have hD := hD0.self (sz := s.heap.size)
  have hA : ∀ q : Nat, s.heap.size ≤ q → va_A (mz_w ad cA (lay, X)) s.heap.size q := fun q h => Or.inr h
  have hal := hsd p e s m _ below meth c D ad cA (va_A (mz_w ad cA (lay, X)) s.heap.size) lay Q ⟨B.exec, B.bytes, hml, hown, hts, B.returns, B.notSynchronized⟩ hA
  have h0 := hok lay as X Q hC _ hal.clo
  have hcat : ∀ v ∈ as, v.category = 2 → ∃ x, v = .long x := fun v hv hc => by
    have := hwf.2.2.1 v hv
    cases v with
    | long x => exact ⟨x, rfl⟩
    | _ => simp [Value.category] at hc <;> exact absurd this (by simp [mz_vw])
  have hle : (lg_sl (as.map (mz_cv ad))).length ≤ nL := by
    rw [mz_l0_sl ad as (fun _ _ _ => Or.inr trivial) hcat]
    exact hlen lay as X Q hC
  have hl := lv_entry (as.map (mz_cv ad)) (n := nL) hle
  rw [lg_entry_eq]
  generalize (lg_sl (as.map (mz_cv ad)) ++ List.replicate (nL - (lg_sl (as.map (mz_cv ad))).length) Slot.unset).toArray = ls at hl ⊢
  have hwe : mz_wf (mz_ent nL as) [] (lay, X) := by
    refine ⟨hwf.1, hwf.2.1, (fun v hv => by cases hv), fun v hv => ?_⟩
    obtain ⟨i, hi⟩ := List.getElem?_of_mem hv
    exact hwf.2.2.1 v (mz_l0_mem as i v (mz_ent_get hi))
  have h9 := h0 ad cA s.heap [] ls hwe ⟨rfl, rfl⟩ ⟨Nat.le_refl _, by simp, by simp⟩ hK hP hD va_S.rf ⟨hl.1, hl.2.1, fun i v hi => by
      have h3 := mz_l0_args ad as 0 i v hcat (mz_ent_get hi)
      rw [Nat.zero_add] at h3
      exact hl.2.2 (i, _) h3⟩
  have e1 : lay.length - lay.length = 0 := by omega
  have e2 : mz_sz lay - mz_sz lay = 0 := by omega
  simp only [e1, e2] at h9
  exact h9
theorem mz_MV_of {y : MethodName} {ws ws' : List Cond} {fr lo : Nat} {C : mz_CV} {rt : Option FieldType} (I : List (Nat × mz_Op)) (hy : plainName y.cls = true) (hws : ws = .code y cc nL rt :: ws')
    (hlen : ∀ lay as X Q, C lay as X Q → (mz_l0 as).length ≤ nL)
    (hok : ∀ lay as X Q, C lay as X Q → ∀ K : mz_K, mz_Cl I (mz_qv lay Q) K → K 0 (mz_ent nL as) [] (lay, X))
    (hsd : ∀ (p : Program) (e : Env) (s : State) (m : MethodId) (args : Array Value) (below : List Frame) (meth : Method) (c : Code) (D : va_G) (ad0 : Nat → Nat) (cA0 : Nat → ClassId) (A : Nat → Prop) (lay : List mz_E) (Q : mz_X → Prop), mz_F p s m args meth c cc nL y.cls rt ws → (∀ q, s.heap.size ≤ q → A q) → mz_All (mz_V p l e (mz_rm fr lo) s m args below meth c nL lay.length (mz_sz lay) D cl (mz_G0 ad0 cA0) A (MQ below (va_Qv Q (mz_B D cl ad0 cA0 lay A) A) args s 0 0 A)) (mz_qv lay Q) I) : mz_MV l y ws fr lo cl C := by
  intro D ad cA sz lay as X Q hwf hC
  refine Met.ofW (cc := cc) (maxL := nL) (ret := rt) hy hws ?_
  intro p e s m args below meth c s₁ B hml hv
  obtain ⟨rfl, hsz, hP, hK, hD0⟩ := hv
  have hts := atoms_spec (ws := ws) B.pre
  have hown : s.vm.findClass y.cls = some m.cls := findClass_of_methodNamed B.named
  subst hsz
  have hD := hD0.self (sz := s.heap.size)
  have hA : ∀ q : Nat, s.heap.size ≤ q → va_A (mz_w ad cA (lay, X)) s.heap.size q := fun q h => Or.inr h
  have hal := hsd p e s m _ below meth c D ad cA (va_A (mz_w ad cA (lay, X)) s.heap.size) lay Q ⟨B.exec, B.bytes, hml, hown, hts, B.returns, B.notSynchronized⟩ hA
  have h0 := hok lay as X Q hC _ hal.clo
  have hcat : ∀ v ∈ as, v.category = 2 → ∃ x, v = .long x := fun v hv hc => by
    have := hwf.2.2.1 v hv
    cases v with
    | long x => exact ⟨x, rfl⟩
    | _ => simp [Value.category] at hc <;> exact absurd this (by simp [mz_vw])
  have hle : (lg_sl (as.map (mz_cv ad))).length ≤ nL := by
    rw [mz_l0_sl ad as (fun _ _ _ => Or.inr trivial) hcat]
    exact hlen lay as X Q hC
  have hl := lv_entry (as.map (mz_cv ad)) (n := nL) hle
  rw [lg_entry_eq]
  generalize (lg_sl (as.map (mz_cv ad)) ++ List.replicate (nL - (lg_sl (as.map (mz_cv ad))).length) Slot.unset).toArray = ls at hl ⊢
  have hwe : mz_wf (mz_ent nL as) [] (lay, X) := by
    refine ⟨hwf.1, hwf.2.1, (fun v hv => by cases hv), fun v hv => ?_⟩
    obtain ⟨i, hi⟩ := List.getElem?_of_mem hv
    exact hwf.2.2.1 v (mz_l0_mem as i v (mz_ent_get hi))
  have h9 := h0 ad cA s.heap [] ls hwe ⟨rfl, rfl⟩ ⟨Nat.le_refl _, by simp, by simp⟩ hK hP hD va_S.rf ⟨hl.1, hl.2.1, fun i v hi => by
      have h3 := mz_l0_args ad as 0 i v hcat (mz_ent_get hi)
      rw [Nat.zero_add] at h3
      exact hl.2.2 (i, _) h3⟩
  have e1 : lay.length - lay.length = 0 := by omega
  have e2 : mz_sz lay - mz_sz lay = 0 := by omega
  simp only [e1, e2] at h9
  exact h9
end MZV
end
section
def mz_tb : List Cond := lw_tbl.filter goodWord
def T_Ch : u_T := fun k => match k with
  | _ => ("MazeForms$Chance", "state", "J", false)
def ty_Ch : Nat → FieldType := fun k => match k with
  | _ => .long
theorem nm_Ch : ∀ a, a < 1 → ∀ b, b < 1 → a ≠ b → (T_Ch a).2.1 ≠ (T_Ch b).2.1 := by decide +kernel
theorem ty_Ch_ok : ∀ k, k < 1 → parseFieldDescriptor (T_Ch k).2.2.1 = some (ty_Ch k) := by decide +kernel
theorem in_Ch : ∀ w ∈ u_ws "MazeForms$Chance" T_Ch 1, w ∈ mz_tb := by decide +kernel
def T_Dr : u_T := fun k => match k with
  | 0 => ("MazeForms$DoorRow", "chance", "LMazeForms$Chance;", true)
  | 1 => ("MazeForms$DoorRow", "row", "[I", true)
  | _ => ("MazeForms$DoorRow", "count", "I", false)
def ty_Dr : Nat → FieldType := fun k => match k with
  | 0 => .object "MazeForms$Chance"
  | 1 => .array .int
  | _ => .int
theorem nm_Dr : ∀ a, a < 3 → ∀ b, b < 3 → a ≠ b → (T_Dr a).2.1 ≠ (T_Dr b).2.1 := by decide +kernel
theorem ty_Dr_ok : ∀ k, k < 3 → parseFieldDescriptor (T_Dr k).2.2.1 = some (ty_Dr k) := by decide +kernel
theorem in_Dr : ∀ w ∈ u_ws "MazeForms$DoorRow" T_Dr 3, w ∈ mz_tb := by decide +kernel
def T_Fl : u_T := fun k => match k with
  | 0 => ("MazeForms$Flood", "grid", "LMazeForms$Grid;", true)
  | 1 => ("MazeForms$Flood", "steps", "[I", true)
  | 2 => ("MazeForms$Flood", "queue", "[I", true)
  | _ => ("MazeForms$Flood", "queued", "I", false)
def ty_Fl : Nat → FieldType := fun k => match k with
  | 0 => .object "MazeForms$Grid"
  | 1 => .array .int
  | 2 => .array .int
  | _ => .int
theorem nm_Fl : ∀ a, a < 4 → ∀ b, b < 4 → a ≠ b → (T_Fl a).2.1 ≠ (T_Fl b).2.1 := by decide +kernel
theorem ty_Fl_ok : ∀ k, k < 4 → parseFieldDescriptor (T_Fl k).2.2.1 = some (ty_Fl k) := by decide +kernel
theorem in_Fl : ∀ w ∈ u_ws "MazeForms$Flood" T_Fl 4, w ∈ mz_tb := by decide +kernel
def T_Gr : u_T := fun k => match k with
  | 0 => ("MazeForms$Grid", "width", "I", true)
  | 1 => ("MazeForms$Grid", "height", "I", true)
  | 2 => ("MazeForms$Grid", "masked", "[Z", true)
  | 3 => ("MazeForms$Grid", "doorOnSide", "[I", true)
  | 4 => ("MazeForms$Grid", "lesserCell", "[I", true)
  | 5 => ("MazeForms$Grid", "greaterCell", "[I", true)
  | 6 => ("MazeForms$Grid", "doorOpen", "[Z", true)
  | 7 => ("MazeForms$Grid", "doorCount", "I", false)
  | _ => ("MazeForms$Grid", "edition", "I", false)
def ty_Gr : Nat → FieldType := fun k => match k with
  | 0 => .int
  | 1 => .int
  | 2 => .array .boolean
  | 3 => .array .int
  | 4 => .array .int
  | 5 => .array .int
  | 6 => .array .boolean
  | 7 => .int
  | _ => .int
theorem nm_Gr : ∀ a, a < 9 → ∀ b, b < 9 → a ≠ b → (T_Gr a).2.1 ≠ (T_Gr b).2.1 := by decide +kernel
theorem ty_Gr_ok : ∀ k, k < 9 → parseFieldDescriptor (T_Gr k).2.2.1 = some (ty_Gr k) := by decide +kernel
theorem in_Gr : ∀ w ∈ u_ws "MazeForms$Grid" T_Gr 9, w ∈ mz_tb := by decide +kernel
def T_Jo : u_T := fun k => match k with
  | 0 => ("MazeForms$Joined", "grid", "LMazeForms$Grid;", true)
  | _ => ("MazeForms$Joined", "parent", "[I", true)
def ty_Jo : Nat → FieldType := fun k => match k with
  | 0 => .object "MazeForms$Grid"
  | _ => .array .int
theorem nm_Jo : ∀ a, a < 2 → ∀ b, b < 2 → a ≠ b → (T_Jo a).2.1 ≠ (T_Jo b).2.1 := by decide +kernel
theorem ty_Jo_ok : ∀ k, k < 2 → parseFieldDescriptor (T_Jo k).2.2.1 = some (ty_Jo k) := by decide +kernel
theorem in_Jo : ∀ w ∈ u_ws "MazeForms$Joined" T_Jo 2, w ∈ mz_tb := by decide +kernel
def T_Mk : u_T := fun k => match k with
  | 0 => ("MazeForms$Maker", "grid", "LMazeForms$Grid;", true)
  | 1 => ("MazeForms$Maker", "joined", "LMazeForms$Joined;", true)
  | 2 => ("MazeForms$Maker", "flood", "LMazeForms$Flood;", true)
  | 3 => ("MazeForms$Maker", "choice", "LMazeForms$DoorRow;", true)
  | 4 => ("MazeForms$Maker", "reached", "[Z", true)
  | 5 => ("MazeForms$Maker", "trace", "[I", true)
  | _ => ("MazeForms$Maker", "opened", "I", false)
def ty_Mk : Nat → FieldType := fun k => match k with
  | 0 => .object "MazeForms$Grid"
  | 1 => .object "MazeForms$Joined"
  | 2 => .object "MazeForms$Flood"
  | 3 => .object "MazeForms$DoorRow"
  | 4 => .array .boolean
  | 5 => .array .int
  | _ => .int
theorem nm_Mk : ∀ a, a < 7 → ∀ b, b < 7 → a ≠ b → (T_Mk a).2.1 ≠ (T_Mk b).2.1 := by decide +kernel
theorem ty_Mk_ok : ∀ k, k < 7 → parseFieldDescriptor (T_Mk k).2.2.1 = some (ty_Mk k) := by decide +kernel
theorem in_Mk : ∀ w ∈ u_ws "MazeForms$Maker" T_Mk 7, w ∈ mz_tb := by decide +kernel
def T_Tr : u_T := fun k => match k with
  | 0 => ("MazeForms$Trail", "grid", "LMazeForms$Grid;", true)
  | 1 => ("MazeForms$Trail", "flood", "LMazeForms$Flood;", true)
  | 2 => ("MazeForms$Trail", "cells", "[I", true)
  | 3 => ("MazeForms$Trail", "length", "I", false)
  | _ => ("MazeForms$Trail", "edition", "I", false)
def ty_Tr : Nat → FieldType := fun k => match k with
  | 0 => .object "MazeForms$Grid"
  | 1 => .object "MazeForms$Flood"
  | 2 => .array .int
  | 3 => .int
  | _ => .int
theorem nm_Tr : ∀ a, a < 5 → ∀ b, b < 5 → a ≠ b → (T_Tr a).2.1 ≠ (T_Tr b).2.1 := by decide +kernel
theorem ty_Tr_ok : ∀ k, k < 5 → parseFieldDescriptor (T_Tr k).2.2.1 = some (ty_Tr k) := by decide +kernel
theorem in_Tr : ∀ w ∈ u_ws "MazeForms$Trail" T_Tr 5, w ∈ mz_tb := by decide +kernel
def T_Tc : u_T := fun k => match k with
  | 0 => ("MazeForms$TreeCount", "grid", "LMazeForms$Grid;", true)
  | 1 => ("MazeForms$TreeCount", "band", "I", true)
  | 2 => ("MazeForms$TreeCount", "stride", "I", true)
  | 3 => ("MazeForms$TreeCount", "placeOf", "[I", true)
  | 4 => ("MazeForms$TreeCount", "entries", "[J", true)
  | 5 => ("MazeForms$TreeCount", "size", "I", false)
  | _ => ("MazeForms$TreeCount", "prime", "J", false)
def ty_Tc : Nat → FieldType := fun k => match k with
  | 0 => .object "MazeForms$Grid"
  | 1 => .int
  | 2 => .int
  | 3 => .array .int
  | 4 => .array .long
  | 5 => .int
  | _ => .long
theorem nm_Tc : ∀ a, a < 7 → ∀ b, b < 7 → a ≠ b → (T_Tc a).2.1 ≠ (T_Tc b).2.1 := by decide +kernel
theorem ty_Tc_ok : ∀ k, k < 7 → parseFieldDescriptor (T_Tc k).2.2.1 = some (ty_Tc k) := by decide +kernel
theorem in_Tc : ∀ w ∈ u_ws "MazeForms$TreeCount" T_Tc 7, w ∈ mz_tb := by decide +kernel
def T_Mf : u_T := fun k => match k with
  | 0 => ("MazeForms", "grid", "LMazeForms$Grid;", true)
  | 1 => ("MazeForms", "joined", "LMazeForms$Joined;", true)
  | 2 => ("MazeForms", "maker", "LMazeForms$Maker;", true)
  | 3 => ("MazeForms", "trail", "LMazeForms$Trail;", true)
  | _ => ("MazeForms", "treeCount", "LMazeForms$TreeCount;", true)
def ty_Mf : Nat → FieldType := fun k => match k with
  | 0 => .object "MazeForms$Grid"
  | 1 => .object "MazeForms$Joined"
  | 2 => .object "MazeForms$Maker"
  | 3 => .object "MazeForms$Trail"
  | _ => .object "MazeForms$TreeCount"
theorem nm_Mf : ∀ a, a < 5 → ∀ b, b < 5 → a ≠ b → (T_Mf a).2.1 ≠ (T_Mf b).2.1 := by decide +kernel
theorem ty_Mf_ok : ∀ k, k < 5 → parseFieldDescriptor (T_Mf k).2.2.1 = some (ty_Mf k) := by decide +kernel
theorem in_Mf : ∀ w ∈ u_ws "MazeForms" T_Mf 5, w ∈ mz_tb := by decide +kernel
def T_Mo : u_T := fun k => match k with
  | 0 => ("MazeFormsModel", "thrown", "I", false)
  | 1 => ("MazeFormsModel", "width", "I", true)
  | 2 => ("MazeFormsModel", "height", "I", true)
  | 3 => ("MazeFormsModel", "chance", "J", false)
  | 4 => ("MazeFormsModel", "masked", "[Z", true)
  | 5 => ("MazeFormsModel", "doors", "I", false)
  | 6 => ("MazeFormsModel", "first", "[I", true)
  | 7 => ("MazeFormsModel", "second", "[I", true)
  | 8 => ("MazeFormsModel", "isOpen", "[Z", true)
  | 9 => ("MazeFormsModel", "in", "[Z", true)
  | 10 => ("MazeFormsModel", "kept", "[I", true)
  | 11 => ("MazeFormsModel", "came", "[I", true)
  | 12 => ("MazeFormsModel", "colours", "[I", true)
  | 13 => ("MazeFormsModel", "many", "I", false)
  | 14 => ("MazeFormsModel", "choice", "[I", true)
  | 15 => ("MazeFormsModel", "length", "I", false)
  | 16 => ("MazeFormsModel", "path", "[I", true)
  | 17 => ("MazeFormsModel", "far", "[I", true)
  | _ => ("MazeFormsModel", "square", "[J", true)
def ty_Mo : Nat → FieldType := fun k => match k with
  | 0 => .int
  | 1 => .int
  | 2 => .int
  | 3 => .long
  | 4 => .array .boolean
  | 5 => .int
  | 6 => .array .int
  | 7 => .array .int
  | 8 => .array .boolean
  | 9 => .array .boolean
  | 10 => .array .int
  | 11 => .array .int
  | 12 => .array .int
  | 13 => .int
  | 14 => .array .int
  | 15 => .int
  | 16 => .array .int
  | 17 => .array .int
  | _ => .array .long
theorem nm_Mo : ∀ a, a < 19 → ∀ b, b < 19 → a ≠ b → (T_Mo a).2.1 ≠ (T_Mo b).2.1 := by decide +kernel
theorem ty_Mo_ok : ∀ k, k < 19 → parseFieldDescriptor (T_Mo k).2.2.1 = some (ty_Mo k) := by decide +kernel
theorem in_Mo : ∀ w ∈ u_ws "MazeFormsModel" T_Mo 19, w ∈ mz_tb := by decide +kernel
abbrev mz_cls : List vw_C := [("MazeForms$Chance", T_Ch, 1), ("MazeForms$DoorRow", T_Dr, 3), ("MazeForms$Flood", T_Fl, 4), ("MazeForms$Grid", T_Gr, 9), ("MazeForms$Joined", T_Jo, 2), ("MazeForms$Maker", T_Mk, 7), ("MazeForms$Trail", T_Tr, 5), ("MazeForms$TreeCount", T_Tc, 7), ("MazeForms", T_Mf, 5), ("MazeFormsModel", T_Mo, 19)]
theorem mz_good : ∀ w ∈ mz_tb, goodWord w = true := fun w hw => (List.mem_filter.mp hw).2
theorem mz_inC {ws : List Cond} {c : Cond} (h : ∀ w ∈ ws, w ∈ mz_tb) : ∀ w ∈ ws, w ∈ c :: mz_tb := fun w hw => List.mem_cons_of_mem _ (h w hw)
theorem mz_gW {c0 cw : Cond} {ex : List Cond} (hex : ∀ w ∈ ex, w ∈ mz_tb) (h5 : cw ∈ mz_tb) : GoodIn (c0 :: mz_tb) (ex ++ cw :: mz_tb) := by
  intro w hw
  have h : w ∈ mz_tb := by
    rcases List.mem_append.mp hw with h | h
    · exact hex w h
    · rcases List.mem_cons.mp h with rfl | h
      · exact h5
      · exact h
  exact ⟨List.mem_cons_of_mem _ h, good_of_word (mz_good w h)⟩
theorem mz_gV {c0 cw : Cond} {own C : String} {idx : Nat} {y : MethodName} (h1 : Cond.methodLink own idx y ∈ mz_tb) (h2 : Cond.instanceMethod y ∈ mz_tb) (h3 : Cond.selects C y y ∈ mz_tb) (h4 : Cond.initialized C ∈ mz_tb) (h5 : cw ∈ mz_tb) : GoodIn (c0 :: mz_tb) (wsV own idx C y (cw :: mz_tb)) := by
  refine mz_gW (fun w hw => ?_) h5
  simp only [List.mem_cons, List.not_mem_nil, or_false] at hw
  rcases hw with rfl | rfl | rfl | rfl <;> assumption
theorem mz_gS {c0 cw : Cond} {own : String} {idx : Nat} {y : MethodName} (h1 : Cond.methodLink own idx y ∈ mz_tb) (h2 : Cond.static y ∈ mz_tb) (h4 : Cond.initialized own ∈ mz_tb) (h5 : cw ∈ mz_tb) : GoodIn (c0 :: mz_tb) (wsS own idx y (cw :: mz_tb)) := by
  refine mz_gW (fun w hw => ?_) h5
  simp only [List.mem_cons, List.not_mem_nil, or_false] at hw
  rcases hw with rfl | rfl | rfl <;> assumption
theorem mz_gSo {c0 cw : Cond} {own : String} {idx : Nat} {y : MethodName} (h1 : Cond.methodLink own idx y ∈ mz_tb) (h2 : Cond.static y ∈ mz_tb) (h4 : Cond.initialized y.cls ∈ mz_tb) (h5 : cw ∈ mz_tb) : GoodIn (c0 :: mz_tb) (va_wsS own idx y (cw :: mz_tb)) := by
  refine mz_gW (fun w hw => ?_) h5
  simp only [List.mem_cons, List.not_mem_nil, or_false] at hw
  rcases hw with rfl | rfl | rfl <;> assumption
theorem mz_All.cons {V : mz_K} {Q : mz_Q} {op : mz_Op} {k : Nat} {r : List (Nat × mz_Op)} (h1 : mz_Sd V Q op k) (h2 : mz_All V Q r) : mz_All V Q ((k, op) :: r) := And.intro h1 h2
def mz_dec (b : ByteArray) (l : List (Nat × ClassFile.Instr × Nat)) : Bool := l.all (fun q => decide (decode b q.1 = .ok q.2))
theorem mz_dg {b : ByteArray} {l : List (Nat × ClassFile.Instr × Nat)} (h : mz_dec b l = true) (i pc : Nat) (ins : ClassFile.Instr) (n : Nat) (hi : l[i]? = some (pc, ins, n)) : decode b pc = .ok (ins, n) := of_decide_eq_true (p := decode b (pc, ins, n).1 = .ok (pc, ins, n).2) (List.all_eq_true.mp h (pc, ins, n) (List.mem_of_getElem? hi))
set_option maxRecDepth 20000 in
theorem wm_0 : (.selects "MazeForms$Grid" (⟨"MazeForms$Grid", "numberDoors", "()V"⟩) (⟨"MazeForms$Grid", "numberDoors", "()V"⟩) : Cond) ∈ mz_tb := List.mem_filter.mpr ⟨List.mem_of_getElem? (i := 0) rfl, rfl⟩
set_option maxRecDepth 20000 in
theorem wm_1 : (.selects "MazeForms$Grid" (⟨"MazeForms$Grid", "addDoor", "(IIII)V"⟩) (⟨"MazeForms$Grid", "addDoor", "(IIII)V"⟩) : Cond) ∈ mz_tb := List.mem_filter.mpr ⟨List.mem_of_getElem? (i := 1) rfl, rfl⟩
set_option maxRecDepth 20000 in
theorem wm_2 : (.selects "MazeForms$Maker" (⟨"MazeForms$Maker", "goDeep", "()V"⟩) (⟨"MazeForms$Maker", "goDeep", "()V"⟩) : Cond) ∈ mz_tb := List.mem_filter.mpr ⟨List.mem_of_getElem? (i := 2) rfl, rfl⟩
set_option maxRecDepth 20000 in
theorem wm_3 : (.selects "MazeForms$Maker" (⟨"MazeForms$Maker", "begin", "(I)V"⟩) (⟨"MazeForms$Maker", "begin", "(I)V"⟩) : Cond) ∈ mz_tb := List.mem_filter.mpr ⟨List.mem_of_getElem? (i := 3) rfl, rfl⟩
set_option maxRecDepth 20000 in
theorem wm_4 : (.selects "MazeForms$Maker" (⟨"MazeForms$Maker", "enter", "(I)V"⟩) (⟨"MazeForms$Maker", "enter", "(I)V"⟩) : Cond) ∈ mz_tb := List.mem_filter.mpr ⟨List.mem_of_getElem? (i := 4) rfl, rfl⟩
set_option maxRecDepth 20000 in
theorem wm_5 : (.selects "MazeForms$Maker" (⟨"MazeForms$Maker", "offerUnreached", "(I)V"⟩) (⟨"MazeForms$Maker", "offerUnreached", "(I)V"⟩) : Cond) ∈ mz_tb := List.mem_filter.mpr ⟨List.mem_of_getElem? (i := 5) rfl, rfl⟩
set_option maxRecDepth 20000 in
theorem wm_6 : (.selects "MazeForms$Maker" (⟨"MazeForms$Maker", "isReached", "(I)Z"⟩) (⟨"MazeForms$Maker", "isReached", "(I)Z"⟩) : Cond) ∈ mz_tb := List.mem_filter.mpr ⟨List.mem_of_getElem? (i := 6) rfl, rfl⟩
set_option maxRecDepth 20000 in
theorem wm_7 : (.selects "MazeForms$Maker" (⟨"MazeForms$Maker", "traceOf", "(I)I"⟩) (⟨"MazeForms$Maker", "traceOf", "(I)I"⟩) : Cond) ∈ mz_tb := List.mem_filter.mpr ⟨List.mem_of_getElem? (i := 7) rfl, rfl⟩
set_option maxRecDepth 20000 in
theorem wm_8 : (.selects "MazeForms$Maker" (⟨"MazeForms$Maker", "openDoor", "(I)V"⟩) (⟨"MazeForms$Maker", "openDoor", "(I)V"⟩) : Cond) ∈ mz_tb := List.mem_filter.mpr ⟨List.mem_of_getElem? (i := 8) rfl, rfl⟩
set_option maxRecDepth 20000 in
theorem wm_9 : (.selects "MazeForms$Maker" (⟨"MazeForms$Maker", "setTrace", "(II)V"⟩) (⟨"MazeForms$Maker", "setTrace", "(II)V"⟩) : Cond) ∈ mz_tb := List.mem_filter.mpr ⟨List.mem_of_getElem? (i := 9) rfl, rfl⟩
set_option maxRecDepth 20000 in
theorem wm_10 : (.selects "MazeForms$Maker" (⟨"MazeForms$Maker", "joinSets", "()V"⟩) (⟨"MazeForms$Maker", "joinSets", "()V"⟩) : Cond) ∈ mz_tb := List.mem_filter.mpr ⟨List.mem_of_getElem? (i := 10) rfl, rfl⟩
set_option maxRecDepth 20000 in
theorem wm_11 : (.selects "MazeForms$DoorRow" (⟨"MazeForms$DoorRow", "exchange", "(II)V"⟩) (⟨"MazeForms$DoorRow", "exchange", "(II)V"⟩) : Cond) ∈ mz_tb := List.mem_filter.mpr ⟨List.mem_of_getElem? (i := 11) rfl, rfl⟩
set_option maxRecDepth 20000 in
theorem wm_12 : (.selects "MazeForms$Joined" (⟨"MazeForms$Joined", "root", "(I)I"⟩) (⟨"MazeForms$Joined", "root", "(I)I"⟩) : Cond) ∈ mz_tb := List.mem_filter.mpr ⟨List.mem_of_getElem? (i := 12) rfl, rfl⟩
set_option maxRecDepth 20000 in
theorem wm_13 : (.selects "MazeForms$Maker" (⟨"MazeForms$Maker", "grow", "()V"⟩) (⟨"MazeForms$Maker", "grow", "()V"⟩) : Cond) ∈ mz_tb := List.mem_filter.mpr ⟨List.mem_of_getElem? (i := 13) rfl, rfl⟩
set_option maxRecDepth 20000 in
theorem wm_14 : (.selects "MazeForms$Maker" (⟨"MazeForms$Maker", "offerRim", "()V"⟩) (⟨"MazeForms$Maker", "offerRim", "()V"⟩) : Cond) ∈ mz_tb := List.mem_filter.mpr ⟨List.mem_of_getElem? (i := 14) rfl, rfl⟩
set_option maxRecDepth 20000 in
theorem wm_15 : (.selects "MazeForms$Maker" (⟨"MazeForms$Maker", "walkAll", "()V"⟩) (⟨"MazeForms$Maker", "walkAll", "()V"⟩) : Cond) ∈ mz_tb := List.mem_filter.mpr ⟨List.mem_of_getElem? (i := 15) rfl, rfl⟩
set_option maxRecDepth 20000 in
theorem wm_16 : (.selects "MazeForms$Flood" (⟨"MazeForms$Flood", "reach", "(II)V"⟩) (⟨"MazeForms$Flood", "reach", "(II)V"⟩) : Cond) ∈ mz_tb := List.mem_filter.mpr ⟨List.mem_of_getElem? (i := 16) rfl, rfl⟩
set_option maxRecDepth 20000 in
theorem wm_17 : (.selects "MazeForms$Flood" (⟨"MazeForms$Flood", "spreadOn", "(IZ)V"⟩) (⟨"MazeForms$Flood", "spreadOn", "(IZ)V"⟩) : Cond) ∈ mz_tb := List.mem_filter.mpr ⟨List.mem_of_getElem? (i := 17) rfl, rfl⟩
set_option maxRecDepth 20000 in
theorem wm_18 : (.selects "MazeForms$Maker" (⟨"MazeForms$Maker", "walkToTree", "(I)Z"⟩) (⟨"MazeForms$Maker", "walkToTree", "(I)Z"⟩) : Cond) ∈ mz_tb := List.mem_filter.mpr ⟨List.mem_of_getElem? (i := 18) rfl, rfl⟩
set_option maxRecDepth 20000 in
theorem wm_19 : (.selects "MazeForms$Maker" (⟨"MazeForms$Maker", "offerAll", "(I)V"⟩) (⟨"MazeForms$Maker", "offerAll", "(I)V"⟩) : Cond) ∈ mz_tb := List.mem_filter.mpr ⟨List.mem_of_getElem? (i := 19) rfl, rfl⟩
set_option maxRecDepth 20000 in
theorem wm_20 : (.selects "MazeForms$Maker" (⟨"MazeForms$Maker", "joinWalk", "(I)V"⟩) (⟨"MazeForms$Maker", "joinWalk", "(I)V"⟩) : Cond) ∈ mz_tb := List.mem_filter.mpr ⟨List.mem_of_getElem? (i := 20) rfl, rfl⟩
set_option maxRecDepth 20000 in
theorem wm_21 : (.selects "MazeForms$Maker" (⟨"MazeForms$Maker", "comb", "()V"⟩) (⟨"MazeForms$Maker", "comb", "()V"⟩) : Cond) ∈ mz_tb := List.mem_filter.mpr ⟨List.mem_of_getElem? (i := 21) rfl, rfl⟩
set_option maxRecDepth 20000 in
theorem wm_22 : (.selects "MazeForms$Trail" (⟨"MazeForms$Trail", "nearerCell", "(I)I"⟩) (⟨"MazeForms$Trail", "nearerCell", "(I)I"⟩) : Cond) ∈ mz_tb := List.mem_filter.mpr ⟨List.mem_of_getElem? (i := 22) rfl, rfl⟩
set_option maxRecDepth 20000 in
theorem wm_23 : (.selects "MazeForms$Trail" (⟨"MazeForms$Trail", "isFound", "()Z"⟩) (⟨"MazeForms$Trail", "isFound", "()Z"⟩) : Cond) ∈ mz_tb := List.mem_filter.mpr ⟨List.mem_of_getElem? (i := 23) rfl, rfl⟩
set_option maxRecDepth 20000 in
theorem wm_24 : (.selects "MazeForms$TreeCount" (⟨"MazeForms$TreeCount", "numberFreeCells", "()I"⟩) (⟨"MazeForms$TreeCount", "numberFreeCells", "()I"⟩) : Cond) ∈ mz_tb := List.mem_filter.mpr ⟨List.mem_of_getElem? (i := 24) rfl, rfl⟩
set_option maxRecDepth 20000 in
theorem wm_25 : (.selects "MazeForms$TreeCount" (⟨"MazeForms$TreeCount", "fillIn", "()V"⟩) (⟨"MazeForms$TreeCount", "fillIn", "()V"⟩) : Cond) ∈ mz_tb := List.mem_filter.mpr ⟨List.mem_of_getElem? (i := 25) rfl, rfl⟩
set_option maxRecDepth 20000 in
theorem wm_26 : (.selects "MazeForms$TreeCount" (⟨"MazeForms$TreeCount", "placeIn", "(I)I"⟩) (⟨"MazeForms$TreeCount", "placeIn", "(I)I"⟩) : Cond) ∈ mz_tb := List.mem_filter.mpr ⟨List.mem_of_getElem? (i := 26) rfl, rfl⟩
set_option maxRecDepth 20000 in
theorem wm_27 : (.selects "MazeForms$TreeCount" (⟨"MazeForms$TreeCount", "addTo", "(IIJ)V"⟩) (⟨"MazeForms$TreeCount", "addTo", "(IIJ)V"⟩) : Cond) ∈ mz_tb := List.mem_filter.mpr ⟨List.mem_of_getElem? (i := 27) rfl, rfl⟩
set_option maxRecDepth 20000 in
theorem wm_28 : (.selects "MazeForms$TreeCount" (⟨"MazeForms$TreeCount", "slotOf", "(II)I"⟩) (⟨"MazeForms$TreeCount", "slotOf", "(II)I"⟩) : Cond) ∈ mz_tb := List.mem_filter.mpr ⟨List.mem_of_getElem? (i := 28) rfl, rfl⟩
set_option maxRecDepth 20000 in
theorem wm_29 : (.selects "MazeForms$TreeCount" (⟨"MazeForms$TreeCount", "determinant", "()J"⟩) (⟨"MazeForms$TreeCount", "determinant", "()J"⟩) : Cond) ∈ mz_tb := List.mem_filter.mpr ⟨List.mem_of_getElem? (i := 29) rfl, rfl⟩
set_option maxRecDepth 20000 in
theorem wm_30 : (.selects "MazeForms$TreeCount" (⟨"MazeForms$TreeCount", "pivotRow", "(I)I"⟩) (⟨"MazeForms$TreeCount", "pivotRow", "(I)I"⟩) : Cond) ∈ mz_tb := List.mem_filter.mpr ⟨List.mem_of_getElem? (i := 30) rfl, rfl⟩
set_option maxRecDepth 20000 in
theorem wm_31 : (.selects "MazeForms$TreeCount" (⟨"MazeForms$TreeCount", "lastRow", "(I)I"⟩) (⟨"MazeForms$TreeCount", "lastRow", "(I)I"⟩) : Cond) ∈ mz_tb := List.mem_filter.mpr ⟨List.mem_of_getElem? (i := 31) rfl, rfl⟩
set_option maxRecDepth 20000 in
theorem wm_32 : (.selects "MazeForms$TreeCount" (⟨"MazeForms$TreeCount", "entry", "(II)J"⟩) (⟨"MazeForms$TreeCount", "entry", "(II)J"⟩) : Cond) ∈ mz_tb := List.mem_filter.mpr ⟨List.mem_of_getElem? (i := 32) rfl, rfl⟩
set_option maxRecDepth 20000 in
theorem wm_33 : (.selects "MazeForms$TreeCount" (⟨"MazeForms$TreeCount", "exchangeRows", "(II)V"⟩) (⟨"MazeForms$TreeCount", "exchangeRows", "(II)V"⟩) : Cond) ∈ mz_tb := List.mem_filter.mpr ⟨List.mem_of_getElem? (i := 33) rfl, rfl⟩
set_option maxRecDepth 20000 in
theorem wm_34 : (.selects "MazeForms$TreeCount" (⟨"MazeForms$TreeCount", "lastColumn", "(I)I"⟩) (⟨"MazeForms$TreeCount", "lastColumn", "(I)I"⟩) : Cond) ∈ mz_tb := List.mem_filter.mpr ⟨List.mem_of_getElem? (i := 34) rfl, rfl⟩
set_option maxRecDepth 20000 in
theorem wm_35 : (.selects "MazeForms$TreeCount" (⟨"MazeForms$TreeCount", "times", "(JJ)J"⟩) (⟨"MazeForms$TreeCount", "times", "(JJ)J"⟩) : Cond) ∈ mz_tb := List.mem_filter.mpr ⟨List.mem_of_getElem? (i := 35) rfl, rfl⟩
set_option maxRecDepth 20000 in
theorem wm_36 : (.selects "MazeForms$TreeCount" (⟨"MazeForms$TreeCount", "clearBelow", "(I)V"⟩) (⟨"MazeForms$TreeCount", "clearBelow", "(I)V"⟩) : Cond) ∈ mz_tb := List.mem_filter.mpr ⟨List.mem_of_getElem? (i := 36) rfl, rfl⟩
set_option maxRecDepth 20000 in
theorem wm_37 : (.selects "MazeForms$TreeCount" (⟨"MazeForms$TreeCount", "inverse", "(J)J"⟩) (⟨"MazeForms$TreeCount", "inverse", "(J)J"⟩) : Cond) ∈ mz_tb := List.mem_filter.mpr ⟨List.mem_of_getElem? (i := 37) rfl, rfl⟩
set_option maxRecDepth 20000 in
theorem wm_38 : (.selects "MazeForms$TreeCount" (⟨"MazeForms$TreeCount", "addRow", "(IIJ)V"⟩) (⟨"MazeForms$TreeCount", "addRow", "(IIJ)V"⟩) : Cond) ∈ mz_tb := List.mem_filter.mpr ⟨List.mem_of_getElem? (i := 38) rfl, rfl⟩
set_option maxRecDepth 20000 in
theorem wm_67 : (.initialized "MazeForms$Grid" : Cond) ∈ mz_tb := List.mem_filter.mpr ⟨List.mem_of_getElem? (i := 67) rfl, rfl⟩
set_option maxRecDepth 20000 in
theorem wm_68 : (.initialized "java/lang/Math" : Cond) ∈ mz_tb := List.mem_filter.mpr ⟨List.mem_of_getElem? (i := 68) rfl, rfl⟩
set_option maxRecDepth 20000 in
theorem wm_69 : (.initialized "java/util/Arrays" : Cond) ∈ mz_tb := List.mem_filter.mpr ⟨List.mem_of_getElem? (i := 69) rfl, rfl⟩
set_option maxRecDepth 20000 in
theorem wm_70 : (.initialized "MazeForms$Joined" : Cond) ∈ mz_tb := List.mem_filter.mpr ⟨List.mem_of_getElem? (i := 70) rfl, rfl⟩
set_option maxRecDepth 20000 in
theorem wm_71 : (.initialized "MazeForms$Flood" : Cond) ∈ mz_tb := List.mem_filter.mpr ⟨List.mem_of_getElem? (i := 71) rfl, rfl⟩
set_option maxRecDepth 20000 in
theorem wm_72 : (.initialized "MazeForms$Maker" : Cond) ∈ mz_tb := List.mem_filter.mpr ⟨List.mem_of_getElem? (i := 72) rfl, rfl⟩
set_option maxRecDepth 20000 in
theorem wm_73 : (.initialized "MazeForms$Chance" : Cond) ∈ mz_tb := List.mem_filter.mpr ⟨List.mem_of_getElem? (i := 73) rfl, rfl⟩
set_option maxRecDepth 20000 in
theorem wm_74 : (.initialized "MazeForms$DoorRow" : Cond) ∈ mz_tb := List.mem_filter.mpr ⟨List.mem_of_getElem? (i := 74) rfl, rfl⟩
set_option maxRecDepth 20000 in
theorem wm_75 : (.initialized "MazeForms$Trail" : Cond) ∈ mz_tb := List.mem_filter.mpr ⟨List.mem_of_getElem? (i := 75) rfl, rfl⟩
set_option maxRecDepth 20000 in
theorem wm_76 : (.initialized "MazeForms$TreeCount" : Cond) ∈ mz_tb := List.mem_filter.mpr ⟨List.mem_of_getElem? (i := 76) rfl, rfl⟩
set_option maxRecDepth 20000 in
theorem wm_95 : (.methodLink "MazeForms$Grid" 65 (⟨"java/lang/Math", "min", "(II)I"⟩) : Cond) ∈ mz_tb := List.mem_filter.mpr ⟨List.mem_of_getElem? (i := 95) rfl, rfl⟩
set_option maxRecDepth 20000 in
theorem wm_96 : (.static (⟨"java/lang/Math", "min", "(II)I"⟩) : Cond) ∈ mz_tb := List.mem_filter.mpr ⟨List.mem_of_getElem? (i := 96) rfl, rfl⟩
set_option maxRecDepth 20000 in
theorem wm_97 : (.code (⟨"java/lang/Math", "min", "(II)I"⟩) prog_12_method_69_code 2 (some .int) : Cond) ∈ mz_tb := List.mem_filter.mpr ⟨List.mem_of_getElem? (i := 97) rfl, rfl⟩
set_option maxRecDepth 20000 in
theorem wm_98 : (.methodLink "MazeForms$Grid" 70 (⟨"java/lang/Math", "max", "(II)I"⟩) : Cond) ∈ mz_tb := List.mem_filter.mpr ⟨List.mem_of_getElem? (i := 98) rfl, rfl⟩
set_option maxRecDepth 20000 in
theorem wm_99 : (.static (⟨"java/lang/Math", "max", "(II)I"⟩) : Cond) ∈ mz_tb := List.mem_filter.mpr ⟨List.mem_of_getElem? (i := 99) rfl, rfl⟩
set_option maxRecDepth 20000 in
theorem wm_100 : (.code (⟨"java/lang/Math", "max", "(II)I"⟩) prog_12_method_65_code 2 (some .int) : Cond) ∈ mz_tb := List.mem_filter.mpr ⟨List.mem_of_getElem? (i := 100) rfl, rfl⟩
set_option maxRecDepth 20000 in
theorem wm_101 : (.methodLink "MazeForms$Grid" 39 (⟨"MazeForms$Grid", "numberDoors", "()V"⟩) : Cond) ∈ mz_tb := List.mem_filter.mpr ⟨List.mem_of_getElem? (i := 101) rfl, rfl⟩
set_option maxRecDepth 20000 in
theorem wm_103 : (.instanceMethod (⟨"MazeForms$Grid", "numberDoors", "()V"⟩) : Cond) ∈ mz_tb := List.mem_filter.mpr ⟨List.mem_of_getElem? (i := 103) rfl, rfl⟩
set_option maxRecDepth 20000 in
theorem wm_104 : (.code (⟨"MazeForms$Grid", "numberDoors", "()V"⟩) prog_5_method_24_code 4 none : Cond) ∈ mz_tb := List.mem_filter.mpr ⟨List.mem_of_getElem? (i := 104) rfl, rfl⟩
set_option maxRecDepth 20000 in
theorem wm_105 : (.methodLink "MazeForms$Grid" 73 (⟨"java/util/Arrays", "fill", "([II)V"⟩) : Cond) ∈ mz_tb := List.mem_filter.mpr ⟨List.mem_of_getElem? (i := 105) rfl, rfl⟩
set_option maxRecDepth 20000 in
theorem wm_106 : (.static (⟨"java/util/Arrays", "fill", "([II)V"⟩) : Cond) ∈ mz_tb := List.mem_filter.mpr ⟨List.mem_of_getElem? (i := 106) rfl, rfl⟩
set_option maxRecDepth 20000 in
theorem wm_107 : (.code (⟨"java/util/Arrays", "fill", "([II)V"⟩) prog_13_method_103_code 4 none : Cond) ∈ mz_tb := List.mem_filter.mpr ⟨List.mem_of_getElem? (i := 107) rfl, rfl⟩
set_option maxRecDepth 20000 in
theorem wm_108 : (.methodLink "MazeForms$Grid" 79 (⟨"MazeForms$Grid", "cellAt", "(II)I"⟩) : Cond) ∈ mz_tb := List.mem_filter.mpr ⟨List.mem_of_getElem? (i := 108) rfl, rfl⟩
set_option maxRecDepth 20000 in
theorem wm_109 : (.instanceMethod (⟨"MazeForms$Grid", "cellAt", "(II)I"⟩) : Cond) ∈ mz_tb := List.mem_filter.mpr ⟨List.mem_of_getElem? (i := 109) rfl, rfl⟩
set_option maxRecDepth 20000 in
theorem wm_110 : (.selects "MazeForms$Grid" (⟨"MazeForms$Grid", "cellAt", "(II)I"⟩) (⟨"MazeForms$Grid", "cellAt", "(II)I"⟩) : Cond) ∈ mz_tb := List.mem_filter.mpr ⟨List.mem_of_getElem? (i := 110) rfl, rfl⟩
set_option maxRecDepth 20000 in
theorem wm_111 : (.code (⟨"MazeForms$Grid", "cellAt", "(II)I"⟩) prog_5_method_7_code 4 (some .int) : Cond) ∈ mz_tb := List.mem_filter.mpr ⟨List.mem_of_getElem? (i := 111) rfl, rfl⟩
set_option maxRecDepth 20000 in
theorem wm_112 : (.methodLink "MazeForms$Grid" 82 (⟨"MazeForms$Grid", "addDoor", "(IIII)V"⟩) : Cond) ∈ mz_tb := List.mem_filter.mpr ⟨List.mem_of_getElem? (i := 112) rfl, rfl⟩
set_option maxRecDepth 20000 in
theorem wm_114 : (.instanceMethod (⟨"MazeForms$Grid", "addDoor", "(IIII)V"⟩) : Cond) ∈ mz_tb := List.mem_filter.mpr ⟨List.mem_of_getElem? (i := 114) rfl, rfl⟩
set_option maxRecDepth 20000 in
theorem wm_115 : (.code (⟨"MazeForms$Grid", "addDoor", "(IIII)V"⟩) prog_5_method_25_code 5 none : Cond) ∈ mz_tb := List.mem_filter.mpr ⟨List.mem_of_getElem? (i := 115) rfl, rfl⟩
set_option maxRecDepth 20000 in
theorem wm_116 : (.methodLink "MazeForms$Grid" 86 (⟨"MazeForms$Grid", "isFree", "(I)Z"⟩) : Cond) ∈ mz_tb := List.mem_filter.mpr ⟨List.mem_of_getElem? (i := 116) rfl, rfl⟩
set_option maxRecDepth 20000 in
theorem wm_117 : (.instanceMethod (⟨"MazeForms$Grid", "isFree", "(I)Z"⟩) : Cond) ∈ mz_tb := List.mem_filter.mpr ⟨List.mem_of_getElem? (i := 117) rfl, rfl⟩
set_option maxRecDepth 20000 in
theorem wm_118 : (.selects "MazeForms$Grid" (⟨"MazeForms$Grid", "isFree", "(I)Z"⟩) (⟨"MazeForms$Grid", "isFree", "(I)Z"⟩) : Cond) ∈ mz_tb := List.mem_filter.mpr ⟨List.mem_of_getElem? (i := 118) rfl, rfl⟩
set_option maxRecDepth 20000 in
theorem wm_119 : (.code (⟨"MazeForms$Grid", "isFree", "(I)Z"⟩) prog_5_method_9_code 2 (some .boolean) : Cond) ∈ mz_tb := List.mem_filter.mpr ⟨List.mem_of_getElem? (i := 119) rfl, rfl⟩
set_option maxRecDepth 20000 in
theorem wm_120 : (.methodLink "MazeForms$Grid" 48 (⟨"MazeForms$Grid", "isCell", "(I)Z"⟩) : Cond) ∈ mz_tb := List.mem_filter.mpr ⟨List.mem_of_getElem? (i := 120) rfl, rfl⟩
set_option maxRecDepth 20000 in
theorem wm_121 : (.instanceMethod (⟨"MazeForms$Grid", "isCell", "(I)Z"⟩) : Cond) ∈ mz_tb := List.mem_filter.mpr ⟨List.mem_of_getElem? (i := 121) rfl, rfl⟩
set_option maxRecDepth 20000 in
theorem wm_122 : (.selects "MazeForms$Grid" (⟨"MazeForms$Grid", "isCell", "(I)Z"⟩) (⟨"MazeForms$Grid", "isCell", "(I)Z"⟩) : Cond) ∈ mz_tb := List.mem_filter.mpr ⟨List.mem_of_getElem? (i := 122) rfl, rfl⟩
set_option maxRecDepth 20000 in
theorem wm_123 : (.code (⟨"MazeForms$Grid", "isCell", "(I)Z"⟩) prog_5_method_8_code 2 (some .boolean) : Cond) ∈ mz_tb := List.mem_filter.mpr ⟨List.mem_of_getElem? (i := 123) rfl, rfl⟩
set_option maxRecDepth 20000 in
theorem wm_124 : (.fieldLink "MazeForms$Grid" 15 "MazeForms$Grid" "width" "I" : Cond) ∈ mz_tb := List.mem_filter.mpr ⟨List.mem_of_getElem? (i := 124) rfl, rfl⟩
set_option maxRecDepth 20000 in
theorem wm_125 : (.fieldLink "MazeForms$Grid" 19 "MazeForms$Grid" "height" "I" : Cond) ∈ mz_tb := List.mem_filter.mpr ⟨List.mem_of_getElem? (i := 125) rfl, rfl⟩
set_option maxRecDepth 20000 in
theorem wm_126 : (.fieldLink "MazeForms$Grid" 22 "MazeForms$Grid" "masked" "[Z" : Cond) ∈ mz_tb := List.mem_filter.mpr ⟨List.mem_of_getElem? (i := 126) rfl, rfl⟩
set_option maxRecDepth 20000 in
theorem wm_127 : (.fieldLink "MazeForms$Grid" 26 "MazeForms$Grid" "doorOnSide" "[I" : Cond) ∈ mz_tb := List.mem_filter.mpr ⟨List.mem_of_getElem? (i := 127) rfl, rfl⟩
set_option maxRecDepth 20000 in
theorem wm_128 : (.fieldLink "MazeForms$Grid" 30 "MazeForms$Grid" "lesserCell" "[I" : Cond) ∈ mz_tb := List.mem_filter.mpr ⟨List.mem_of_getElem? (i := 128) rfl, rfl⟩
set_option maxRecDepth 20000 in
theorem wm_129 : (.fieldLink "MazeForms$Grid" 33 "MazeForms$Grid" "greaterCell" "[I" : Cond) ∈ mz_tb := List.mem_filter.mpr ⟨List.mem_of_getElem? (i := 129) rfl, rfl⟩
set_option maxRecDepth 20000 in
theorem wm_130 : (.fieldLink "MazeForms$Grid" 36 "MazeForms$Grid" "doorOpen" "[Z" : Cond) ∈ mz_tb := List.mem_filter.mpr ⟨List.mem_of_getElem? (i := 130) rfl, rfl⟩
set_option maxRecDepth 20000 in
theorem wm_131 : (.fieldLink "MazeForms$Grid" 42 "MazeForms$Grid" "doorCount" "I" : Cond) ∈ mz_tb := List.mem_filter.mpr ⟨List.mem_of_getElem? (i := 131) rfl, rfl⟩
set_option maxRecDepth 20000 in
theorem wm_132 : (.fieldLink "MazeForms$Grid" 45 "MazeForms$Grid" "edition" "I" : Cond) ∈ mz_tb := List.mem_filter.mpr ⟨List.mem_of_getElem? (i := 132) rfl, rfl⟩
set_option maxRecDepth 20000 in
theorem wm_161 : (.instanceMethod (⟨"MazeForms$Grid", "cellCount", "()I"⟩) : Cond) ∈ mz_tb := List.mem_filter.mpr ⟨List.mem_of_getElem? (i := 161) rfl, rfl⟩
set_option maxRecDepth 20000 in
theorem wm_162 : (.selects "MazeForms$Grid" (⟨"MazeForms$Grid", "cellCount", "()I"⟩) (⟨"MazeForms$Grid", "cellCount", "()I"⟩) : Cond) ∈ mz_tb := List.mem_filter.mpr ⟨List.mem_of_getElem? (i := 162) rfl, rfl⟩
set_option maxRecDepth 20000 in
theorem wm_163 : (.code (⟨"MazeForms$Grid", "cellCount", "()I"⟩) prog_5_method_3_code 1 (some .int) : Cond) ∈ mz_tb := List.mem_filter.mpr ⟨List.mem_of_getElem? (i := 163) rfl, rfl⟩
set_option maxRecDepth 20000 in
theorem wm_164 : (.fieldLink "MazeForms$Joined" 9 "MazeForms$Joined" "grid" "LMazeForms$Grid;" : Cond) ∈ mz_tb := List.mem_filter.mpr ⟨List.mem_of_getElem? (i := 164) rfl, rfl⟩
set_option maxRecDepth 20000 in
theorem wm_165 : (.fieldLink "MazeForms$Joined" 21 "MazeForms$Joined" "parent" "[I" : Cond) ∈ mz_tb := List.mem_filter.mpr ⟨List.mem_of_getElem? (i := 165) rfl, rfl⟩
set_option maxRecDepth 20000 in
theorem wm_178 : (.fieldLink "MazeForms$Flood" 9 "MazeForms$Flood" "grid" "LMazeForms$Grid;" : Cond) ∈ mz_tb := List.mem_filter.mpr ⟨List.mem_of_getElem? (i := 178) rfl, rfl⟩
set_option maxRecDepth 20000 in
theorem wm_179 : (.fieldLink "MazeForms$Flood" 21 "MazeForms$Flood" "steps" "[I" : Cond) ∈ mz_tb := List.mem_filter.mpr ⟨List.mem_of_getElem? (i := 179) rfl, rfl⟩
set_option maxRecDepth 20000 in
theorem wm_180 : (.fieldLink "MazeForms$Flood" 25 "MazeForms$Flood" "queue" "[I" : Cond) ∈ mz_tb := List.mem_filter.mpr ⟨List.mem_of_getElem? (i := 180) rfl, rfl⟩
set_option maxRecDepth 20000 in
theorem wm_181 : (.fieldLink "MazeForms$Flood" 34 "MazeForms$Flood" "queued" "I" : Cond) ∈ mz_tb := List.mem_filter.mpr ⟨List.mem_of_getElem? (i := 181) rfl, rfl⟩
set_option maxRecDepth 20000 in
theorem wm_199 : (.fieldLink "MazeForms$Chance" 7 "MazeForms$Chance" "state" "J" : Cond) ∈ mz_tb := List.mem_filter.mpr ⟨List.mem_of_getElem? (i := 199) rfl, rfl⟩
set_option maxRecDepth 20000 in
theorem wm_218 : (.fieldLink "MazeForms$DoorRow" 9 "MazeForms$DoorRow" "chance" "LMazeForms$Chance;" : Cond) ∈ mz_tb := List.mem_filter.mpr ⟨List.mem_of_getElem? (i := 218) rfl, rfl⟩
set_option maxRecDepth 20000 in
theorem wm_219 : (.fieldLink "MazeForms$DoorRow" 21 "MazeForms$DoorRow" "row" "[I" : Cond) ∈ mz_tb := List.mem_filter.mpr ⟨List.mem_of_getElem? (i := 219) rfl, rfl⟩
set_option maxRecDepth 20000 in
theorem wm_220 : (.fieldLink "MazeForms$DoorRow" 25 "MazeForms$DoorRow" "count" "I" : Cond) ∈ mz_tb := List.mem_filter.mpr ⟨List.mem_of_getElem? (i := 220) rfl, rfl⟩
set_option maxRecDepth 20000 in
theorem wm_229 : (.fieldLink "MazeForms$Maker" 9 "MazeForms$Maker" "grid" "LMazeForms$Grid;" : Cond) ∈ mz_tb := List.mem_filter.mpr ⟨List.mem_of_getElem? (i := 229) rfl, rfl⟩
set_option maxRecDepth 20000 in
theorem wm_230 : (.fieldLink "MazeForms$Maker" 15 "MazeForms$Maker" "joined" "LMazeForms$Joined;" : Cond) ∈ mz_tb := List.mem_filter.mpr ⟨List.mem_of_getElem? (i := 230) rfl, rfl⟩
set_option maxRecDepth 20000 in
theorem wm_231 : (.fieldLink "MazeForms$Maker" 19 "MazeForms$Maker" "flood" "LMazeForms$Flood;" : Cond) ∈ mz_tb := List.mem_filter.mpr ⟨List.mem_of_getElem? (i := 231) rfl, rfl⟩
set_option maxRecDepth 20000 in
theorem wm_232 : (.fieldLink "MazeForms$Maker" 34 "MazeForms$Maker" "choice" "LMazeForms$DoorRow;" : Cond) ∈ mz_tb := List.mem_filter.mpr ⟨List.mem_of_getElem? (i := 232) rfl, rfl⟩
set_option maxRecDepth 20000 in
theorem wm_233 : (.fieldLink "MazeForms$Maker" 41 "MazeForms$Maker" "reached" "[Z" : Cond) ∈ mz_tb := List.mem_filter.mpr ⟨List.mem_of_getElem? (i := 233) rfl, rfl⟩
set_option maxRecDepth 20000 in
theorem wm_234 : (.fieldLink "MazeForms$Maker" 45 "MazeForms$Maker" "trace" "[I" : Cond) ∈ mz_tb := List.mem_filter.mpr ⟨List.mem_of_getElem? (i := 234) rfl, rfl⟩
set_option maxRecDepth 20000 in
theorem wm_235 : (.fieldLink "MazeForms$Maker" 52 "MazeForms$Maker" "opened" "I" : Cond) ∈ mz_tb := List.mem_filter.mpr ⟨List.mem_of_getElem? (i := 235) rfl, rfl⟩
set_option maxRecDepth 20000 in
theorem wm_258 : (.fieldLink "MazeForms$Trail" 9 "MazeForms$Trail" "grid" "LMazeForms$Grid;" : Cond) ∈ mz_tb := List.mem_filter.mpr ⟨List.mem_of_getElem? (i := 258) rfl, rfl⟩
set_option maxRecDepth 20000 in
theorem wm_259 : (.fieldLink "MazeForms$Trail" 15 "MazeForms$Trail" "flood" "LMazeForms$Flood;" : Cond) ∈ mz_tb := List.mem_filter.mpr ⟨List.mem_of_getElem? (i := 259) rfl, rfl⟩
set_option maxRecDepth 20000 in
theorem wm_260 : (.fieldLink "MazeForms$Trail" 25 "MazeForms$Trail" "cells" "[I" : Cond) ∈ mz_tb := List.mem_filter.mpr ⟨List.mem_of_getElem? (i := 260) rfl, rfl⟩
set_option maxRecDepth 20000 in
theorem wm_261 : (.fieldLink "MazeForms$Trail" 29 "MazeForms$Trail" "length" "I" : Cond) ∈ mz_tb := List.mem_filter.mpr ⟨List.mem_of_getElem? (i := 261) rfl, rfl⟩
set_option maxRecDepth 20000 in
theorem wm_262 : (.fieldLink "MazeForms$Trail" 53 "MazeForms$Trail" "edition" "I" : Cond) ∈ mz_tb := List.mem_filter.mpr ⟨List.mem_of_getElem? (i := 262) rfl, rfl⟩
set_option maxRecDepth 20000 in
theorem wm_285 : (.fieldLink "MazeForms$TreeCount" 9 "MazeForms$TreeCount" "grid" "LMazeForms$Grid;" : Cond) ∈ mz_tb := List.mem_filter.mpr ⟨List.mem_of_getElem? (i := 285) rfl, rfl⟩
set_option maxRecDepth 20000 in
theorem wm_286 : (.fieldLink "MazeForms$TreeCount" 21 "MazeForms$TreeCount" "band" "I" : Cond) ∈ mz_tb := List.mem_filter.mpr ⟨List.mem_of_getElem? (i := 286) rfl, rfl⟩
set_option maxRecDepth 20000 in
theorem wm_287 : (.fieldLink "MazeForms$TreeCount" 25 "MazeForms$TreeCount" "stride" "I" : Cond) ∈ mz_tb := List.mem_filter.mpr ⟨List.mem_of_getElem? (i := 287) rfl, rfl⟩
set_option maxRecDepth 20000 in
theorem wm_288 : (.fieldLink "MazeForms$TreeCount" 31 "MazeForms$TreeCount" "placeOf" "[I" : Cond) ∈ mz_tb := List.mem_filter.mpr ⟨List.mem_of_getElem? (i := 288) rfl, rfl⟩
set_option maxRecDepth 20000 in
theorem wm_289 : (.fieldLink "MazeForms$TreeCount" 35 "MazeForms$TreeCount" "entries" "[J" : Cond) ∈ mz_tb := List.mem_filter.mpr ⟨List.mem_of_getElem? (i := 289) rfl, rfl⟩
set_option maxRecDepth 20000 in
theorem wm_290 : (.fieldLink "MazeForms$TreeCount" 50 "MazeForms$TreeCount" "size" "I" : Cond) ∈ mz_tb := List.mem_filter.mpr ⟨List.mem_of_getElem? (i := 290) rfl, rfl⟩
set_option maxRecDepth 20000 in
theorem wm_291 : (.fieldLink "MazeForms$TreeCount" 43 "MazeForms$TreeCount" "prime" "J" : Cond) ∈ mz_tb := List.mem_filter.mpr ⟨List.mem_of_getElem? (i := 291) rfl, rfl⟩
set_option maxRecDepth 20000 in
theorem wm_308 : (.fieldLink "MazeForms" 12 "MazeForms" "grid" "LMazeForms$Grid;" : Cond) ∈ mz_tb := List.mem_filter.mpr ⟨List.mem_of_getElem? (i := 308) rfl, rfl⟩
set_option maxRecDepth 20000 in
theorem wm_309 : (.fieldLink "MazeForms" 23 "MazeForms" "joined" "LMazeForms$Joined;" : Cond) ∈ mz_tb := List.mem_filter.mpr ⟨List.mem_of_getElem? (i := 309) rfl, rfl⟩
set_option maxRecDepth 20000 in
theorem wm_310 : (.fieldLink "MazeForms" 40 "MazeForms" "maker" "LMazeForms$Maker;" : Cond) ∈ mz_tb := List.mem_filter.mpr ⟨List.mem_of_getElem? (i := 310) rfl, rfl⟩
set_option maxRecDepth 20000 in
theorem wm_311 : (.fieldLink "MazeForms" 49 "MazeForms" "trail" "LMazeForms$Trail;" : Cond) ∈ mz_tb := List.mem_filter.mpr ⟨List.mem_of_getElem? (i := 311) rfl, rfl⟩
set_option maxRecDepth 20000 in
theorem wm_328 : (.methodLink "MazeForms" 60 (⟨"MazeForms$Grid", "cellAt", "(II)I"⟩) : Cond) ∈ mz_tb := List.mem_filter.mpr ⟨List.mem_of_getElem? (i := 328) rfl, rfl⟩
set_option maxRecDepth 20000 in
theorem wm_329 : (.methodLink "MazeForms" 64 (⟨"MazeForms$Grid", "setMask", "(IZ)Z"⟩) : Cond) ∈ mz_tb := List.mem_filter.mpr ⟨List.mem_of_getElem? (i := 329) rfl, rfl⟩
set_option maxRecDepth 20000 in
theorem wm_330 : (.instanceMethod (⟨"MazeForms$Grid", "setMask", "(IZ)Z"⟩) : Cond) ∈ mz_tb := List.mem_filter.mpr ⟨List.mem_of_getElem? (i := 330) rfl, rfl⟩
set_option maxRecDepth 20000 in
theorem wm_331 : (.selects "MazeForms$Grid" (⟨"MazeForms$Grid", "setMask", "(IZ)Z"⟩) (⟨"MazeForms$Grid", "setMask", "(IZ)Z"⟩) : Cond) ∈ mz_tb := List.mem_filter.mpr ⟨List.mem_of_getElem? (i := 331) rfl, rfl⟩
set_option maxRecDepth 20000 in
theorem wm_332 : (.code (⟨"MazeForms$Grid", "setMask", "(IZ)Z"⟩) prog_5_method_21_code 3 (some .boolean) : Cond) ∈ mz_tb := List.mem_filter.mpr ⟨List.mem_of_getElem? (i := 332) rfl, rfl⟩
set_option maxRecDepth 20000 in
theorem wm_333 : (.methodLink "MazeForms$Grid" 62 (⟨"MazeForms$Grid", "closeDoors", "()V"⟩) : Cond) ∈ mz_tb := List.mem_filter.mpr ⟨List.mem_of_getElem? (i := 333) rfl, rfl⟩
set_option maxRecDepth 20000 in
theorem wm_334 : (.instanceMethod (⟨"MazeForms$Grid", "closeDoors", "()V"⟩) : Cond) ∈ mz_tb := List.mem_filter.mpr ⟨List.mem_of_getElem? (i := 334) rfl, rfl⟩
set_option maxRecDepth 20000 in
theorem wm_335 : (.selects "MazeForms$Grid" (⟨"MazeForms$Grid", "closeDoors", "()V"⟩) (⟨"MazeForms$Grid", "closeDoors", "()V"⟩) : Cond) ∈ mz_tb := List.mem_filter.mpr ⟨List.mem_of_getElem? (i := 335) rfl, rfl⟩
set_option maxRecDepth 20000 in
theorem wm_336 : (.code (⟨"MazeForms$Grid", "closeDoors", "()V"⟩) prog_5_method_22_code 2 none : Cond) ∈ mz_tb := List.mem_filter.mpr ⟨List.mem_of_getElem? (i := 336) rfl, rfl⟩
set_option maxRecDepth 20000 in
theorem wm_341 : (.methodLink "MazeForms" 68 (⟨"MazeForms$Maker", "build", "(I)I"⟩) : Cond) ∈ mz_tb := List.mem_filter.mpr ⟨List.mem_of_getElem? (i := 341) rfl, rfl⟩
set_option maxRecDepth 20000 in
theorem wm_342 : (.instanceMethod (⟨"MazeForms$Maker", "build", "(I)I"⟩) : Cond) ∈ mz_tb := List.mem_filter.mpr ⟨List.mem_of_getElem? (i := 342) rfl, rfl⟩
set_option maxRecDepth 20000 in
theorem wm_343 : (.selects "MazeForms$Maker" (⟨"MazeForms$Maker", "build", "(I)I"⟩) (⟨"MazeForms$Maker", "build", "(I)I"⟩) : Cond) ∈ mz_tb := List.mem_filter.mpr ⟨List.mem_of_getElem? (i := 343) rfl, rfl⟩
set_option maxRecDepth 20000 in
theorem wm_344 : (.code (⟨"MazeForms$Maker", "build", "(I)I"⟩) prog_7_method_2_code 2 (some .int) : Cond) ∈ mz_tb := List.mem_filter.mpr ⟨List.mem_of_getElem? (i := 344) rfl, rfl⟩
set_option maxRecDepth 20000 in
theorem wm_345 : (.methodLink "MazeForms$Maker" 49 (⟨"MazeForms$Grid", "closeDoors", "()V"⟩) : Cond) ∈ mz_tb := List.mem_filter.mpr ⟨List.mem_of_getElem? (i := 345) rfl, rfl⟩
set_option maxRecDepth 20000 in
theorem wm_346 : (.methodLink "MazeForms$Maker" 56 (⟨"MazeForms$Maker", "goDeep", "()V"⟩) : Cond) ∈ mz_tb := List.mem_filter.mpr ⟨List.mem_of_getElem? (i := 346) rfl, rfl⟩
set_option maxRecDepth 20000 in
theorem wm_348 : (.instanceMethod (⟨"MazeForms$Maker", "goDeep", "()V"⟩) : Cond) ∈ mz_tb := List.mem_filter.mpr ⟨List.mem_of_getElem? (i := 348) rfl, rfl⟩
set_option maxRecDepth 20000 in
theorem wm_349 : (.code (⟨"MazeForms$Maker", "goDeep", "()V"⟩) prog_7_method_10_code 5 none : Cond) ∈ mz_tb := List.mem_filter.mpr ⟨List.mem_of_getElem? (i := 349) rfl, rfl⟩
set_option maxRecDepth 20000 in
theorem wm_350 : (.methodLink "MazeForms$Maker" 104 (⟨"MazeForms$Grid", "firstCell", "()I"⟩) : Cond) ∈ mz_tb := List.mem_filter.mpr ⟨List.mem_of_getElem? (i := 350) rfl, rfl⟩
set_option maxRecDepth 20000 in
theorem wm_351 : (.instanceMethod (⟨"MazeForms$Grid", "firstCell", "()I"⟩) : Cond) ∈ mz_tb := List.mem_filter.mpr ⟨List.mem_of_getElem? (i := 351) rfl, rfl⟩
set_option maxRecDepth 20000 in
theorem wm_352 : (.selects "MazeForms$Grid" (⟨"MazeForms$Grid", "firstCell", "()I"⟩) (⟨"MazeForms$Grid", "firstCell", "()I"⟩) : Cond) ∈ mz_tb := List.mem_filter.mpr ⟨List.mem_of_getElem? (i := 352) rfl, rfl⟩
set_option maxRecDepth 20000 in
theorem wm_353 : (.code (⟨"MazeForms$Grid", "firstCell", "()I"⟩) prog_5_method_13_code 2 (some .int) : Cond) ∈ mz_tb := List.mem_filter.mpr ⟨List.mem_of_getElem? (i := 353) rfl, rfl⟩
set_option maxRecDepth 20000 in
theorem wm_354 : (.methodLink "MazeForms$Maker" 107 (⟨"MazeForms$Maker", "begin", "(I)V"⟩) : Cond) ∈ mz_tb := List.mem_filter.mpr ⟨List.mem_of_getElem? (i := 354) rfl, rfl⟩
set_option maxRecDepth 20000 in
theorem wm_356 : (.instanceMethod (⟨"MazeForms$Maker", "begin", "(I)V"⟩) : Cond) ∈ mz_tb := List.mem_filter.mpr ⟨List.mem_of_getElem? (i := 356) rfl, rfl⟩
set_option maxRecDepth 20000 in
theorem wm_357 : (.code (⟨"MazeForms$Maker", "begin", "(I)V"⟩) prog_7_method_5_code 3 none : Cond) ∈ mz_tb := List.mem_filter.mpr ⟨List.mem_of_getElem? (i := 357) rfl, rfl⟩
set_option maxRecDepth 20000 in
theorem wm_358 : (.methodLink "MazeForms$Maker" 98 (⟨"MazeForms$Maker", "enter", "(I)V"⟩) : Cond) ∈ mz_tb := List.mem_filter.mpr ⟨List.mem_of_getElem? (i := 358) rfl, rfl⟩
set_option maxRecDepth 20000 in
theorem wm_360 : (.instanceMethod (⟨"MazeForms$Maker", "enter", "(I)V"⟩) : Cond) ∈ mz_tb := List.mem_filter.mpr ⟨List.mem_of_getElem? (i := 360) rfl, rfl⟩
set_option maxRecDepth 20000 in
theorem wm_361 : (.code (⟨"MazeForms$Maker", "enter", "(I)V"⟩) prog_7_method_6_code 2 none : Cond) ∈ mz_tb := List.mem_filter.mpr ⟨List.mem_of_getElem? (i := 361) rfl, rfl⟩
set_option maxRecDepth 20000 in
theorem wm_362 : (.methodLink "MazeForms$Maker" 101 (⟨"MazeForms$Grid", "isCell", "(I)Z"⟩) : Cond) ∈ mz_tb := List.mem_filter.mpr ⟨List.mem_of_getElem? (i := 362) rfl, rfl⟩
set_option maxRecDepth 20000 in
theorem wm_363 : (.methodLink "MazeForms$Maker" 110 (⟨"MazeForms$Maker", "offerUnreached", "(I)V"⟩) : Cond) ∈ mz_tb := List.mem_filter.mpr ⟨List.mem_of_getElem? (i := 363) rfl, rfl⟩
set_option maxRecDepth 20000 in
theorem wm_365 : (.instanceMethod (⟨"MazeForms$Maker", "offerUnreached", "(I)V"⟩) : Cond) ∈ mz_tb := List.mem_filter.mpr ⟨List.mem_of_getElem? (i := 365) rfl, rfl⟩
set_option maxRecDepth 20000 in
theorem wm_366 : (.code (⟨"MazeForms$Maker", "offerUnreached", "(I)V"⟩) prog_7_method_11_code 4 none : Cond) ∈ mz_tb := List.mem_filter.mpr ⟨List.mem_of_getElem? (i := 366) rfl, rfl⟩
set_option maxRecDepth 20000 in
theorem wm_367 : (.methodLink "MazeForms$Maker" 71 (⟨"MazeForms$DoorRow", "clear", "()V"⟩) : Cond) ∈ mz_tb := List.mem_filter.mpr ⟨List.mem_of_getElem? (i := 367) rfl, rfl⟩
set_option maxRecDepth 20000 in
theorem wm_368 : (.instanceMethod (⟨"MazeForms$DoorRow", "clear", "()V"⟩) : Cond) ∈ mz_tb := List.mem_filter.mpr ⟨List.mem_of_getElem? (i := 368) rfl, rfl⟩
set_option maxRecDepth 20000 in
theorem wm_369 : (.selects "MazeForms$DoorRow" (⟨"MazeForms$DoorRow", "clear", "()V"⟩) (⟨"MazeForms$DoorRow", "clear", "()V"⟩) : Cond) ∈ mz_tb := List.mem_filter.mpr ⟨List.mem_of_getElem? (i := 369) rfl, rfl⟩
set_option maxRecDepth 20000 in
theorem wm_370 : (.code (⟨"MazeForms$DoorRow", "clear", "()V"⟩) prog_3_method_4_code 1 none : Cond) ∈ mz_tb := List.mem_filter.mpr ⟨List.mem_of_getElem? (i := 370) rfl, rfl⟩
set_option maxRecDepth 20000 in
theorem wm_371 : (.methodLink "MazeForms$Maker" 125 (⟨"MazeForms$Grid", "doorOn", "(II)I"⟩) : Cond) ∈ mz_tb := List.mem_filter.mpr ⟨List.mem_of_getElem? (i := 371) rfl, rfl⟩
set_option maxRecDepth 20000 in
theorem wm_372 : (.instanceMethod (⟨"MazeForms$Grid", "doorOn", "(II)I"⟩) : Cond) ∈ mz_tb := List.mem_filter.mpr ⟨List.mem_of_getElem? (i := 372) rfl, rfl⟩
set_option maxRecDepth 20000 in
theorem wm_373 : (.selects "MazeForms$Grid" (⟨"MazeForms$Grid", "doorOn", "(II)I"⟩) (⟨"MazeForms$Grid", "doorOn", "(II)I"⟩) : Cond) ∈ mz_tb := List.mem_filter.mpr ⟨List.mem_of_getElem? (i := 373) rfl, rfl⟩
set_option maxRecDepth 20000 in
theorem wm_374 : (.code (⟨"MazeForms$Grid", "doorOn", "(II)I"⟩) prog_5_method_15_code 4 (some .int) : Cond) ∈ mz_tb := List.mem_filter.mpr ⟨List.mem_of_getElem? (i := 374) rfl, rfl⟩
set_option maxRecDepth 20000 in
theorem wm_375 : (.methodLink "MazeForms$Maker" 117 (⟨"MazeForms$Grid", "otherCell", "(II)I"⟩) : Cond) ∈ mz_tb := List.mem_filter.mpr ⟨List.mem_of_getElem? (i := 375) rfl, rfl⟩
set_option maxRecDepth 20000 in
theorem wm_376 : (.instanceMethod (⟨"MazeForms$Grid", "otherCell", "(II)I"⟩) : Cond) ∈ mz_tb := List.mem_filter.mpr ⟨List.mem_of_getElem? (i := 376) rfl, rfl⟩
set_option maxRecDepth 20000 in
theorem wm_377 : (.selects "MazeForms$Grid" (⟨"MazeForms$Grid", "otherCell", "(II)I"⟩) (⟨"MazeForms$Grid", "otherCell", "(II)I"⟩) : Cond) ∈ mz_tb := List.mem_filter.mpr ⟨List.mem_of_getElem? (i := 377) rfl, rfl⟩
set_option maxRecDepth 20000 in
theorem wm_378 : (.code (⟨"MazeForms$Grid", "otherCell", "(II)I"⟩) prog_5_method_19_code 3 (some .int) : Cond) ∈ mz_tb := List.mem_filter.mpr ⟨List.mem_of_getElem? (i := 378) rfl, rfl⟩
set_option maxRecDepth 20000 in
theorem wm_379 : (.methodLink "MazeForms$Grid" 52 (⟨"MazeForms$Grid", "isDoor", "(I)Z"⟩) : Cond) ∈ mz_tb := List.mem_filter.mpr ⟨List.mem_of_getElem? (i := 379) rfl, rfl⟩
set_option maxRecDepth 20000 in
theorem wm_380 : (.instanceMethod (⟨"MazeForms$Grid", "isDoor", "(I)Z"⟩) : Cond) ∈ mz_tb := List.mem_filter.mpr ⟨List.mem_of_getElem? (i := 380) rfl, rfl⟩
set_option maxRecDepth 20000 in
theorem wm_381 : (.selects "MazeForms$Grid" (⟨"MazeForms$Grid", "isDoor", "(I)Z"⟩) (⟨"MazeForms$Grid", "isDoor", "(I)Z"⟩) : Cond) ∈ mz_tb := List.mem_filter.mpr ⟨List.mem_of_getElem? (i := 381) rfl, rfl⟩
set_option maxRecDepth 20000 in
theorem wm_382 : (.code (⟨"MazeForms$Grid", "isDoor", "(I)Z"⟩) prog_5_method_10_code 2 (some .boolean) : Cond) ∈ mz_tb := List.mem_filter.mpr ⟨List.mem_of_getElem? (i := 382) rfl, rfl⟩
set_option maxRecDepth 20000 in
theorem wm_383 : (.methodLink "MazeForms$Maker" 128 (⟨"MazeForms$Maker", "isReached", "(I)Z"⟩) : Cond) ∈ mz_tb := List.mem_filter.mpr ⟨List.mem_of_getElem? (i := 383) rfl, rfl⟩
set_option maxRecDepth 20000 in
theorem wm_385 : (.instanceMethod (⟨"MazeForms$Maker", "isReached", "(I)Z"⟩) : Cond) ∈ mz_tb := List.mem_filter.mpr ⟨List.mem_of_getElem? (i := 385) rfl, rfl⟩
set_option maxRecDepth 20000 in
theorem wm_386 : (.code (⟨"MazeForms$Maker", "isReached", "(I)Z"⟩) prog_7_method_7_code 2 (some .boolean) : Cond) ∈ mz_tb := List.mem_filter.mpr ⟨List.mem_of_getElem? (i := 386) rfl, rfl⟩
set_option maxRecDepth 20000 in
theorem wm_387 : (.methodLink "MazeForms$Maker" 81 (⟨"MazeForms$DoorRow", "add", "(I)V"⟩) : Cond) ∈ mz_tb := List.mem_filter.mpr ⟨List.mem_of_getElem? (i := 387) rfl, rfl⟩
set_option maxRecDepth 20000 in
theorem wm_388 : (.instanceMethod (⟨"MazeForms$DoorRow", "add", "(I)V"⟩) : Cond) ∈ mz_tb := List.mem_filter.mpr ⟨List.mem_of_getElem? (i := 388) rfl, rfl⟩
set_option maxRecDepth 20000 in
theorem wm_389 : (.selects "MazeForms$DoorRow" (⟨"MazeForms$DoorRow", "add", "(I)V"⟩) (⟨"MazeForms$DoorRow", "add", "(I)V"⟩) : Cond) ∈ mz_tb := List.mem_filter.mpr ⟨List.mem_of_getElem? (i := 389) rfl, rfl⟩
set_option maxRecDepth 20000 in
theorem wm_390 : (.code (⟨"MazeForms$DoorRow", "add", "(I)V"⟩) prog_3_method_5_code 2 none : Cond) ∈ mz_tb := List.mem_filter.mpr ⟨List.mem_of_getElem? (i := 390) rfl, rfl⟩
set_option maxRecDepth 20000 in
theorem wm_391 : (.methodLink "MazeForms$Maker" 88 (⟨"MazeForms$DoorRow", "draw", "()I"⟩) : Cond) ∈ mz_tb := List.mem_filter.mpr ⟨List.mem_of_getElem? (i := 391) rfl, rfl⟩
set_option maxRecDepth 20000 in
theorem wm_392 : (.instanceMethod (⟨"MazeForms$DoorRow", "draw", "()I"⟩) : Cond) ∈ mz_tb := List.mem_filter.mpr ⟨List.mem_of_getElem? (i := 392) rfl, rfl⟩
set_option maxRecDepth 20000 in
theorem wm_393 : (.selects "MazeForms$DoorRow" (⟨"MazeForms$DoorRow", "draw", "()I"⟩) (⟨"MazeForms$DoorRow", "draw", "()I"⟩) : Cond) ∈ mz_tb := List.mem_filter.mpr ⟨List.mem_of_getElem? (i := 393) rfl, rfl⟩
set_option maxRecDepth 20000 in
theorem wm_394 : (.code (⟨"MazeForms$DoorRow", "draw", "()I"⟩) prog_3_method_6_code 1 (some .int) : Cond) ∈ mz_tb := List.mem_filter.mpr ⟨List.mem_of_getElem? (i := 394) rfl, rfl⟩
set_option maxRecDepth 20000 in
theorem wm_395 : (.methodLink "MazeForms$DoorRow" 29 (⟨"MazeForms$Chance", "below", "(I)I"⟩) : Cond) ∈ mz_tb := List.mem_filter.mpr ⟨List.mem_of_getElem? (i := 395) rfl, rfl⟩
set_option maxRecDepth 20000 in
theorem wm_396 : (.instanceMethod (⟨"MazeForms$Chance", "below", "(I)I"⟩) : Cond) ∈ mz_tb := List.mem_filter.mpr ⟨List.mem_of_getElem? (i := 396) rfl, rfl⟩
set_option maxRecDepth 20000 in
theorem wm_397 : (.selects "MazeForms$Chance" (⟨"MazeForms$Chance", "below", "(I)I"⟩) (⟨"MazeForms$Chance", "below", "(I)I"⟩) : Cond) ∈ mz_tb := List.mem_filter.mpr ⟨List.mem_of_getElem? (i := 397) rfl, rfl⟩
set_option maxRecDepth 20000 in
theorem wm_398 : (.code (⟨"MazeForms$Chance", "below", "(I)I"⟩) prog_2_method_2_code 2 (some .int) : Cond) ∈ mz_tb := List.mem_filter.mpr ⟨List.mem_of_getElem? (i := 398) rfl, rfl⟩
set_option maxRecDepth 20000 in
theorem wm_399 : (.constantLong "MazeForms$Chance" 13 (6364136223846793005) : Cond) ∈ mz_tb := List.mem_filter.mpr ⟨List.mem_of_getElem? (i := 399) rfl, rfl⟩
set_option maxRecDepth 20000 in
theorem wm_400 : (.constantLong "MazeForms$Chance" 15 (1442695040888963407) : Cond) ∈ mz_tb := List.mem_filter.mpr ⟨List.mem_of_getElem? (i := 400) rfl, rfl⟩
set_option maxRecDepth 20000 in
theorem wm_401 : (.methodLink "MazeForms$DoorRow" 35 (⟨"MazeForms$DoorRow", "doorAt", "(I)I"⟩) : Cond) ∈ mz_tb := List.mem_filter.mpr ⟨List.mem_of_getElem? (i := 401) rfl, rfl⟩
set_option maxRecDepth 20000 in
theorem wm_402 : (.instanceMethod (⟨"MazeForms$DoorRow", "doorAt", "(I)I"⟩) : Cond) ∈ mz_tb := List.mem_filter.mpr ⟨List.mem_of_getElem? (i := 402) rfl, rfl⟩
set_option maxRecDepth 20000 in
theorem wm_403 : (.selects "MazeForms$DoorRow" (⟨"MazeForms$DoorRow", "doorAt", "(I)I"⟩) (⟨"MazeForms$DoorRow", "doorAt", "(I)I"⟩) : Cond) ∈ mz_tb := List.mem_filter.mpr ⟨List.mem_of_getElem? (i := 403) rfl, rfl⟩
set_option maxRecDepth 20000 in
theorem wm_404 : (.code (⟨"MazeForms$DoorRow", "doorAt", "(I)I"⟩) prog_3_method_3_code 2 (some .int) : Cond) ∈ mz_tb := List.mem_filter.mpr ⟨List.mem_of_getElem? (i := 404) rfl, rfl⟩
set_option maxRecDepth 20000 in
theorem wm_405 : (.methodLink "MazeForms$Maker" 113 (⟨"MazeForms$Maker", "traceOf", "(I)I"⟩) : Cond) ∈ mz_tb := List.mem_filter.mpr ⟨List.mem_of_getElem? (i := 405) rfl, rfl⟩
set_option maxRecDepth 20000 in
theorem wm_407 : (.instanceMethod (⟨"MazeForms$Maker", "traceOf", "(I)I"⟩) : Cond) ∈ mz_tb := List.mem_filter.mpr ⟨List.mem_of_getElem? (i := 407) rfl, rfl⟩
set_option maxRecDepth 20000 in
theorem wm_408 : (.code (⟨"MazeForms$Maker", "traceOf", "(I)I"⟩) prog_7_method_8_code 2 (some .int) : Cond) ∈ mz_tb := List.mem_filter.mpr ⟨List.mem_of_getElem? (i := 408) rfl, rfl⟩
set_option maxRecDepth 20000 in
theorem wm_409 : (.methodLink "MazeForms$Maker" 91 (⟨"MazeForms$Maker", "openDoor", "(I)V"⟩) : Cond) ∈ mz_tb := List.mem_filter.mpr ⟨List.mem_of_getElem? (i := 409) rfl, rfl⟩
set_option maxRecDepth 20000 in
theorem wm_411 : (.instanceMethod (⟨"MazeForms$Maker", "openDoor", "(I)V"⟩) : Cond) ∈ mz_tb := List.mem_filter.mpr ⟨List.mem_of_getElem? (i := 411) rfl, rfl⟩
set_option maxRecDepth 20000 in
theorem wm_412 : (.code (⟨"MazeForms$Maker", "openDoor", "(I)V"⟩) prog_7_method_4_code 2 none : Cond) ∈ mz_tb := List.mem_filter.mpr ⟨List.mem_of_getElem? (i := 412) rfl, rfl⟩
set_option maxRecDepth 20000 in
theorem wm_413 : (.methodLink "MazeForms$Maker" 94 (⟨"MazeForms$Grid", "setDoor", "(IZ)Z"⟩) : Cond) ∈ mz_tb := List.mem_filter.mpr ⟨List.mem_of_getElem? (i := 413) rfl, rfl⟩
set_option maxRecDepth 20000 in
theorem wm_414 : (.instanceMethod (⟨"MazeForms$Grid", "setDoor", "(IZ)Z"⟩) : Cond) ∈ mz_tb := List.mem_filter.mpr ⟨List.mem_of_getElem? (i := 414) rfl, rfl⟩
set_option maxRecDepth 20000 in
theorem wm_415 : (.selects "MazeForms$Grid" (⟨"MazeForms$Grid", "setDoor", "(IZ)Z"⟩) (⟨"MazeForms$Grid", "setDoor", "(IZ)Z"⟩) : Cond) ∈ mz_tb := List.mem_filter.mpr ⟨List.mem_of_getElem? (i := 415) rfl, rfl⟩
set_option maxRecDepth 20000 in
theorem wm_416 : (.code (⟨"MazeForms$Grid", "setDoor", "(IZ)Z"⟩) prog_5_method_20_code 3 (some .boolean) : Cond) ∈ mz_tb := List.mem_filter.mpr ⟨List.mem_of_getElem? (i := 416) rfl, rfl⟩
set_option maxRecDepth 20000 in
theorem wm_417 : (.methodLink "MazeForms$Maker" 121 (⟨"MazeForms$Maker", "setTrace", "(II)V"⟩) : Cond) ∈ mz_tb := List.mem_filter.mpr ⟨List.mem_of_getElem? (i := 417) rfl, rfl⟩
set_option maxRecDepth 20000 in
theorem wm_419 : (.instanceMethod (⟨"MazeForms$Maker", "setTrace", "(II)V"⟩) : Cond) ∈ mz_tb := List.mem_filter.mpr ⟨List.mem_of_getElem? (i := 419) rfl, rfl⟩
set_option maxRecDepth 20000 in
theorem wm_420 : (.code (⟨"MazeForms$Maker", "setTrace", "(II)V"⟩) prog_7_method_9_code 3 none : Cond) ∈ mz_tb := List.mem_filter.mpr ⟨List.mem_of_getElem? (i := 420) rfl, rfl⟩
set_option maxRecDepth 20000 in
theorem wm_421 : (.methodLink "MazeForms$Maker" 59 (⟨"MazeForms$Maker", "joinSets", "()V"⟩) : Cond) ∈ mz_tb := List.mem_filter.mpr ⟨List.mem_of_getElem? (i := 421) rfl, rfl⟩
set_option maxRecDepth 20000 in
theorem wm_423 : (.instanceMethod (⟨"MazeForms$Maker", "joinSets", "()V"⟩) : Cond) ∈ mz_tb := List.mem_filter.mpr ⟨List.mem_of_getElem? (i := 423) rfl, rfl⟩
set_option maxRecDepth 20000 in
theorem wm_424 : (.code (⟨"MazeForms$Maker", "joinSets", "()V"⟩) prog_7_method_12_code 3 none : Cond) ∈ mz_tb := List.mem_filter.mpr ⟨List.mem_of_getElem? (i := 424) rfl, rfl⟩
set_option maxRecDepth 20000 in
theorem wm_425 : (.methodLink "MazeForms$Maker" 74 (⟨"MazeForms$Grid", "doorCount", "()I"⟩) : Cond) ∈ mz_tb := List.mem_filter.mpr ⟨List.mem_of_getElem? (i := 425) rfl, rfl⟩
set_option maxRecDepth 20000 in
theorem wm_426 : (.instanceMethod (⟨"MazeForms$Grid", "doorCount", "()I"⟩) : Cond) ∈ mz_tb := List.mem_filter.mpr ⟨List.mem_of_getElem? (i := 426) rfl, rfl⟩
set_option maxRecDepth 20000 in
theorem wm_427 : (.selects "MazeForms$Grid" (⟨"MazeForms$Grid", "doorCount", "()I"⟩) (⟨"MazeForms$Grid", "doorCount", "()I"⟩) : Cond) ∈ mz_tb := List.mem_filter.mpr ⟨List.mem_of_getElem? (i := 427) rfl, rfl⟩
set_option maxRecDepth 20000 in
theorem wm_428 : (.code (⟨"MazeForms$Grid", "doorCount", "()I"⟩) prog_5_method_5_code 1 (some .int) : Cond) ∈ mz_tb := List.mem_filter.mpr ⟨List.mem_of_getElem? (i := 428) rfl, rfl⟩
set_option maxRecDepth 20000 in
theorem wm_429 : (.methodLink "MazeForms$Maker" 131 (⟨"MazeForms$DoorRow", "shuffle", "()V"⟩) : Cond) ∈ mz_tb := List.mem_filter.mpr ⟨List.mem_of_getElem? (i := 429) rfl, rfl⟩
set_option maxRecDepth 20000 in
theorem wm_430 : (.instanceMethod (⟨"MazeForms$DoorRow", "shuffle", "()V"⟩) : Cond) ∈ mz_tb := List.mem_filter.mpr ⟨List.mem_of_getElem? (i := 430) rfl, rfl⟩
set_option maxRecDepth 20000 in
theorem wm_431 : (.selects "MazeForms$DoorRow" (⟨"MazeForms$DoorRow", "shuffle", "()V"⟩) (⟨"MazeForms$DoorRow", "shuffle", "()V"⟩) : Cond) ∈ mz_tb := List.mem_filter.mpr ⟨List.mem_of_getElem? (i := 431) rfl, rfl⟩
set_option maxRecDepth 20000 in
theorem wm_432 : (.code (⟨"MazeForms$DoorRow", "shuffle", "()V"⟩) prog_3_method_7_code 2 none : Cond) ∈ mz_tb := List.mem_filter.mpr ⟨List.mem_of_getElem? (i := 432) rfl, rfl⟩
set_option maxRecDepth 20000 in
theorem wm_433 : (.methodLink "MazeForms$DoorRow" 38 (⟨"MazeForms$DoorRow", "exchange", "(II)V"⟩) : Cond) ∈ mz_tb := List.mem_filter.mpr ⟨List.mem_of_getElem? (i := 433) rfl, rfl⟩
set_option maxRecDepth 20000 in
theorem wm_435 : (.instanceMethod (⟨"MazeForms$DoorRow", "exchange", "(II)V"⟩) : Cond) ∈ mz_tb := List.mem_filter.mpr ⟨List.mem_of_getElem? (i := 435) rfl, rfl⟩
set_option maxRecDepth 20000 in
theorem wm_436 : (.code (⟨"MazeForms$DoorRow", "exchange", "(II)V"⟩) prog_3_method_8_code 5 none : Cond) ∈ mz_tb := List.mem_filter.mpr ⟨List.mem_of_getElem? (i := 436) rfl, rfl⟩
set_option maxRecDepth 20000 in
theorem wm_437 : (.methodLink "MazeForms$Maker" 134 (⟨"MazeForms$Joined", "reset", "()V"⟩) : Cond) ∈ mz_tb := List.mem_filter.mpr ⟨List.mem_of_getElem? (i := 437) rfl, rfl⟩
set_option maxRecDepth 20000 in
theorem wm_438 : (.instanceMethod (⟨"MazeForms$Joined", "reset", "()V"⟩) : Cond) ∈ mz_tb := List.mem_filter.mpr ⟨List.mem_of_getElem? (i := 438) rfl, rfl⟩
set_option maxRecDepth 20000 in
theorem wm_439 : (.selects "MazeForms$Joined" (⟨"MazeForms$Joined", "reset", "()V"⟩) (⟨"MazeForms$Joined", "reset", "()V"⟩) : Cond) ∈ mz_tb := List.mem_filter.mpr ⟨List.mem_of_getElem? (i := 439) rfl, rfl⟩
set_option maxRecDepth 20000 in
theorem wm_440 : (.code (⟨"MazeForms$Joined", "reset", "()V"⟩) prog_6_method_2_code 2 none : Cond) ∈ mz_tb := List.mem_filter.mpr ⟨List.mem_of_getElem? (i := 440) rfl, rfl⟩
set_option maxRecDepth 20000 in
theorem wm_441 : (.methodLink "MazeForms$Maker" 85 (⟨"MazeForms$DoorRow", "count", "()I"⟩) : Cond) ∈ mz_tb := List.mem_filter.mpr ⟨List.mem_of_getElem? (i := 441) rfl, rfl⟩
set_option maxRecDepth 20000 in
theorem wm_442 : (.instanceMethod (⟨"MazeForms$DoorRow", "count", "()I"⟩) : Cond) ∈ mz_tb := List.mem_filter.mpr ⟨List.mem_of_getElem? (i := 442) rfl, rfl⟩
set_option maxRecDepth 20000 in
theorem wm_443 : (.selects "MazeForms$DoorRow" (⟨"MazeForms$DoorRow", "count", "()I"⟩) (⟨"MazeForms$DoorRow", "count", "()I"⟩) : Cond) ∈ mz_tb := List.mem_filter.mpr ⟨List.mem_of_getElem? (i := 443) rfl, rfl⟩
set_option maxRecDepth 20000 in
theorem wm_444 : (.code (⟨"MazeForms$DoorRow", "count", "()I"⟩) prog_3_method_2_code 1 (some .int) : Cond) ∈ mz_tb := List.mem_filter.mpr ⟨List.mem_of_getElem? (i := 444) rfl, rfl⟩
set_option maxRecDepth 20000 in
theorem wm_445 : (.methodLink "MazeForms$Maker" 139 (⟨"MazeForms$DoorRow", "doorAt", "(I)I"⟩) : Cond) ∈ mz_tb := List.mem_filter.mpr ⟨List.mem_of_getElem? (i := 445) rfl, rfl⟩
set_option maxRecDepth 20000 in
theorem wm_446 : (.methodLink "MazeForms$Maker" 142 (⟨"MazeForms$Joined", "joinBy", "(I)Z"⟩) : Cond) ∈ mz_tb := List.mem_filter.mpr ⟨List.mem_of_getElem? (i := 446) rfl, rfl⟩
set_option maxRecDepth 20000 in
theorem wm_447 : (.instanceMethod (⟨"MazeForms$Joined", "joinBy", "(I)Z"⟩) : Cond) ∈ mz_tb := List.mem_filter.mpr ⟨List.mem_of_getElem? (i := 447) rfl, rfl⟩
set_option maxRecDepth 20000 in
theorem wm_448 : (.selects "MazeForms$Joined" (⟨"MazeForms$Joined", "joinBy", "(I)Z"⟩) (⟨"MazeForms$Joined", "joinBy", "(I)Z"⟩) : Cond) ∈ mz_tb := List.mem_filter.mpr ⟨List.mem_of_getElem? (i := 448) rfl, rfl⟩
set_option maxRecDepth 20000 in
theorem wm_449 : (.code (⟨"MazeForms$Joined", "joinBy", "(I)Z"⟩) prog_6_method_3_code 4 (some .boolean) : Cond) ∈ mz_tb := List.mem_filter.mpr ⟨List.mem_of_getElem? (i := 449) rfl, rfl⟩
set_option maxRecDepth 20000 in
theorem wm_450 : (.methodLink "MazeForms$Joined" 25 (⟨"MazeForms$Grid", "lesserCell", "(I)I"⟩) : Cond) ∈ mz_tb := List.mem_filter.mpr ⟨List.mem_of_getElem? (i := 450) rfl, rfl⟩
set_option maxRecDepth 20000 in
theorem wm_451 : (.instanceMethod (⟨"MazeForms$Grid", "lesserCell", "(I)I"⟩) : Cond) ∈ mz_tb := List.mem_filter.mpr ⟨List.mem_of_getElem? (i := 451) rfl, rfl⟩
set_option maxRecDepth 20000 in
theorem wm_452 : (.selects "MazeForms$Grid" (⟨"MazeForms$Grid", "lesserCell", "(I)I"⟩) (⟨"MazeForms$Grid", "lesserCell", "(I)I"⟩) : Cond) ∈ mz_tb := List.mem_filter.mpr ⟨List.mem_of_getElem? (i := 452) rfl, rfl⟩
set_option maxRecDepth 20000 in
theorem wm_453 : (.code (⟨"MazeForms$Grid", "lesserCell", "(I)I"⟩) prog_5_method_17_code 2 (some .int) : Cond) ∈ mz_tb := List.mem_filter.mpr ⟨List.mem_of_getElem? (i := 453) rfl, rfl⟩
set_option maxRecDepth 20000 in
theorem wm_454 : (.methodLink "MazeForms$Joined" 29 (⟨"MazeForms$Joined", "root", "(I)I"⟩) : Cond) ∈ mz_tb := List.mem_filter.mpr ⟨List.mem_of_getElem? (i := 454) rfl, rfl⟩
set_option maxRecDepth 20000 in
theorem wm_456 : (.instanceMethod (⟨"MazeForms$Joined", "root", "(I)I"⟩) : Cond) ∈ mz_tb := List.mem_filter.mpr ⟨List.mem_of_getElem? (i := 456) rfl, rfl⟩
set_option maxRecDepth 20000 in
theorem wm_457 : (.code (⟨"MazeForms$Joined", "root", "(I)I"⟩) prog_6_method_5_code 4 (some .int) : Cond) ∈ mz_tb := List.mem_filter.mpr ⟨List.mem_of_getElem? (i := 457) rfl, rfl⟩
set_option maxRecDepth 20000 in
theorem wm_458 : (.methodLink "MazeForms$Joined" 48 (⟨"MazeForms$Grid", "isCell", "(I)Z"⟩) : Cond) ∈ mz_tb := List.mem_filter.mpr ⟨List.mem_of_getElem? (i := 458) rfl, rfl⟩
set_option maxRecDepth 20000 in
theorem wm_459 : (.methodLink "MazeForms$Joined" 32 (⟨"MazeForms$Grid", "greaterCell", "(I)I"⟩) : Cond) ∈ mz_tb := List.mem_filter.mpr ⟨List.mem_of_getElem? (i := 459) rfl, rfl⟩
set_option maxRecDepth 20000 in
theorem wm_460 : (.instanceMethod (⟨"MazeForms$Grid", "greaterCell", "(I)I"⟩) : Cond) ∈ mz_tb := List.mem_filter.mpr ⟨List.mem_of_getElem? (i := 460) rfl, rfl⟩
set_option maxRecDepth 20000 in
theorem wm_461 : (.selects "MazeForms$Grid" (⟨"MazeForms$Grid", "greaterCell", "(I)I"⟩) (⟨"MazeForms$Grid", "greaterCell", "(I)I"⟩) : Cond) ∈ mz_tb := List.mem_filter.mpr ⟨List.mem_of_getElem? (i := 461) rfl, rfl⟩
set_option maxRecDepth 20000 in
theorem wm_462 : (.code (⟨"MazeForms$Grid", "greaterCell", "(I)I"⟩) prog_5_method_18_code 2 (some .int) : Cond) ∈ mz_tb := List.mem_filter.mpr ⟨List.mem_of_getElem? (i := 462) rfl, rfl⟩
set_option maxRecDepth 20000 in
theorem wm_463 : (.methodLink "MazeForms$Maker" 62 (⟨"MazeForms$Maker", "grow", "()V"⟩) : Cond) ∈ mz_tb := List.mem_filter.mpr ⟨List.mem_of_getElem? (i := 463) rfl, rfl⟩
set_option maxRecDepth 20000 in
theorem wm_465 : (.instanceMethod (⟨"MazeForms$Maker", "grow", "()V"⟩) : Cond) ∈ mz_tb := List.mem_filter.mpr ⟨List.mem_of_getElem? (i := 465) rfl, rfl⟩
set_option maxRecDepth 20000 in
theorem wm_466 : (.code (⟨"MazeForms$Maker", "grow", "()V"⟩) prog_7_method_13_code 3 none : Cond) ∈ mz_tb := List.mem_filter.mpr ⟨List.mem_of_getElem? (i := 466) rfl, rfl⟩
set_option maxRecDepth 20000 in
theorem wm_467 : (.methodLink "MazeForms$Maker" 145 (⟨"MazeForms$Maker", "offerRim", "()V"⟩) : Cond) ∈ mz_tb := List.mem_filter.mpr ⟨List.mem_of_getElem? (i := 467) rfl, rfl⟩
set_option maxRecDepth 20000 in
theorem wm_469 : (.instanceMethod (⟨"MazeForms$Maker", "offerRim", "()V"⟩) : Cond) ∈ mz_tb := List.mem_filter.mpr ⟨List.mem_of_getElem? (i := 469) rfl, rfl⟩
set_option maxRecDepth 20000 in
theorem wm_470 : (.code (⟨"MazeForms$Maker", "offerRim", "()V"⟩) prog_7_method_14_code 2 none : Cond) ∈ mz_tb := List.mem_filter.mpr ⟨List.mem_of_getElem? (i := 470) rfl, rfl⟩
set_option maxRecDepth 20000 in
theorem wm_471 : (.methodLink "MazeForms$Maker" 148 (⟨"MazeForms$Grid", "lesserCell", "(I)I"⟩) : Cond) ∈ mz_tb := List.mem_filter.mpr ⟨List.mem_of_getElem? (i := 471) rfl, rfl⟩
set_option maxRecDepth 20000 in
theorem wm_472 : (.methodLink "MazeForms$Maker" 151 (⟨"MazeForms$Grid", "greaterCell", "(I)I"⟩) : Cond) ∈ mz_tb := List.mem_filter.mpr ⟨List.mem_of_getElem? (i := 472) rfl, rfl⟩
set_option maxRecDepth 20000 in
theorem wm_473 : (.methodLink "MazeForms$Maker" 65 (⟨"MazeForms$Maker", "walkAll", "()V"⟩) : Cond) ∈ mz_tb := List.mem_filter.mpr ⟨List.mem_of_getElem? (i := 473) rfl, rfl⟩
set_option maxRecDepth 20000 in
theorem wm_475 : (.instanceMethod (⟨"MazeForms$Maker", "walkAll", "()V"⟩) : Cond) ∈ mz_tb := List.mem_filter.mpr ⟨List.mem_of_getElem? (i := 475) rfl, rfl⟩
set_option maxRecDepth 20000 in
theorem wm_476 : (.code (⟨"MazeForms$Maker", "walkAll", "()V"⟩) prog_7_method_15_code 3 none : Cond) ∈ mz_tb := List.mem_filter.mpr ⟨List.mem_of_getElem? (i := 476) rfl, rfl⟩
set_option maxRecDepth 20000 in
theorem wm_477 : (.methodLink "MazeForms$Maker" 154 (⟨"MazeForms$Flood", "spread", "(IZ)V"⟩) : Cond) ∈ mz_tb := List.mem_filter.mpr ⟨List.mem_of_getElem? (i := 477) rfl, rfl⟩
set_option maxRecDepth 20000 in
theorem wm_478 : (.instanceMethod (⟨"MazeForms$Flood", "spread", "(IZ)V"⟩) : Cond) ∈ mz_tb := List.mem_filter.mpr ⟨List.mem_of_getElem? (i := 478) rfl, rfl⟩
set_option maxRecDepth 20000 in
theorem wm_479 : (.selects "MazeForms$Flood" (⟨"MazeForms$Flood", "spread", "(IZ)V"⟩) (⟨"MazeForms$Flood", "spread", "(IZ)V"⟩) : Cond) ∈ mz_tb := List.mem_filter.mpr ⟨List.mem_of_getElem? (i := 479) rfl, rfl⟩
set_option maxRecDepth 20000 in
theorem wm_480 : (.code (⟨"MazeForms$Flood", "spread", "(IZ)V"⟩) prog_4_method_2_code 4 none : Cond) ∈ mz_tb := List.mem_filter.mpr ⟨List.mem_of_getElem? (i := 480) rfl, rfl⟩
set_option maxRecDepth 20000 in
theorem wm_481 : (.methodLink "MazeForms$Flood" 28 (⟨"java/util/Arrays", "fill", "([II)V"⟩) : Cond) ∈ mz_tb := List.mem_filter.mpr ⟨List.mem_of_getElem? (i := 481) rfl, rfl⟩
set_option maxRecDepth 20000 in
theorem wm_482 : (.methodLink "MazeForms$Flood" 38 (⟨"MazeForms$Flood", "reach", "(II)V"⟩) : Cond) ∈ mz_tb := List.mem_filter.mpr ⟨List.mem_of_getElem? (i := 482) rfl, rfl⟩
set_option maxRecDepth 20000 in
theorem wm_484 : (.instanceMethod (⟨"MazeForms$Flood", "reach", "(II)V"⟩) : Cond) ∈ mz_tb := List.mem_filter.mpr ⟨List.mem_of_getElem? (i := 484) rfl, rfl⟩
set_option maxRecDepth 20000 in
theorem wm_485 : (.code (⟨"MazeForms$Flood", "reach", "(II)V"⟩) prog_4_method_5_code 3 none : Cond) ∈ mz_tb := List.mem_filter.mpr ⟨List.mem_of_getElem? (i := 485) rfl, rfl⟩
set_option maxRecDepth 20000 in
theorem wm_486 : (.methodLink "MazeForms$Flood" 46 (⟨"MazeForms$Grid", "isCell", "(I)Z"⟩) : Cond) ∈ mz_tb := List.mem_filter.mpr ⟨List.mem_of_getElem? (i := 486) rfl, rfl⟩
set_option maxRecDepth 20000 in
theorem wm_487 : (.methodLink "MazeForms$Flood" 42 (⟨"MazeForms$Flood", "spreadOn", "(IZ)V"⟩) : Cond) ∈ mz_tb := List.mem_filter.mpr ⟨List.mem_of_getElem? (i := 487) rfl, rfl⟩
set_option maxRecDepth 20000 in
theorem wm_489 : (.instanceMethod (⟨"MazeForms$Flood", "spreadOn", "(IZ)V"⟩) : Cond) ∈ mz_tb := List.mem_filter.mpr ⟨List.mem_of_getElem? (i := 489) rfl, rfl⟩
set_option maxRecDepth 20000 in
theorem wm_490 : (.code (⟨"MazeForms$Flood", "spreadOn", "(IZ)V"⟩) prog_4_method_4_code 6 none : Cond) ∈ mz_tb := List.mem_filter.mpr ⟨List.mem_of_getElem? (i := 490) rfl, rfl⟩
set_option maxRecDepth 20000 in
theorem wm_491 : (.methodLink "MazeForms$Flood" 50 (⟨"MazeForms$Flood", "stepsTo", "(I)I"⟩) : Cond) ∈ mz_tb := List.mem_filter.mpr ⟨List.mem_of_getElem? (i := 491) rfl, rfl⟩
set_option maxRecDepth 20000 in
theorem wm_492 : (.instanceMethod (⟨"MazeForms$Flood", "stepsTo", "(I)I"⟩) : Cond) ∈ mz_tb := List.mem_filter.mpr ⟨List.mem_of_getElem? (i := 492) rfl, rfl⟩
set_option maxRecDepth 20000 in
theorem wm_493 : (.selects "MazeForms$Flood" (⟨"MazeForms$Flood", "stepsTo", "(I)I"⟩) (⟨"MazeForms$Flood", "stepsTo", "(I)I"⟩) : Cond) ∈ mz_tb := List.mem_filter.mpr ⟨List.mem_of_getElem? (i := 493) rfl, rfl⟩
set_option maxRecDepth 20000 in
theorem wm_494 : (.code (⟨"MazeForms$Flood", "stepsTo", "(I)I"⟩) prog_4_method_3_code 2 (some .int) : Cond) ∈ mz_tb := List.mem_filter.mpr ⟨List.mem_of_getElem? (i := 494) rfl, rfl⟩
set_option maxRecDepth 20000 in
theorem wm_495 : (.methodLink "MazeForms$Flood" 54 (⟨"MazeForms$Grid", "doorOn", "(II)I"⟩) : Cond) ∈ mz_tb := List.mem_filter.mpr ⟨List.mem_of_getElem? (i := 495) rfl, rfl⟩
set_option maxRecDepth 20000 in
theorem wm_496 : (.methodLink "MazeForms$Flood" 58 (⟨"MazeForms$Grid", "isOpen", "(I)Z"⟩) : Cond) ∈ mz_tb := List.mem_filter.mpr ⟨List.mem_of_getElem? (i := 496) rfl, rfl⟩
set_option maxRecDepth 20000 in
theorem wm_497 : (.instanceMethod (⟨"MazeForms$Grid", "isOpen", "(I)Z"⟩) : Cond) ∈ mz_tb := List.mem_filter.mpr ⟨List.mem_of_getElem? (i := 497) rfl, rfl⟩
set_option maxRecDepth 20000 in
theorem wm_498 : (.selects "MazeForms$Grid" (⟨"MazeForms$Grid", "isOpen", "(I)Z"⟩) (⟨"MazeForms$Grid", "isOpen", "(I)Z"⟩) : Cond) ∈ mz_tb := List.mem_filter.mpr ⟨List.mem_of_getElem? (i := 498) rfl, rfl⟩
set_option maxRecDepth 20000 in
theorem wm_499 : (.code (⟨"MazeForms$Grid", "isOpen", "(I)Z"⟩) prog_5_method_11_code 2 (some .boolean) : Cond) ∈ mz_tb := List.mem_filter.mpr ⟨List.mem_of_getElem? (i := 499) rfl, rfl⟩
set_option maxRecDepth 20000 in
theorem wm_500 : (.methodLink "MazeForms$Flood" 61 (⟨"MazeForms$Grid", "otherCell", "(II)I"⟩) : Cond) ∈ mz_tb := List.mem_filter.mpr ⟨List.mem_of_getElem? (i := 500) rfl, rfl⟩
set_option maxRecDepth 20000 in
theorem wm_501 : (.methodLink "MazeForms$Maker" 160 (⟨"MazeForms$Flood", "stepsTo", "(I)I"⟩) : Cond) ∈ mz_tb := List.mem_filter.mpr ⟨List.mem_of_getElem? (i := 501) rfl, rfl⟩
set_option maxRecDepth 20000 in
theorem wm_502 : (.methodLink "MazeForms$Maker" 163 (⟨"MazeForms$Maker", "walkToTree", "(I)Z"⟩) : Cond) ∈ mz_tb := List.mem_filter.mpr ⟨List.mem_of_getElem? (i := 502) rfl, rfl⟩
set_option maxRecDepth 20000 in
theorem wm_504 : (.instanceMethod (⟨"MazeForms$Maker", "walkToTree", "(I)Z"⟩) : Cond) ∈ mz_tb := List.mem_filter.mpr ⟨List.mem_of_getElem? (i := 504) rfl, rfl⟩
set_option maxRecDepth 20000 in
theorem wm_505 : (.code (⟨"MazeForms$Maker", "walkToTree", "(I)Z"⟩) prog_7_method_16_code 5 (some .boolean) : Cond) ∈ mz_tb := List.mem_filter.mpr ⟨List.mem_of_getElem? (i := 505) rfl, rfl⟩
set_option maxRecDepth 20000 in
theorem wm_506 : (.constant "MazeForms$Maker" 169 (1000000) : Cond) ∈ mz_tb := List.mem_filter.mpr ⟨List.mem_of_getElem? (i := 506) rfl, rfl⟩
set_option maxRecDepth 20000 in
theorem wm_507 : (.methodLink "MazeForms$Maker" 170 (⟨"MazeForms$Maker", "offerAll", "(I)V"⟩) : Cond) ∈ mz_tb := List.mem_filter.mpr ⟨List.mem_of_getElem? (i := 507) rfl, rfl⟩
set_option maxRecDepth 20000 in
theorem wm_509 : (.instanceMethod (⟨"MazeForms$Maker", "offerAll", "(I)V"⟩) : Cond) ∈ mz_tb := List.mem_filter.mpr ⟨List.mem_of_getElem? (i := 509) rfl, rfl⟩
set_option maxRecDepth 20000 in
theorem wm_510 : (.code (⟨"MazeForms$Maker", "offerAll", "(I)V"⟩) prog_7_method_17_code 3 none : Cond) ∈ mz_tb := List.mem_filter.mpr ⟨List.mem_of_getElem? (i := 510) rfl, rfl⟩
set_option maxRecDepth 20000 in
theorem wm_511 : (.methodLink "MazeForms$Maker" 166 (⟨"MazeForms$Maker", "joinWalk", "(I)V"⟩) : Cond) ∈ mz_tb := List.mem_filter.mpr ⟨List.mem_of_getElem? (i := 511) rfl, rfl⟩
set_option maxRecDepth 20000 in
theorem wm_513 : (.instanceMethod (⟨"MazeForms$Maker", "joinWalk", "(I)V"⟩) : Cond) ∈ mz_tb := List.mem_filter.mpr ⟨List.mem_of_getElem? (i := 513) rfl, rfl⟩
set_option maxRecDepth 20000 in
theorem wm_514 : (.code (⟨"MazeForms$Maker", "joinWalk", "(I)V"⟩) prog_7_method_18_code 5 none : Cond) ∈ mz_tb := List.mem_filter.mpr ⟨List.mem_of_getElem? (i := 514) rfl, rfl⟩
set_option maxRecDepth 20000 in
theorem wm_515 : (.methodLink "MazeForms$Maker" 68 (⟨"MazeForms$Maker", "comb", "()V"⟩) : Cond) ∈ mz_tb := List.mem_filter.mpr ⟨List.mem_of_getElem? (i := 515) rfl, rfl⟩
set_option maxRecDepth 20000 in
theorem wm_517 : (.instanceMethod (⟨"MazeForms$Maker", "comb", "()V"⟩) : Cond) ∈ mz_tb := List.mem_filter.mpr ⟨List.mem_of_getElem? (i := 517) rfl, rfl⟩
set_option maxRecDepth 20000 in
theorem wm_518 : (.code (⟨"MazeForms$Maker", "comb", "()V"⟩) prog_7_method_19_code 2 none : Cond) ∈ mz_tb := List.mem_filter.mpr ⟨List.mem_of_getElem? (i := 518) rfl, rfl⟩
set_option maxRecDepth 20000 in
theorem wm_523 : (.methodLink "MazeForms" 72 (⟨"MazeForms$Grid", "doorCount", "()I"⟩) : Cond) ∈ mz_tb := List.mem_filter.mpr ⟨List.mem_of_getElem? (i := 523) rfl, rfl⟩
set_option maxRecDepth 20000 in
theorem wm_528 : (.methodLink "MazeForms" 76 (⟨"MazeForms$Grid", "doorOn", "(II)I"⟩) : Cond) ∈ mz_tb := List.mem_filter.mpr ⟨List.mem_of_getElem? (i := 528) rfl, rfl⟩
set_option maxRecDepth 20000 in
theorem wm_529 : (.methodLink "MazeForms" 79 (⟨"MazeForms$Grid", "isOpen", "(I)Z"⟩) : Cond) ∈ mz_tb := List.mem_filter.mpr ⟨List.mem_of_getElem? (i := 529) rfl, rfl⟩
set_option maxRecDepth 20000 in
theorem wm_534 : (.methodLink "MazeForms" 83 (⟨"MazeForms$Grid", "setDoor", "(IZ)Z"⟩) : Cond) ∈ mz_tb := List.mem_filter.mpr ⟨List.mem_of_getElem? (i := 534) rfl, rfl⟩
set_option maxRecDepth 20000 in
theorem wm_539 : (.methodLink "MazeForms" 86 (⟨"MazeForms$Maker", "openMore", "(I)I"⟩) : Cond) ∈ mz_tb := List.mem_filter.mpr ⟨List.mem_of_getElem? (i := 539) rfl, rfl⟩
set_option maxRecDepth 20000 in
theorem wm_540 : (.instanceMethod (⟨"MazeForms$Maker", "openMore", "(I)I"⟩) : Cond) ∈ mz_tb := List.mem_filter.mpr ⟨List.mem_of_getElem? (i := 540) rfl, rfl⟩
set_option maxRecDepth 20000 in
theorem wm_541 : (.selects "MazeForms$Maker" (⟨"MazeForms$Maker", "openMore", "(I)I"⟩) (⟨"MazeForms$Maker", "openMore", "(I)I"⟩) : Cond) ∈ mz_tb := List.mem_filter.mpr ⟨List.mem_of_getElem? (i := 541) rfl, rfl⟩
set_option maxRecDepth 20000 in
theorem wm_542 : (.code (⟨"MazeForms$Maker", "openMore", "(I)I"⟩) prog_7_method_3_code 4 (some .int) : Cond) ∈ mz_tb := List.mem_filter.mpr ⟨List.mem_of_getElem? (i := 542) rfl, rfl⟩
set_option maxRecDepth 20000 in
theorem wm_543 : (.methodLink "MazeForms$Maker" 77 (⟨"MazeForms$Grid", "isOpen", "(I)Z"⟩) : Cond) ∈ mz_tb := List.mem_filter.mpr ⟨List.mem_of_getElem? (i := 543) rfl, rfl⟩
set_option maxRecDepth 20000 in
theorem wm_548 : (.methodLink "MazeForms" 89 (⟨"MazeForms$Trail", "find", "(II)I"⟩) : Cond) ∈ mz_tb := List.mem_filter.mpr ⟨List.mem_of_getElem? (i := 548) rfl, rfl⟩
set_option maxRecDepth 20000 in
theorem wm_549 : (.instanceMethod (⟨"MazeForms$Trail", "find", "(II)I"⟩) : Cond) ∈ mz_tb := List.mem_filter.mpr ⟨List.mem_of_getElem? (i := 549) rfl, rfl⟩
set_option maxRecDepth 20000 in
theorem wm_550 : (.selects "MazeForms$Trail" (⟨"MazeForms$Trail", "find", "(II)I"⟩) (⟨"MazeForms$Trail", "find", "(II)I"⟩) : Cond) ∈ mz_tb := List.mem_filter.mpr ⟨List.mem_of_getElem? (i := 550) rfl, rfl⟩
set_option maxRecDepth 20000 in
theorem wm_551 : (.code (⟨"MazeForms$Trail", "find", "(II)I"⟩) prog_8_method_2_code 6 (some .int) : Cond) ∈ mz_tb := List.mem_filter.mpr ⟨List.mem_of_getElem? (i := 551) rfl, rfl⟩
set_option maxRecDepth 20000 in
theorem wm_552 : (.methodLink "MazeForms$Trail" 33 (⟨"MazeForms$Grid", "isFree", "(I)Z"⟩) : Cond) ∈ mz_tb := List.mem_filter.mpr ⟨List.mem_of_getElem? (i := 552) rfl, rfl⟩
set_option maxRecDepth 20000 in
theorem wm_553 : (.methodLink "MazeForms$Trail" 37 (⟨"MazeForms$Flood", "spread", "(IZ)V"⟩) : Cond) ∈ mz_tb := List.mem_filter.mpr ⟨List.mem_of_getElem? (i := 553) rfl, rfl⟩
set_option maxRecDepth 20000 in
theorem wm_554 : (.methodLink "MazeForms$Trail" 43 (⟨"MazeForms$Flood", "stepsTo", "(I)I"⟩) : Cond) ∈ mz_tb := List.mem_filter.mpr ⟨List.mem_of_getElem? (i := 554) rfl, rfl⟩
set_option maxRecDepth 20000 in
theorem wm_555 : (.methodLink "MazeForms$Trail" 47 (⟨"MazeForms$Trail", "nearerCell", "(I)I"⟩) : Cond) ∈ mz_tb := List.mem_filter.mpr ⟨List.mem_of_getElem? (i := 555) rfl, rfl⟩
set_option maxRecDepth 20000 in
theorem wm_557 : (.instanceMethod (⟨"MazeForms$Trail", "nearerCell", "(I)I"⟩) : Cond) ∈ mz_tb := List.mem_filter.mpr ⟨List.mem_of_getElem? (i := 557) rfl, rfl⟩
set_option maxRecDepth 20000 in
theorem wm_558 : (.code (⟨"MazeForms$Trail", "nearerCell", "(I)I"⟩) prog_8_method_6_code 5 (some .int) : Cond) ∈ mz_tb := List.mem_filter.mpr ⟨List.mem_of_getElem? (i := 558) rfl, rfl⟩
set_option maxRecDepth 20000 in
theorem wm_559 : (.methodLink "MazeForms$Trail" 67 (⟨"MazeForms$Grid", "doorOn", "(II)I"⟩) : Cond) ∈ mz_tb := List.mem_filter.mpr ⟨List.mem_of_getElem? (i := 559) rfl, rfl⟩
set_option maxRecDepth 20000 in
theorem wm_560 : (.methodLink "MazeForms$Trail" 71 (⟨"MazeForms$Grid", "otherCell", "(II)I"⟩) : Cond) ∈ mz_tb := List.mem_filter.mpr ⟨List.mem_of_getElem? (i := 560) rfl, rfl⟩
set_option maxRecDepth 20000 in
theorem wm_561 : (.methodLink "MazeForms$Trail" 74 (⟨"MazeForms$Grid", "isOpen", "(I)Z"⟩) : Cond) ∈ mz_tb := List.mem_filter.mpr ⟨List.mem_of_getElem? (i := 561) rfl, rfl⟩
set_option maxRecDepth 20000 in
theorem wm_562 : (.methodLink "MazeForms$Trail" 50 (⟨"MazeForms$Grid", "edition", "()I"⟩) : Cond) ∈ mz_tb := List.mem_filter.mpr ⟨List.mem_of_getElem? (i := 562) rfl, rfl⟩
set_option maxRecDepth 20000 in
theorem wm_563 : (.instanceMethod (⟨"MazeForms$Grid", "edition", "()I"⟩) : Cond) ∈ mz_tb := List.mem_filter.mpr ⟨List.mem_of_getElem? (i := 563) rfl, rfl⟩
set_option maxRecDepth 20000 in
theorem wm_564 : (.selects "MazeForms$Grid" (⟨"MazeForms$Grid", "edition", "()I"⟩) (⟨"MazeForms$Grid", "edition", "()I"⟩) : Cond) ∈ mz_tb := List.mem_filter.mpr ⟨List.mem_of_getElem? (i := 564) rfl, rfl⟩
set_option maxRecDepth 20000 in
theorem wm_565 : (.code (⟨"MazeForms$Grid", "edition", "()I"⟩) prog_5_method_6_code 1 (some .int) : Cond) ∈ mz_tb := List.mem_filter.mpr ⟨List.mem_of_getElem? (i := 565) rfl, rfl⟩
set_option maxRecDepth 20000 in
theorem wm_570 : (.methodLink "MazeForms" 92 (⟨"MazeForms$Trail", "cellAtStep", "(I)I"⟩) : Cond) ∈ mz_tb := List.mem_filter.mpr ⟨List.mem_of_getElem? (i := 570) rfl, rfl⟩
set_option maxRecDepth 20000 in
theorem wm_571 : (.instanceMethod (⟨"MazeForms$Trail", "cellAtStep", "(I)I"⟩) : Cond) ∈ mz_tb := List.mem_filter.mpr ⟨List.mem_of_getElem? (i := 571) rfl, rfl⟩
set_option maxRecDepth 20000 in
theorem wm_572 : (.selects "MazeForms$Trail" (⟨"MazeForms$Trail", "cellAtStep", "(I)I"⟩) (⟨"MazeForms$Trail", "cellAtStep", "(I)I"⟩) : Cond) ∈ mz_tb := List.mem_filter.mpr ⟨List.mem_of_getElem? (i := 572) rfl, rfl⟩
set_option maxRecDepth 20000 in
theorem wm_573 : (.code (⟨"MazeForms$Trail", "cellAtStep", "(I)I"⟩) prog_8_method_3_code 3 (some .int) : Cond) ∈ mz_tb := List.mem_filter.mpr ⟨List.mem_of_getElem? (i := 573) rfl, rfl⟩
set_option maxRecDepth 20000 in
theorem wm_574 : (.methodLink "MazeForms$Trail" 55 (⟨"MazeForms$Trail", "isFound", "()Z"⟩) : Cond) ∈ mz_tb := List.mem_filter.mpr ⟨List.mem_of_getElem? (i := 574) rfl, rfl⟩
set_option maxRecDepth 20000 in
theorem wm_576 : (.instanceMethod (⟨"MazeForms$Trail", "isFound", "()Z"⟩) : Cond) ∈ mz_tb := List.mem_filter.mpr ⟨List.mem_of_getElem? (i := 576) rfl, rfl⟩
set_option maxRecDepth 20000 in
theorem wm_577 : (.code (⟨"MazeForms$Trail", "isFound", "()Z"⟩) prog_8_method_5_code 1 (some .boolean) : Cond) ∈ mz_tb := List.mem_filter.mpr ⟨List.mem_of_getElem? (i := 577) rfl, rfl⟩
set_option maxRecDepth 20000 in
theorem wm_582 : (.methodLink "MazeForms" 95 (⟨"MazeForms$Grid", "cellCount", "()I"⟩) : Cond) ∈ mz_tb := List.mem_filter.mpr ⟨List.mem_of_getElem? (i := 582) rfl, rfl⟩
set_option maxRecDepth 20000 in
theorem wm_583 : (.methodLink "MazeForms" 98 (⟨"MazeForms$Grid", "isFree", "(I)Z"⟩) : Cond) ∈ mz_tb := List.mem_filter.mpr ⟨List.mem_of_getElem? (i := 583) rfl, rfl⟩
set_option maxRecDepth 20000 in
theorem wm_584 : (.methodLink "MazeForms" 101 (⟨"MazeForms$Grid", "openSides", "(I)I"⟩) : Cond) ∈ mz_tb := List.mem_filter.mpr ⟨List.mem_of_getElem? (i := 584) rfl, rfl⟩
set_option maxRecDepth 20000 in
theorem wm_585 : (.instanceMethod (⟨"MazeForms$Grid", "openSides", "(I)I"⟩) : Cond) ∈ mz_tb := List.mem_filter.mpr ⟨List.mem_of_getElem? (i := 585) rfl, rfl⟩
set_option maxRecDepth 20000 in
theorem wm_586 : (.selects "MazeForms$Grid" (⟨"MazeForms$Grid", "openSides", "(I)I"⟩) (⟨"MazeForms$Grid", "openSides", "(I)I"⟩) : Cond) ∈ mz_tb := List.mem_filter.mpr ⟨List.mem_of_getElem? (i := 586) rfl, rfl⟩
set_option maxRecDepth 20000 in
theorem wm_587 : (.code (⟨"MazeForms$Grid", "openSides", "(I)I"⟩) prog_5_method_16_code 4 (some .int) : Cond) ∈ mz_tb := List.mem_filter.mpr ⟨List.mem_of_getElem? (i := 587) rfl, rfl⟩
set_option maxRecDepth 20000 in
theorem wm_588 : (.methodLink "MazeForms$Grid" 58 (⟨"MazeForms$Grid", "doorOn", "(II)I"⟩) : Cond) ∈ mz_tb := List.mem_filter.mpr ⟨List.mem_of_getElem? (i := 588) rfl, rfl⟩
set_option maxRecDepth 20000 in
theorem wm_589 : (.methodLink "MazeForms$Grid" 55 (⟨"MazeForms$Grid", "isOpen", "(I)Z"⟩) : Cond) ∈ mz_tb := List.mem_filter.mpr ⟨List.mem_of_getElem? (i := 589) rfl, rfl⟩
set_option maxRecDepth 20000 in
theorem wm_594 : (.methodLink "MazeForms" 104 (⟨"MazeForms$Grid", "freeCells", "()I"⟩) : Cond) ∈ mz_tb := List.mem_filter.mpr ⟨List.mem_of_getElem? (i := 594) rfl, rfl⟩
set_option maxRecDepth 20000 in
theorem wm_595 : (.instanceMethod (⟨"MazeForms$Grid", "freeCells", "()I"⟩) : Cond) ∈ mz_tb := List.mem_filter.mpr ⟨List.mem_of_getElem? (i := 595) rfl, rfl⟩
set_option maxRecDepth 20000 in
theorem wm_596 : (.selects "MazeForms$Grid" (⟨"MazeForms$Grid", "freeCells", "()I"⟩) (⟨"MazeForms$Grid", "freeCells", "()I"⟩) : Cond) ∈ mz_tb := List.mem_filter.mpr ⟨List.mem_of_getElem? (i := 596) rfl, rfl⟩
set_option maxRecDepth 20000 in
theorem wm_597 : (.code (⟨"MazeForms$Grid", "freeCells", "()I"⟩) prog_5_method_12_code 3 (some .int) : Cond) ∈ mz_tb := List.mem_filter.mpr ⟨List.mem_of_getElem? (i := 597) rfl, rfl⟩
set_option maxRecDepth 20000 in
theorem wm_598 : (.methodLink "MazeForms" 107 (⟨"MazeForms$Joined", "joinOpenDoors", "()I"⟩) : Cond) ∈ mz_tb := List.mem_filter.mpr ⟨List.mem_of_getElem? (i := 598) rfl, rfl⟩
set_option maxRecDepth 20000 in
theorem wm_599 : (.instanceMethod (⟨"MazeForms$Joined", "joinOpenDoors", "()I"⟩) : Cond) ∈ mz_tb := List.mem_filter.mpr ⟨List.mem_of_getElem? (i := 599) rfl, rfl⟩
set_option maxRecDepth 20000 in
theorem wm_600 : (.selects "MazeForms$Joined" (⟨"MazeForms$Joined", "joinOpenDoors", "()I"⟩) (⟨"MazeForms$Joined", "joinOpenDoors", "()I"⟩) : Cond) ∈ mz_tb := List.mem_filter.mpr ⟨List.mem_of_getElem? (i := 600) rfl, rfl⟩
set_option maxRecDepth 20000 in
theorem wm_601 : (.code (⟨"MazeForms$Joined", "joinOpenDoors", "()I"⟩) prog_6_method_4_code 3 (some .int) : Cond) ∈ mz_tb := List.mem_filter.mpr ⟨List.mem_of_getElem? (i := 601) rfl, rfl⟩
set_option maxRecDepth 20000 in
theorem wm_602 : (.methodLink "MazeForms$Joined" 35 (⟨"MazeForms$Joined", "reset", "()V"⟩) : Cond) ∈ mz_tb := List.mem_filter.mpr ⟨List.mem_of_getElem? (i := 602) rfl, rfl⟩
set_option maxRecDepth 20000 in
theorem wm_603 : (.methodLink "MazeForms$Joined" 38 (⟨"MazeForms$Grid", "doorCount", "()I"⟩) : Cond) ∈ mz_tb := List.mem_filter.mpr ⟨List.mem_of_getElem? (i := 603) rfl, rfl⟩
set_option maxRecDepth 20000 in
theorem wm_604 : (.methodLink "MazeForms$Joined" 41 (⟨"MazeForms$Grid", "isOpen", "(I)Z"⟩) : Cond) ∈ mz_tb := List.mem_filter.mpr ⟨List.mem_of_getElem? (i := 604) rfl, rfl⟩
set_option maxRecDepth 20000 in
theorem wm_605 : (.methodLink "MazeForms$Joined" 45 (⟨"MazeForms$Joined", "joinBy", "(I)Z"⟩) : Cond) ∈ mz_tb := List.mem_filter.mpr ⟨List.mem_of_getElem? (i := 605) rfl, rfl⟩
set_option maxRecDepth 20000 in
theorem wm_610 : (.methodLink "MazeForms" 110 (⟨"MazeForms$Grid", "openDoors", "()I"⟩) : Cond) ∈ mz_tb := List.mem_filter.mpr ⟨List.mem_of_getElem? (i := 610) rfl, rfl⟩
set_option maxRecDepth 20000 in
theorem wm_611 : (.instanceMethod (⟨"MazeForms$Grid", "openDoors", "()I"⟩) : Cond) ∈ mz_tb := List.mem_filter.mpr ⟨List.mem_of_getElem? (i := 611) rfl, rfl⟩
set_option maxRecDepth 20000 in
theorem wm_612 : (.selects "MazeForms$Grid" (⟨"MazeForms$Grid", "openDoors", "()I"⟩) (⟨"MazeForms$Grid", "openDoors", "()I"⟩) : Cond) ∈ mz_tb := List.mem_filter.mpr ⟨List.mem_of_getElem? (i := 612) rfl, rfl⟩
set_option maxRecDepth 20000 in
theorem wm_613 : (.code (⟨"MazeForms$Grid", "openDoors", "()I"⟩) prog_5_method_14_code 3 (some .int) : Cond) ∈ mz_tb := List.mem_filter.mpr ⟨List.mem_of_getElem? (i := 613) rfl, rfl⟩
set_option maxRecDepth 20000 in
theorem wm_618 : (.methodLink "MazeForms" 113 (⟨"MazeForms$Trail", "toll", "()J"⟩) : Cond) ∈ mz_tb := List.mem_filter.mpr ⟨List.mem_of_getElem? (i := 618) rfl, rfl⟩
set_option maxRecDepth 20000 in
theorem wm_619 : (.instanceMethod (⟨"MazeForms$Trail", "toll", "()J"⟩) : Cond) ∈ mz_tb := List.mem_filter.mpr ⟨List.mem_of_getElem? (i := 619) rfl, rfl⟩
set_option maxRecDepth 20000 in
theorem wm_620 : (.selects "MazeForms$Trail" (⟨"MazeForms$Trail", "toll", "()J"⟩) (⟨"MazeForms$Trail", "toll", "()J"⟩) : Cond) ∈ mz_tb := List.mem_filter.mpr ⟨List.mem_of_getElem? (i := 620) rfl, rfl⟩
set_option maxRecDepth 20000 in
theorem wm_621 : (.code (⟨"MazeForms$Trail", "toll", "()J"⟩) prog_8_method_4_code 7 (some .long) : Cond) ∈ mz_tb := List.mem_filter.mpr ⟨List.mem_of_getElem? (i := 621) rfl, rfl⟩
set_option maxRecDepth 20000 in
theorem wm_622 : (.constantLong "MazeForms$Trail" 59 (-1) : Cond) ∈ mz_tb := List.mem_filter.mpr ⟨List.mem_of_getElem? (i := 622) rfl, rfl⟩
set_option maxRecDepth 20000 in
theorem wm_623 : (.methodLink "MazeForms$Trail" 61 (⟨"MazeForms$Trail", "cellAtStep", "(I)I"⟩) : Cond) ∈ mz_tb := List.mem_filter.mpr ⟨List.mem_of_getElem? (i := 623) rfl, rfl⟩
set_option maxRecDepth 20000 in
theorem wm_624 : (.methodLink "MazeForms$Trail" 64 (⟨"MazeForms$Grid", "openSides", "(I)I"⟩) : Cond) ∈ mz_tb := List.mem_filter.mpr ⟨List.mem_of_getElem? (i := 624) rfl, rfl⟩
set_option maxRecDepth 20000 in
theorem wm_636 : (.constantLong "MazeForms$TreeCount" 39 (2) : Cond) ∈ mz_tb := List.mem_filter.mpr ⟨List.mem_of_getElem? (i := 636) rfl, rfl⟩
set_option maxRecDepth 20000 in
theorem wm_637 : (.constantLong "MazeForms$TreeCount" 41 (-1) : Cond) ∈ mz_tb := List.mem_filter.mpr ⟨List.mem_of_getElem? (i := 637) rfl, rfl⟩
set_option maxRecDepth 20000 in
theorem wm_638 : (.methodLink "MazeForms$TreeCount" 47 (⟨"MazeForms$TreeCount", "numberFreeCells", "()I"⟩) : Cond) ∈ mz_tb := List.mem_filter.mpr ⟨List.mem_of_getElem? (i := 638) rfl, rfl⟩
set_option maxRecDepth 20000 in
theorem wm_640 : (.instanceMethod (⟨"MazeForms$TreeCount", "numberFreeCells", "()I"⟩) : Cond) ∈ mz_tb := List.mem_filter.mpr ⟨List.mem_of_getElem? (i := 640) rfl, rfl⟩
set_option maxRecDepth 20000 in
theorem wm_641 : (.code (⟨"MazeForms$TreeCount", "numberFreeCells", "()I"⟩) prog_9_method_3_code 3 (some .int) : Cond) ∈ mz_tb := List.mem_filter.mpr ⟨List.mem_of_getElem? (i := 641) rfl, rfl⟩
set_option maxRecDepth 20000 in
theorem wm_642 : (.methodLink "MazeForms$TreeCount" 60 (⟨"MazeForms$Grid", "isFree", "(I)Z"⟩) : Cond) ∈ mz_tb := List.mem_filter.mpr ⟨List.mem_of_getElem? (i := 642) rfl, rfl⟩
set_option maxRecDepth 20000 in
theorem wm_643 : (.methodLink "MazeForms$TreeCount" 53 (⟨"MazeForms$TreeCount", "fillIn", "()V"⟩) : Cond) ∈ mz_tb := List.mem_filter.mpr ⟨List.mem_of_getElem? (i := 643) rfl, rfl⟩
set_option maxRecDepth 20000 in
theorem wm_645 : (.instanceMethod (⟨"MazeForms$TreeCount", "fillIn", "()V"⟩) : Cond) ∈ mz_tb := List.mem_filter.mpr ⟨List.mem_of_getElem? (i := 645) rfl, rfl⟩
set_option maxRecDepth 20000 in
theorem wm_646 : (.code (⟨"MazeForms$TreeCount", "fillIn", "()V"⟩) prog_9_method_4_code 4 none : Cond) ∈ mz_tb := List.mem_filter.mpr ⟨List.mem_of_getElem? (i := 646) rfl, rfl⟩
set_option maxRecDepth 20000 in
theorem wm_647 : (.methodLink "MazeForms$TreeCount" 64 (⟨"java/util/Arrays", "fill", "([JJ)V"⟩) : Cond) ∈ mz_tb := List.mem_filter.mpr ⟨List.mem_of_getElem? (i := 647) rfl, rfl⟩
set_option maxRecDepth 20000 in
theorem wm_648 : (.static (⟨"java/util/Arrays", "fill", "([JJ)V"⟩) : Cond) ∈ mz_tb := List.mem_filter.mpr ⟨List.mem_of_getElem? (i := 648) rfl, rfl⟩
set_option maxRecDepth 20000 in
theorem wm_649 : (.code (⟨"java/util/Arrays", "fill", "([JJ)V"⟩) prog_13_method_101_code 5 none : Cond) ∈ mz_tb := List.mem_filter.mpr ⟨List.mem_of_getElem? (i := 649) rfl, rfl⟩
set_option maxRecDepth 20000 in
theorem wm_650 : (.methodLink "MazeForms$TreeCount" 70 (⟨"MazeForms$Grid", "doorCount", "()I"⟩) : Cond) ∈ mz_tb := List.mem_filter.mpr ⟨List.mem_of_getElem? (i := 650) rfl, rfl⟩
set_option maxRecDepth 20000 in
theorem wm_651 : (.methodLink "MazeForms$TreeCount" 73 (⟨"MazeForms$Grid", "lesserCell", "(I)I"⟩) : Cond) ∈ mz_tb := List.mem_filter.mpr ⟨List.mem_of_getElem? (i := 651) rfl, rfl⟩
set_option maxRecDepth 20000 in
theorem wm_652 : (.methodLink "MazeForms$TreeCount" 77 (⟨"MazeForms$TreeCount", "placeIn", "(I)I"⟩) : Cond) ∈ mz_tb := List.mem_filter.mpr ⟨List.mem_of_getElem? (i := 652) rfl, rfl⟩
set_option maxRecDepth 20000 in
theorem wm_654 : (.instanceMethod (⟨"MazeForms$TreeCount", "placeIn", "(I)I"⟩) : Cond) ∈ mz_tb := List.mem_filter.mpr ⟨List.mem_of_getElem? (i := 654) rfl, rfl⟩
set_option maxRecDepth 20000 in
theorem wm_655 : (.code (⟨"MazeForms$TreeCount", "placeIn", "(I)I"⟩) prog_9_method_5_code 2 (some .int) : Cond) ∈ mz_tb := List.mem_filter.mpr ⟨List.mem_of_getElem? (i := 655) rfl, rfl⟩
set_option maxRecDepth 20000 in
theorem wm_656 : (.methodLink "MazeForms$TreeCount" 87 (⟨"MazeForms$Grid", "isCell", "(I)Z"⟩) : Cond) ∈ mz_tb := List.mem_filter.mpr ⟨List.mem_of_getElem? (i := 656) rfl, rfl⟩
set_option maxRecDepth 20000 in
theorem wm_657 : (.methodLink "MazeForms$TreeCount" 80 (⟨"MazeForms$Grid", "greaterCell", "(I)I"⟩) : Cond) ∈ mz_tb := List.mem_filter.mpr ⟨List.mem_of_getElem? (i := 657) rfl, rfl⟩
set_option maxRecDepth 20000 in
theorem wm_658 : (.methodLink "MazeForms$TreeCount" 83 (⟨"MazeForms$TreeCount", "addTo", "(IIJ)V"⟩) : Cond) ∈ mz_tb := List.mem_filter.mpr ⟨List.mem_of_getElem? (i := 658) rfl, rfl⟩
set_option maxRecDepth 20000 in
theorem wm_660 : (.instanceMethod (⟨"MazeForms$TreeCount", "addTo", "(IIJ)V"⟩) : Cond) ∈ mz_tb := List.mem_filter.mpr ⟨List.mem_of_getElem? (i := 660) rfl, rfl⟩
set_option maxRecDepth 20000 in
theorem wm_661 : (.code (⟨"MazeForms$TreeCount", "addTo", "(IIJ)V"⟩) prog_9_method_6_code 6 none : Cond) ∈ mz_tb := List.mem_filter.mpr ⟨List.mem_of_getElem? (i := 661) rfl, rfl⟩
set_option maxRecDepth 20000 in
theorem wm_662 : (.methodLink "MazeForms$TreeCount" 90 (⟨"MazeForms$TreeCount", "slotOf", "(II)I"⟩) : Cond) ∈ mz_tb := List.mem_filter.mpr ⟨List.mem_of_getElem? (i := 662) rfl, rfl⟩
set_option maxRecDepth 20000 in
theorem wm_664 : (.instanceMethod (⟨"MazeForms$TreeCount", "slotOf", "(II)I"⟩) : Cond) ∈ mz_tb := List.mem_filter.mpr ⟨List.mem_of_getElem? (i := 664) rfl, rfl⟩
set_option maxRecDepth 20000 in
theorem wm_665 : (.code (⟨"MazeForms$TreeCount", "slotOf", "(II)I"⟩) prog_9_method_7_code 6 (some .int) : Cond) ∈ mz_tb := List.mem_filter.mpr ⟨List.mem_of_getElem? (i := 665) rfl, rfl⟩
set_option maxRecDepth 20000 in
theorem wm_666 : (.methodLink "MazeForms$TreeCount" 56 (⟨"MazeForms$TreeCount", "determinant", "()J"⟩) : Cond) ∈ mz_tb := List.mem_filter.mpr ⟨List.mem_of_getElem? (i := 666) rfl, rfl⟩
set_option maxRecDepth 20000 in
theorem wm_668 : (.instanceMethod (⟨"MazeForms$TreeCount", "determinant", "()J"⟩) : Cond) ∈ mz_tb := List.mem_filter.mpr ⟨List.mem_of_getElem? (i := 668) rfl, rfl⟩
set_option maxRecDepth 20000 in
theorem wm_669 : (.code (⟨"MazeForms$TreeCount", "determinant", "()J"⟩) prog_9_method_9_code 5 (some .long) : Cond) ∈ mz_tb := List.mem_filter.mpr ⟨List.mem_of_getElem? (i := 669) rfl, rfl⟩
set_option maxRecDepth 20000 in
theorem wm_670 : (.methodLink "MazeForms$TreeCount" 94 (⟨"MazeForms$TreeCount", "pivotRow", "(I)I"⟩) : Cond) ∈ mz_tb := List.mem_filter.mpr ⟨List.mem_of_getElem? (i := 670) rfl, rfl⟩
set_option maxRecDepth 20000 in
theorem wm_672 : (.instanceMethod (⟨"MazeForms$TreeCount", "pivotRow", "(I)I"⟩) : Cond) ∈ mz_tb := List.mem_filter.mpr ⟨List.mem_of_getElem? (i := 672) rfl, rfl⟩
set_option maxRecDepth 20000 in
theorem wm_673 : (.code (⟨"MazeForms$TreeCount", "pivotRow", "(I)I"⟩) prog_9_method_10_code 3 (some .int) : Cond) ∈ mz_tb := List.mem_filter.mpr ⟨List.mem_of_getElem? (i := 673) rfl, rfl⟩
set_option maxRecDepth 20000 in
theorem wm_674 : (.methodLink "MazeForms$TreeCount" 113 (⟨"MazeForms$TreeCount", "lastRow", "(I)I"⟩) : Cond) ∈ mz_tb := List.mem_filter.mpr ⟨List.mem_of_getElem? (i := 674) rfl, rfl⟩
set_option maxRecDepth 20000 in
theorem wm_676 : (.instanceMethod (⟨"MazeForms$TreeCount", "lastRow", "(I)I"⟩) : Cond) ∈ mz_tb := List.mem_filter.mpr ⟨List.mem_of_getElem? (i := 676) rfl, rfl⟩
set_option maxRecDepth 20000 in
theorem wm_677 : (.code (⟨"MazeForms$TreeCount", "lastRow", "(I)I"⟩) prog_9_method_11_code 2 (some .int) : Cond) ∈ mz_tb := List.mem_filter.mpr ⟨List.mem_of_getElem? (i := 677) rfl, rfl⟩
set_option maxRecDepth 20000 in
theorem wm_678 : (.methodLink "MazeForms$TreeCount" 116 (⟨"java/lang/Math", "min", "(II)I"⟩) : Cond) ∈ mz_tb := List.mem_filter.mpr ⟨List.mem_of_getElem? (i := 678) rfl, rfl⟩
set_option maxRecDepth 20000 in
theorem wm_679 : (.methodLink "MazeForms$TreeCount" 101 (⟨"MazeForms$TreeCount", "entry", "(II)J"⟩) : Cond) ∈ mz_tb := List.mem_filter.mpr ⟨List.mem_of_getElem? (i := 679) rfl, rfl⟩
set_option maxRecDepth 20000 in
theorem wm_681 : (.instanceMethod (⟨"MazeForms$TreeCount", "entry", "(II)J"⟩) : Cond) ∈ mz_tb := List.mem_filter.mpr ⟨List.mem_of_getElem? (i := 681) rfl, rfl⟩
set_option maxRecDepth 20000 in
theorem wm_682 : (.code (⟨"MazeForms$TreeCount", "entry", "(II)J"⟩) prog_9_method_8_code 4 (some .long) : Cond) ∈ mz_tb := List.mem_filter.mpr ⟨List.mem_of_getElem? (i := 682) rfl, rfl⟩
set_option maxRecDepth 20000 in
theorem wm_683 : (.methodLink "MazeForms$TreeCount" 97 (⟨"MazeForms$TreeCount", "exchangeRows", "(II)V"⟩) : Cond) ∈ mz_tb := List.mem_filter.mpr ⟨List.mem_of_getElem? (i := 683) rfl, rfl⟩
set_option maxRecDepth 20000 in
theorem wm_685 : (.instanceMethod (⟨"MazeForms$TreeCount", "exchangeRows", "(II)V"⟩) : Cond) ∈ mz_tb := List.mem_filter.mpr ⟨List.mem_of_getElem? (i := 685) rfl, rfl⟩
set_option maxRecDepth 20000 in
theorem wm_686 : (.code (⟨"MazeForms$TreeCount", "exchangeRows", "(II)V"⟩) prog_9_method_13_code 8 none : Cond) ∈ mz_tb := List.mem_filter.mpr ⟨List.mem_of_getElem? (i := 686) rfl, rfl⟩
set_option maxRecDepth 20000 in
theorem wm_687 : (.methodLink "MazeForms$TreeCount" 121 (⟨"MazeForms$TreeCount", "lastColumn", "(I)I"⟩) : Cond) ∈ mz_tb := List.mem_filter.mpr ⟨List.mem_of_getElem? (i := 687) rfl, rfl⟩
set_option maxRecDepth 20000 in
theorem wm_689 : (.instanceMethod (⟨"MazeForms$TreeCount", "lastColumn", "(I)I"⟩) : Cond) ∈ mz_tb := List.mem_filter.mpr ⟨List.mem_of_getElem? (i := 689) rfl, rfl⟩
set_option maxRecDepth 20000 in
theorem wm_690 : (.code (⟨"MazeForms$TreeCount", "lastColumn", "(I)I"⟩) prog_9_method_12_code 2 (some .int) : Cond) ∈ mz_tb := List.mem_filter.mpr ⟨List.mem_of_getElem? (i := 690) rfl, rfl⟩
set_option maxRecDepth 20000 in
theorem wm_691 : (.methodLink "MazeForms$TreeCount" 105 (⟨"MazeForms$TreeCount", "times", "(JJ)J"⟩) : Cond) ∈ mz_tb := List.mem_filter.mpr ⟨List.mem_of_getElem? (i := 691) rfl, rfl⟩
set_option maxRecDepth 20000 in
theorem wm_693 : (.instanceMethod (⟨"MazeForms$TreeCount", "times", "(JJ)J"⟩) : Cond) ∈ mz_tb := List.mem_filter.mpr ⟨List.mem_of_getElem? (i := 693) rfl, rfl⟩
set_option maxRecDepth 20000 in
theorem wm_694 : (.code (⟨"MazeForms$TreeCount", "times", "(JJ)J"⟩) prog_9_method_16_code 5 (some .long) : Cond) ∈ mz_tb := List.mem_filter.mpr ⟨List.mem_of_getElem? (i := 694) rfl, rfl⟩
set_option maxRecDepth 20000 in
theorem wm_695 : (.methodLink "MazeForms$TreeCount" 109 (⟨"MazeForms$TreeCount", "clearBelow", "(I)V"⟩) : Cond) ∈ mz_tb := List.mem_filter.mpr ⟨List.mem_of_getElem? (i := 695) rfl, rfl⟩
set_option maxRecDepth 20000 in
theorem wm_697 : (.instanceMethod (⟨"MazeForms$TreeCount", "clearBelow", "(I)V"⟩) : Cond) ∈ mz_tb := List.mem_filter.mpr ⟨List.mem_of_getElem? (i := 697) rfl, rfl⟩
set_option maxRecDepth 20000 in
theorem wm_698 : (.code (⟨"MazeForms$TreeCount", "clearBelow", "(I)V"⟩) prog_9_method_14_code 7 none : Cond) ∈ mz_tb := List.mem_filter.mpr ⟨List.mem_of_getElem? (i := 698) rfl, rfl⟩
set_option maxRecDepth 20000 in
theorem wm_699 : (.methodLink "MazeForms$TreeCount" 124 (⟨"MazeForms$TreeCount", "inverse", "(J)J"⟩) : Cond) ∈ mz_tb := List.mem_filter.mpr ⟨List.mem_of_getElem? (i := 699) rfl, rfl⟩
set_option maxRecDepth 20000 in
theorem wm_701 : (.instanceMethod (⟨"MazeForms$TreeCount", "inverse", "(J)J"⟩) : Cond) ∈ mz_tb := List.mem_filter.mpr ⟨List.mem_of_getElem? (i := 701) rfl, rfl⟩
set_option maxRecDepth 20000 in
theorem wm_702 : (.code (⟨"MazeForms$TreeCount", "inverse", "(J)J"⟩) prog_9_method_17_code 9 (some .long) : Cond) ∈ mz_tb := List.mem_filter.mpr ⟨List.mem_of_getElem? (i := 702) rfl, rfl⟩
set_option maxRecDepth 20000 in
theorem wm_703 : (.methodLink "MazeForms$TreeCount" 128 (⟨"MazeForms$TreeCount", "addRow", "(IIJ)V"⟩) : Cond) ∈ mz_tb := List.mem_filter.mpr ⟨List.mem_of_getElem? (i := 703) rfl, rfl⟩
set_option maxRecDepth 20000 in
theorem wm_705 : (.instanceMethod (⟨"MazeForms$TreeCount", "addRow", "(IIJ)V"⟩) : Cond) ∈ mz_tb := List.mem_filter.mpr ⟨List.mem_of_getElem? (i := 705) rfl, rfl⟩
set_option maxRecDepth 20000 in
theorem wm_706 : (.code (⟨"MazeForms$TreeCount", "addRow", "(IIJ)V"⟩) prog_9_method_15_code 12 none : Cond) ∈ mz_tb := List.mem_filter.mpr ⟨List.mem_of_getElem? (i := 706) rfl, rfl⟩
end
section
/-- the layout behind both constructors, for a grid of w times h: the class's places 0 to 22, the reference's from 23 on -/
abbrev mz_dn (w h : Nat) : Nat := (w - 1) * h + w * (h - 1)
def mz_lay (w h : Nat) : List mz_E := [
  .inr (8, [4, 10, 15, 21, 23]),
  .inr (3, [0, 0, 5, 6, 7, 8, 9, 0, 0]), .inl (0, 1, w * h), .inl (1, 0, 4 * (w * h)), .inl (2, 0, mz_dn w h), .inl (3, 0, mz_dn w h), .inl (4, 1, mz_dn w h),
  .inr (4, [4, 11]), .inl (5, 0, w * h),
  .inr (2, [4, 13, 14, 0]), .inl (6, 0, w * h), .inl (7, 0, w * h),
  .inr (5, [4, 10, 12, 17, 19, 20, 0]), .inr (0, [1]), .inr (1, [16, 18, 0]), .inl (8, 0, mz_dn w h), .inl (9, 1, w * h), .inl (10, 0, w * h),
  .inr (6, [4, 12, 22, 0, 0]), .inl (11, 0, w * h),
  .inr (7, [4, 0, 0, 24, 25, 0, 1]), .inl (12, 0, w * h), .inl (13, 2, w * h * (3 * w + 1)),
  .inr (9, [0, 0, 0, 1, 27, 0, 28, 29, 30, 31, 32, 33, 34, 0, 35, 0, 36, 37, 38]), .inl (14, 1, 144), .inl (15, 0, 288), .inl (16, 0, 288), .inl (17, 1, 288), .inl (18, 1, 144), .inl (19, 0, 144), .inl (20, 0, 144), .inl (21, 0, 144), .inl (22, 0, 288), .inl (23, 0, 144), .inl (24, 0, 144), .inl (25, 2, 20736)]
/-- a boolean as the machine has it -/
def mz_b (b : Bool) : Int32 := match b with
  | true => 1
  | false => 0
theorem mz_b_01 (b : Bool) : mz_b b = 0 ∨ mz_b b = 1 := by cases b <;> simp [mz_b]
/-- is x the number of one of N things -/
def mz_lt (x : Int32) (N : Nat) : Bool := !decide (x < 0) && !decide (nI N ≤ x)
def mz_geo (w h : Nat) : Prop := 1 ≤ w ∧ w ≤ 12 ∧ 1 ≤ h ∧ h ≤ 12
/-- is x a door's number -/
def zg_door (w h : Nat) (X : mz_X) (x : Int32) : Bool := !decide (x < 0) && !decide (X.1 1 7 ≤ x) && !decide (nI (mz_dn w h) ≤ x)
def zg_open (w h : Nat) (X : mz_X) (x : Int32) : Bool := zg_door w h X x && !decide (X.1 6 x.toNatClampNeg = 0)
def zg_free (w h : Nat) (X : mz_X) (x : Int32) : Bool := mz_lt x (w * h) && decide (X.1 2 x.toNatClampNeg = 0)
def zg_at (X : mz_X) (x y : Int32) : Int32 := if (!decide (x < 0) && !decide (X.1 1 0 ≤ x) && !decide (y < 0) && !decide (X.1 1 1 ≤ y)) = true then x + X.1 1 0 * y else -1
def zg_on (w h : Nat) (X : mz_X) (c s : Int32) : Int32 := if (mz_lt c (w * h) && !decide (s < 0) && !decide (4 ≤ s)) = true then X.1 3 (4 * c + s).toNatClampNeg else -1
def zg_les (w h : Nat) (X : mz_X) (d : Int32) : Int32 := if zg_door w h X d = true then X.1 4 d.toNatClampNeg else -1
def zg_gre (w h : Nat) (X : mz_X) (d : Int32) : Int32 := if zg_door w h X d = true then X.1 5 d.toNatClampNeg else -1
def zg_oth (w h : Nat) (X : mz_X) (d c : Int32) : Int32 := if zg_door w h X d = true then (if X.1 4 d.toNatClampNeg = c then X.1 5 d.toNatClampNeg else X.1 4 d.toNatClampNeg) else -1
def C_Gr_width (w h : Nat) : mz_CI := fun lay as X Q => match as with
  | [.ref 1] => lay = mz_lay w h ∧ mz_geo w h ∧ Q (X.1 1 0) X
  | _ => False
def C_Gr_cellCount (w h : Nat) : mz_CI := fun lay as X Q => match as with
  | [.ref 1] => lay = mz_lay w h ∧ mz_geo w h ∧ Q (nI (w * h)) X
  | _ => False
def C_Gr_mostDoors (w h : Nat) : mz_CI := fun lay as X Q => match as with
  | [.ref 1] => lay = mz_lay w h ∧ mz_geo w h ∧ Q (nI (mz_dn w h)) X
  | _ => False
def C_Gr_doorCount (w h : Nat) : mz_CI := fun lay as X Q => match as with
  | [.ref 1] => lay = mz_lay w h ∧ mz_geo w h ∧ Q (X.1 1 7) X
  | _ => False
def C_Gr_edition (w h : Nat) : mz_CI := fun lay as X Q => match as with
  | [.ref 1] => lay = mz_lay w h ∧ mz_geo w h ∧ Q (X.1 1 8) X
  | _ => False
def C_Gr_cellAt (w h : Nat) : mz_CI := fun lay as X Q => match as with
  | [.ref 1, .int x, .int y] => lay = mz_lay w h ∧ mz_geo w h ∧ Q (zg_at X x y) X
  | _ => False
def C_Gr_isCell (w h : Nat) : mz_CI := fun lay as X Q => match as with
  | [.ref 1, .int x] => lay = mz_lay w h ∧ mz_geo w h ∧ Q (mz_b (mz_lt x (w * h))) X
  | _ => False
def C_Gr_isFree (w h : Nat) : mz_CI := fun lay as X Q => match as with
  | [.ref 1, .int x] => lay = mz_lay w h ∧ mz_geo w h ∧ Q (mz_b (zg_free w h X x)) X
  | _ => False
def C_Gr_isDoor (w h : Nat) : mz_CI := fun lay as X Q => match as with
  | [.ref 1, .int x] => lay = mz_lay w h ∧ mz_geo w h ∧ Q (mz_b (zg_door w h X x)) X
  | _ => False
def C_Gr_isOpen (w h : Nat) : mz_CI := fun lay as X Q => match as with
  | [.ref 1, .int x] => lay = mz_lay w h ∧ mz_geo w h ∧ Q (mz_b (zg_open w h X x)) X
  | _ => False
def C_Gr_doorOn (w h : Nat) : mz_CI := fun lay as X Q => match as with
  | [.ref 1, .int c, .int s] => lay = mz_lay w h ∧ mz_geo w h ∧ Q (zg_on w h X c s) X
  | _ => False
def C_Gr_lesserCell (w h : Nat) : mz_CI := fun lay as X Q => match as with
  | [.ref 1, .int d] => lay = mz_lay w h ∧ mz_geo w h ∧ Q (zg_les w h X d) X
  | _ => False
def C_Gr_greaterCell (w h : Nat) : mz_CI := fun lay as X Q => match as with
  | [.ref 1, .int d] => lay = mz_lay w h ∧ mz_geo w h ∧ Q (zg_gre w h X d) X
  | _ => False
def C_Gr_otherCell (w h : Nat) : mz_CI := fun lay as X Q => match as with
  | [.ref 1, .int d, .int c] => lay = mz_lay w h ∧ mz_geo w h ∧ Q (zg_oth w h X d c) X
  | _ => False
def y_Gr_width : MethodName := ⟨"MazeForms$Grid", "width", "()I"⟩
abbrev w_Gr_width : List Cond := .code y_Gr_width prog_5_method_2_code 1 (some .int) :: mz_tb
def dl_Gr_width : List (Nat × ClassFile.Instr × Nat) := [(0, .aload_n 0, 1), (1, .getfield 15, 3), (4, .ireturn, 1)]
theorem d_Gr_width : mz_dec prog_5_method_2_code dl_Gr_width = true := by decide +kernel
def y_Gr_cellCount : MethodName := ⟨"MazeForms$Grid", "cellCount", "()I"⟩
abbrev w_Gr_cellCount : List Cond := .code y_Gr_cellCount prog_5_method_3_code 1 (some .int) :: mz_tb
def dl_Gr_cellCount : List (Nat × ClassFile.Instr × Nat) := [(0, .aload_n 0, 1), (1, .getfield 22, 3), (4, .arraylength, 1), (5, .ireturn, 1)]
theorem d_Gr_cellCount : mz_dec prog_5_method_3_code dl_Gr_cellCount = true := by decide +kernel
def y_Gr_mostDoors : MethodName := ⟨"MazeForms$Grid", "mostDoors", "()I"⟩
abbrev w_Gr_mostDoors : List Cond := .code y_Gr_mostDoors prog_5_method_4_code 1 (some .int) :: mz_tb
def dl_Gr_mostDoors : List (Nat × ClassFile.Instr × Nat) := [(0, .aload_n 0, 1), (1, .getfield 36, 3), (4, .arraylength, 1), (5, .ireturn, 1)]
theorem d_Gr_mostDoors : mz_dec prog_5_method_4_code dl_Gr_mostDoors = true := by decide +kernel
def y_Gr_doorCount : MethodName := ⟨"MazeForms$Grid", "doorCount", "()I"⟩
abbrev w_Gr_doorCount : List Cond := .code y_Gr_doorCount prog_5_method_5_code 1 (some .int) :: mz_tb
def dl_Gr_doorCount : List (Nat × ClassFile.Instr × Nat) := [(0, .aload_n 0, 1), (1, .getfield 42, 3), (4, .ireturn, 1)]
theorem d_Gr_doorCount : mz_dec prog_5_method_5_code dl_Gr_doorCount = true := by decide +kernel
def y_Gr_edition : MethodName := ⟨"MazeForms$Grid", "edition", "()I"⟩
abbrev w_Gr_edition : List Cond := .code y_Gr_edition prog_5_method_6_code 1 (some .int) :: mz_tb
def dl_Gr_edition : List (Nat × ClassFile.Instr × Nat) := [(0, .aload_n 0, 1), (1, .getfield 45, 3), (4, .ireturn, 1)]
theorem d_Gr_edition : mz_dec prog_5_method_6_code dl_Gr_edition = true := by decide +kernel
def y_Gr_isCell : MethodName := ⟨"MazeForms$Grid", "isCell", "(I)Z"⟩
abbrev w_Gr_isCell : List Cond := .code y_Gr_isCell prog_5_method_8_code 2 (some .boolean) :: mz_tb
def dl_Gr_isCell : List (Nat × ClassFile.Instr × Nat) := [(0, .iload_n 1, 1), (1, .ifCond .lt (16), 3), (4, .iload_n 1, 1), (5, .aload_n 0, 1), (6, .getfield 22, 3), (9, .arraylength, 1), (10, .if_icmp .ge (7), 3), (13, .iconst (1), 1), (14, .goto (4), 3), (17, .iconst (0), 1), (18, .ireturn, 1)]
theorem d_Gr_isCell : mz_dec prog_5_method_8_code dl_Gr_isCell = true := by decide +kernel
def y_Gr_isFree : MethodName := ⟨"MazeForms$Grid", "isFree", "(I)Z"⟩
abbrev w_Gr_isFree : List Cond := .code y_Gr_isFree prog_5_method_9_code 2 (some .boolean) :: mz_tb
def dl_Gr_isFree : List (Nat × ClassFile.Instr × Nat) := [(0, .aload_n 0, 1), (1, .iload_n 1, 1), (2, .invokevirtual 48, 3), (5, .ifCond .eq (16), 3), (8, .aload_n 0, 1), (9, .getfield 22, 3), (12, .iload_n 1, 1), (13, .baload, 1), (14, .ifCond .ne (7), 3), (17, .iconst (1), 1), (18, .goto (4), 3), (21, .iconst (0), 1), (22, .ireturn, 1)]
theorem d_Gr_isFree : mz_dec prog_5_method_9_code dl_Gr_isFree = true := by decide +kernel
def y_Gr_isDoor : MethodName := ⟨"MazeForms$Grid", "isDoor", "(I)Z"⟩
abbrev w_Gr_isDoor : List Cond := .code y_Gr_isDoor prog_5_method_10_code 2 (some .boolean) :: mz_tb
def dl_Gr_isDoor : List (Nat × ClassFile.Instr × Nat) := [(0, .iload_n 1, 1), (1, .ifCond .lt (24), 3), (4, .iload_n 1, 1), (5, .aload_n 0, 1), (6, .getfield 42, 3), (9, .if_icmp .ge (16), 3), (12, .iload_n 1, 1), (13, .aload_n 0, 1), (14, .getfield 36, 3), (17, .arraylength, 1), (18, .if_icmp .ge (7), 3), (21, .iconst (1), 1), (22, .goto (4), 3), (25, .iconst (0), 1), (26, .ireturn, 1)]
theorem d_Gr_isDoor : mz_dec prog_5_method_10_code dl_Gr_isDoor = true := by decide +kernel
def y_Gr_isOpen : MethodName := ⟨"MazeForms$Grid", "isOpen", "(I)Z"⟩
abbrev w_Gr_isOpen : List Cond := .code y_Gr_isOpen prog_5_method_11_code 2 (some .boolean) :: mz_tb
def dl_Gr_isOpen : List (Nat × ClassFile.Instr × Nat) := [(0, .aload_n 0, 1), (1, .iload_n 1, 1), (2, .invokevirtual 52, 3), (5, .ifCond .eq (16), 3), (8, .aload_n 0, 1), (9, .getfield 36, 3), (12, .iload_n 1, 1), (13, .baload, 1), (14, .ifCond .eq (7), 3), (17, .iconst (1), 1), (18, .goto (4), 3), (21, .iconst (0), 1), (22, .ireturn, 1)]
theorem d_Gr_isOpen : mz_dec prog_5_method_11_code dl_Gr_isOpen = true := by decide +kernel
def y_Gr_lesserCell : MethodName := ⟨"MazeForms$Grid", "lesserCell", "(I)I"⟩
abbrev w_Gr_lesserCell : List Cond := .code y_Gr_lesserCell prog_5_method_17_code 2 (some .int) :: mz_tb
def dl_Gr_lesserCell : List (Nat × ClassFile.Instr × Nat) := [(0, .aload_n 0, 1), (1, .iload_n 1, 1), (2, .invokevirtual 52, 3), (5, .ifCond .eq (12), 3), (8, .aload_n 0, 1), (9, .getfield 30, 3), (12, .iload_n 1, 1), (13, .iaload, 1), (14, .goto (4), 3), (17, .iconst (-1), 1), (18, .ireturn, 1)]
theorem d_Gr_lesserCell : mz_dec prog_5_method_17_code dl_Gr_lesserCell = true := by decide +kernel
def y_Gr_greaterCell : MethodName := ⟨"MazeForms$Grid", "greaterCell", "(I)I"⟩
abbrev w_Gr_greaterCell : List Cond := .code y_Gr_greaterCell prog_5_method_18_code 2 (some .int) :: mz_tb
def dl_Gr_greaterCell : List (Nat × ClassFile.Instr × Nat) := [(0, .aload_n 0, 1), (1, .iload_n 1, 1), (2, .invokevirtual 52, 3), (5, .ifCond .eq (12), 3), (8, .aload_n 0, 1), (9, .getfield 33, 3), (12, .iload_n 1, 1), (13, .iaload, 1), (14, .goto (4), 3), (17, .iconst (-1), 1), (18, .ireturn, 1)]
theorem d_Gr_greaterCell : mz_dec prog_5_method_18_code dl_Gr_greaterCell = true := by decide +kernel
def y_Gr_cellAt : MethodName := ⟨"MazeForms$Grid", "cellAt", "(II)I"⟩
abbrev w_Gr_cellAt : List Cond := .code y_Gr_cellAt prog_5_method_7_code 4 (some .int) :: mz_tb
def dl_Gr_cellAt : List (Nat × ClassFile.Instr × Nat) := [(0, .iload_n 1, 1), (1, .ifCond .lt (27), 3), (4, .iload_n 1, 1), (5, .aload_n 0, 1), (6, .getfield 15, 3), (9, .if_icmp .ge (19), 3), (12, .iload_n 2, 1), (13, .ifCond .lt (15), 3), (16, .iload_n 2, 1), (17, .aload_n 0, 1), (18, .getfield 19, 3), (21, .if_icmp .ge (7), 3), (24, .iconst (1), 1), (25, .goto (4), 3), (28, .iconst (0), 1), (29, .istore_n 3, 1), (30, .iload_n 3, 1), (31, .ifCond .eq (14), 3), (34, .iload_n 1, 1), (35, .aload_n 0, 1), (36, .getfield 15, 3), (39, .iload_n 2, 1), (40, .imul, 1), (41, .iadd, 1), (42, .goto (4), 3), (45, .iconst (-1), 1), (46, .ireturn, 1)]
theorem d_Gr_cellAt : mz_dec prog_5_method_7_code dl_Gr_cellAt = true := by decide +kernel
def y_Gr_doorOn : MethodName := ⟨"MazeForms$Grid", "doorOn", "(II)I"⟩
abbrev w_Gr_doorOn : List Cond := .code y_Gr_doorOn prog_5_method_15_code 4 (some .int) :: mz_tb
def dl_Gr_doorOn : List (Nat × ClassFile.Instr × Nat) := [(0, .aload_n 0, 1), (1, .iload_n 1, 1), (2, .invokevirtual 48, 3), (5, .ifCond .eq (16), 3), (8, .iload_n 2, 1), (9, .ifCond .lt (12), 3), (12, .iload_n 2, 1), (13, .iconst (4), 1), (14, .if_icmp .ge (7), 3), (17, .iconst (1), 1), (18, .goto (4), 3), (21, .iconst (0), 1), (22, .istore_n 3, 1), (23, .iload_n 3, 1), (24, .ifCond .eq (16), 3), (27, .aload_n 0, 1), (28, .getfield 26, 3), (31, .iconst (4), 1), (32, .iload_n 1, 1), (33, .imul, 1), (34, .iload_n 2, 1), (35, .iadd, 1), (36, .iaload, 1), (37, .goto (4), 3), (40, .iconst (-1), 1), (41, .ireturn, 1)]
theorem d_Gr_doorOn : mz_dec prog_5_method_15_code dl_Gr_doorOn = true := by decide +kernel
def y_Gr_otherCell : MethodName := ⟨"MazeForms$Grid", "otherCell", "(II)I"⟩
abbrev w_Gr_otherCell : List Cond := .code y_Gr_otherCell prog_5_method_19_code 3 (some .int) :: mz_tb
def dl_Gr_otherCell : List (Nat × ClassFile.Instr × Nat) := [(0, .aload_n 0, 1), (1, .iload_n 1, 1), (2, .invokevirtual 52, 3), (5, .ifCond .ne (5), 3), (8, .iconst (-1), 1), (9, .ireturn, 1), (10, .aload_n 0, 1), (11, .getfield 30, 3), (14, .iload_n 1, 1), (15, .iaload, 1), (16, .iload_n 2, 1), (17, .if_icmp .ne (12), 3), (20, .aload_n 0, 1), (21, .getfield 33, 3), (24, .iload_n 1, 1), (25, .iaload, 1), (26, .goto (9), 3), (29, .aload_n 0, 1), (30, .getfield 30, 3), (33, .iload_n 1, 1), (34, .iaload, 1), (35, .ireturn, 1)]
theorem d_Gr_otherCell : mz_dec prog_5_method_19_code dl_Gr_otherCell = true := by decide +kernel
def I_Gr_width (w h : Nat) : List (Nat × mz_Op) := [(0, mz_lda 0 1), (1, mz_gf 3 0 4), (4, mz_ri)]
def I_Gr_cellCount (w h : Nat) : List (Nat × mz_Op) := [(0, mz_lda 0 1), (1, mz_gf 3 2 4), (4, mz_al 5), (5, mz_ri)]
def I_Gr_mostDoors (w h : Nat) : List (Nat × mz_Op) := [(0, mz_lda 0 1), (1, mz_gf 3 6 4), (4, mz_al 5), (5, mz_ri)]
def I_Gr_doorCount (w h : Nat) : List (Nat × mz_Op) := [(0, mz_lda 0 1), (1, mz_gf 3 7 4), (4, mz_ri)]
def I_Gr_edition (w h : Nat) : List (Nat × mz_Op) := [(0, mz_lda 0 1), (1, mz_gf 3 8 4), (4, mz_ri)]
def I_Gr_isCell (w h : Nat) : List (Nat × mz_Op) := [(0, mz_ldi 1 1), (1, mz_if (fun x => x < 0) 17 4), (4, mz_ldi 1 5), (5, mz_lda 0 6), (6, mz_gf 3 2 9), (9, mz_al 10), (10, mz_ic (fun x y => y ≤ x) 17 13), (13, mz_push (.int (1)) 14), (14, mz_go 18), (17, mz_push (.int (0)) 18), (18, mz_rz)]
def I_Gr_isFree (w h : Nat) : List (Nat × mz_Op) := [(0, mz_lda 0 1), (1, mz_ldi 1 2), (2, mz_ci 2 3 (C_Gr_isCell w h) 5), (5, mz_if (fun x => x = 0) 21 8), (8, mz_lda 0 9), (9, mz_gf 3 2 12), (12, mz_ldi 1 13), (13, mz_iald 1 14), (14, mz_if (fun x => x = 0) 17 21), (17, mz_push (.int (1)) 18), (18, mz_go 22), (21, mz_push (.int (0)) 22), (22, mz_rz)]
def I_Gr_isDoor (w h : Nat) : List (Nat × mz_Op) := [(0, mz_ldi 1 1), (1, mz_if (fun x => x < 0) 25 4), (4, mz_ldi 1 5), (5, mz_lda 0 6), (6, mz_gf 3 7 9), (9, mz_ic (fun x y => y ≤ x) 25 12), (12, mz_ldi 1 13), (13, mz_lda 0 14), (14, mz_gf 3 6 17), (17, mz_al 18), (18, mz_ic (fun x y => y ≤ x) 25 21), (21, mz_push (.int (1)) 22), (22, mz_go 26), (25, mz_push (.int (0)) 26), (26, mz_rz)]
def I_Gr_isOpen (w h : Nat) : List (Nat × mz_Op) := [(0, mz_lda 0 1), (1, mz_ldi 1 2), (2, mz_ci 2 3 (C_Gr_isDoor w h) 5), (5, mz_if (fun x => x = 0) 21 8), (8, mz_lda 0 9), (9, mz_gf 3 6 12), (12, mz_ldi 1 13), (13, mz_iald 1 14), (14, mz_if (fun x => x = 0) 21 17), (17, mz_push (.int (1)) 18), (18, mz_go 22), (21, mz_push (.int (0)) 22), (22, mz_rz)]
def I_Gr_lesserCell (w h : Nat) : List (Nat × mz_Op) := [(0, mz_lda 0 1), (1, mz_ldi 1 2), (2, mz_ci 2 3 (C_Gr_isDoor w h) 5), (5, mz_if (fun x => x = 0) 17 8), (8, mz_lda 0 9), (9, mz_gf 3 4 12), (12, mz_ldi 1 13), (13, mz_iald 0 14), (14, mz_go 18), (17, mz_push (.int (-1)) 18), (18, mz_ri)]
def I_Gr_greaterCell (w h : Nat) : List (Nat × mz_Op) := [(0, mz_lda 0 1), (1, mz_ldi 1 2), (2, mz_ci 2 3 (C_Gr_isDoor w h) 5), (5, mz_if (fun x => x = 0) 17 8), (8, mz_lda 0 9), (9, mz_gf 3 5 12), (12, mz_ldi 1 13), (13, mz_iald 0 14), (14, mz_go 18), (17, mz_push (.int (-1)) 18), (18, mz_ri)]
def I_Gr_cellAt (w h : Nat) : List (Nat × mz_Op) := [(0, mz_ldi 1 1), (1, mz_if (fun x => x < 0) 28 4), (4, mz_ldi 1 5), (5, mz_lda 0 6), (6, mz_gf 3 0 9), (9, mz_ic (fun x y => y ≤ x) 28 12), (12, mz_ldi 2 13), (13, mz_if (fun x => x < 0) 28 16), (16, mz_ldi 2 17), (17, mz_lda 0 18), (18, mz_gf 3 1 21), (21, mz_ic (fun x y => y ≤ x) 28 24), (24, mz_push (.int (1)) 25), (25, mz_go 29), (28, mz_push (.int (0)) 29), (29, mz_sti 3 30), (30, mz_ldi 3 31), (31, mz_if (fun x => x = 0) 45 34), (34, mz_ldi 1 35), (35, mz_lda 0 36), (36, mz_gf 3 0 39), (39, mz_ldi 2 40), (40, mz_bi (fun x y => x * y) 41), (41, mz_bi (fun x y => x + y) 42), (42, mz_go 46), (45, mz_push (.int (-1)) 46), (46, mz_ri)]
def I_Gr_doorOn (w h : Nat) : List (Nat × mz_Op) := [(0, mz_lda 0 1), (1, mz_ldi 1 2), (2, mz_ci 2 3 (C_Gr_isCell w h) 5), (5, mz_if (fun x => x = 0) 21 8), (8, mz_ldi 2 9), (9, mz_if (fun x => x < 0) 21 12), (12, mz_ldi 2 13), (13, mz_push (.int (4)) 14), (14, mz_ic (fun x y => y ≤ x) 21 17), (17, mz_push (.int (1)) 18), (18, mz_go 22), (21, mz_push (.int (0)) 22), (22, mz_sti 3 23), (23, mz_ldi 3 24), (24, mz_if (fun x => x = 0) 40 27), (27, mz_lda 0 28), (28, mz_gf 3 3 31), (31, mz_push (.int (4)) 32), (32, mz_ldi 1 33), (33, mz_bi (fun x y => x * y) 34), (34, mz_ldi 2 35), (35, mz_bi (fun x y => x + y) 36), (36, mz_iald 0 37), (37, mz_go 41), (40, mz_push (.int (-1)) 41), (41, mz_ri)]
def I_Gr_otherCell (w h : Nat) : List (Nat × mz_Op) := [(0, mz_lda 0 1), (1, mz_ldi 1 2), (2, mz_ci 2 3 (C_Gr_isDoor w h) 5), (5, mz_if (fun x => x = 0) 8 10), (8, mz_push (.int (-1)) 9), (9, mz_ri), (10, mz_lda 0 11), (11, mz_gf 3 4 14), (14, mz_ldi 1 15), (15, mz_iald 0 16), (16, mz_ldi 2 17), (17, mz_ic (fun x y => x = y) 20 29), (20, mz_lda 0 21), (21, mz_gf 3 5 24), (24, mz_ldi 1 25), (25, mz_iald 0 26), (26, mz_go 35), (29, mz_lda 0 30), (30, mz_gf 3 4 33), (33, mz_ldi 1 34), (34, mz_iald 0 35), (35, mz_ri)]
/-- how many of the first n there are -/
def mz_cnt (f : Nat → Bool) (n : Nat) : Nat := match n with
  | 0 => 0
  | k + 1 => mz_cnt f k + (match f k with
    | true => 1
    | false => 0)
/-- the first k places of row p are v -/
def mz_fil {α : Type} (f : Nat → Nat → α) (p k : Nat) (v : α) : Nat → Nat → α := fun a b => if a = p ∧ b < k then v else f a b
def zg_fre (X : mz_X) (c : Nat) : Bool := decide (X.1 2 c = 0)
/-- the least cell that is not masked, from i on -/
def zg_fst (X : mz_X) (n i : Nat) : Int32 := match n with
  | 0 => -1
  | k + 1 => match zg_fre X i with
    | true => nI i
    | false => zg_fst X k (i + 1)
def zg_closeX (w h : Nat) (X : mz_X) : mz_X := (mz_up (mz_fil X.1 6 (mz_dn w h) 0) 1 8 (X.1 1 8 + 1), X.2)
def zg_setX (X : mz_X) (d v : Int32) : mz_X := (mz_up (mz_up X.1 6 d.toNatClampNeg v) 1 8 (X.1 1 8 + 1), X.2)
def zg_setB (w h : Nat) (X : mz_X) (d v : Int32) : Bool := zg_door w h X d && !decide (X.1 6 d.toNatClampNeg = v)
/-- what addDoor does -/
def zg_addB (w h : Nat) (X : mz_X) (c o : Int32) : Bool := zg_free w h X c && zg_free w h X o && decide (X.1 1 7 < nI (mz_dn w h))
def zg_addX (X : mz_X) (c s o t : Int32) : mz_X := (mz_up (mz_up (mz_up (mz_up (mz_up X.1 4 (X.1 1 7).toNatClampNeg c) 5 (X.1 1 7).toNatClampNeg o) 3 (4 * c + s).toNatClampNeg (X.1 1 7)) 3 (4 * o + t).toNatClampNeg (X.1 1 7)) 1 7 (X.1 1 7 + 1), X.2)
def zg_add (w h : Nat) (X : mz_X) (c s o t : Int32) : mz_X := match zg_addB w h X c o with
  | true => zg_addX X c s o t
  | false => X
def C_Gr_freeCells (w h : Nat) : mz_CI := fun lay as X Q => match as with
  | [.ref 1] => lay = mz_lay w h ∧ mz_geo w h ∧ Q (nI (mz_cnt (zg_fre X) (w * h))) X
  | _ => False
def C_Gr_firstCell (w h : Nat) : mz_CI := fun lay as X Q => match as with
  | [.ref 1] => lay = mz_lay w h ∧ mz_geo w h ∧ Q (zg_fst X (w * h) 0) X
  | _ => False
def C_Gr_openDoors (w h : Nat) : mz_CI := fun lay as X Q => match as with
  | [.ref 1] => lay = mz_lay w h ∧ mz_geo w h ∧ ∃ D : Nat, D < 2 ^ 31 ∧ X.1 1 7 = nI D ∧ Q (nI (mz_cnt (fun i => zg_open w h X (nI i)) D)) X
  | _ => False
def C_Gr_openSides (w h : Nat) : mz_CI := fun lay as X Q => match as with
  | [.ref 1, .int c] => lay = mz_lay w h ∧ mz_geo w h ∧ Q (nI (mz_cnt (fun s => zg_open w h X (zg_on w h X c (nI s))) 4)) X
  | _ => False
def C_Gr_setDoor (w h : Nat) : mz_CI := fun lay as X Q => match as with
  | [.ref 1, .int d, .int v] => lay = mz_lay w h ∧ mz_geo w h ∧ (v = 0 ∨ v = 1) ∧ Q (mz_b (zg_setB w h X d v)) (match zg_setB w h X d v with
    | true => zg_setX X d v
    | false => X)
  | _ => False
def C_Gr_closeDoors (w h : Nat) : mz_CV := fun lay as X Q => match as with
  | [.ref 1] => lay = mz_lay w h ∧ mz_geo w h ∧ Q (zg_closeX w h X)
  | _ => False
def C_Gr_addDoor (w h : Nat) : mz_CV := fun lay as X Q => match as with
  | [.ref 1, .int c, .int s, .int o, .int t] => lay = mz_lay w h ∧ mz_geo w h ∧ (¬ X.1 1 7 < 0) ∧ (¬ s < 0 ∧ ¬ 4 ≤ s) ∧ (¬ t < 0 ∧ ¬ 4 ≤ t) ∧ Q (zg_add w h X c s o t)
  | _ => False
def y_Gr_freeCells : MethodName := ⟨"MazeForms$Grid", "freeCells", "()I"⟩
abbrev w_Gr_freeCells : List Cond := .code y_Gr_freeCells prog_5_method_12_code 3 (some .int) :: mz_tb
def dl_Gr_freeCells : List (Nat × ClassFile.Instr × Nat) := [(0, .iconst (0), 1), (1, .istore_n 1, 1), (2, .iconst (0), 1), (3, .istore_n 2, 1), (4, .iload_n 2, 1), (5, .aload_n 0, 1), (6, .getfield 22, 3), (9, .arraylength, 1), (10, .if_icmp .ge (21), 3), (13, .aload_n 0, 1), (14, .getfield 22, 3), (17, .iload_n 2, 1), (18, .baload, 1), (19, .ifCond .ne (6), 3), (22, .iinc 1 (1), 3), (25, .iinc 2 (1), 3), (28, .goto (-24), 3), (31, .iload_n 1, 1), (32, .ireturn, 1)]
theorem d_Gr_freeCells : mz_dec prog_5_method_12_code dl_Gr_freeCells = true := by decide +kernel
def y_Gr_firstCell : MethodName := ⟨"MazeForms$Grid", "firstCell", "()I"⟩
abbrev w_Gr_firstCell : List Cond := .code y_Gr_firstCell prog_5_method_13_code 2 (some .int) :: mz_tb
def dl_Gr_firstCell : List (Nat × ClassFile.Instr × Nat) := [(0, .iconst (0), 1), (1, .istore_n 1, 1), (2, .iload_n 1, 1), (3, .aload_n 0, 1), (4, .getfield 22, 3), (7, .arraylength, 1), (8, .if_icmp .ge (20), 3), (11, .aload_n 0, 1), (12, .getfield 22, 3), (15, .iload_n 1, 1), (16, .baload, 1), (17, .ifCond .ne (5), 3), (20, .iload_n 1, 1), (21, .ireturn, 1), (22, .iinc 1 (1), 3), (25, .goto (-23), 3), (28, .iconst (-1), 1), (29, .ireturn, 1)]
theorem d_Gr_firstCell : mz_dec prog_5_method_13_code dl_Gr_firstCell = true := by decide +kernel
def y_Gr_openDoors : MethodName := ⟨"MazeForms$Grid", "openDoors", "()I"⟩
abbrev w_Gr_openDoors : List Cond := .code y_Gr_openDoors prog_5_method_14_code 3 (some .int) :: mz_tb
def dl_Gr_openDoors : List (Nat × ClassFile.Instr × Nat) := [(0, .iconst (0), 1), (1, .istore_n 1, 1), (2, .iconst (0), 1), (3, .istore_n 2, 1), (4, .iload_n 2, 1), (5, .aload_n 0, 1), (6, .getfield 42, 3), (9, .if_icmp .ge (20), 3), (12, .aload_n 0, 1), (13, .iload_n 2, 1), (14, .invokevirtual 55, 3), (17, .ifCond .eq (6), 3), (20, .iinc 1 (1), 3), (23, .iinc 2 (1), 3), (26, .goto (-22), 3), (29, .iload_n 1, 1), (30, .ireturn, 1)]
theorem d_Gr_openDoors : mz_dec prog_5_method_14_code dl_Gr_openDoors = true := by decide +kernel
def y_Gr_openSides : MethodName := ⟨"MazeForms$Grid", "openSides", "(I)I"⟩
abbrev w_Gr_openSides : List Cond := .code y_Gr_openSides prog_5_method_16_code 4 (some .int) :: mz_tb
def dl_Gr_openSides : List (Nat × ClassFile.Instr × Nat) := [(0, .iconst (0), 1), (1, .istore_n 2, 1), (2, .iconst (0), 1), (3, .istore_n 3, 1), (4, .iload_n 3, 1), (5, .iconst (4), 1), (6, .if_icmp .ge (25), 3), (9, .aload_n 0, 1), (10, .aload_n 0, 1), (11, .iload_n 1, 1), (12, .iload_n 3, 1), (13, .invokevirtual 58, 3), (16, .invokevirtual 55, 3), (19, .ifCond .eq (6), 3), (22, .iinc 2 (1), 3), (25, .iinc 3 (1), 3), (28, .goto (-24), 3), (31, .iload_n 2, 1), (32, .ireturn, 1)]
theorem d_Gr_openSides : mz_dec prog_5_method_16_code dl_Gr_openSides = true := by decide +kernel
def y_Gr_setDoor : MethodName := ⟨"MazeForms$Grid", "setDoor", "(IZ)Z"⟩
abbrev w_Gr_setDoor : List Cond := .code y_Gr_setDoor prog_5_method_20_code 3 (some .boolean) :: mz_tb
def dl_Gr_setDoor : List (Nat × ClassFile.Instr × Nat) := [(0, .aload_n 0, 1), (1, .iload_n 1, 1), (2, .invokevirtual 52, 3), (5, .ifCond .eq (13), 3), (8, .aload_n 0, 1), (9, .getfield 36, 3), (12, .iload_n 1, 1), (13, .baload, 1), (14, .iload_n 2, 1), (15, .if_icmp .ne (5), 3), (18, .iconst (0), 1), (19, .ireturn, 1), (20, .aload_n 0, 1), (21, .getfield 36, 3), (24, .iload_n 1, 1), (25, .iload_n 2, 1), (26, .bastore, 1), (27, .aload_n 0, 1), (28, .dup, 1), (29, .getfield 45, 3), (32, .iconst (1), 1), (33, .iadd, 1), (34, .putfield 45, 3), (37, .iconst (1), 1), (38, .ireturn, 1)]
theorem d_Gr_setDoor : mz_dec prog_5_method_20_code dl_Gr_setDoor = true := by decide +kernel
def y_Gr_closeDoors : MethodName := ⟨"MazeForms$Grid", "closeDoors", "()V"⟩
abbrev w_Gr_closeDoors : List Cond := .code y_Gr_closeDoors prog_5_method_22_code 2 none :: mz_tb
def dl_Gr_closeDoors : List (Nat × ClassFile.Instr × Nat) := [(0, .iconst (0), 1), (1, .istore_n 1, 1), (2, .iload_n 1, 1), (3, .aload_n 0, 1), (4, .getfield 36, 3), (7, .arraylength, 1), (8, .if_icmp .ge (16), 3), (11, .aload_n 0, 1), (12, .getfield 36, 3), (15, .iload_n 1, 1), (16, .iconst (0), 1), (17, .bastore, 1), (18, .iinc 1 (1), 3), (21, .goto (-19), 3), (24, .aload_n 0, 1), (25, .dup, 1), (26, .getfield 45, 3), (29, .iconst (1), 1), (30, .iadd, 1), (31, .putfield 45, 3), (34, .return_, 1)]
theorem d_Gr_closeDoors : mz_dec prog_5_method_22_code dl_Gr_closeDoors = true := by decide +kernel
def y_Gr_addDoor : MethodName := ⟨"MazeForms$Grid", "addDoor", "(IIII)V"⟩
abbrev w_Gr_addDoor : List Cond := .code y_Gr_addDoor prog_5_method_25_code 5 none :: mz_tb
def dl_Gr_addDoor : List (Nat × ClassFile.Instr × Nat) := [(0, .aload_n 0, 1), (1, .iload_n 1, 1), (2, .invokevirtual 86, 3), (5, .ifCond .eq (23), 3), (8, .aload_n 0, 1), (9, .iload_n 3, 1), (10, .invokevirtual 86, 3), (13, .ifCond .eq (15), 3), (16, .aload_n 0, 1), (17, .getfield 42, 3), (20, .aload_n 0, 1), (21, .getfield 36, 3), (24, .arraylength, 1), (25, .if_icmp .lt (4), 3), (28, .return_, 1), (29, .aload_n 0, 1), (30, .getfield 30, 3), (33, .aload_n 0, 1), (34, .getfield 42, 3), (37, .iload_n 1, 1), (38, .iastore, 1), (39, .aload_n 0, 1), (40, .getfield 33, 3), (43, .aload_n 0, 1), (44, .getfield 42, 3), (47, .iload_n 3, 1), (48, .iastore, 1), (49, .aload_n 0, 1), (50, .getfield 26, 3), (53, .iconst (4), 1), (54, .iload_n 1, 1), (55, .imul, 1), (56, .iload_n 2, 1), (57, .iadd, 1), (58, .aload_n 0, 1), (59, .getfield 42, 3), (62, .iastore, 1), (63, .aload_n 0, 1), (64, .getfield 26, 3), (67, .iconst (4), 1), (68, .iload_n 3, 1), (69, .imul, 1), (70, .iload 4, 2), (72, .iadd, 1), (73, .aload_n 0, 1), (74, .getfield 42, 3), (77, .iastore, 1), (78, .aload_n 0, 1), (79, .dup, 1), (80, .getfield 42, 3), (83, .iconst (1), 1), (84, .iadd, 1), (85, .putfield 42, 3), (88, .return_, 1)]
theorem d_Gr_addDoor : mz_dec prog_5_method_25_code dl_Gr_addDoor = true := by decide +kernel
def I_Gr_freeCells (w h : Nat) : List (Nat × mz_Op) := [(0, mz_push (.int (0)) 1), (1, mz_sti 1 2), (2, mz_push (.int (0)) 3), (3, mz_sti 2 4), (4, mz_ldi 2 5), (5, mz_lda 0 6), (6, mz_gf 3 2 9), (9, mz_al 10), (10, mz_ic (fun x y => y ≤ x) 31 13), (13, mz_lda 0 14), (14, mz_gf 3 2 17), (17, mz_ldi 2 18), (18, mz_iald 1 19), (19, mz_if (fun x => x = 0) 22 25), (22, mz_inc 1 (1) 25), (25, mz_inc 2 (1) 28), (28, mz_go 4), (31, mz_ldi 1 32), (32, mz_ri)]
def I_Gr_firstCell (w h : Nat) : List (Nat × mz_Op) := [(0, mz_push (.int (0)) 1), (1, mz_sti 1 2), (2, mz_ldi 1 3), (3, mz_lda 0 4), (4, mz_gf 3 2 7), (7, mz_al 8), (8, mz_ic (fun x y => y ≤ x) 28 11), (11, mz_lda 0 12), (12, mz_gf 3 2 15), (15, mz_ldi 1 16), (16, mz_iald 1 17), (17, mz_if (fun x => x = 0) 20 22), (20, mz_ldi 1 21), (21, mz_ri), (22, mz_inc 1 (1) 25), (25, mz_go 2), (28, mz_push (.int (-1)) 29), (29, mz_ri)]
def I_Gr_openDoors (w h : Nat) : List (Nat × mz_Op) := [(0, mz_push (.int (0)) 1), (1, mz_sti 1 2), (2, mz_push (.int (0)) 3), (3, mz_sti 2 4), (4, mz_ldi 2 5), (5, mz_lda 0 6), (6, mz_gf 3 7 9), (9, mz_ic (fun x y => y ≤ x) 29 12), (12, mz_lda 0 13), (13, mz_ldi 2 14), (14, mz_ci 2 3 (C_Gr_isOpen w h) 17), (17, mz_if (fun x => x = 0) 23 20), (20, mz_inc 1 (1) 23), (23, mz_inc 2 (1) 26), (26, mz_go 4), (29, mz_ldi 1 30), (30, mz_ri)]
def I_Gr_openSides (w h : Nat) : List (Nat × mz_Op) := [(0, mz_push (.int (0)) 1), (1, mz_sti 2 2), (2, mz_push (.int (0)) 3), (3, mz_sti 3 4), (4, mz_ldi 3 5), (5, mz_push (.int (4)) 6), (6, mz_ic (fun x y => y ≤ x) 31 9), (9, mz_lda 0 10), (10, mz_lda 0 11), (11, mz_ldi 1 12), (12, mz_ldi 3 13), (13, mz_ci 3 3 (C_Gr_doorOn w h) 16), (16, mz_ci 2 3 (C_Gr_isOpen w h) 19), (19, mz_if (fun x => x = 0) 25 22), (22, mz_inc 2 (1) 25), (25, mz_inc 3 (1) 28), (28, mz_go 4), (31, mz_ldi 2 32), (32, mz_ri)]
def I_Gr_setDoor (w h : Nat) : List (Nat × mz_Op) := [(0, mz_lda 0 1), (1, mz_ldi 1 2), (2, mz_ci 2 3 (C_Gr_isDoor w h) 5), (5, mz_if (fun x => x = 0) 18 8), (8, mz_lda 0 9), (9, mz_gf 3 6 12), (12, mz_ldi 1 13), (13, mz_iald 1 14), (14, mz_ldi 2 15), (15, mz_ic (fun x y => x = y) 18 20), (18, mz_push (.int (0)) 19), (19, mz_rz), (20, mz_lda 0 21), (21, mz_gf 3 6 24), (24, mz_ldi 1 25), (25, mz_ldi 2 26), (26, mz_iast 1 27), (27, mz_lda 0 28), (28, mz_dup 29), (29, mz_gf 3 8 32), (32, mz_push (.int (1)) 33), (33, mz_bi (fun x y => x + y) 34), (34, mz_pfi 3 8 37), (37, mz_push (.int (1)) 38), (38, mz_rz)]
def I_Gr_closeDoors (w h : Nat) : List (Nat × mz_Op) := [(0, mz_push (.int (0)) 1), (1, mz_sti 1 2), (2, mz_ldi 1 3), (3, mz_lda 0 4), (4, mz_gf 3 6 7), (7, mz_al 8), (8, mz_ic (fun x y => y ≤ x) 24 11), (11, mz_lda 0 12), (12, mz_gf 3 6 15), (15, mz_ldi 1 16), (16, mz_push (.int (0)) 17), (17, mz_iast 1 18), (18, mz_inc 1 (1) 21), (21, mz_go 2), (24, mz_lda 0 25), (25, mz_dup 26), (26, mz_gf 3 8 29), (29, mz_push (.int (1)) 30), (30, mz_bi (fun x y => x + y) 31), (31, mz_pfi 3 8 34), (34, mz_rv)]
def I_Gr_addDoor (w h : Nat) : List (Nat × mz_Op) := [(0, mz_lda 0 1), (1, mz_ldi 1 2), (2, mz_ci 2 3 (C_Gr_isFree w h) 5), (5, mz_if (fun x => x = 0) 28 8), (8, mz_lda 0 9), (9, mz_ldi 3 10), (10, mz_ci 2 3 (C_Gr_isFree w h) 13), (13, mz_if (fun x => x = 0) 28 16), (16, mz_lda 0 17), (17, mz_gf 3 7 20), (20, mz_lda 0 21), (21, mz_gf 3 6 24), (24, mz_al 25), (25, mz_ic (fun x y => x < y) 29 28), (28, mz_rv), (29, mz_lda 0 30), (30, mz_gf 3 4 33), (33, mz_lda 0 34), (34, mz_gf 3 7 37), (37, mz_ldi 1 38), (38, mz_iast 0 39), (39, mz_lda 0 40), (40, mz_gf 3 5 43), (43, mz_lda 0 44), (44, mz_gf 3 7 47), (47, mz_ldi 3 48), (48, mz_iast 0 49), (49, mz_lda 0 50), (50, mz_gf 3 3 53), (53, mz_push (.int (4)) 54), (54, mz_ldi 1 55), (55, mz_bi (fun x y => x * y) 56), (56, mz_ldi 2 57), (57, mz_bi (fun x y => x + y) 58), (58, mz_lda 0 59), (59, mz_gf 3 7 62), (62, mz_iast 0 63), (63, mz_lda 0 64), (64, mz_gf 3 3 67), (67, mz_push (.int (4)) 68), (68, mz_ldi 3 69), (69, mz_bi (fun x y => x * y) 70), (70, mz_ldi 4 72), (72, mz_bi (fun x y => x + y) 73), (73, mz_lda 0 74), (74, mz_gf 3 7 77), (77, mz_iast 0 78), (78, mz_lda 0 79), (79, mz_dup 80), (80, mz_gf 3 7 83), (83, mz_push (.int (1)) 84), (84, mz_bi (fun x y => x + y) 85), (85, mz_pfi 3 7 88), (88, mz_rv)]
end
section
theorem mz_geo_n {w h : Nat} (g : mz_geo w h) : w * h ≤ 144 := Nat.le_trans (Nat.mul_le_mul g.2.1 g.2.2.2) (by decide)
theorem mz_geo_d {w h : Nat} (g : mz_geo w h) : mz_dn w h ≤ 288 := by
  have h1 : (w - 1) * h ≤ 12 * 12 := Nat.mul_le_mul (by have := g.2.1; omega) g.2.2.2
  have h2 : w * (h - 1) ≤ 12 * 12 := Nat.mul_le_mul g.2.1 (by have := g.2.2.2; omega)
  unfold mz_dn
  omega
theorem mz_in {x : Int32} {N : Nat} (h0 : ¬ x < 0) (h1 : ¬ nI N ≤ x) (hN : N < 2 ^ 31) : vp_in x N := by
  rw [Int32.lt_iff_toInt_lt, Int32.toInt_zero] at h0
  rw [Int32.le_iff_toInt_le, nI_toInt hN] at h1
  exact vp_in_iff.mpr (by omega)
theorem mz_lt_in {x : Int32} {N : Nat} (h : mz_lt x N = true) (hN : N < 2 ^ 31) : vp_in x N := by
  simp only [mz_lt, Bool.and_eq_true, Bool.not_eq_true', decide_eq_false_iff_not] at h
  exact mz_in h.1 h.2 hN
theorem zg_door_in {w h : Nat} {X : mz_X} {x : Int32} (g : mz_geo w h) (hd : zg_door w h X x = true) : vp_in x (mz_dn w h) := by
  simp only [zg_door, Bool.and_eq_true, Bool.not_eq_true', decide_eq_false_iff_not] at hd
  exact mz_in hd.1.1 hd.2 (Nat.lt_of_le_of_lt (mz_geo_d g) (by decide))
theorem mz_b0 {b : Bool} (h : mz_b b = 0) : b = false := by cases b <;> simp_all [mz_b]
theorem mz_b1 {b : Bool} (h : ¬ mz_b b = 0) : b = true := by cases b <;> simp_all [mz_b]
theorem mz_bt {b : Bool} (h : b = true) : mz_b b = 1 := by subst h; rfl
theorem mz_bf {b : Bool} (h : b = false) : mz_b b = 0 := by subst h; rfl
theorem mz_side_in {c s : Int32} {n : Nat} (hn : n ≤ 144) (hc : vp_in c n) (h0 : ¬ s < 0) (h1 : ¬ 4 ≤ s) : vp_in (4 * c + s) (4 * n) := by
  obtain ⟨j, hj, rfl⟩ := vp_in_of hc (by omega)
  obtain ⟨k, hk, rfl⟩ := nI_of h0
  have h4 : k < 4 := by
    rw [show (4 : Int32) = nI 4 from rfl, nI_leI (by decide) hk] at h1
    omega
  rw [show (4 : Int32) = nI 4 from rfl, pk_mul, nI_add]
  exact vp_in_nI (by omega) (by omega)
theorem len_Gr_width (w h : Nat) (lay : List mz_E) (as : List Value) (X : mz_X) (Q : Int32 → mz_X → Prop) (hC : C_Gr_width w h lay as X Q) : (mz_l0 as).length ≤ 1 := by
  unfold C_Gr_width at hC
  split at hC
  · exact Nat.le_of_ble_eq_true rfl
  · exact hC.elim
theorem ok_Gr_width (w h : Nat) (lay : List mz_E) (as : List Value) (X : mz_X) (Q : Int32 → mz_X → Prop) (hC : C_Gr_width w h lay as X Q) (K : mz_K) (hK : mz_Cl (I_Gr_width w h) (mz_qi lay Q) K) : K 0 (mz_ent 1 as) [] (lay, X) := by
  unfold C_Gr_width at hC
  split at hC
  ·
    obtain ⟨rfl, g, hq⟩ := hC
    iterate 2 refine hK _ _ _ _ ?_
    exact hK _ _ _ _ (And.intro rfl (hq))
  · exact hC.elim
theorem len_Gr_cellCount (w h : Nat) (lay : List mz_E) (as : List Value) (X : mz_X) (Q : Int32 → mz_X → Prop) (hC : C_Gr_cellCount w h lay as X Q) : (mz_l0 as).length ≤ 1 := by
  unfold C_Gr_cellCount at hC
  split at hC
  · exact Nat.le_of_ble_eq_true rfl
  · exact hC.elim
theorem ok_Gr_cellCount (w h : Nat) (lay : List mz_E) (as : List Value) (X : mz_X) (Q : Int32 → mz_X → Prop) (hC : C_Gr_cellCount w h lay as X Q) (K : mz_K) (hK : mz_Cl (I_Gr_cellCount w h) (mz_qi lay Q) K) : K 0 (mz_ent 1 as) [] (lay, X) := by
  unfold C_Gr_cellCount at hC
  split at hC
  ·
    obtain ⟨rfl, g, hq⟩ := hC
    iterate 3 refine hK _ _ _ _ ?_
    exact hK _ _ _ _ (And.intro rfl (hq))
  · exact hC.elim
theorem len_Gr_mostDoors (w h : Nat) (lay : List mz_E) (as : List Value) (X : mz_X) (Q : Int32 → mz_X → Prop) (hC : C_Gr_mostDoors w h lay as X Q) : (mz_l0 as).length ≤ 1 := by
  unfold C_Gr_mostDoors at hC
  split at hC
  · exact Nat.le_of_ble_eq_true rfl
  · exact hC.elim
theorem ok_Gr_mostDoors (w h : Nat) (lay : List mz_E) (as : List Value) (X : mz_X) (Q : Int32 → mz_X → Prop) (hC : C_Gr_mostDoors w h lay as X Q) (K : mz_K) (hK : mz_Cl (I_Gr_mostDoors w h) (mz_qi lay Q) K) : K 0 (mz_ent 1 as) [] (lay, X) := by
  unfold C_Gr_mostDoors at hC
  split at hC
  ·
    obtain ⟨rfl, g, hq⟩ := hC
    iterate 3 refine hK _ _ _ _ ?_
    exact hK _ _ _ _ (And.intro rfl (hq))
  · exact hC.elim
theorem len_Gr_doorCount (w h : Nat) (lay : List mz_E) (as : List Value) (X : mz_X) (Q : Int32 → mz_X → Prop) (hC : C_Gr_doorCount w h lay as X Q) : (mz_l0 as).length ≤ 1 := by
  unfold C_Gr_doorCount at hC
  split at hC
  · exact Nat.le_of_ble_eq_true rfl
  · exact hC.elim
theorem ok_Gr_doorCount (w h : Nat) (lay : List mz_E) (as : List Value) (X : mz_X) (Q : Int32 → mz_X → Prop) (hC : C_Gr_doorCount w h lay as X Q) (K : mz_K) (hK : mz_Cl (I_Gr_doorCount w h) (mz_qi lay Q) K) : K 0 (mz_ent 1 as) [] (lay, X) := by
  unfold C_Gr_doorCount at hC
  split at hC
  ·
    obtain ⟨rfl, g, hq⟩ := hC
    iterate 2 refine hK _ _ _ _ ?_
    exact hK _ _ _ _ (And.intro rfl (hq))
  · exact hC.elim
theorem len_Gr_edition (w h : Nat) (lay : List mz_E) (as : List Value) (X : mz_X) (Q : Int32 → mz_X → Prop) (hC : C_Gr_edition w h lay as X Q) : (mz_l0 as).length ≤ 1 := by
  unfold C_Gr_edition at hC
  split at hC
  · exact Nat.le_of_ble_eq_true rfl
  · exact hC.elim
theorem ok_Gr_edition (w h : Nat) (lay : List mz_E) (as : List Value) (X : mz_X) (Q : Int32 → mz_X → Prop) (hC : C_Gr_edition w h lay as X Q) (K : mz_K) (hK : mz_Cl (I_Gr_edition w h) (mz_qi lay Q) K) : K 0 (mz_ent 1 as) [] (lay, X) := by
  unfold C_Gr_edition at hC
  split at hC
  ·
    obtain ⟨rfl, g, hq⟩ := hC
    iterate 2 refine hK _ _ _ _ ?_
    exact hK _ _ _ _ (And.intro rfl (hq))
  · exact hC.elim
theorem len_Gr_isCell (w h : Nat) (lay : List mz_E) (as : List Value) (X : mz_X) (Q : Int32 → mz_X → Prop) (hC : C_Gr_isCell w h lay as X Q) : (mz_l0 as).length ≤ 2 := by
  unfold C_Gr_isCell at hC
  split at hC
  · exact Nat.le_of_ble_eq_true rfl
  · exact hC.elim
theorem ok_Gr_isCell (w h : Nat) (lay : List mz_E) (as : List Value) (X : mz_X) (Q : Int32 → mz_X → Prop) (hC : C_Gr_isCell w h lay as X Q) (K : mz_K) (hK : mz_Cl (I_Gr_isCell w h) (mz_qi lay Q) K) : K 0 (mz_ent 2 as) [] (lay, X) := by
  unfold C_Gr_isCell at hC
  split at hC
  · next x =>
    obtain ⟨rfl, g, hq⟩ := hC
    refine hK _ _ _ _ ?_
    refine hK _ _ _ _ (And.intro (fun c1 => ?_) (fun c1 => ?_))
    · refine hK _ _ _ _ ?_
      exact hK _ _ _ _ (And.intro (Or.inl rfl) (And.intro rfl (by simpa [mz_lt, c1, mz_b] using hq)))
    · iterate 4 refine hK _ _ _ _ ?_
      refine hK _ _ _ _ (And.intro (fun c2 => ?_) (fun c2 => ?_))
      · refine hK _ _ _ _ ?_
        exact hK _ _ _ _ (And.intro (Or.inl rfl) (And.intro rfl (by simpa [mz_lt, c2, mz_b] using hq)))
      · iterate 2 refine hK _ _ _ _ ?_
        exact hK _ _ _ _ (And.intro (Or.inr rfl) (And.intro rfl (by simpa [mz_lt, c1, c2, mz_b] using hq)))
  · exact hC.elim
theorem len_Gr_isFree (w h : Nat) (lay : List mz_E) (as : List Value) (X : mz_X) (Q : Int32 → mz_X → Prop) (hC : C_Gr_isFree w h lay as X Q) : (mz_l0 as).length ≤ 2 := by
  unfold C_Gr_isFree at hC
  split at hC
  · exact Nat.le_of_ble_eq_true rfl
  · exact hC.elim
theorem ok_Gr_isFree (w h : Nat) (lay : List mz_E) (as : List Value) (X : mz_X) (Q : Int32 → mz_X → Prop) (hC : C_Gr_isFree w h lay as X Q) (K : mz_K) (hK : mz_Cl (I_Gr_isFree w h) (mz_qi lay Q) K) : K 0 (mz_ent 2 as) [] (lay, X) := by
  unfold C_Gr_isFree at hC
  split at hC
  · next x =>
    obtain ⟨rfl, g, hq⟩ := hC
    iterate 2 refine hK _ _ _ _ ?_
    refine hK _ _ _ _ (And.intro (rfl) (And.intro (g) ?_))
    refine hK _ _ _ _ (And.intro (fun c1 => ?_) (fun c1 => ?_))
    · refine hK _ _ _ _ ?_
      exact hK _ _ _ _ (And.intro (Or.inl rfl) (And.intro rfl (by simpa [zg_free, mz_b0 c1, mz_b] using hq)))
    · iterate 3 refine hK _ _ _ _ ?_
      refine hK _ _ _ _ (And.intro (mz_lt_in (mz_b1 c1) (Nat.lt_of_le_of_lt (mz_geo_n g) (by decide))) ?_)
      refine hK _ _ _ _ (And.intro (fun c2 => ?_) (fun c2 => ?_))
      · dsimp only at c2
        iterate 2 refine hK _ _ _ _ ?_
        exact hK _ _ _ _ (And.intro (Or.inr rfl) (And.intro rfl (by simpa [zg_free, mz_b1 c1, c2, mz_b] using hq)))
      · dsimp only at c2
        refine hK _ _ _ _ ?_
        exact hK _ _ _ _ (And.intro (Or.inl rfl) (And.intro rfl (by simpa [zg_free, c2, mz_b] using hq)))
  · exact hC.elim
theorem len_Gr_isDoor (w h : Nat) (lay : List mz_E) (as : List Value) (X : mz_X) (Q : Int32 → mz_X → Prop) (hC : C_Gr_isDoor w h lay as X Q) : (mz_l0 as).length ≤ 2 := by
  unfold C_Gr_isDoor at hC
  split at hC
  · exact Nat.le_of_ble_eq_true rfl
  · exact hC.elim
theorem ok_Gr_isDoor (w h : Nat) (lay : List mz_E) (as : List Value) (X : mz_X) (Q : Int32 → mz_X → Prop) (hC : C_Gr_isDoor w h lay as X Q) (K : mz_K) (hK : mz_Cl (I_Gr_isDoor w h) (mz_qi lay Q) K) : K 0 (mz_ent 2 as) [] (lay, X) := by
  unfold C_Gr_isDoor at hC
  split at hC
  · next x =>
    obtain ⟨rfl, g, hq⟩ := hC
    refine hK _ _ _ _ ?_
    refine hK _ _ _ _ (And.intro (fun c1 => ?_) (fun c1 => ?_))
    · refine hK _ _ _ _ ?_
      exact hK _ _ _ _ (And.intro (Or.inl rfl) (And.intro rfl (by simpa [zg_door, c1, mz_b] using hq)))
    · iterate 3 refine hK _ _ _ _ ?_
      refine hK _ _ _ _ (And.intro (fun c2 => ?_) (fun c2 => ?_))
      · refine hK _ _ _ _ ?_
        exact hK _ _ _ _ (And.intro (Or.inl rfl) (And.intro rfl (by simpa [zg_door, c2, mz_b] using hq)))
      · iterate 4 refine hK _ _ _ _ ?_
        refine hK _ _ _ _ (And.intro (fun c3 => ?_) (fun c3 => ?_))
        · refine hK _ _ _ _ ?_
          exact hK _ _ _ _ (And.intro (Or.inl rfl) (And.intro rfl (by simpa [zg_door, c3, mz_b] using hq)))
        · iterate 2 refine hK _ _ _ _ ?_
          exact hK _ _ _ _ (And.intro (Or.inr rfl) (And.intro rfl (by simpa [zg_door, c1, c2, c3, mz_b] using hq)))
  · exact hC.elim
theorem len_Gr_isOpen (w h : Nat) (lay : List mz_E) (as : List Value) (X : mz_X) (Q : Int32 → mz_X → Prop) (hC : C_Gr_isOpen w h lay as X Q) : (mz_l0 as).length ≤ 2 := by
  unfold C_Gr_isOpen at hC
  split at hC
  · exact Nat.le_of_ble_eq_true rfl
  · exact hC.elim
theorem ok_Gr_isOpen (w h : Nat) (lay : List mz_E) (as : List Value) (X : mz_X) (Q : Int32 → mz_X → Prop) (hC : C_Gr_isOpen w h lay as X Q) (K : mz_K) (hK : mz_Cl (I_Gr_isOpen w h) (mz_qi lay Q) K) : K 0 (mz_ent 2 as) [] (lay, X) := by
  unfold C_Gr_isOpen at hC
  split at hC
  · next x =>
    obtain ⟨rfl, g, hq⟩ := hC
    iterate 2 refine hK _ _ _ _ ?_
    refine hK _ _ _ _ (And.intro (rfl) (And.intro (g) ?_))
    refine hK _ _ _ _ (And.intro (fun c1 => ?_) (fun c1 => ?_))
    · refine hK _ _ _ _ ?_
      exact hK _ _ _ _ (And.intro (Or.inl rfl) (And.intro rfl (by simpa [zg_open, mz_b0 c1, mz_b] using hq)))
    · iterate 3 refine hK _ _ _ _ ?_
      refine hK _ _ _ _ (And.intro (zg_door_in g (mz_b1 c1)) ?_)
      refine hK _ _ _ _ (And.intro (fun c2 => ?_) (fun c2 => ?_))
      · dsimp only at c2
        refine hK _ _ _ _ ?_
        exact hK _ _ _ _ (And.intro (Or.inl rfl) (And.intro rfl (by simpa [zg_open, c2, mz_b] using hq)))
      · dsimp only at c2
        iterate 2 refine hK _ _ _ _ ?_
        exact hK _ _ _ _ (And.intro (Or.inr rfl) (And.intro rfl (by simpa [zg_open, mz_b1 c1, c2, mz_b] using hq)))
  · exact hC.elim
theorem len_Gr_lesserCell (w h : Nat) (lay : List mz_E) (as : List Value) (X : mz_X) (Q : Int32 → mz_X → Prop) (hC : C_Gr_lesserCell w h lay as X Q) : (mz_l0 as).length ≤ 2 := by
  unfold C_Gr_lesserCell at hC
  split at hC
  · exact Nat.le_of_ble_eq_true rfl
  · exact hC.elim
theorem ok_Gr_lesserCell (w h : Nat) (lay : List mz_E) (as : List Value) (X : mz_X) (Q : Int32 → mz_X → Prop) (hC : C_Gr_lesserCell w h lay as X Q) (K : mz_K) (hK : mz_Cl (I_Gr_lesserCell w h) (mz_qi lay Q) K) : K 0 (mz_ent 2 as) [] (lay, X) := by
  unfold C_Gr_lesserCell at hC
  split at hC
  · next d =>
    obtain ⟨rfl, g, hq⟩ := hC
    iterate 2 refine hK _ _ _ _ ?_
    refine hK _ _ _ _ (And.intro (rfl) (And.intro (g) ?_))
    refine hK _ _ _ _ (And.intro (fun c1 => ?_) (fun c1 => ?_))
    · refine hK _ _ _ _ ?_
      exact hK _ _ _ _ (And.intro rfl (by simpa [zg_les, mz_b0 c1] using hq))
    · iterate 3 refine hK _ _ _ _ ?_
      refine hK _ _ _ _ (And.intro (zg_door_in g (mz_b1 c1)) ?_)
      refine hK _ _ _ _ ?_
      exact hK _ _ _ _ (And.intro rfl (by simpa [zg_les, mz_b1 c1] using hq))
  · exact hC.elim
theorem len_Gr_greaterCell (w h : Nat) (lay : List mz_E) (as : List Value) (X : mz_X) (Q : Int32 → mz_X → Prop) (hC : C_Gr_greaterCell w h lay as X Q) : (mz_l0 as).length ≤ 2 := by
  unfold C_Gr_greaterCell at hC
  split at hC
  · exact Nat.le_of_ble_eq_true rfl
  · exact hC.elim
theorem ok_Gr_greaterCell (w h : Nat) (lay : List mz_E) (as : List Value) (X : mz_X) (Q : Int32 → mz_X → Prop) (hC : C_Gr_greaterCell w h lay as X Q) (K : mz_K) (hK : mz_Cl (I_Gr_greaterCell w h) (mz_qi lay Q) K) : K 0 (mz_ent 2 as) [] (lay, X) := by
  unfold C_Gr_greaterCell at hC
  split at hC
  · next d =>
    obtain ⟨rfl, g, hq⟩ := hC
    iterate 2 refine hK _ _ _ _ ?_
    refine hK _ _ _ _ (And.intro (rfl) (And.intro (g) ?_))
    refine hK _ _ _ _ (And.intro (fun c1 => ?_) (fun c1 => ?_))
    · refine hK _ _ _ _ ?_
      exact hK _ _ _ _ (And.intro rfl (by simpa [zg_gre, mz_b0 c1] using hq))
    · iterate 3 refine hK _ _ _ _ ?_
      refine hK _ _ _ _ (And.intro (zg_door_in g (mz_b1 c1)) ?_)
      refine hK _ _ _ _ ?_
      exact hK _ _ _ _ (And.intro rfl (by simpa [zg_gre, mz_b1 c1] using hq))
  · exact hC.elim
theorem len_Gr_cellAt (w h : Nat) (lay : List mz_E) (as : List Value) (X : mz_X) (Q : Int32 → mz_X → Prop) (hC : C_Gr_cellAt w h lay as X Q) : (mz_l0 as).length ≤ 4 := by
  unfold C_Gr_cellAt at hC
  split at hC
  · exact Nat.le_of_ble_eq_true rfl
  · exact hC.elim
theorem ok_Gr_cellAt (w h : Nat) (lay : List mz_E) (as : List Value) (X : mz_X) (Q : Int32 → mz_X → Prop) (hC : C_Gr_cellAt w h lay as X Q) (K : mz_K) (hK : mz_Cl (I_Gr_cellAt w h) (mz_qi lay Q) K) : K 0 (mz_ent 4 as) [] (lay, X) := by
  unfold C_Gr_cellAt at hC
  split at hC
  · next x y =>
    obtain ⟨rfl, g, hq⟩ := hC
    have h28 : zg_at X x y = -1 → K 28 (mz_ent 4 [.ref 1, .int x, .int y]) [] (mz_lay w h, X) := by
      intro e
      rw [e] at hq
      iterate 3 refine hK _ _ _ _ ?_
      refine hK _ _ _ _ (And.intro (fun c9 => ?_) (fun c9 => ?_))
      · refine hK _ _ _ _ ?_
        exact hK _ _ _ _ (And.intro rfl (hq))
      · exact absurd rfl c9
    refine hK _ _ _ _ ?_
    refine hK _ _ _ _ (And.intro (fun c1 => ?_) (fun c1 => ?_))
    · exact h28 (by simp [zg_at, c1])
    · iterate 3 refine hK _ _ _ _ ?_
      refine hK _ _ _ _ (And.intro (fun c2 => ?_) (fun c2 => ?_))
      · dsimp only at c2
        exact h28 (by simp [zg_at, c2])
      · dsimp only at c2
        refine hK _ _ _ _ ?_
        refine hK _ _ _ _ (And.intro (fun c3 => ?_) (fun c3 => ?_))
        · exact h28 (by simp [zg_at, c3])
        · iterate 3 refine hK _ _ _ _ ?_
          refine hK _ _ _ _ (And.intro (fun c4 => ?_) (fun c4 => ?_))
          · dsimp only at c4
            exact h28 (by simp [zg_at, c4])
          · dsimp only at c4
            iterate 4 refine hK _ _ _ _ ?_
            refine hK _ _ _ _ (And.intro (fun c5 => ?_) (fun c5 => ?_))
            · exact absurd c5 (by decide)
            · iterate 7 refine hK _ _ _ _ ?_
              exact hK _ _ _ _ (And.intro rfl (by simpa [zg_at, c1, c2, c3, c4] using hq))
  · exact hC.elim
theorem len_Gr_doorOn (w h : Nat) (lay : List mz_E) (as : List Value) (X : mz_X) (Q : Int32 → mz_X → Prop) (hC : C_Gr_doorOn w h lay as X Q) : (mz_l0 as).length ≤ 4 := by
  unfold C_Gr_doorOn at hC
  split at hC
  · exact Nat.le_of_ble_eq_true rfl
  · exact hC.elim
theorem ok_Gr_doorOn (w h : Nat) (lay : List mz_E) (as : List Value) (X : mz_X) (Q : Int32 → mz_X → Prop) (hC : C_Gr_doorOn w h lay as X Q) (K : mz_K) (hK : mz_Cl (I_Gr_doorOn w h) (mz_qi lay Q) K) : K 0 (mz_ent 4 as) [] (lay, X) := by
  unfold C_Gr_doorOn at hC
  split at hC
  · next c s =>
    obtain ⟨rfl, g, hq⟩ := hC
    have h21 : zg_on w h X c s = -1 → K 21 (mz_ent 4 [.ref 1, .int c, .int s]) [] (mz_lay w h, X) := by
      intro e
      rw [e] at hq
      iterate 3 refine hK _ _ _ _ ?_
      refine hK _ _ _ _ (And.intro (fun c9 => ?_) (fun c9 => ?_))
      · refine hK _ _ _ _ ?_
        exact hK _ _ _ _ (And.intro rfl (hq))
      · exact absurd rfl c9
    iterate 2 refine hK _ _ _ _ ?_
    refine hK _ _ _ _ (And.intro (rfl) (And.intro (g) ?_))
    refine hK _ _ _ _ (And.intro (fun c1 => ?_) (fun c1 => ?_))
    · exact h21 (by simp [zg_on, mz_b0 c1])
    · refine hK _ _ _ _ ?_
      refine hK _ _ _ _ (And.intro (fun c2 => ?_) (fun c2 => ?_))
      · exact h21 (by simp [zg_on, c2])
      · iterate 2 refine hK _ _ _ _ ?_
        refine hK _ _ _ _ (And.intro (fun c3 => ?_) (fun c3 => ?_))
        · exact h21 (by simp [zg_on, c3])
        · iterate 4 refine hK _ _ _ _ ?_
          refine hK _ _ _ _ (And.intro (fun c5 => ?_) (fun c5 => ?_))
          · exact absurd c5 (by decide)
          · iterate 7 refine hK _ _ _ _ ?_
            refine hK _ _ _ _ (And.intro (mz_side_in (mz_geo_n g) (mz_lt_in (mz_b1 c1) (Nat.lt_of_le_of_lt (mz_geo_n g) (by decide))) c2 c3) ?_)
            refine hK _ _ _ _ ?_
            exact hK _ _ _ _ (And.intro rfl (by simpa [zg_on, mz_b1 c1, c2, c3] using hq))
  · exact hC.elim
theorem len_Gr_otherCell (w h : Nat) (lay : List mz_E) (as : List Value) (X : mz_X) (Q : Int32 → mz_X → Prop) (hC : C_Gr_otherCell w h lay as X Q) : (mz_l0 as).length ≤ 3 := by
  unfold C_Gr_otherCell at hC
  split at hC
  · exact Nat.le_of_ble_eq_true rfl
  · exact hC.elim
theorem ok_Gr_otherCell (w h : Nat) (lay : List mz_E) (as : List Value) (X : mz_X) (Q : Int32 → mz_X → Prop) (hC : C_Gr_otherCell w h lay as X Q) (K : mz_K) (hK : mz_Cl (I_Gr_otherCell w h) (mz_qi lay Q) K) : K 0 (mz_ent 3 as) [] (lay, X) := by
  unfold C_Gr_otherCell at hC
  split at hC
  · next d c =>
    obtain ⟨rfl, g, hq⟩ := hC
    iterate 2 refine hK _ _ _ _ ?_
    refine hK _ _ _ _ (And.intro (rfl) (And.intro (g) ?_))
    refine hK _ _ _ _ (And.intro (fun c1 => ?_) (fun c1 => ?_))
    · refine hK _ _ _ _ ?_
      exact hK _ _ _ _ (And.intro rfl (by simpa [zg_oth, mz_b0 c1] using hq))
    · iterate 3 refine hK _ _ _ _ ?_
      refine hK _ _ _ _ (And.intro (zg_door_in g (mz_b1 c1)) ?_)
      refine hK _ _ _ _ ?_
      refine hK _ _ _ _ (And.intro (fun c2 => ?_) (fun c2 => ?_))
      · dsimp only at c2
        iterate 3 refine hK _ _ _ _ ?_
        refine hK _ _ _ _ (And.intro (zg_door_in g (mz_b1 c1)) ?_)
        refine hK _ _ _ _ ?_
        exact hK _ _ _ _ (And.intro rfl (by simpa [zg_oth, mz_b1 c1, c2] using hq))
      · dsimp only at c2
        iterate 3 refine hK _ _ _ _ ?_
        refine hK _ _ _ _ (And.intro (zg_door_in g (mz_b1 c1)) ?_)
        exact hK _ _ _ _ (And.intro rfl (by simpa [zg_oth, mz_b1 c1, c2] using hq))
  · exact hC.elim
set_option maxRecDepth 20000 in
theorem snd_Gr_width (w h : Nat) (l : Launch) (p : Program) (e : Env) (s : State) (m : MethodId) (args : Array Value) (below : List Frame) (meth : Method) (c : Code) (D : va_G) (ad0 : Nat → Nat) (cA0 : Nat → ClassId) (A : Nat → Prop) (lay : List mz_E) (Q : Int32 → mz_X → Prop) (F : mz_F p s m args meth c prog_5_method_2_code 1 y_Gr_width.cls (some .int) w_Gr_width) (hA : ∀ q, s.heap.size ≤ q → A q) : mz_All (mz_V p l e (mz_rm 0 0) s m args below meth c 1 lay.length (mz_sz lay) D mz_cls (mz_G0 ad0 cA0) A (MQ below (va_Qi Q (mz_B D mz_cls ad0 cA0 lay A) A) args s 0 0 A)) (mz_qi lay Q) (I_Gr_width w h) := by
  obtain ⟨hx, hb, hml, hown, hts, hr, hlk⟩ := F
  unfold I_Gr_width
  refine mz_All.cons (sd_aload_n hx hb (mz_dg d_Gr_width 0 0 (.aload_n 0) 1 rfl) rfl) ?_
  refine mz_All.cons (sd_get (k := 0) hx hb hts (mz_inC in_Gr) hown (T := T_Gr) (N := 9) rfl (by decide) (hts (.fieldLink "MazeForms$Grid" 15 "MazeForms$Grid" "width" "I") (List.mem_cons_of_mem _ wm_124)) (fun _ h => h) (mz_dg d_Gr_width 1 1 (.getfield 15) 3 rfl)) ?_
  refine mz_All.cons (sd_ri hx hb hr hlk (mz_dg d_Gr_width 2 4 (.ireturn) 1 rfl)) ?_
  exact trivial
theorem met_Gr_width (w h : Nat) (l : Launch) : mz_MI l y_Gr_width w_Gr_width 0 0 mz_cls (C_Gr_width w h) := mz_MI_of (I_Gr_width w h) (by decide) rfl (len_Gr_width w h) (ok_Gr_width w h) (snd_Gr_width w h l)
set_option maxRecDepth 20000 in
theorem snd_Gr_cellCount (w h : Nat) (l : Launch) (p : Program) (e : Env) (s : State) (m : MethodId) (args : Array Value) (below : List Frame) (meth : Method) (c : Code) (D : va_G) (ad0 : Nat → Nat) (cA0 : Nat → ClassId) (A : Nat → Prop) (lay : List mz_E) (Q : Int32 → mz_X → Prop) (F : mz_F p s m args meth c prog_5_method_3_code 1 y_Gr_cellCount.cls (some .int) w_Gr_cellCount) (hA : ∀ q, s.heap.size ≤ q → A q) : mz_All (mz_V p l e (mz_rm 0 0) s m args below meth c 1 lay.length (mz_sz lay) D mz_cls (mz_G0 ad0 cA0) A (MQ below (va_Qi Q (mz_B D mz_cls ad0 cA0 lay A) A) args s 0 0 A)) (mz_qi lay Q) (I_Gr_cellCount w h) := by
  obtain ⟨hx, hb, hml, hown, hts, hr, hlk⟩ := F
  unfold I_Gr_cellCount
  refine mz_All.cons (sd_aload_n hx hb (mz_dg d_Gr_cellCount 0 0 (.aload_n 0) 1 rfl) rfl) ?_
  refine mz_All.cons (sd_get (k := 2) hx hb hts (mz_inC in_Gr) hown (T := T_Gr) (N := 9) rfl (by decide) (hts (.fieldLink "MazeForms$Grid" 22 "MazeForms$Grid" "masked" "[Z") (List.mem_cons_of_mem _ wm_126)) (fun _ h => h) (mz_dg d_Gr_cellCount 1 1 (.getfield 22) 3 rfl)) ?_
  refine mz_All.cons (sd_alen hx hb (mz_dg d_Gr_cellCount 2 4 (.arraylength) 1 rfl)) ?_
  refine mz_All.cons (sd_ri hx hb hr hlk (mz_dg d_Gr_cellCount 3 5 (.ireturn) 1 rfl)) ?_
  exact trivial
theorem met_Gr_cellCount (w h : Nat) (l : Launch) : mz_MI l y_Gr_cellCount w_Gr_cellCount 0 0 mz_cls (C_Gr_cellCount w h) := mz_MI_of (I_Gr_cellCount w h) (by decide) rfl (len_Gr_cellCount w h) (ok_Gr_cellCount w h) (snd_Gr_cellCount w h l)
set_option maxRecDepth 20000 in
theorem snd_Gr_mostDoors (w h : Nat) (l : Launch) (p : Program) (e : Env) (s : State) (m : MethodId) (args : Array Value) (below : List Frame) (meth : Method) (c : Code) (D : va_G) (ad0 : Nat → Nat) (cA0 : Nat → ClassId) (A : Nat → Prop) (lay : List mz_E) (Q : Int32 → mz_X → Prop) (F : mz_F p s m args meth c prog_5_method_4_code 1 y_Gr_mostDoors.cls (some .int) w_Gr_mostDoors) (hA : ∀ q, s.heap.size ≤ q → A q) : mz_All (mz_V p l e (mz_rm 0 0) s m args below meth c 1 lay.length (mz_sz lay) D mz_cls (mz_G0 ad0 cA0) A (MQ below (va_Qi Q (mz_B D mz_cls ad0 cA0 lay A) A) args s 0 0 A)) (mz_qi lay Q) (I_Gr_mostDoors w h) := by
  obtain ⟨hx, hb, hml, hown, hts, hr, hlk⟩ := F
  unfold I_Gr_mostDoors
  refine mz_All.cons (sd_aload_n hx hb (mz_dg d_Gr_mostDoors 0 0 (.aload_n 0) 1 rfl) rfl) ?_
  refine mz_All.cons (sd_get (k := 6) hx hb hts (mz_inC in_Gr) hown (T := T_Gr) (N := 9) rfl (by decide) (hts (.fieldLink "MazeForms$Grid" 36 "MazeForms$Grid" "doorOpen" "[Z") (List.mem_cons_of_mem _ wm_130)) (fun _ h => h) (mz_dg d_Gr_mostDoors 1 1 (.getfield 36) 3 rfl)) ?_
  refine mz_All.cons (sd_alen hx hb (mz_dg d_Gr_mostDoors 2 4 (.arraylength) 1 rfl)) ?_
  refine mz_All.cons (sd_ri hx hb hr hlk (mz_dg d_Gr_mostDoors 3 5 (.ireturn) 1 rfl)) ?_
  exact trivial
theorem met_Gr_mostDoors (w h : Nat) (l : Launch) : mz_MI l y_Gr_mostDoors w_Gr_mostDoors 0 0 mz_cls (C_Gr_mostDoors w h) := mz_MI_of (I_Gr_mostDoors w h) (by decide) rfl (len_Gr_mostDoors w h) (ok_Gr_mostDoors w h) (snd_Gr_mostDoors w h l)
set_option maxRecDepth 20000 in
theorem snd_Gr_doorCount (w h : Nat) (l : Launch) (p : Program) (e : Env) (s : State) (m : MethodId) (args : Array Value) (below : List Frame) (meth : Method) (c : Code) (D : va_G) (ad0 : Nat → Nat) (cA0 : Nat → ClassId) (A : Nat → Prop) (lay : List mz_E) (Q : Int32 → mz_X → Prop) (F : mz_F p s m args meth c prog_5_method_5_code 1 y_Gr_doorCount.cls (some .int) w_Gr_doorCount) (hA : ∀ q, s.heap.size ≤ q → A q) : mz_All (mz_V p l e (mz_rm 0 0) s m args below meth c 1 lay.length (mz_sz lay) D mz_cls (mz_G0 ad0 cA0) A (MQ below (va_Qi Q (mz_B D mz_cls ad0 cA0 lay A) A) args s 0 0 A)) (mz_qi lay Q) (I_Gr_doorCount w h) := by
  obtain ⟨hx, hb, hml, hown, hts, hr, hlk⟩ := F
  unfold I_Gr_doorCount
  refine mz_All.cons (sd_aload_n hx hb (mz_dg d_Gr_doorCount 0 0 (.aload_n 0) 1 rfl) rfl) ?_
  refine mz_All.cons (sd_get (k := 7) hx hb hts (mz_inC in_Gr) hown (T := T_Gr) (N := 9) rfl (by decide) (hts (.fieldLink "MazeForms$Grid" 42 "MazeForms$Grid" "doorCount" "I") (List.mem_cons_of_mem _ wm_131)) (fun _ h => h) (mz_dg d_Gr_doorCount 1 1 (.getfield 42) 3 rfl)) ?_
  refine mz_All.cons (sd_ri hx hb hr hlk (mz_dg d_Gr_doorCount 2 4 (.ireturn) 1 rfl)) ?_
  exact trivial
theorem met_Gr_doorCount (w h : Nat) (l : Launch) : mz_MI l y_Gr_doorCount w_Gr_doorCount 0 0 mz_cls (C_Gr_doorCount w h) := mz_MI_of (I_Gr_doorCount w h) (by decide) rfl (len_Gr_doorCount w h) (ok_Gr_doorCount w h) (snd_Gr_doorCount w h l)
set_option maxRecDepth 20000 in
theorem snd_Gr_edition (w h : Nat) (l : Launch) (p : Program) (e : Env) (s : State) (m : MethodId) (args : Array Value) (below : List Frame) (meth : Method) (c : Code) (D : va_G) (ad0 : Nat → Nat) (cA0 : Nat → ClassId) (A : Nat → Prop) (lay : List mz_E) (Q : Int32 → mz_X → Prop) (F : mz_F p s m args meth c prog_5_method_6_code 1 y_Gr_edition.cls (some .int) w_Gr_edition) (hA : ∀ q, s.heap.size ≤ q → A q) : mz_All (mz_V p l e (mz_rm 0 0) s m args below meth c 1 lay.length (mz_sz lay) D mz_cls (mz_G0 ad0 cA0) A (MQ below (va_Qi Q (mz_B D mz_cls ad0 cA0 lay A) A) args s 0 0 A)) (mz_qi lay Q) (I_Gr_edition w h) := by
  obtain ⟨hx, hb, hml, hown, hts, hr, hlk⟩ := F
  unfold I_Gr_edition
  refine mz_All.cons (sd_aload_n hx hb (mz_dg d_Gr_edition 0 0 (.aload_n 0) 1 rfl) rfl) ?_
  refine mz_All.cons (sd_get (k := 8) hx hb hts (mz_inC in_Gr) hown (T := T_Gr) (N := 9) rfl (by decide) (hts (.fieldLink "MazeForms$Grid" 45 "MazeForms$Grid" "edition" "I") (List.mem_cons_of_mem _ wm_132)) (fun _ h => h) (mz_dg d_Gr_edition 1 1 (.getfield 45) 3 rfl)) ?_
  refine mz_All.cons (sd_ri hx hb hr hlk (mz_dg d_Gr_edition 2 4 (.ireturn) 1 rfl)) ?_
  exact trivial
theorem met_Gr_edition (w h : Nat) (l : Launch) : mz_MI l y_Gr_edition w_Gr_edition 0 0 mz_cls (C_Gr_edition w h) := mz_MI_of (I_Gr_edition w h) (by decide) rfl (len_Gr_edition w h) (ok_Gr_edition w h) (snd_Gr_edition w h l)
set_option maxRecDepth 20000 in
theorem snd_Gr_isCell (w h : Nat) (l : Launch) (p : Program) (e : Env) (s : State) (m : MethodId) (args : Array Value) (below : List Frame) (meth : Method) (c : Code) (D : va_G) (ad0 : Nat → Nat) (cA0 : Nat → ClassId) (A : Nat → Prop) (lay : List mz_E) (Q : Int32 → mz_X → Prop) (F : mz_F p s m args meth c prog_5_method_8_code 2 y_Gr_isCell.cls (some .boolean) w_Gr_isCell) (hA : ∀ q, s.heap.size ≤ q → A q) : mz_All (mz_V p l e (mz_rm 0 0) s m args below meth c 2 lay.length (mz_sz lay) D mz_cls (mz_G0 ad0 cA0) A (MQ below (va_Qi Q (mz_B D mz_cls ad0 cA0 lay A) A) args s 0 0 A)) (mz_qi lay Q) (I_Gr_isCell w h) := by
  obtain ⟨hx, hb, hml, hown, hts, hr, hlk⟩ := F
  unfold I_Gr_isCell
  refine mz_All.cons (sd_iload_n hx hb (mz_dg d_Gr_isCell 0 0 (.iload_n 1) 1 rfl) rfl) ?_
  refine mz_All.cons (sd_if_lt hx hb (mz_dg d_Gr_isCell 1 1 (.ifCond .lt (16)) 3 rfl) (by decide)) ?_
  refine mz_All.cons (sd_iload_n hx hb (mz_dg d_Gr_isCell 2 4 (.iload_n 1) 1 rfl) rfl) ?_
  refine mz_All.cons (sd_aload_n hx hb (mz_dg d_Gr_isCell 3 5 (.aload_n 0) 1 rfl) rfl) ?_
  refine mz_All.cons (sd_get (k := 2) hx hb hts (mz_inC in_Gr) hown (T := T_Gr) (N := 9) rfl (by decide) (hts (.fieldLink "MazeForms$Grid" 22 "MazeForms$Grid" "masked" "[Z") (List.mem_cons_of_mem _ wm_126)) (fun _ h => h) (mz_dg d_Gr_isCell 4 6 (.getfield 22) 3 rfl)) ?_
  refine mz_All.cons (sd_alen hx hb (mz_dg d_Gr_isCell 5 9 (.arraylength) 1 rfl)) ?_
  refine mz_All.cons (sd_icmp_ge hx hb (mz_dg d_Gr_isCell 6 10 (.if_icmp .ge (7)) 3 rfl) (by decide)) ?_
  refine mz_All.cons (sd_iconst hx hb (mz_dg d_Gr_isCell 7 13 (.iconst (1)) 1 rfl) (by decide)) ?_
  refine mz_All.cons (sd_goto hx hb (mz_dg d_Gr_isCell 8 14 (.goto (4)) 3 rfl) (by decide)) ?_
  refine mz_All.cons (sd_iconst hx hb (mz_dg d_Gr_isCell 9 17 (.iconst (0)) 1 rfl) (by decide)) ?_
  refine mz_All.cons (sd_rz hx hb hr hlk (mz_dg d_Gr_isCell 10 18 (.ireturn) 1 rfl)) ?_
  exact trivial
theorem met_Gr_isCell (w h : Nat) (l : Launch) : mz_MI l y_Gr_isCell w_Gr_isCell 0 0 mz_cls (C_Gr_isCell w h) := mz_MI_of (I_Gr_isCell w h) (by decide) rfl (len_Gr_isCell w h) (ok_Gr_isCell w h) (snd_Gr_isCell w h l)
set_option maxRecDepth 20000 in
theorem snd_Gr_isFree (w h : Nat) (l : Launch) (p : Program) (e : Env) (s : State) (m : MethodId) (args : Array Value) (below : List Frame) (meth : Method) (c : Code) (D : va_G) (ad0 : Nat → Nat) (cA0 : Nat → ClassId) (A : Nat → Prop) (lay : List mz_E) (Q : Int32 → mz_X → Prop) (F : mz_F p s m args meth c prog_5_method_9_code 2 y_Gr_isFree.cls (some .boolean) w_Gr_isFree) (hA : ∀ q, s.heap.size ≤ q → A q) : mz_All (mz_V p l e (mz_rm 1 21) s m args below meth c 2 lay.length (mz_sz lay) D mz_cls (mz_G0 ad0 cA0) A (MQ below (va_Qi Q (mz_B D mz_cls ad0 cA0 lay A) A) args s 0 0 A)) (mz_qi lay Q) (I_Gr_isFree w h) := by
  obtain ⟨hx, hb, hml, hown, hts, hr, hlk⟩ := F
  unfold I_Gr_isFree
  refine mz_All.cons (sd_aload_n hx hb (mz_dg d_Gr_isFree 0 0 (.aload_n 0) 1 rfl) rfl) ?_
  refine mz_All.cons (sd_iload_n hx hb (mz_dg d_Gr_isFree 1 1 (.iload_n 1) 1 rfl) rfl) ?_
  refine mz_All.cons (sd_calli (T := T_Gr) ⟨hx, hb, hml, hown, hts⟩ (met_Gr_isCell w h l) (cwV 1 hts (mz_gV wm_120 wm_121 wm_122 wm_67 wm_123) rfl rfl rfl (by decide) ⟨by decide, by decide⟩) rfl hA rfl (mz_dg d_Gr_isFree 2 2 (.invokevirtual 48) 3 rfl)) ?_
  refine mz_All.cons (sd_if_eq hx hb (mz_dg d_Gr_isFree 3 5 (.ifCond .eq (16)) 3 rfl) (by decide)) ?_
  refine mz_All.cons (sd_aload_n hx hb (mz_dg d_Gr_isFree 4 8 (.aload_n 0) 1 rfl) rfl) ?_
  refine mz_All.cons (sd_get (k := 2) hx hb hts (mz_inC in_Gr) hown (T := T_Gr) (N := 9) rfl (by decide) (hts (.fieldLink "MazeForms$Grid" 22 "MazeForms$Grid" "masked" "[Z") (List.mem_cons_of_mem _ wm_126)) (fun _ h => h) (mz_dg d_Gr_isFree 5 9 (.getfield 22) 3 rfl)) ?_
  refine mz_All.cons (sd_iload_n hx hb (mz_dg d_Gr_isFree 6 12 (.iload_n 1) 1 rfl) rfl) ?_
  refine mz_All.cons (sd_zald hx hb (mz_dg d_Gr_isFree 7 13 (.baload) 1 rfl)) ?_
  refine mz_All.cons (sd_if_ne hx hb (mz_dg d_Gr_isFree 8 14 (.ifCond .ne (7)) 3 rfl) (by decide)) ?_
  refine mz_All.cons (sd_iconst hx hb (mz_dg d_Gr_isFree 9 17 (.iconst (1)) 1 rfl) (by decide)) ?_
  refine mz_All.cons (sd_goto hx hb (mz_dg d_Gr_isFree 10 18 (.goto (4)) 3 rfl) (by decide)) ?_
  refine mz_All.cons (sd_iconst hx hb (mz_dg d_Gr_isFree 11 21 (.iconst (0)) 1 rfl) (by decide)) ?_
  refine mz_All.cons (sd_rz hx hb hr hlk (mz_dg d_Gr_isFree 12 22 (.ireturn) 1 rfl)) ?_
  exact trivial
theorem met_Gr_isFree (w h : Nat) (l : Launch) : mz_MI l y_Gr_isFree w_Gr_isFree 1 21 mz_cls (C_Gr_isFree w h) := mz_MI_of (I_Gr_isFree w h) (by decide) rfl (len_Gr_isFree w h) (ok_Gr_isFree w h) (snd_Gr_isFree w h l)
set_option maxRecDepth 20000 in
theorem snd_Gr_isDoor (w h : Nat) (l : Launch) (p : Program) (e : Env) (s : State) (m : MethodId) (args : Array Value) (below : List Frame) (meth : Method) (c : Code) (D : va_G) (ad0 : Nat → Nat) (cA0 : Nat → ClassId) (A : Nat → Prop) (lay : List mz_E) (Q : Int32 → mz_X → Prop) (F : mz_F p s m args meth c prog_5_method_10_code 2 y_Gr_isDoor.cls (some .boolean) w_Gr_isDoor) (hA : ∀ q, s.heap.size ≤ q → A q) : mz_All (mz_V p l e (mz_rm 0 0) s m args below meth c 2 lay.length (mz_sz lay) D mz_cls (mz_G0 ad0 cA0) A (MQ below (va_Qi Q (mz_B D mz_cls ad0 cA0 lay A) A) args s 0 0 A)) (mz_qi lay Q) (I_Gr_isDoor w h) := by
  obtain ⟨hx, hb, hml, hown, hts, hr, hlk⟩ := F
  unfold I_Gr_isDoor
  refine mz_All.cons (sd_iload_n hx hb (mz_dg d_Gr_isDoor 0 0 (.iload_n 1) 1 rfl) rfl) ?_
  refine mz_All.cons (sd_if_lt hx hb (mz_dg d_Gr_isDoor 1 1 (.ifCond .lt (24)) 3 rfl) (by decide)) ?_
  refine mz_All.cons (sd_iload_n hx hb (mz_dg d_Gr_isDoor 2 4 (.iload_n 1) 1 rfl) rfl) ?_
  refine mz_All.cons (sd_aload_n hx hb (mz_dg d_Gr_isDoor 3 5 (.aload_n 0) 1 rfl) rfl) ?_
  refine mz_All.cons (sd_get (k := 7) hx hb hts (mz_inC in_Gr) hown (T := T_Gr) (N := 9) rfl (by decide) (hts (.fieldLink "MazeForms$Grid" 42 "MazeForms$Grid" "doorCount" "I") (List.mem_cons_of_mem _ wm_131)) (fun _ h => h) (mz_dg d_Gr_isDoor 4 6 (.getfield 42) 3 rfl)) ?_
  refine mz_All.cons (sd_icmp_ge hx hb (mz_dg d_Gr_isDoor 5 9 (.if_icmp .ge (16)) 3 rfl) (by decide)) ?_
  refine mz_All.cons (sd_iload_n hx hb (mz_dg d_Gr_isDoor 6 12 (.iload_n 1) 1 rfl) rfl) ?_
  refine mz_All.cons (sd_aload_n hx hb (mz_dg d_Gr_isDoor 7 13 (.aload_n 0) 1 rfl) rfl) ?_
  refine mz_All.cons (sd_get (k := 6) hx hb hts (mz_inC in_Gr) hown (T := T_Gr) (N := 9) rfl (by decide) (hts (.fieldLink "MazeForms$Grid" 36 "MazeForms$Grid" "doorOpen" "[Z") (List.mem_cons_of_mem _ wm_130)) (fun _ h => h) (mz_dg d_Gr_isDoor 8 14 (.getfield 36) 3 rfl)) ?_
  refine mz_All.cons (sd_alen hx hb (mz_dg d_Gr_isDoor 9 17 (.arraylength) 1 rfl)) ?_
  refine mz_All.cons (sd_icmp_ge hx hb (mz_dg d_Gr_isDoor 10 18 (.if_icmp .ge (7)) 3 rfl) (by decide)) ?_
  refine mz_All.cons (sd_iconst hx hb (mz_dg d_Gr_isDoor 11 21 (.iconst (1)) 1 rfl) (by decide)) ?_
  refine mz_All.cons (sd_goto hx hb (mz_dg d_Gr_isDoor 12 22 (.goto (4)) 3 rfl) (by decide)) ?_
  refine mz_All.cons (sd_iconst hx hb (mz_dg d_Gr_isDoor 13 25 (.iconst (0)) 1 rfl) (by decide)) ?_
  refine mz_All.cons (sd_rz hx hb hr hlk (mz_dg d_Gr_isDoor 14 26 (.ireturn) 1 rfl)) ?_
  exact trivial
theorem met_Gr_isDoor (w h : Nat) (l : Launch) : mz_MI l y_Gr_isDoor w_Gr_isDoor 0 0 mz_cls (C_Gr_isDoor w h) := mz_MI_of (I_Gr_isDoor w h) (by decide) rfl (len_Gr_isDoor w h) (ok_Gr_isDoor w h) (snd_Gr_isDoor w h l)
set_option maxRecDepth 20000 in
theorem snd_Gr_isOpen (w h : Nat) (l : Launch) (p : Program) (e : Env) (s : State) (m : MethodId) (args : Array Value) (below : List Frame) (meth : Method) (c : Code) (D : va_G) (ad0 : Nat → Nat) (cA0 : Nat → ClassId) (A : Nat → Prop) (lay : List mz_E) (Q : Int32 → mz_X → Prop) (F : mz_F p s m args meth c prog_5_method_11_code 2 y_Gr_isOpen.cls (some .boolean) w_Gr_isOpen) (hA : ∀ q, s.heap.size ≤ q → A q) : mz_All (mz_V p l e (mz_rm 1 21) s m args below meth c 2 lay.length (mz_sz lay) D mz_cls (mz_G0 ad0 cA0) A (MQ below (va_Qi Q (mz_B D mz_cls ad0 cA0 lay A) A) args s 0 0 A)) (mz_qi lay Q) (I_Gr_isOpen w h) := by
  obtain ⟨hx, hb, hml, hown, hts, hr, hlk⟩ := F
  unfold I_Gr_isOpen
  refine mz_All.cons (sd_aload_n hx hb (mz_dg d_Gr_isOpen 0 0 (.aload_n 0) 1 rfl) rfl) ?_
  refine mz_All.cons (sd_iload_n hx hb (mz_dg d_Gr_isOpen 1 1 (.iload_n 1) 1 rfl) rfl) ?_
  refine mz_All.cons (sd_calli (T := T_Gr) ⟨hx, hb, hml, hown, hts⟩ (met_Gr_isDoor w h l) (cwV 1 hts (mz_gV wm_379 wm_380 wm_381 wm_67 wm_382) rfl rfl rfl (by decide) ⟨by decide, by decide⟩) rfl hA rfl (mz_dg d_Gr_isOpen 2 2 (.invokevirtual 52) 3 rfl)) ?_
  refine mz_All.cons (sd_if_eq hx hb (mz_dg d_Gr_isOpen 3 5 (.ifCond .eq (16)) 3 rfl) (by decide)) ?_
  refine mz_All.cons (sd_aload_n hx hb (mz_dg d_Gr_isOpen 4 8 (.aload_n 0) 1 rfl) rfl) ?_
  refine mz_All.cons (sd_get (k := 6) hx hb hts (mz_inC in_Gr) hown (T := T_Gr) (N := 9) rfl (by decide) (hts (.fieldLink "MazeForms$Grid" 36 "MazeForms$Grid" "doorOpen" "[Z") (List.mem_cons_of_mem _ wm_130)) (fun _ h => h) (mz_dg d_Gr_isOpen 5 9 (.getfield 36) 3 rfl)) ?_
  refine mz_All.cons (sd_iload_n hx hb (mz_dg d_Gr_isOpen 6 12 (.iload_n 1) 1 rfl) rfl) ?_
  refine mz_All.cons (sd_zald hx hb (mz_dg d_Gr_isOpen 7 13 (.baload) 1 rfl)) ?_
  refine mz_All.cons (sd_if_eq hx hb (mz_dg d_Gr_isOpen 8 14 (.ifCond .eq (7)) 3 rfl) (by decide)) ?_
  refine mz_All.cons (sd_iconst hx hb (mz_dg d_Gr_isOpen 9 17 (.iconst (1)) 1 rfl) (by decide)) ?_
  refine mz_All.cons (sd_goto hx hb (mz_dg d_Gr_isOpen 10 18 (.goto (4)) 3 rfl) (by decide)) ?_
  refine mz_All.cons (sd_iconst hx hb (mz_dg d_Gr_isOpen 11 21 (.iconst (0)) 1 rfl) (by decide)) ?_
  refine mz_All.cons (sd_rz hx hb hr hlk (mz_dg d_Gr_isOpen 12 22 (.ireturn) 1 rfl)) ?_
  exact trivial
theorem met_Gr_isOpen (w h : Nat) (l : Launch) : mz_MI l y_Gr_isOpen w_Gr_isOpen 1 21 mz_cls (C_Gr_isOpen w h) := mz_MI_of (I_Gr_isOpen w h) (by decide) rfl (len_Gr_isOpen w h) (ok_Gr_isOpen w h) (snd_Gr_isOpen w h l)
set_option maxRecDepth 20000 in
theorem snd_Gr_lesserCell (w h : Nat) (l : Launch) (p : Program) (e : Env) (s : State) (m : MethodId) (args : Array Value) (below : List Frame) (meth : Method) (c : Code) (D : va_G) (ad0 : Nat → Nat) (cA0 : Nat → ClassId) (A : Nat → Prop) (lay : List mz_E) (Q : Int32 → mz_X → Prop) (F : mz_F p s m args meth c prog_5_method_17_code 2 y_Gr_lesserCell.cls (some .int) w_Gr_lesserCell) (hA : ∀ q, s.heap.size ≤ q → A q) : mz_All (mz_V p l e (mz_rm 1 21) s m args below meth c 2 lay.length (mz_sz lay) D mz_cls (mz_G0 ad0 cA0) A (MQ below (va_Qi Q (mz_B D mz_cls ad0 cA0 lay A) A) args s 0 0 A)) (mz_qi lay Q) (I_Gr_lesserCell w h) := by
  obtain ⟨hx, hb, hml, hown, hts, hr, hlk⟩ := F
  unfold I_Gr_lesserCell
  refine mz_All.cons (sd_aload_n hx hb (mz_dg d_Gr_lesserCell 0 0 (.aload_n 0) 1 rfl) rfl) ?_
  refine mz_All.cons (sd_iload_n hx hb (mz_dg d_Gr_lesserCell 1 1 (.iload_n 1) 1 rfl) rfl) ?_
  refine mz_All.cons (sd_calli (T := T_Gr) ⟨hx, hb, hml, hown, hts⟩ (met_Gr_isDoor w h l) (cwV 1 hts (mz_gV wm_379 wm_380 wm_381 wm_67 wm_382) rfl rfl rfl (by decide) ⟨by decide, by decide⟩) rfl hA rfl (mz_dg d_Gr_lesserCell 2 2 (.invokevirtual 52) 3 rfl)) ?_
  refine mz_All.cons (sd_if_eq hx hb (mz_dg d_Gr_lesserCell 3 5 (.ifCond .eq (12)) 3 rfl) (by decide)) ?_
  refine mz_All.cons (sd_aload_n hx hb (mz_dg d_Gr_lesserCell 4 8 (.aload_n 0) 1 rfl) rfl) ?_
  refine mz_All.cons (sd_get (k := 4) hx hb hts (mz_inC in_Gr) hown (T := T_Gr) (N := 9) rfl (by decide) (hts (.fieldLink "MazeForms$Grid" 30 "MazeForms$Grid" "lesserCell" "[I") (List.mem_cons_of_mem _ wm_128)) (fun _ h => h) (mz_dg d_Gr_lesserCell 5 9 (.getfield 30) 3 rfl)) ?_
  refine mz_All.cons (sd_iload_n hx hb (mz_dg d_Gr_lesserCell 6 12 (.iload_n 1) 1 rfl) rfl) ?_
  refine mz_All.cons (sd_iald hx hb (mz_dg d_Gr_lesserCell 7 13 (.iaload) 1 rfl)) ?_
  refine mz_All.cons (sd_goto hx hb (mz_dg d_Gr_lesserCell 8 14 (.goto (4)) 3 rfl) (by decide)) ?_
  refine mz_All.cons (sd_iconst hx hb (mz_dg d_Gr_lesserCell 9 17 (.iconst (-1)) 1 rfl) (by decide)) ?_
  refine mz_All.cons (sd_ri hx hb hr hlk (mz_dg d_Gr_lesserCell 10 18 (.ireturn) 1 rfl)) ?_
  exact trivial
theorem met_Gr_lesserCell (w h : Nat) (l : Launch) : mz_MI l y_Gr_lesserCell w_Gr_lesserCell 1 21 mz_cls (C_Gr_lesserCell w h) := mz_MI_of (I_Gr_lesserCell w h) (by decide) rfl (len_Gr_lesserCell w h) (ok_Gr_lesserCell w h) (snd_Gr_lesserCell w h l)
set_option maxRecDepth 20000 in
theorem snd_Gr_greaterCell (w h : Nat) (l : Launch) (p : Program) (e : Env) (s : State) (m : MethodId) (args : Array Value) (below : List Frame) (meth : Method) (c : Code) (D : va_G) (ad0 : Nat → Nat) (cA0 : Nat → ClassId) (A : Nat → Prop) (lay : List mz_E) (Q : Int32 → mz_X → Prop) (F : mz_F p s m args meth c prog_5_method_18_code 2 y_Gr_greaterCell.cls (some .int) w_Gr_greaterCell) (hA : ∀ q, s.heap.size ≤ q → A q) : mz_All (mz_V p l e (mz_rm 1 21) s m args below meth c 2 lay.length (mz_sz lay) D mz_cls (mz_G0 ad0 cA0) A (MQ below (va_Qi Q (mz_B D mz_cls ad0 cA0 lay A) A) args s 0 0 A)) (mz_qi lay Q) (I_Gr_greaterCell w h) := by
  obtain ⟨hx, hb, hml, hown, hts, hr, hlk⟩ := F
  unfold I_Gr_greaterCell
  refine mz_All.cons (sd_aload_n hx hb (mz_dg d_Gr_greaterCell 0 0 (.aload_n 0) 1 rfl) rfl) ?_
  refine mz_All.cons (sd_iload_n hx hb (mz_dg d_Gr_greaterCell 1 1 (.iload_n 1) 1 rfl) rfl) ?_
  refine mz_All.cons (sd_calli (T := T_Gr) ⟨hx, hb, hml, hown, hts⟩ (met_Gr_isDoor w h l) (cwV 1 hts (mz_gV wm_379 wm_380 wm_381 wm_67 wm_382) rfl rfl rfl (by decide) ⟨by decide, by decide⟩) rfl hA rfl (mz_dg d_Gr_greaterCell 2 2 (.invokevirtual 52) 3 rfl)) ?_
  refine mz_All.cons (sd_if_eq hx hb (mz_dg d_Gr_greaterCell 3 5 (.ifCond .eq (12)) 3 rfl) (by decide)) ?_
  refine mz_All.cons (sd_aload_n hx hb (mz_dg d_Gr_greaterCell 4 8 (.aload_n 0) 1 rfl) rfl) ?_
  refine mz_All.cons (sd_get (k := 5) hx hb hts (mz_inC in_Gr) hown (T := T_Gr) (N := 9) rfl (by decide) (hts (.fieldLink "MazeForms$Grid" 33 "MazeForms$Grid" "greaterCell" "[I") (List.mem_cons_of_mem _ wm_129)) (fun _ h => h) (mz_dg d_Gr_greaterCell 5 9 (.getfield 33) 3 rfl)) ?_
  refine mz_All.cons (sd_iload_n hx hb (mz_dg d_Gr_greaterCell 6 12 (.iload_n 1) 1 rfl) rfl) ?_
  refine mz_All.cons (sd_iald hx hb (mz_dg d_Gr_greaterCell 7 13 (.iaload) 1 rfl)) ?_
  refine mz_All.cons (sd_goto hx hb (mz_dg d_Gr_greaterCell 8 14 (.goto (4)) 3 rfl) (by decide)) ?_
  refine mz_All.cons (sd_iconst hx hb (mz_dg d_Gr_greaterCell 9 17 (.iconst (-1)) 1 rfl) (by decide)) ?_
  refine mz_All.cons (sd_ri hx hb hr hlk (mz_dg d_Gr_greaterCell 10 18 (.ireturn) 1 rfl)) ?_
  exact trivial
theorem met_Gr_greaterCell (w h : Nat) (l : Launch) : mz_MI l y_Gr_greaterCell w_Gr_greaterCell 1 21 mz_cls (C_Gr_greaterCell w h) := mz_MI_of (I_Gr_greaterCell w h) (by decide) rfl (len_Gr_greaterCell w h) (ok_Gr_greaterCell w h) (snd_Gr_greaterCell w h l)
set_option maxRecDepth 20000 in
theorem snd_Gr_cellAt (w h : Nat) (l : Launch) (p : Program) (e : Env) (s : State) (m : MethodId) (args : Array Value) (below : List Frame) (meth : Method) (c : Code) (D : va_G) (ad0 : Nat → Nat) (cA0 : Nat → ClassId) (A : Nat → Prop) (lay : List mz_E) (Q : Int32 → mz_X → Prop) (F : mz_F p s m args meth c prog_5_method_7_code 4 y_Gr_cellAt.cls (some .int) w_Gr_cellAt) (hA : ∀ q, s.heap.size ≤ q → A q) : mz_All (mz_V p l e (mz_rm 0 0) s m args below meth c 4 lay.length (mz_sz lay) D mz_cls (mz_G0 ad0 cA0) A (MQ below (va_Qi Q (mz_B D mz_cls ad0 cA0 lay A) A) args s 0 0 A)) (mz_qi lay Q) (I_Gr_cellAt w h) := by
  obtain ⟨hx, hb, hml, hown, hts, hr, hlk⟩ := F
  unfold I_Gr_cellAt
  refine mz_All.cons (sd_iload_n hx hb (mz_dg d_Gr_cellAt 0 0 (.iload_n 1) 1 rfl) rfl) ?_
  refine mz_All.cons (sd_if_lt hx hb (mz_dg d_Gr_cellAt 1 1 (.ifCond .lt (27)) 3 rfl) (by decide)) ?_
  refine mz_All.cons (sd_iload_n hx hb (mz_dg d_Gr_cellAt 2 4 (.iload_n 1) 1 rfl) rfl) ?_
  refine mz_All.cons (sd_aload_n hx hb (mz_dg d_Gr_cellAt 3 5 (.aload_n 0) 1 rfl) rfl) ?_
  refine mz_All.cons (sd_get (k := 0) hx hb hts (mz_inC in_Gr) hown (T := T_Gr) (N := 9) rfl (by decide) (hts (.fieldLink "MazeForms$Grid" 15 "MazeForms$Grid" "width" "I") (List.mem_cons_of_mem _ wm_124)) (fun _ h => h) (mz_dg d_Gr_cellAt 4 6 (.getfield 15) 3 rfl)) ?_
  refine mz_All.cons (sd_icmp_ge hx hb (mz_dg d_Gr_cellAt 5 9 (.if_icmp .ge (19)) 3 rfl) (by decide)) ?_
  refine mz_All.cons (sd_iload_n hx hb (mz_dg d_Gr_cellAt 6 12 (.iload_n 2) 1 rfl) rfl) ?_
  refine mz_All.cons (sd_if_lt hx hb (mz_dg d_Gr_cellAt 7 13 (.ifCond .lt (15)) 3 rfl) (by decide)) ?_
  refine mz_All.cons (sd_iload_n hx hb (mz_dg d_Gr_cellAt 8 16 (.iload_n 2) 1 rfl) rfl) ?_
  refine mz_All.cons (sd_aload_n hx hb (mz_dg d_Gr_cellAt 9 17 (.aload_n 0) 1 rfl) rfl) ?_
  refine mz_All.cons (sd_get (k := 1) hx hb hts (mz_inC in_Gr) hown (T := T_Gr) (N := 9) rfl (by decide) (hts (.fieldLink "MazeForms$Grid" 19 "MazeForms$Grid" "height" "I") (List.mem_cons_of_mem _ wm_125)) (fun _ h => h) (mz_dg d_Gr_cellAt 10 18 (.getfield 19) 3 rfl)) ?_
  refine mz_All.cons (sd_icmp_ge hx hb (mz_dg d_Gr_cellAt 11 21 (.if_icmp .ge (7)) 3 rfl) (by decide)) ?_
  refine mz_All.cons (sd_iconst hx hb (mz_dg d_Gr_cellAt 12 24 (.iconst (1)) 1 rfl) (by decide)) ?_
  refine mz_All.cons (sd_goto hx hb (mz_dg d_Gr_cellAt 13 25 (.goto (4)) 3 rfl) (by decide)) ?_
  refine mz_All.cons (sd_iconst hx hb (mz_dg d_Gr_cellAt 14 28 (.iconst (0)) 1 rfl) (by decide)) ?_
  refine mz_All.cons (sd_istore_n hx hb (mz_dg d_Gr_cellAt 15 29 (.istore_n 3) 1 rfl) rfl (by decide)) ?_
  refine mz_All.cons (sd_iload_n hx hb (mz_dg d_Gr_cellAt 16 30 (.iload_n 3) 1 rfl) rfl) ?_
  refine mz_All.cons (sd_if_eq hx hb (mz_dg d_Gr_cellAt 17 31 (.ifCond .eq (14)) 3 rfl) (by decide)) ?_
  refine mz_All.cons (sd_iload_n hx hb (mz_dg d_Gr_cellAt 18 34 (.iload_n 1) 1 rfl) rfl) ?_
  refine mz_All.cons (sd_aload_n hx hb (mz_dg d_Gr_cellAt 19 35 (.aload_n 0) 1 rfl) rfl) ?_
  refine mz_All.cons (sd_get (k := 0) hx hb hts (mz_inC in_Gr) hown (T := T_Gr) (N := 9) rfl (by decide) (hts (.fieldLink "MazeForms$Grid" 15 "MazeForms$Grid" "width" "I") (List.mem_cons_of_mem _ wm_124)) (fun _ h => h) (mz_dg d_Gr_cellAt 20 36 (.getfield 15) 3 rfl)) ?_
  refine mz_All.cons (sd_iload_n hx hb (mz_dg d_Gr_cellAt 21 39 (.iload_n 2) 1 rfl) rfl) ?_
  refine mz_All.cons (sd_imul hx hb (mz_dg d_Gr_cellAt 22 40 (.imul) 1 rfl)) ?_
  refine mz_All.cons (sd_iadd hx hb (mz_dg d_Gr_cellAt 23 41 (.iadd) 1 rfl)) ?_
  refine mz_All.cons (sd_goto hx hb (mz_dg d_Gr_cellAt 24 42 (.goto (4)) 3 rfl) (by decide)) ?_
  refine mz_All.cons (sd_iconst hx hb (mz_dg d_Gr_cellAt 25 45 (.iconst (-1)) 1 rfl) (by decide)) ?_
  refine mz_All.cons (sd_ri hx hb hr hlk (mz_dg d_Gr_cellAt 26 46 (.ireturn) 1 rfl)) ?_
  exact trivial
theorem met_Gr_cellAt (w h : Nat) (l : Launch) : mz_MI l y_Gr_cellAt w_Gr_cellAt 0 0 mz_cls (C_Gr_cellAt w h) := mz_MI_of (I_Gr_cellAt w h) (by decide) rfl (len_Gr_cellAt w h) (ok_Gr_cellAt w h) (snd_Gr_cellAt w h l)
set_option maxRecDepth 20000 in
theorem snd_Gr_doorOn (w h : Nat) (l : Launch) (p : Program) (e : Env) (s : State) (m : MethodId) (args : Array Value) (below : List Frame) (meth : Method) (c : Code) (D : va_G) (ad0 : Nat → Nat) (cA0 : Nat → ClassId) (A : Nat → Prop) (lay : List mz_E) (Q : Int32 → mz_X → Prop) (F : mz_F p s m args meth c prog_5_method_15_code 4 y_Gr_doorOn.cls (some .int) w_Gr_doorOn) (hA : ∀ q, s.heap.size ≤ q → A q) : mz_All (mz_V p l e (mz_rm 1 21) s m args below meth c 4 lay.length (mz_sz lay) D mz_cls (mz_G0 ad0 cA0) A (MQ below (va_Qi Q (mz_B D mz_cls ad0 cA0 lay A) A) args s 0 0 A)) (mz_qi lay Q) (I_Gr_doorOn w h) := by
  obtain ⟨hx, hb, hml, hown, hts, hr, hlk⟩ := F
  unfold I_Gr_doorOn
  refine mz_All.cons (sd_aload_n hx hb (mz_dg d_Gr_doorOn 0 0 (.aload_n 0) 1 rfl) rfl) ?_
  refine mz_All.cons (sd_iload_n hx hb (mz_dg d_Gr_doorOn 1 1 (.iload_n 1) 1 rfl) rfl) ?_
  refine mz_All.cons (sd_calli (T := T_Gr) ⟨hx, hb, hml, hown, hts⟩ (met_Gr_isCell w h l) (cwV 1 hts (mz_gV wm_120 wm_121 wm_122 wm_67 wm_123) rfl rfl rfl (by decide) ⟨by decide, by decide⟩) rfl hA rfl (mz_dg d_Gr_doorOn 2 2 (.invokevirtual 48) 3 rfl)) ?_
  refine mz_All.cons (sd_if_eq hx hb (mz_dg d_Gr_doorOn 3 5 (.ifCond .eq (16)) 3 rfl) (by decide)) ?_
  refine mz_All.cons (sd_iload_n hx hb (mz_dg d_Gr_doorOn 4 8 (.iload_n 2) 1 rfl) rfl) ?_
  refine mz_All.cons (sd_if_lt hx hb (mz_dg d_Gr_doorOn 5 9 (.ifCond .lt (12)) 3 rfl) (by decide)) ?_
  refine mz_All.cons (sd_iload_n hx hb (mz_dg d_Gr_doorOn 6 12 (.iload_n 2) 1 rfl) rfl) ?_
  refine mz_All.cons (sd_iconst hx hb (mz_dg d_Gr_doorOn 7 13 (.iconst (4)) 1 rfl) (by decide)) ?_
  refine mz_All.cons (sd_icmp_ge hx hb (mz_dg d_Gr_doorOn 8 14 (.if_icmp .ge (7)) 3 rfl) (by decide)) ?_
  refine mz_All.cons (sd_iconst hx hb (mz_dg d_Gr_doorOn 9 17 (.iconst (1)) 1 rfl) (by decide)) ?_
  refine mz_All.cons (sd_goto hx hb (mz_dg d_Gr_doorOn 10 18 (.goto (4)) 3 rfl) (by decide)) ?_
  refine mz_All.cons (sd_iconst hx hb (mz_dg d_Gr_doorOn 11 21 (.iconst (0)) 1 rfl) (by decide)) ?_
  refine mz_All.cons (sd_istore_n hx hb (mz_dg d_Gr_doorOn 12 22 (.istore_n 3) 1 rfl) rfl (by decide)) ?_
  refine mz_All.cons (sd_iload_n hx hb (mz_dg d_Gr_doorOn 13 23 (.iload_n 3) 1 rfl) rfl) ?_
  refine mz_All.cons (sd_if_eq hx hb (mz_dg d_Gr_doorOn 14 24 (.ifCond .eq (16)) 3 rfl) (by decide)) ?_
  refine mz_All.cons (sd_aload_n hx hb (mz_dg d_Gr_doorOn 15 27 (.aload_n 0) 1 rfl) rfl) ?_
  refine mz_All.cons (sd_get (k := 3) hx hb hts (mz_inC in_Gr) hown (T := T_Gr) (N := 9) rfl (by decide) (hts (.fieldLink "MazeForms$Grid" 26 "MazeForms$Grid" "doorOnSide" "[I") (List.mem_cons_of_mem _ wm_127)) (fun _ h => h) (mz_dg d_Gr_doorOn 16 28 (.getfield 26) 3 rfl)) ?_
  refine mz_All.cons (sd_iconst hx hb (mz_dg d_Gr_doorOn 17 31 (.iconst (4)) 1 rfl) (by decide)) ?_
  refine mz_All.cons (sd_iload_n hx hb (mz_dg d_Gr_doorOn 18 32 (.iload_n 1) 1 rfl) rfl) ?_
  refine mz_All.cons (sd_imul hx hb (mz_dg d_Gr_doorOn 19 33 (.imul) 1 rfl)) ?_
  refine mz_All.cons (sd_iload_n hx hb (mz_dg d_Gr_doorOn 20 34 (.iload_n 2) 1 rfl) rfl) ?_
  refine mz_All.cons (sd_iadd hx hb (mz_dg d_Gr_doorOn 21 35 (.iadd) 1 rfl)) ?_
  refine mz_All.cons (sd_iald hx hb (mz_dg d_Gr_doorOn 22 36 (.iaload) 1 rfl)) ?_
  refine mz_All.cons (sd_goto hx hb (mz_dg d_Gr_doorOn 23 37 (.goto (4)) 3 rfl) (by decide)) ?_
  refine mz_All.cons (sd_iconst hx hb (mz_dg d_Gr_doorOn 24 40 (.iconst (-1)) 1 rfl) (by decide)) ?_
  refine mz_All.cons (sd_ri hx hb hr hlk (mz_dg d_Gr_doorOn 25 41 (.ireturn) 1 rfl)) ?_
  exact trivial
theorem met_Gr_doorOn (w h : Nat) (l : Launch) : mz_MI l y_Gr_doorOn w_Gr_doorOn 1 21 mz_cls (C_Gr_doorOn w h) := mz_MI_of (I_Gr_doorOn w h) (by decide) rfl (len_Gr_doorOn w h) (ok_Gr_doorOn w h) (snd_Gr_doorOn w h l)
set_option maxRecDepth 20000 in
theorem snd_Gr_otherCell (w h : Nat) (l : Launch) (p : Program) (e : Env) (s : State) (m : MethodId) (args : Array Value) (below : List Frame) (meth : Method) (c : Code) (D : va_G) (ad0 : Nat → Nat) (cA0 : Nat → ClassId) (A : Nat → Prop) (lay : List mz_E) (Q : Int32 → mz_X → Prop) (F : mz_F p s m args meth c prog_5_method_19_code 3 y_Gr_otherCell.cls (some .int) w_Gr_otherCell) (hA : ∀ q, s.heap.size ≤ q → A q) : mz_All (mz_V p l e (mz_rm 1 21) s m args below meth c 3 lay.length (mz_sz lay) D mz_cls (mz_G0 ad0 cA0) A (MQ below (va_Qi Q (mz_B D mz_cls ad0 cA0 lay A) A) args s 0 0 A)) (mz_qi lay Q) (I_Gr_otherCell w h) := by
  obtain ⟨hx, hb, hml, hown, hts, hr, hlk⟩ := F
  unfold I_Gr_otherCell
  refine mz_All.cons (sd_aload_n hx hb (mz_dg d_Gr_otherCell 0 0 (.aload_n 0) 1 rfl) rfl) ?_
  refine mz_All.cons (sd_iload_n hx hb (mz_dg d_Gr_otherCell 1 1 (.iload_n 1) 1 rfl) rfl) ?_
  refine mz_All.cons (sd_calli (T := T_Gr) ⟨hx, hb, hml, hown, hts⟩ (met_Gr_isDoor w h l) (cwV 1 hts (mz_gV wm_379 wm_380 wm_381 wm_67 wm_382) rfl rfl rfl (by decide) ⟨by decide, by decide⟩) rfl hA rfl (mz_dg d_Gr_otherCell 2 2 (.invokevirtual 52) 3 rfl)) ?_
  refine mz_All.cons (sd_if_ne hx hb (mz_dg d_Gr_otherCell 3 5 (.ifCond .ne (5)) 3 rfl) (by decide)) ?_
  refine mz_All.cons (sd_iconst hx hb (mz_dg d_Gr_otherCell 4 8 (.iconst (-1)) 1 rfl) (by decide)) ?_
  refine mz_All.cons (sd_ri hx hb hr hlk (mz_dg d_Gr_otherCell 5 9 (.ireturn) 1 rfl)) ?_
  refine mz_All.cons (sd_aload_n hx hb (mz_dg d_Gr_otherCell 6 10 (.aload_n 0) 1 rfl) rfl) ?_
  refine mz_All.cons (sd_get (k := 4) hx hb hts (mz_inC in_Gr) hown (T := T_Gr) (N := 9) rfl (by decide) (hts (.fieldLink "MazeForms$Grid" 30 "MazeForms$Grid" "lesserCell" "[I") (List.mem_cons_of_mem _ wm_128)) (fun _ h => h) (mz_dg d_Gr_otherCell 7 11 (.getfield 30) 3 rfl)) ?_
  refine mz_All.cons (sd_iload_n hx hb (mz_dg d_Gr_otherCell 8 14 (.iload_n 1) 1 rfl) rfl) ?_
  refine mz_All.cons (sd_iald hx hb (mz_dg d_Gr_otherCell 9 15 (.iaload) 1 rfl)) ?_
  refine mz_All.cons (sd_iload_n hx hb (mz_dg d_Gr_otherCell 10 16 (.iload_n 2) 1 rfl) rfl) ?_
  refine mz_All.cons (sd_icmp_ne hx hb (mz_dg d_Gr_otherCell 11 17 (.if_icmp .ne (12)) 3 rfl) (by decide)) ?_
  refine mz_All.cons (sd_aload_n hx hb (mz_dg d_Gr_otherCell 12 20 (.aload_n 0) 1 rfl) rfl) ?_
  refine mz_All.cons (sd_get (k := 5) hx hb hts (mz_inC in_Gr) hown (T := T_Gr) (N := 9) rfl (by decide) (hts (.fieldLink "MazeForms$Grid" 33 "MazeForms$Grid" "greaterCell" "[I") (List.mem_cons_of_mem _ wm_129)) (fun _ h => h) (mz_dg d_Gr_otherCell 13 21 (.getfield 33) 3 rfl)) ?_
  refine mz_All.cons (sd_iload_n hx hb (mz_dg d_Gr_otherCell 14 24 (.iload_n 1) 1 rfl) rfl) ?_
  refine mz_All.cons (sd_iald hx hb (mz_dg d_Gr_otherCell 15 25 (.iaload) 1 rfl)) ?_
  refine mz_All.cons (sd_goto hx hb (mz_dg d_Gr_otherCell 16 26 (.goto (9)) 3 rfl) (by decide)) ?_
  refine mz_All.cons (sd_aload_n hx hb (mz_dg d_Gr_otherCell 17 29 (.aload_n 0) 1 rfl) rfl) ?_
  refine mz_All.cons (sd_get (k := 4) hx hb hts (mz_inC in_Gr) hown (T := T_Gr) (N := 9) rfl (by decide) (hts (.fieldLink "MazeForms$Grid" 30 "MazeForms$Grid" "lesserCell" "[I") (List.mem_cons_of_mem _ wm_128)) (fun _ h => h) (mz_dg d_Gr_otherCell 18 30 (.getfield 30) 3 rfl)) ?_
  refine mz_All.cons (sd_iload_n hx hb (mz_dg d_Gr_otherCell 19 33 (.iload_n 1) 1 rfl) rfl) ?_
  refine mz_All.cons (sd_iald hx hb (mz_dg d_Gr_otherCell 20 34 (.iaload) 1 rfl)) ?_
  refine mz_All.cons (sd_ri hx hb hr hlk (mz_dg d_Gr_otherCell 21 35 (.ireturn) 1 rfl)) ?_
  exact trivial
theorem met_Gr_otherCell (w h : Nat) (l : Launch) : mz_MI l y_Gr_otherCell w_Gr_otherCell 1 21 mz_cls (C_Gr_otherCell w h) := mz_MI_of (I_Gr_otherCell w h) (by decide) rfl (len_Gr_otherCell w h) (ok_Gr_otherCell w h) (snd_Gr_otherCell w h l)
end
section
theorem mz_cnt_le (f : Nat → Bool) : ∀ n, mz_cnt f n ≤ n
  | 0 => Nat.le_refl 0
  | n + 1 => by
    have := mz_cnt_le f n
    simp only [mz_cnt]
    split <;> omega
theorem mz_cnt_t {f : Nat → Bool} {n : Nat} (h : f n = true) : nI (mz_cnt f n) + 1 = nI (mz_cnt f (n + 1)) := by
  rw [nI_1]
  simp only [mz_cnt, h]
theorem mz_cnt_f {f : Nat → Bool} {n : Nat} (h : f n = false) : mz_cnt f (n + 1) = mz_cnt f n := by
  simp only [mz_cnt, h, Nat.add_zero]
theorem mz_fil_0 {α : Type} (f : Nat → Nat → α) (p : Nat) (v : α) : mz_fil f p 0 v = f := by
  funext a b
  simp [mz_fil]
theorem mz_fil_s {α : Type} (f : Nat → Nat → α) (p k : Nat) (v : α) : mz_up (mz_fil f p k v) p k v = mz_fil f p (k + 1) v := by
  funext a b
  simp only [mz_up, mz_fil]
  by_cases ha : a = p
  · subst ha
    by_cases hb : b = k
    · subst hb
      simp
    · have : b < k ↔ b < k + 1 := by omega
      simp [hb, this]
  · simp [ha]

theorem mz_narb {v : Int32} (h : v = 0 ∨ v = 1) : vp_nar (mz_tc 1) v = v := by
  rcases h with rfl | rfl <;> rfl
theorem mz_nari (v : Int32) : vp_nar (mz_tc 0) v = v := rfl
theorem len_Gr_freeCells (w h : Nat) (lay : List mz_E) (as : List Value) (X : mz_X) (Q : Int32 → mz_X → Prop) (hC : C_Gr_freeCells w h lay as X Q) : (mz_l0 as).length ≤ 3 := by
  unfold C_Gr_freeCells at hC
  split at hC
  · exact Nat.le_of_ble_eq_true rfl
  · exact hC.elim
theorem ok_Gr_freeCells (w h : Nat) (lay : List mz_E) (as : List Value) (X : mz_X) (Q : Int32 → mz_X → Prop) (hC : C_Gr_freeCells w h lay as X Q) (K : mz_K) (hK : mz_Cl (I_Gr_freeCells w h) (mz_qi lay Q) K) : K 0 (mz_ent 3 as) [] (lay, X) := by
  unfold C_Gr_freeCells at hC
  split at hC
  ·
    obtain ⟨rfl, g, hq⟩ := hC
    have hn := mz_geo_n g
    have loop : ∀ (k i : Nat), i + k = w * h → K 4 [some (.ref 1), some (.int (nI (mz_cnt (zg_fre X) i))), some (.int (nI i))] [] (mz_lay w h, X) := by
      intro k
      induction k with
      | zero =>
        intro i hi
        iterate 4 refine hK _ _ _ _ ?_
        refine hK _ _ _ _ (And.intro (fun c1 => ?_) (fun c1 => ?_))
        · refine hK _ _ _ _ ?_
          exact hK _ _ _ _ (And.intro rfl (by rw [← hi] at hq; exact hq))
        · exact absurd (nI_le (a := w * h) (b := i) (by omega) (by omega)) c1
      | succ k ih =>
        intro i hi
        iterate 4 refine hK _ _ _ _ ?_
        refine hK _ _ _ _ (And.intro (fun c1 => ?_) (fun c1 => ?_))
        · exact absurd c1 (nI_ge (by omega) (by omega))
        · iterate 3 refine hK _ _ _ _ ?_
          refine hK _ _ _ _ (And.intro (vp_in_nI (by omega) (by omega)) ?_)
          refine hK _ _ _ _ (And.intro (fun c2 => ?_) (fun c2 => ?_))
          · dsimp only at c2
            rw [nI_clamp (by omega)] at c2
            have e := mz_cnt_t (f := zg_fre X) (n := i) (by simp [zg_fre, c2])
            iterate 3 refine hK _ _ _ _ ?_
            have := ih (i + 1) (by omega)
            rw [← e, ← nI_1] at this
            exact this
          · dsimp only at c2
            rw [nI_clamp (by omega)] at c2
            have e := mz_cnt_f (f := zg_fre X) (n := i) (by simp [zg_fre, c2])
            iterate 2 refine hK _ _ _ _ ?_
            have := ih (i + 1) (by omega)
            rw [e, ← nI_1] at this
            exact this
    iterate 4 refine hK _ _ _ _ ?_
    exact loop (w * h) 0 (by omega)
  · exact hC.elim
theorem len_Gr_firstCell (w h : Nat) (lay : List mz_E) (as : List Value) (X : mz_X) (Q : Int32 → mz_X → Prop) (hC : C_Gr_firstCell w h lay as X Q) : (mz_l0 as).length ≤ 2 := by
  unfold C_Gr_firstCell at hC
  split at hC
  · exact Nat.le_of_ble_eq_true rfl
  · exact hC.elim
theorem ok_Gr_firstCell (w h : Nat) (lay : List mz_E) (as : List Value) (X : mz_X) (Q : Int32 → mz_X → Prop) (hC : C_Gr_firstCell w h lay as X Q) (K : mz_K) (hK : mz_Cl (I_Gr_firstCell w h) (mz_qi lay Q) K) : K 0 (mz_ent 2 as) [] (lay, X) := by
  unfold C_Gr_firstCell at hC
  split at hC
  ·
    obtain ⟨rfl, g, hq⟩ := hC
    have hn := mz_geo_n g
    have loop : ∀ (k i : Nat), i + k = w * h → zg_fst X (w * h) 0 = zg_fst X k i → K 2 [some (.ref 1), some (.int (nI i))] [] (mz_lay w h, X) := by
      intro k
      induction k with
      | zero =>
        intro i hi hf
        iterate 4 refine hK _ _ _ _ ?_
        refine hK _ _ _ _ (And.intro (fun c1 => ?_) (fun c1 => ?_))
        · refine hK _ _ _ _ ?_
          exact hK _ _ _ _ (And.intro rfl (by rw [hf] at hq; exact hq))
        · exact absurd (nI_le (a := w * h) (b := i) (by omega) (by omega)) c1
      | succ k ih =>
        intro i hi hf
        iterate 4 refine hK _ _ _ _ ?_
        refine hK _ _ _ _ (And.intro (fun c1 => ?_) (fun c1 => ?_))
        · exact absurd c1 (nI_ge (by omega) (by omega))
        · iterate 3 refine hK _ _ _ _ ?_
          refine hK _ _ _ _ (And.intro (vp_in_nI (by omega) (by omega)) ?_)
          refine hK _ _ _ _ (And.intro (fun c2 => ?_) (fun c2 => ?_))
          · dsimp only at c2
            rw [nI_clamp (by omega)] at c2
            refine hK _ _ _ _ ?_
            exact hK _ _ _ _ (And.intro rfl (by rw [hf] at hq; simpa [zg_fst, zg_fre, c2] using hq))
          · dsimp only at c2
            rw [nI_clamp (by omega)] at c2
            iterate 2 refine hK _ _ _ _ ?_
            have := ih (i + 1) (by omega) (by rw [hf]; simp [zg_fst, zg_fre, c2])
            rw [← nI_1] at this
            exact this
    iterate 2 refine hK _ _ _ _ ?_
    exact loop (w * h) 0 (by omega) rfl
  · exact hC.elim
theorem len_Gr_openDoors (w h : Nat) (lay : List mz_E) (as : List Value) (X : mz_X) (Q : Int32 → mz_X → Prop) (hC : C_Gr_openDoors w h lay as X Q) : (mz_l0 as).length ≤ 3 := by
  unfold C_Gr_openDoors at hC
  split at hC
  · exact Nat.le_of_ble_eq_true rfl
  · exact hC.elim
theorem ok_Gr_openDoors (w h : Nat) (lay : List mz_E) (as : List Value) (X : mz_X) (Q : Int32 → mz_X → Prop) (hC : C_Gr_openDoors w h lay as X Q) (K : mz_K) (hK : mz_Cl (I_Gr_openDoors w h) (mz_qi lay Q) K) : K 0 (mz_ent 3 as) [] (lay, X) := by
  unfold C_Gr_openDoors at hC
  split at hC
  ·
    obtain ⟨rfl, g, D, hD, hX, hq⟩ := hC
    have loop : ∀ (k i : Nat), i + k = D → K 4 [some (.ref 1), some (.int (nI (mz_cnt (fun i => zg_open w h X (nI i)) i))), some (.int (nI i))] [] (mz_lay w h, X) := by
      intro k
      induction k with
      | zero =>
        intro i hi
        iterate 3 refine hK _ _ _ _ ?_
        refine hK _ _ _ _ (And.intro (fun c1 => ?_) (fun c1 => ?_))
        · refine hK _ _ _ _ ?_
          exact hK _ _ _ _ (And.intro rfl (by rw [← hi] at hq; exact hq))
        · dsimp only at c1
          rw [hX] at c1
          exact absurd (nI_le (a := D) (b := i) (by omega) (by omega)) c1
      | succ k ih =>
        intro i hi
        iterate 3 refine hK _ _ _ _ ?_
        refine hK _ _ _ _ (And.intro (fun c1 => ?_) (fun c1 => ?_))
        · dsimp only at c1
          rw [hX] at c1
          exact absurd c1 (nI_ge (by omega) (by omega))
        · iterate 2 refine hK _ _ _ _ ?_
          refine hK _ _ _ _ (And.intro (rfl) (And.intro (g) ?_))
          refine hK _ _ _ _ (And.intro (fun c2 => ?_) (fun c2 => ?_))
          · have e := mz_cnt_f (f := fun i => zg_open w h X (nI i)) (n := i) (mz_b0 c2)
            iterate 2 refine hK _ _ _ _ ?_
            have := ih (i + 1) (by omega)
            rw [e, ← nI_1] at this
            exact this
          · have e := mz_cnt_t (f := fun i => zg_open w h X (nI i)) (n := i) (mz_b1 c2)
            iterate 3 refine hK _ _ _ _ ?_
            have := ih (i + 1) (by omega)
            rw [← e, ← nI_1] at this
            exact this
    iterate 4 refine hK _ _ _ _ ?_
    exact loop D 0 (by omega)
  · exact hC.elim
theorem len_Gr_openSides (w h : Nat) (lay : List mz_E) (as : List Value) (X : mz_X) (Q : Int32 → mz_X → Prop) (hC : C_Gr_openSides w h lay as X Q) : (mz_l0 as).length ≤ 4 := by
  unfold C_Gr_openSides at hC
  split at hC
  · exact Nat.le_of_ble_eq_true rfl
  · exact hC.elim
theorem ok_Gr_openSides (w h : Nat) (lay : List mz_E) (as : List Value) (X : mz_X) (Q : Int32 → mz_X → Prop) (hC : C_Gr_openSides w h lay as X Q) (K : mz_K) (hK : mz_Cl (I_Gr_openSides w h) (mz_qi lay Q) K) : K 0 (mz_ent 4 as) [] (lay, X) := by
  unfold C_Gr_openSides at hC
  split at hC
  · next c =>
    obtain ⟨rfl, g, hq⟩ := hC
    have loop : ∀ (k i : Nat), i + k = 4 → K 4 [some (.ref 1), some (.int c), some (.int (nI (mz_cnt (fun s => zg_open w h X (zg_on w h X c (nI s))) i))), some (.int (nI i))] [] (mz_lay w h, X) := by
      intro k
      induction k with
      | zero =>
        intro i hi
        iterate 2 refine hK _ _ _ _ ?_
        refine hK _ _ _ _ (And.intro (fun c1 => ?_) (fun c1 => ?_))
        · refine hK _ _ _ _ ?_
          exact hK _ _ _ _ (And.intro rfl (by rw [← hi] at hq; exact hq))
        · exact absurd (nI_le (a := 4) (b := i) (by omega) (by omega)) c1
      | succ k ih =>
        intro i hi
        iterate 2 refine hK _ _ _ _ ?_
        refine hK _ _ _ _ (And.intro (fun c1 => ?_) (fun c1 => ?_))
        · exact absurd c1 (nI_ge (a := i) (b := 4) (by omega) (by omega))
        · iterate 4 refine hK _ _ _ _ ?_
          refine hK _ _ _ _ (And.intro (rfl) (And.intro (g) ?_))
          refine hK _ _ _ _ (And.intro (rfl) (And.intro (g) ?_))
          refine hK _ _ _ _ (And.intro (fun c2 => ?_) (fun c2 => ?_))
          · have e := mz_cnt_f (f := fun s => zg_open w h X (zg_on w h X c (nI s))) (n := i) (mz_b0 c2)
            iterate 2 refine hK _ _ _ _ ?_
            have := ih (i + 1) (by omega)
            rw [e, ← nI_1] at this
            exact this
          · have e := mz_cnt_t (f := fun s => zg_open w h X (zg_on w h X c (nI s))) (n := i) (mz_b1 c2)
            iterate 3 refine hK _ _ _ _ ?_
            have := ih (i + 1) (by omega)
            rw [← e, ← nI_1] at this
            exact this
    iterate 4 refine hK _ _ _ _ ?_
    exact loop 4 0 (by omega)
  · exact hC.elim
theorem len_Gr_setDoor (w h : Nat) (lay : List mz_E) (as : List Value) (X : mz_X) (Q : Int32 → mz_X → Prop) (hC : C_Gr_setDoor w h lay as X Q) : (mz_l0 as).length ≤ 3 := by
  unfold C_Gr_setDoor at hC
  split at hC
  · exact Nat.le_of_ble_eq_true rfl
  · exact hC.elim
theorem ok_Gr_setDoor (w h : Nat) (lay : List mz_E) (as : List Value) (X : mz_X) (Q : Int32 → mz_X → Prop) (hC : C_Gr_setDoor w h lay as X Q) (K : mz_K) (hK : mz_Cl (I_Gr_setDoor w h) (mz_qi lay Q) K) : K 0 (mz_ent 3 as) [] (lay, X) := by
  unfold C_Gr_setDoor at hC
  split at hC
  · next d v =>
    obtain ⟨rfl, g, hv, hq⟩ := hC
    iterate 2 refine hK _ _ _ _ ?_
    refine hK _ _ _ _ (And.intro (rfl) (And.intro (g) ?_))
    refine hK _ _ _ _ (And.intro (fun c1 => ?_) (fun c1 => ?_))
    · rw [show zg_setB w h X d v = false by simp [zg_setB, mz_b0 c1]] at hq
      refine hK _ _ _ _ ?_
      exact hK _ _ _ _ (And.intro (Or.inl rfl) (And.intro rfl (hq)))
    · iterate 3 refine hK _ _ _ _ ?_
      refine hK _ _ _ _ (And.intro (zg_door_in g (mz_b1 c1)) ?_)
      refine hK _ _ _ _ ?_
      refine hK _ _ _ _ (And.intro (fun c2 => ?_) (fun c2 => ?_))
      · dsimp only at c2
        rw [show zg_setB w h X d v = false by simp [zg_setB, c2]] at hq
        refine hK _ _ _ _ ?_
        exact hK _ _ _ _ (And.intro (Or.inl rfl) (And.intro rfl (hq)))
      · dsimp only at c2
        rw [show zg_setB w h X d v = true by simp [zg_setB, mz_b1 c1, c2]] at hq
        iterate 4 refine hK _ _ _ _ ?_
        refine hK _ _ _ _ (And.intro (zg_door_in g (mz_b1 c1)) ?_)
        rw [mz_narb hv]
        iterate 7 refine hK _ _ _ _ ?_
        exact hK _ _ _ _ (And.intro (Or.inr rfl) (And.intro rfl (hq)))
  · exact hC.elim
theorem len_Gr_closeDoors (w h : Nat) (lay : List mz_E) (as : List Value) (X : mz_X) (Q : mz_X → Prop) (hC : C_Gr_closeDoors w h lay as X Q) : (mz_l0 as).length ≤ 2 := by
  unfold C_Gr_closeDoors at hC
  split at hC
  · exact Nat.le_of_ble_eq_true rfl
  · exact hC.elim
theorem ok_Gr_closeDoors (w h : Nat) (lay : List mz_E) (as : List Value) (X : mz_X) (Q : mz_X → Prop) (hC : C_Gr_closeDoors w h lay as X Q) (K : mz_K) (hK : mz_Cl (I_Gr_closeDoors w h) (mz_qv lay Q) K) : K 0 (mz_ent 2 as) [] (lay, X) := by
  unfold C_Gr_closeDoors at hC
  split at hC
  ·
    obtain ⟨rfl, g, hq⟩ := hC
    have hd := mz_geo_d g
    have loop : ∀ (k i : Nat), i + k = mz_dn w h → K 2 [some (.ref 1), some (.int (nI i))] [] (mz_lay w h, mz_fil X.1 6 i 0, X.2) := by
      intro k
      induction k with
      | zero =>
        intro i hi
        iterate 4 refine hK _ _ _ _ ?_
        refine hK _ _ _ _ (And.intro (fun c1 => ?_) (fun c1 => ?_))
        · iterate 6 refine hK _ _ _ _ ?_
          exact hK _ _ _ _ (And.intro rfl (by unfold zg_closeX at hq; rw [← hi] at hq; exact hq))
        · exact absurd (nI_le (a := mz_dn w h) (b := i) (by omega) (by omega)) c1
      | succ k ih =>
        intro i hi
        iterate 4 refine hK _ _ _ _ ?_
        refine hK _ _ _ _ (And.intro (fun c1 => ?_) (fun c1 => ?_))
        · exact absurd c1 (nI_ge (by omega) (by omega))
        · iterate 4 refine hK _ _ _ _ ?_
          refine hK _ _ _ _ (And.intro (vp_in_nI (by omega) (by omega)) ?_)
          iterate 2 refine hK _ _ _ _ ?_
          have := ih (i + 1) (by omega)
          rw [← mz_fil_s, ← nI_1] at this
          rw [nI_clamp (by omega)]
          exact this
    iterate 2 refine hK _ _ _ _ ?_
    have := loop (mz_dn w h) 0 (by omega)
    rw [mz_fil_0] at this
    exact this
  · exact hC.elim
theorem len_Gr_addDoor (w h : Nat) (lay : List mz_E) (as : List Value) (X : mz_X) (Q : mz_X → Prop) (hC : C_Gr_addDoor w h lay as X Q) : (mz_l0 as).length ≤ 5 := by
  unfold C_Gr_addDoor at hC
  split at hC
  · exact Nat.le_of_ble_eq_true rfl
  · exact hC.elim
theorem ok_Gr_addDoor (w h : Nat) (lay : List mz_E) (as : List Value) (X : mz_X) (Q : mz_X → Prop) (hC : C_Gr_addDoor w h lay as X Q) (K : mz_K) (hK : mz_Cl (I_Gr_addDoor w h) (mz_qv lay Q) K) : K 0 (mz_ent 5 as) [] (lay, X) := by
  unfold C_Gr_addDoor at hC
  split at hC
  · next c s o t =>
    obtain ⟨rfl, g, h7, hs, ht, hq⟩ := hC
    have hn := mz_geo_n g
    have hd := mz_geo_d g
    have h28 : zg_addB w h X c o = false → K 28 (mz_ent 5 [.ref 1, .int c, .int s, .int o, .int t]) [] (mz_lay w h, X) := by
      intro e
      simp only [zg_add, e] at hq
      exact hK _ _ _ _ (And.intro rfl (hq))
    iterate 2 refine hK _ _ _ _ ?_
    refine hK _ _ _ _ (And.intro (rfl) (And.intro (g) ?_))
    refine hK _ _ _ _ (And.intro (fun c1 => ?_) (fun c1 => ?_))
    · exact h28 (by simp [zg_addB, mz_b0 c1])
    · iterate 2 refine hK _ _ _ _ ?_
      refine hK _ _ _ _ (And.intro (rfl) (And.intro (g) ?_))
      refine hK _ _ _ _ (And.intro (fun c2 => ?_) (fun c2 => ?_))
      · exact h28 (by simp [zg_addB, mz_b0 c2])
      · iterate 5 refine hK _ _ _ _ ?_
        refine hK _ _ _ _ (And.intro (fun c3 => ?_) (fun c3 => ?_))
        · dsimp only at c3
          have hb : zg_addB w h X c o = true := by simp [zg_addB, mz_b1 c1, mz_b1 c2, c3]
          simp only [zg_add, hb] at hq
          have hc := mz_b1 c1
          have ho := mz_b1 c2
          simp only [zg_free, Bool.and_eq_true, decide_eq_true_eq] at hc ho
          have hcin := mz_lt_in hc.1 (by omega)
          have hoin := mz_lt_in ho.1 (by omega)
          have h7in : vp_in (X.1 1 7) (mz_dn w h) := mz_in h7 (by rw [Int32.not_le]; exact c3) (by omega)
          iterate 5 refine hK _ _ _ _ ?_
          refine hK _ _ _ _ (And.intro (h7in) ?_)
          iterate 5 refine hK _ _ _ _ ?_
          refine hK _ _ _ _ (And.intro (h7in) ?_)
          iterate 9 refine hK _ _ _ _ ?_
          refine hK _ _ _ _ (And.intro (mz_side_in hn hcin hs.1 hs.2) ?_)
          iterate 9 refine hK _ _ _ _ ?_
          refine hK _ _ _ _ (And.intro (mz_side_in hn hoin ht.1 ht.2) ?_)
          iterate 6 refine hK _ _ _ _ ?_
          exact hK _ _ _ _ (And.intro rfl (hq))
        · dsimp only at c3
          exact h28 (by simp [zg_addB, c3])
  · exact hC.elim
set_option maxRecDepth 20000 in
theorem snd_Gr_freeCells (w h : Nat) (l : Launch) (p : Program) (e : Env) (s : State) (m : MethodId) (args : Array Value) (below : List Frame) (meth : Method) (c : Code) (D : va_G) (ad0 : Nat → Nat) (cA0 : Nat → ClassId) (A : Nat → Prop) (lay : List mz_E) (Q : Int32 → mz_X → Prop) (F : mz_F p s m args meth c prog_5_method_12_code 3 y_Gr_freeCells.cls (some .int) w_Gr_freeCells) (hA : ∀ q, s.heap.size ≤ q → A q) : mz_All (mz_V p l e (mz_rm 0 0) s m args below meth c 3 lay.length (mz_sz lay) D mz_cls (mz_G0 ad0 cA0) A (MQ below (va_Qi Q (mz_B D mz_cls ad0 cA0 lay A) A) args s 0 0 A)) (mz_qi lay Q) (I_Gr_freeCells w h) := by
  obtain ⟨hx, hb, hml, hown, hts, hr, hlk⟩ := F
  unfold I_Gr_freeCells
  refine mz_All.cons (sd_iconst hx hb (mz_dg d_Gr_freeCells 0 0 (.iconst (0)) 1 rfl) (by decide)) ?_
  refine mz_All.cons (sd_istore_n hx hb (mz_dg d_Gr_freeCells 1 1 (.istore_n 1) 1 rfl) rfl (by decide)) ?_
  refine mz_All.cons (sd_iconst hx hb (mz_dg d_Gr_freeCells 2 2 (.iconst (0)) 1 rfl) (by decide)) ?_
  refine mz_All.cons (sd_istore_n hx hb (mz_dg d_Gr_freeCells 3 3 (.istore_n 2) 1 rfl) rfl (by decide)) ?_
  refine mz_All.cons (sd_iload_n hx hb (mz_dg d_Gr_freeCells 4 4 (.iload_n 2) 1 rfl) rfl) ?_
  refine mz_All.cons (sd_aload_n hx hb (mz_dg d_Gr_freeCells 5 5 (.aload_n 0) 1 rfl) rfl) ?_
  refine mz_All.cons (sd_get (k := 2) hx hb hts (mz_inC in_Gr) hown (T := T_Gr) (N := 9) rfl (by decide) (hts (.fieldLink "MazeForms$Grid" 22 "MazeForms$Grid" "masked" "[Z") (List.mem_cons_of_mem _ wm_126)) (fun _ h => h) (mz_dg d_Gr_freeCells 6 6 (.getfield 22) 3 rfl)) ?_
  refine mz_All.cons (sd_alen hx hb (mz_dg d_Gr_freeCells 7 9 (.arraylength) 1 rfl)) ?_
  refine mz_All.cons (sd_icmp_ge hx hb (mz_dg d_Gr_freeCells 8 10 (.if_icmp .ge (21)) 3 rfl) (by decide)) ?_
  refine mz_All.cons (sd_aload_n hx hb (mz_dg d_Gr_freeCells 9 13 (.aload_n 0) 1 rfl) rfl) ?_
  refine mz_All.cons (sd_get (k := 2) hx hb hts (mz_inC in_Gr) hown (T := T_Gr) (N := 9) rfl (by decide) (hts (.fieldLink "MazeForms$Grid" 22 "MazeForms$Grid" "masked" "[Z") (List.mem_cons_of_mem _ wm_126)) (fun _ h => h) (mz_dg d_Gr_freeCells 10 14 (.getfield 22) 3 rfl)) ?_
  refine mz_All.cons (sd_iload_n hx hb (mz_dg d_Gr_freeCells 11 17 (.iload_n 2) 1 rfl) rfl) ?_
  refine mz_All.cons (sd_zald hx hb (mz_dg d_Gr_freeCells 12 18 (.baload) 1 rfl)) ?_
  refine mz_All.cons (sd_if_ne hx hb (mz_dg d_Gr_freeCells 13 19 (.ifCond .ne (6)) 3 rfl) (by decide)) ?_
  refine mz_All.cons (sd_iinc hx hb (mz_dg d_Gr_freeCells 14 22 (.iinc 1 (1)) 3 rfl) (by decide) (by decide)) ?_
  refine mz_All.cons (sd_iinc hx hb (mz_dg d_Gr_freeCells 15 25 (.iinc 2 (1)) 3 rfl) (by decide) (by decide)) ?_
  refine mz_All.cons (sd_goto hx hb (mz_dg d_Gr_freeCells 16 28 (.goto (-24)) 3 rfl) (by decide)) ?_
  refine mz_All.cons (sd_iload_n hx hb (mz_dg d_Gr_freeCells 17 31 (.iload_n 1) 1 rfl) rfl) ?_
  refine mz_All.cons (sd_ri hx hb hr hlk (mz_dg d_Gr_freeCells 18 32 (.ireturn) 1 rfl)) ?_
  exact trivial
theorem met_Gr_freeCells (w h : Nat) (l : Launch) : mz_MI l y_Gr_freeCells w_Gr_freeCells 0 0 mz_cls (C_Gr_freeCells w h) := mz_MI_of (I_Gr_freeCells w h) (by decide) rfl (len_Gr_freeCells w h) (ok_Gr_freeCells w h) (snd_Gr_freeCells w h l)
set_option maxRecDepth 20000 in
theorem snd_Gr_firstCell (w h : Nat) (l : Launch) (p : Program) (e : Env) (s : State) (m : MethodId) (args : Array Value) (below : List Frame) (meth : Method) (c : Code) (D : va_G) (ad0 : Nat → Nat) (cA0 : Nat → ClassId) (A : Nat → Prop) (lay : List mz_E) (Q : Int32 → mz_X → Prop) (F : mz_F p s m args meth c prog_5_method_13_code 2 y_Gr_firstCell.cls (some .int) w_Gr_firstCell) (hA : ∀ q, s.heap.size ≤ q → A q) : mz_All (mz_V p l e (mz_rm 0 0) s m args below meth c 2 lay.length (mz_sz lay) D mz_cls (mz_G0 ad0 cA0) A (MQ below (va_Qi Q (mz_B D mz_cls ad0 cA0 lay A) A) args s 0 0 A)) (mz_qi lay Q) (I_Gr_firstCell w h) := by
  obtain ⟨hx, hb, hml, hown, hts, hr, hlk⟩ := F
  unfold I_Gr_firstCell
  refine mz_All.cons (sd_iconst hx hb (mz_dg d_Gr_firstCell 0 0 (.iconst (0)) 1 rfl) (by decide)) ?_
  refine mz_All.cons (sd_istore_n hx hb (mz_dg d_Gr_firstCell 1 1 (.istore_n 1) 1 rfl) rfl (by decide)) ?_
  refine mz_All.cons (sd_iload_n hx hb (mz_dg d_Gr_firstCell 2 2 (.iload_n 1) 1 rfl) rfl) ?_
  refine mz_All.cons (sd_aload_n hx hb (mz_dg d_Gr_firstCell 3 3 (.aload_n 0) 1 rfl) rfl) ?_
  refine mz_All.cons (sd_get (k := 2) hx hb hts (mz_inC in_Gr) hown (T := T_Gr) (N := 9) rfl (by decide) (hts (.fieldLink "MazeForms$Grid" 22 "MazeForms$Grid" "masked" "[Z") (List.mem_cons_of_mem _ wm_126)) (fun _ h => h) (mz_dg d_Gr_firstCell 4 4 (.getfield 22) 3 rfl)) ?_
  refine mz_All.cons (sd_alen hx hb (mz_dg d_Gr_firstCell 5 7 (.arraylength) 1 rfl)) ?_
  refine mz_All.cons (sd_icmp_ge hx hb (mz_dg d_Gr_firstCell 6 8 (.if_icmp .ge (20)) 3 rfl) (by decide)) ?_
  refine mz_All.cons (sd_aload_n hx hb (mz_dg d_Gr_firstCell 7 11 (.aload_n 0) 1 rfl) rfl) ?_
  refine mz_All.cons (sd_get (k := 2) hx hb hts (mz_inC in_Gr) hown (T := T_Gr) (N := 9) rfl (by decide) (hts (.fieldLink "MazeForms$Grid" 22 "MazeForms$Grid" "masked" "[Z") (List.mem_cons_of_mem _ wm_126)) (fun _ h => h) (mz_dg d_Gr_firstCell 8 12 (.getfield 22) 3 rfl)) ?_
  refine mz_All.cons (sd_iload_n hx hb (mz_dg d_Gr_firstCell 9 15 (.iload_n 1) 1 rfl) rfl) ?_
  refine mz_All.cons (sd_zald hx hb (mz_dg d_Gr_firstCell 10 16 (.baload) 1 rfl)) ?_
  refine mz_All.cons (sd_if_ne hx hb (mz_dg d_Gr_firstCell 11 17 (.ifCond .ne (5)) 3 rfl) (by decide)) ?_
  refine mz_All.cons (sd_iload_n hx hb (mz_dg d_Gr_firstCell 12 20 (.iload_n 1) 1 rfl) rfl) ?_
  refine mz_All.cons (sd_ri hx hb hr hlk (mz_dg d_Gr_firstCell 13 21 (.ireturn) 1 rfl)) ?_
  refine mz_All.cons (sd_iinc hx hb (mz_dg d_Gr_firstCell 14 22 (.iinc 1 (1)) 3 rfl) (by decide) (by decide)) ?_
  refine mz_All.cons (sd_goto hx hb (mz_dg d_Gr_firstCell 15 25 (.goto (-23)) 3 rfl) (by decide)) ?_
  refine mz_All.cons (sd_iconst hx hb (mz_dg d_Gr_firstCell 16 28 (.iconst (-1)) 1 rfl) (by decide)) ?_
  refine mz_All.cons (sd_ri hx hb hr hlk (mz_dg d_Gr_firstCell 17 29 (.ireturn) 1 rfl)) ?_
  exact trivial
theorem met_Gr_firstCell (w h : Nat) (l : Launch) : mz_MI l y_Gr_firstCell w_Gr_firstCell 0 0 mz_cls (C_Gr_firstCell w h) := mz_MI_of (I_Gr_firstCell w h) (by decide) rfl (len_Gr_firstCell w h) (ok_Gr_firstCell w h) (snd_Gr_firstCell w h l)
set_option maxRecDepth 20000 in
theorem snd_Gr_openDoors (w h : Nat) (l : Launch) (p : Program) (e : Env) (s : State) (m : MethodId) (args : Array Value) (below : List Frame) (meth : Method) (c : Code) (D : va_G) (ad0 : Nat → Nat) (cA0 : Nat → ClassId) (A : Nat → Prop) (lay : List mz_E) (Q : Int32 → mz_X → Prop) (F : mz_F p s m args meth c prog_5_method_14_code 3 y_Gr_openDoors.cls (some .int) w_Gr_openDoors) (hA : ∀ q, s.heap.size ≤ q → A q) : mz_All (mz_V p l e (mz_rm 2 42) s m args below meth c 3 lay.length (mz_sz lay) D mz_cls (mz_G0 ad0 cA0) A (MQ below (va_Qi Q (mz_B D mz_cls ad0 cA0 lay A) A) args s 0 0 A)) (mz_qi lay Q) (I_Gr_openDoors w h) := by
  obtain ⟨hx, hb, hml, hown, hts, hr, hlk⟩ := F
  unfold I_Gr_openDoors
  refine mz_All.cons (sd_iconst hx hb (mz_dg d_Gr_openDoors 0 0 (.iconst (0)) 1 rfl) (by decide)) ?_
  refine mz_All.cons (sd_istore_n hx hb (mz_dg d_Gr_openDoors 1 1 (.istore_n 1) 1 rfl) rfl (by decide)) ?_
  refine mz_All.cons (sd_iconst hx hb (mz_dg d_Gr_openDoors 2 2 (.iconst (0)) 1 rfl) (by decide)) ?_
  refine mz_All.cons (sd_istore_n hx hb (mz_dg d_Gr_openDoors 3 3 (.istore_n 2) 1 rfl) rfl (by decide)) ?_
  refine mz_All.cons (sd_iload_n hx hb (mz_dg d_Gr_openDoors 4 4 (.iload_n 2) 1 rfl) rfl) ?_
  refine mz_All.cons (sd_aload_n hx hb (mz_dg d_Gr_openDoors 5 5 (.aload_n 0) 1 rfl) rfl) ?_
  refine mz_All.cons (sd_get (k := 7) hx hb hts (mz_inC in_Gr) hown (T := T_Gr) (N := 9) rfl (by decide) (hts (.fieldLink "MazeForms$Grid" 42 "MazeForms$Grid" "doorCount" "I") (List.mem_cons_of_mem _ wm_131)) (fun _ h => h) (mz_dg d_Gr_openDoors 6 6 (.getfield 42) 3 rfl)) ?_
  refine mz_All.cons (sd_icmp_ge hx hb (mz_dg d_Gr_openDoors 7 9 (.if_icmp .ge (20)) 3 rfl) (by decide)) ?_
  refine mz_All.cons (sd_aload_n hx hb (mz_dg d_Gr_openDoors 8 12 (.aload_n 0) 1 rfl) rfl) ?_
  refine mz_All.cons (sd_iload_n hx hb (mz_dg d_Gr_openDoors 9 13 (.iload_n 2) 1 rfl) rfl) ?_
  refine mz_All.cons (sd_calli (T := T_Gr) ⟨hx, hb, hml, hown, hts⟩ (met_Gr_isOpen w h l) (cwV 1 hts (mz_gV wm_589 wm_497 wm_498 wm_67 wm_499) rfl rfl rfl (by decide) ⟨by decide, by decide⟩) rfl hA rfl (mz_dg d_Gr_openDoors 10 14 (.invokevirtual 55) 3 rfl)) ?_
  refine mz_All.cons (sd_if_eq hx hb (mz_dg d_Gr_openDoors 11 17 (.ifCond .eq (6)) 3 rfl) (by decide)) ?_
  refine mz_All.cons (sd_iinc hx hb (mz_dg d_Gr_openDoors 12 20 (.iinc 1 (1)) 3 rfl) (by decide) (by decide)) ?_
  refine mz_All.cons (sd_iinc hx hb (mz_dg d_Gr_openDoors 13 23 (.iinc 2 (1)) 3 rfl) (by decide) (by decide)) ?_
  refine mz_All.cons (sd_goto hx hb (mz_dg d_Gr_openDoors 14 26 (.goto (-22)) 3 rfl) (by decide)) ?_
  refine mz_All.cons (sd_iload_n hx hb (mz_dg d_Gr_openDoors 15 29 (.iload_n 1) 1 rfl) rfl) ?_
  refine mz_All.cons (sd_ri hx hb hr hlk (mz_dg d_Gr_openDoors 16 30 (.ireturn) 1 rfl)) ?_
  exact trivial
theorem met_Gr_openDoors (w h : Nat) (l : Launch) : mz_MI l y_Gr_openDoors w_Gr_openDoors 2 42 mz_cls (C_Gr_openDoors w h) := mz_MI_of (I_Gr_openDoors w h) (by decide) rfl (len_Gr_openDoors w h) (ok_Gr_openDoors w h) (snd_Gr_openDoors w h l)
set_option maxRecDepth 20000 in
theorem snd_Gr_openSides (w h : Nat) (l : Launch) (p : Program) (e : Env) (s : State) (m : MethodId) (args : Array Value) (below : List Frame) (meth : Method) (c : Code) (D : va_G) (ad0 : Nat → Nat) (cA0 : Nat → ClassId) (A : Nat → Prop) (lay : List mz_E) (Q : Int32 → mz_X → Prop) (F : mz_F p s m args meth c prog_5_method_16_code 4 y_Gr_openSides.cls (some .int) w_Gr_openSides) (hA : ∀ q, s.heap.size ≤ q → A q) : mz_All (mz_V p l e (mz_rm 2 44) s m args below meth c 4 lay.length (mz_sz lay) D mz_cls (mz_G0 ad0 cA0) A (MQ below (va_Qi Q (mz_B D mz_cls ad0 cA0 lay A) A) args s 0 0 A)) (mz_qi lay Q) (I_Gr_openSides w h) := by
  obtain ⟨hx, hb, hml, hown, hts, hr, hlk⟩ := F
  unfold I_Gr_openSides
  refine mz_All.cons (sd_iconst hx hb (mz_dg d_Gr_openSides 0 0 (.iconst (0)) 1 rfl) (by decide)) ?_
  refine mz_All.cons (sd_istore_n hx hb (mz_dg d_Gr_openSides 1 1 (.istore_n 2) 1 rfl) rfl (by decide)) ?_
  refine mz_All.cons (sd_iconst hx hb (mz_dg d_Gr_openSides 2 2 (.iconst (0)) 1 rfl) (by decide)) ?_
  refine mz_All.cons (sd_istore_n hx hb (mz_dg d_Gr_openSides 3 3 (.istore_n 3) 1 rfl) rfl (by decide)) ?_
  refine mz_All.cons (sd_iload_n hx hb (mz_dg d_Gr_openSides 4 4 (.iload_n 3) 1 rfl) rfl) ?_
  refine mz_All.cons (sd_iconst hx hb (mz_dg d_Gr_openSides 5 5 (.iconst (4)) 1 rfl) (by decide)) ?_
  refine mz_All.cons (sd_icmp_ge hx hb (mz_dg d_Gr_openSides 6 6 (.if_icmp .ge (25)) 3 rfl) (by decide)) ?_
  refine mz_All.cons (sd_aload_n hx hb (mz_dg d_Gr_openSides 7 9 (.aload_n 0) 1 rfl) rfl) ?_
  refine mz_All.cons (sd_aload_n hx hb (mz_dg d_Gr_openSides 8 10 (.aload_n 0) 1 rfl) rfl) ?_
  refine mz_All.cons (sd_iload_n hx hb (mz_dg d_Gr_openSides 9 11 (.iload_n 1) 1 rfl) rfl) ?_
  refine mz_All.cons (sd_iload_n hx hb (mz_dg d_Gr_openSides 10 12 (.iload_n 3) 1 rfl) rfl) ?_
  refine mz_All.cons (sd_calli (T := T_Gr) ⟨hx, hb, hml, hown, hts⟩ (met_Gr_doorOn w h l) (cwV 2 hts (mz_gV wm_588 wm_372 wm_373 wm_67 wm_374) rfl rfl rfl (by decide) ⟨by decide, by decide⟩) rfl hA rfl (mz_dg d_Gr_openSides 11 13 (.invokevirtual 58) 3 rfl)) ?_
  refine mz_All.cons (sd_calli (T := T_Gr) ⟨hx, hb, hml, hown, hts⟩ (met_Gr_isOpen w h l) (cwV 1 hts (mz_gV wm_589 wm_497 wm_498 wm_67 wm_499) rfl rfl rfl (by decide) ⟨by decide, by decide⟩) rfl hA rfl (mz_dg d_Gr_openSides 12 16 (.invokevirtual 55) 3 rfl)) ?_
  refine mz_All.cons (sd_if_eq hx hb (mz_dg d_Gr_openSides 13 19 (.ifCond .eq (6)) 3 rfl) (by decide)) ?_
  refine mz_All.cons (sd_iinc hx hb (mz_dg d_Gr_openSides 14 22 (.iinc 2 (1)) 3 rfl) (by decide) (by decide)) ?_
  refine mz_All.cons (sd_iinc hx hb (mz_dg d_Gr_openSides 15 25 (.iinc 3 (1)) 3 rfl) (by decide) (by decide)) ?_
  refine mz_All.cons (sd_goto hx hb (mz_dg d_Gr_openSides 16 28 (.goto (-24)) 3 rfl) (by decide)) ?_
  refine mz_All.cons (sd_iload_n hx hb (mz_dg d_Gr_openSides 17 31 (.iload_n 2) 1 rfl) rfl) ?_
  refine mz_All.cons (sd_ri hx hb hr hlk (mz_dg d_Gr_openSides 18 32 (.ireturn) 1 rfl)) ?_
  exact trivial
theorem met_Gr_openSides (w h : Nat) (l : Launch) : mz_MI l y_Gr_openSides w_Gr_openSides 2 44 mz_cls (C_Gr_openSides w h) := mz_MI_of (I_Gr_openSides w h) (by decide) rfl (len_Gr_openSides w h) (ok_Gr_openSides w h) (snd_Gr_openSides w h l)
set_option maxRecDepth 20000 in
theorem snd_Gr_setDoor (w h : Nat) (l : Launch) (p : Program) (e : Env) (s : State) (m : MethodId) (args : Array Value) (below : List Frame) (meth : Method) (c : Code) (D : va_G) (ad0 : Nat → Nat) (cA0 : Nat → ClassId) (A : Nat → Prop) (lay : List mz_E) (Q : Int32 → mz_X → Prop) (F : mz_F p s m args meth c prog_5_method_20_code 3 y_Gr_setDoor.cls (some .boolean) w_Gr_setDoor) (hA : ∀ q, s.heap.size ≤ q → A q) : mz_All (mz_V p l e (mz_rm 1 21) s m args below meth c 3 lay.length (mz_sz lay) D mz_cls (mz_G0 ad0 cA0) A (MQ below (va_Qi Q (mz_B D mz_cls ad0 cA0 lay A) A) args s 0 0 A)) (mz_qi lay Q) (I_Gr_setDoor w h) := by
  obtain ⟨hx, hb, hml, hown, hts, hr, hlk⟩ := F
  unfold I_Gr_setDoor
  refine mz_All.cons (sd_aload_n hx hb (mz_dg d_Gr_setDoor 0 0 (.aload_n 0) 1 rfl) rfl) ?_
  refine mz_All.cons (sd_iload_n hx hb (mz_dg d_Gr_setDoor 1 1 (.iload_n 1) 1 rfl) rfl) ?_
  refine mz_All.cons (sd_calli (T := T_Gr) ⟨hx, hb, hml, hown, hts⟩ (met_Gr_isDoor w h l) (cwV 1 hts (mz_gV wm_379 wm_380 wm_381 wm_67 wm_382) rfl rfl rfl (by decide) ⟨by decide, by decide⟩) rfl hA rfl (mz_dg d_Gr_setDoor 2 2 (.invokevirtual 52) 3 rfl)) ?_
  refine mz_All.cons (sd_if_eq hx hb (mz_dg d_Gr_setDoor 3 5 (.ifCond .eq (13)) 3 rfl) (by decide)) ?_
  refine mz_All.cons (sd_aload_n hx hb (mz_dg d_Gr_setDoor 4 8 (.aload_n 0) 1 rfl) rfl) ?_
  refine mz_All.cons (sd_get (k := 6) hx hb hts (mz_inC in_Gr) hown (T := T_Gr) (N := 9) rfl (by decide) (hts (.fieldLink "MazeForms$Grid" 36 "MazeForms$Grid" "doorOpen" "[Z") (List.mem_cons_of_mem _ wm_130)) (fun _ h => h) (mz_dg d_Gr_setDoor 5 9 (.getfield 36) 3 rfl)) ?_
  refine mz_All.cons (sd_iload_n hx hb (mz_dg d_Gr_setDoor 6 12 (.iload_n 1) 1 rfl) rfl) ?_
  refine mz_All.cons (sd_zald hx hb (mz_dg d_Gr_setDoor 7 13 (.baload) 1 rfl)) ?_
  refine mz_All.cons (sd_iload_n hx hb (mz_dg d_Gr_setDoor 8 14 (.iload_n 2) 1 rfl) rfl) ?_
  refine mz_All.cons (sd_icmp_ne hx hb (mz_dg d_Gr_setDoor 9 15 (.if_icmp .ne (5)) 3 rfl) (by decide)) ?_
  refine mz_All.cons (sd_iconst hx hb (mz_dg d_Gr_setDoor 10 18 (.iconst (0)) 1 rfl) (by decide)) ?_
  refine mz_All.cons (sd_rz hx hb hr hlk (mz_dg d_Gr_setDoor 11 19 (.ireturn) 1 rfl)) ?_
  refine mz_All.cons (sd_aload_n hx hb (mz_dg d_Gr_setDoor 12 20 (.aload_n 0) 1 rfl) rfl) ?_
  refine mz_All.cons (sd_get (k := 6) hx hb hts (mz_inC in_Gr) hown (T := T_Gr) (N := 9) rfl (by decide) (hts (.fieldLink "MazeForms$Grid" 36 "MazeForms$Grid" "doorOpen" "[Z") (List.mem_cons_of_mem _ wm_130)) (fun _ h => h) (mz_dg d_Gr_setDoor 13 21 (.getfield 36) 3 rfl)) ?_
  refine mz_All.cons (sd_iload_n hx hb (mz_dg d_Gr_setDoor 14 24 (.iload_n 1) 1 rfl) rfl) ?_
  refine mz_All.cons (sd_iload_n hx hb (mz_dg d_Gr_setDoor 15 25 (.iload_n 2) 1 rfl) rfl) ?_
  refine mz_All.cons (sd_zast hx hb (mz_dg d_Gr_setDoor 16 26 (.bastore) 1 rfl)) ?_
  refine mz_All.cons (sd_aload_n hx hb (mz_dg d_Gr_setDoor 17 27 (.aload_n 0) 1 rfl) rfl) ?_
  refine mz_All.cons (sd_dup hx hb (mz_dg d_Gr_setDoor 18 28 (.dup) 1 rfl)) ?_
  refine mz_All.cons (sd_get (k := 8) hx hb hts (mz_inC in_Gr) hown (T := T_Gr) (N := 9) rfl (by decide) (hts (.fieldLink "MazeForms$Grid" 45 "MazeForms$Grid" "edition" "I") (List.mem_cons_of_mem _ wm_132)) (fun _ h => h) (mz_dg d_Gr_setDoor 19 29 (.getfield 45) 3 rfl)) ?_
  refine mz_All.cons (sd_iconst hx hb (mz_dg d_Gr_setDoor 20 32 (.iconst (1)) 1 rfl) (by decide)) ?_
  refine mz_All.cons (sd_iadd hx hb (mz_dg d_Gr_setDoor 21 33 (.iadd) 1 rfl)) ?_
  refine mz_All.cons (sd_puti (k := 8) hx hb hts (mz_inC in_Gr) ty_Gr ty_Gr_ok nm_Gr hown (T := T_Gr) (N := 9) rfl (by decide) (hts (.fieldLink "MazeForms$Grid" 45 "MazeForms$Grid" "edition" "I") (List.mem_cons_of_mem _ wm_132)) (fun _ h => h) rfl rfl (mz_dg d_Gr_setDoor 22 34 (.putfield 45) 3 rfl)) ?_
  refine mz_All.cons (sd_iconst hx hb (mz_dg d_Gr_setDoor 23 37 (.iconst (1)) 1 rfl) (by decide)) ?_
  refine mz_All.cons (sd_rz hx hb hr hlk (mz_dg d_Gr_setDoor 24 38 (.ireturn) 1 rfl)) ?_
  exact trivial
theorem met_Gr_setDoor (w h : Nat) (l : Launch) : mz_MI l y_Gr_setDoor w_Gr_setDoor 1 21 mz_cls (C_Gr_setDoor w h) := mz_MI_of (I_Gr_setDoor w h) (by decide) rfl (len_Gr_setDoor w h) (ok_Gr_setDoor w h) (snd_Gr_setDoor w h l)
set_option maxRecDepth 20000 in
theorem snd_Gr_closeDoors (w h : Nat) (l : Launch) (p : Program) (e : Env) (s : State) (m : MethodId) (args : Array Value) (below : List Frame) (meth : Method) (c : Code) (D : va_G) (ad0 : Nat → Nat) (cA0 : Nat → ClassId) (A : Nat → Prop) (lay : List mz_E) (Q : mz_X → Prop) (F : mz_F p s m args meth c prog_5_method_22_code 2 y_Gr_closeDoors.cls none w_Gr_closeDoors) (hA : ∀ q, s.heap.size ≤ q → A q) : mz_All (mz_V p l e (mz_rm 0 0) s m args below meth c 2 lay.length (mz_sz lay) D mz_cls (mz_G0 ad0 cA0) A (MQ below (va_Qv Q (mz_B D mz_cls ad0 cA0 lay A) A) args s 0 0 A)) (mz_qv lay Q) (I_Gr_closeDoors w h) := by
  obtain ⟨hx, hb, hml, hown, hts, hr, hlk⟩ := F
  unfold I_Gr_closeDoors
  refine mz_All.cons (sd_iconst hx hb (mz_dg d_Gr_closeDoors 0 0 (.iconst (0)) 1 rfl) (by decide)) ?_
  refine mz_All.cons (sd_istore_n hx hb (mz_dg d_Gr_closeDoors 1 1 (.istore_n 1) 1 rfl) rfl (by decide)) ?_
  refine mz_All.cons (sd_iload_n hx hb (mz_dg d_Gr_closeDoors 2 2 (.iload_n 1) 1 rfl) rfl) ?_
  refine mz_All.cons (sd_aload_n hx hb (mz_dg d_Gr_closeDoors 3 3 (.aload_n 0) 1 rfl) rfl) ?_
  refine mz_All.cons (sd_get (k := 6) hx hb hts (mz_inC in_Gr) hown (T := T_Gr) (N := 9) rfl (by decide) (hts (.fieldLink "MazeForms$Grid" 36 "MazeForms$Grid" "doorOpen" "[Z") (List.mem_cons_of_mem _ wm_130)) (fun _ h => h) (mz_dg d_Gr_closeDoors 4 4 (.getfield 36) 3 rfl)) ?_
  refine mz_All.cons (sd_alen hx hb (mz_dg d_Gr_closeDoors 5 7 (.arraylength) 1 rfl)) ?_
  refine mz_All.cons (sd_icmp_ge hx hb (mz_dg d_Gr_closeDoors 6 8 (.if_icmp .ge (16)) 3 rfl) (by decide)) ?_
  refine mz_All.cons (sd_aload_n hx hb (mz_dg d_Gr_closeDoors 7 11 (.aload_n 0) 1 rfl) rfl) ?_
  refine mz_All.cons (sd_get (k := 6) hx hb hts (mz_inC in_Gr) hown (T := T_Gr) (N := 9) rfl (by decide) (hts (.fieldLink "MazeForms$Grid" 36 "MazeForms$Grid" "doorOpen" "[Z") (List.mem_cons_of_mem _ wm_130)) (fun _ h => h) (mz_dg d_Gr_closeDoors 8 12 (.getfield 36) 3 rfl)) ?_
  refine mz_All.cons (sd_iload_n hx hb (mz_dg d_Gr_closeDoors 9 15 (.iload_n 1) 1 rfl) rfl) ?_
  refine mz_All.cons (sd_iconst hx hb (mz_dg d_Gr_closeDoors 10 16 (.iconst (0)) 1 rfl) (by decide)) ?_
  refine mz_All.cons (sd_zast hx hb (mz_dg d_Gr_closeDoors 11 17 (.bastore) 1 rfl)) ?_
  refine mz_All.cons (sd_iinc hx hb (mz_dg d_Gr_closeDoors 12 18 (.iinc 1 (1)) 3 rfl) (by decide) (by decide)) ?_
  refine mz_All.cons (sd_goto hx hb (mz_dg d_Gr_closeDoors 13 21 (.goto (-19)) 3 rfl) (by decide)) ?_
  refine mz_All.cons (sd_aload_n hx hb (mz_dg d_Gr_closeDoors 14 24 (.aload_n 0) 1 rfl) rfl) ?_
  refine mz_All.cons (sd_dup hx hb (mz_dg d_Gr_closeDoors 15 25 (.dup) 1 rfl)) ?_
  refine mz_All.cons (sd_get (k := 8) hx hb hts (mz_inC in_Gr) hown (T := T_Gr) (N := 9) rfl (by decide) (hts (.fieldLink "MazeForms$Grid" 45 "MazeForms$Grid" "edition" "I") (List.mem_cons_of_mem _ wm_132)) (fun _ h => h) (mz_dg d_Gr_closeDoors 16 26 (.getfield 45) 3 rfl)) ?_
  refine mz_All.cons (sd_iconst hx hb (mz_dg d_Gr_closeDoors 17 29 (.iconst (1)) 1 rfl) (by decide)) ?_
  refine mz_All.cons (sd_iadd hx hb (mz_dg d_Gr_closeDoors 18 30 (.iadd) 1 rfl)) ?_
  refine mz_All.cons (sd_puti (k := 8) hx hb hts (mz_inC in_Gr) ty_Gr ty_Gr_ok nm_Gr hown (T := T_Gr) (N := 9) rfl (by decide) (hts (.fieldLink "MazeForms$Grid" 45 "MazeForms$Grid" "edition" "I") (List.mem_cons_of_mem _ wm_132)) (fun _ h => h) rfl rfl (mz_dg d_Gr_closeDoors 19 31 (.putfield 45) 3 rfl)) ?_
  refine mz_All.cons (sd_rv hx hb hr hlk (mz_dg d_Gr_closeDoors 20 34 (.return_) 1 rfl)) ?_
  exact trivial
theorem met_Gr_closeDoors (w h : Nat) (l : Launch) : mz_MV l y_Gr_closeDoors w_Gr_closeDoors 0 0 mz_cls (C_Gr_closeDoors w h) := mz_MV_of (I_Gr_closeDoors w h) (by decide) rfl (len_Gr_closeDoors w h) (ok_Gr_closeDoors w h) (snd_Gr_closeDoors w h l)
set_option maxRecDepth 20000 in
theorem snd_Gr_addDoor (w h : Nat) (l : Launch) (p : Program) (e : Env) (s : State) (m : MethodId) (args : Array Value) (below : List Frame) (meth : Method) (c : Code) (D : va_G) (ad0 : Nat → Nat) (cA0 : Nat → ClassId) (A : Nat → Prop) (lay : List mz_E) (Q : mz_X → Prop) (F : mz_F p s m args meth c prog_5_method_25_code 5 y_Gr_addDoor.cls none w_Gr_addDoor) (hA : ∀ q, s.heap.size ≤ q → A q) : mz_All (mz_V p l e (mz_rm 2 42) s m args below meth c 5 lay.length (mz_sz lay) D mz_cls (mz_G0 ad0 cA0) A (MQ below (va_Qv Q (mz_B D mz_cls ad0 cA0 lay A) A) args s 0 0 A)) (mz_qv lay Q) (I_Gr_addDoor w h) := by
  obtain ⟨hx, hb, hml, hown, hts, hr, hlk⟩ := F
  unfold I_Gr_addDoor
  refine mz_All.cons (sd_aload_n hx hb (mz_dg d_Gr_addDoor 0 0 (.aload_n 0) 1 rfl) rfl) ?_
  refine mz_All.cons (sd_iload_n hx hb (mz_dg d_Gr_addDoor 1 1 (.iload_n 1) 1 rfl) rfl) ?_
  refine mz_All.cons (sd_calli (T := T_Gr) ⟨hx, hb, hml, hown, hts⟩ (met_Gr_isFree w h l) (cwV 1 hts (mz_gV wm_116 wm_117 wm_118 wm_67 wm_119) rfl rfl rfl (by decide) ⟨by decide, by decide⟩) rfl hA rfl (mz_dg d_Gr_addDoor 2 2 (.invokevirtual 86) 3 rfl)) ?_
  refine mz_All.cons (sd_if_eq hx hb (mz_dg d_Gr_addDoor 3 5 (.ifCond .eq (23)) 3 rfl) (by decide)) ?_
  refine mz_All.cons (sd_aload_n hx hb (mz_dg d_Gr_addDoor 4 8 (.aload_n 0) 1 rfl) rfl) ?_
  refine mz_All.cons (sd_iload_n hx hb (mz_dg d_Gr_addDoor 5 9 (.iload_n 3) 1 rfl) rfl) ?_
  refine mz_All.cons (sd_calli (T := T_Gr) ⟨hx, hb, hml, hown, hts⟩ (met_Gr_isFree w h l) (cwV 1 hts (mz_gV wm_116 wm_117 wm_118 wm_67 wm_119) rfl rfl rfl (by decide) ⟨by decide, by decide⟩) rfl hA rfl (mz_dg d_Gr_addDoor 6 10 (.invokevirtual 86) 3 rfl)) ?_
  refine mz_All.cons (sd_if_eq hx hb (mz_dg d_Gr_addDoor 7 13 (.ifCond .eq (15)) 3 rfl) (by decide)) ?_
  refine mz_All.cons (sd_aload_n hx hb (mz_dg d_Gr_addDoor 8 16 (.aload_n 0) 1 rfl) rfl) ?_
  refine mz_All.cons (sd_get (k := 7) hx hb hts (mz_inC in_Gr) hown (T := T_Gr) (N := 9) rfl (by decide) (hts (.fieldLink "MazeForms$Grid" 42 "MazeForms$Grid" "doorCount" "I") (List.mem_cons_of_mem _ wm_131)) (fun _ h => h) (mz_dg d_Gr_addDoor 9 17 (.getfield 42) 3 rfl)) ?_
  refine mz_All.cons (sd_aload_n hx hb (mz_dg d_Gr_addDoor 10 20 (.aload_n 0) 1 rfl) rfl) ?_
  refine mz_All.cons (sd_get (k := 6) hx hb hts (mz_inC in_Gr) hown (T := T_Gr) (N := 9) rfl (by decide) (hts (.fieldLink "MazeForms$Grid" 36 "MazeForms$Grid" "doorOpen" "[Z") (List.mem_cons_of_mem _ wm_130)) (fun _ h => h) (mz_dg d_Gr_addDoor 11 21 (.getfield 36) 3 rfl)) ?_
  refine mz_All.cons (sd_alen hx hb (mz_dg d_Gr_addDoor 12 24 (.arraylength) 1 rfl)) ?_
  refine mz_All.cons (sd_icmp_lt hx hb (mz_dg d_Gr_addDoor 13 25 (.if_icmp .lt (4)) 3 rfl) (by decide)) ?_
  refine mz_All.cons (sd_rv hx hb hr hlk (mz_dg d_Gr_addDoor 14 28 (.return_) 1 rfl)) ?_
  refine mz_All.cons (sd_aload_n hx hb (mz_dg d_Gr_addDoor 15 29 (.aload_n 0) 1 rfl) rfl) ?_
  refine mz_All.cons (sd_get (k := 4) hx hb hts (mz_inC in_Gr) hown (T := T_Gr) (N := 9) rfl (by decide) (hts (.fieldLink "MazeForms$Grid" 30 "MazeForms$Grid" "lesserCell" "[I") (List.mem_cons_of_mem _ wm_128)) (fun _ h => h) (mz_dg d_Gr_addDoor 16 30 (.getfield 30) 3 rfl)) ?_
  refine mz_All.cons (sd_aload_n hx hb (mz_dg d_Gr_addDoor 17 33 (.aload_n 0) 1 rfl) rfl) ?_
  refine mz_All.cons (sd_get (k := 7) hx hb hts (mz_inC in_Gr) hown (T := T_Gr) (N := 9) rfl (by decide) (hts (.fieldLink "MazeForms$Grid" 42 "MazeForms$Grid" "doorCount" "I") (List.mem_cons_of_mem _ wm_131)) (fun _ h => h) (mz_dg d_Gr_addDoor 18 34 (.getfield 42) 3 rfl)) ?_
  refine mz_All.cons (sd_iload_n hx hb (mz_dg d_Gr_addDoor 19 37 (.iload_n 1) 1 rfl) rfl) ?_
  refine mz_All.cons (sd_iast hx hb (mz_dg d_Gr_addDoor 20 38 (.iastore) 1 rfl)) ?_
  refine mz_All.cons (sd_aload_n hx hb (mz_dg d_Gr_addDoor 21 39 (.aload_n 0) 1 rfl) rfl) ?_
  refine mz_All.cons (sd_get (k := 5) hx hb hts (mz_inC in_Gr) hown (T := T_Gr) (N := 9) rfl (by decide) (hts (.fieldLink "MazeForms$Grid" 33 "MazeForms$Grid" "greaterCell" "[I") (List.mem_cons_of_mem _ wm_129)) (fun _ h => h) (mz_dg d_Gr_addDoor 22 40 (.getfield 33) 3 rfl)) ?_
  refine mz_All.cons (sd_aload_n hx hb (mz_dg d_Gr_addDoor 23 43 (.aload_n 0) 1 rfl) rfl) ?_
  refine mz_All.cons (sd_get (k := 7) hx hb hts (mz_inC in_Gr) hown (T := T_Gr) (N := 9) rfl (by decide) (hts (.fieldLink "MazeForms$Grid" 42 "MazeForms$Grid" "doorCount" "I") (List.mem_cons_of_mem _ wm_131)) (fun _ h => h) (mz_dg d_Gr_addDoor 24 44 (.getfield 42) 3 rfl)) ?_
  refine mz_All.cons (sd_iload_n hx hb (mz_dg d_Gr_addDoor 25 47 (.iload_n 3) 1 rfl) rfl) ?_
  refine mz_All.cons (sd_iast hx hb (mz_dg d_Gr_addDoor 26 48 (.iastore) 1 rfl)) ?_
  refine mz_All.cons (sd_aload_n hx hb (mz_dg d_Gr_addDoor 27 49 (.aload_n 0) 1 rfl) rfl) ?_
  refine mz_All.cons (sd_get (k := 3) hx hb hts (mz_inC in_Gr) hown (T := T_Gr) (N := 9) rfl (by decide) (hts (.fieldLink "MazeForms$Grid" 26 "MazeForms$Grid" "doorOnSide" "[I") (List.mem_cons_of_mem _ wm_127)) (fun _ h => h) (mz_dg d_Gr_addDoor 28 50 (.getfield 26) 3 rfl)) ?_
  refine mz_All.cons (sd_iconst hx hb (mz_dg d_Gr_addDoor 29 53 (.iconst (4)) 1 rfl) (by decide)) ?_
  refine mz_All.cons (sd_iload_n hx hb (mz_dg d_Gr_addDoor 30 54 (.iload_n 1) 1 rfl) rfl) ?_
  refine mz_All.cons (sd_imul hx hb (mz_dg d_Gr_addDoor 31 55 (.imul) 1 rfl)) ?_
  refine mz_All.cons (sd_iload_n hx hb (mz_dg d_Gr_addDoor 32 56 (.iload_n 2) 1 rfl) rfl) ?_
  refine mz_All.cons (sd_iadd hx hb (mz_dg d_Gr_addDoor 33 57 (.iadd) 1 rfl)) ?_
  refine mz_All.cons (sd_aload_n hx hb (mz_dg d_Gr_addDoor 34 58 (.aload_n 0) 1 rfl) rfl) ?_
  refine mz_All.cons (sd_get (k := 7) hx hb hts (mz_inC in_Gr) hown (T := T_Gr) (N := 9) rfl (by decide) (hts (.fieldLink "MazeForms$Grid" 42 "MazeForms$Grid" "doorCount" "I") (List.mem_cons_of_mem _ wm_131)) (fun _ h => h) (mz_dg d_Gr_addDoor 35 59 (.getfield 42) 3 rfl)) ?_
  refine mz_All.cons (sd_iast hx hb (mz_dg d_Gr_addDoor 36 62 (.iastore) 1 rfl)) ?_
  refine mz_All.cons (sd_aload_n hx hb (mz_dg d_Gr_addDoor 37 63 (.aload_n 0) 1 rfl) rfl) ?_
  refine mz_All.cons (sd_get (k := 3) hx hb hts (mz_inC in_Gr) hown (T := T_Gr) (N := 9) rfl (by decide) (hts (.fieldLink "MazeForms$Grid" 26 "MazeForms$Grid" "doorOnSide" "[I") (List.mem_cons_of_mem _ wm_127)) (fun _ h => h) (mz_dg d_Gr_addDoor 38 64 (.getfield 26) 3 rfl)) ?_
  refine mz_All.cons (sd_iconst hx hb (mz_dg d_Gr_addDoor 39 67 (.iconst (4)) 1 rfl) (by decide)) ?_
  refine mz_All.cons (sd_iload_n hx hb (mz_dg d_Gr_addDoor 40 68 (.iload_n 3) 1 rfl) rfl) ?_
  refine mz_All.cons (sd_imul hx hb (mz_dg d_Gr_addDoor 41 69 (.imul) 1 rfl)) ?_
  refine mz_All.cons (sd_iload hx hb (mz_dg d_Gr_addDoor 42 70 (.iload 4) 2 rfl)) ?_
  refine mz_All.cons (sd_iadd hx hb (mz_dg d_Gr_addDoor 43 72 (.iadd) 1 rfl)) ?_
  refine mz_All.cons (sd_aload_n hx hb (mz_dg d_Gr_addDoor 44 73 (.aload_n 0) 1 rfl) rfl) ?_
  refine mz_All.cons (sd_get (k := 7) hx hb hts (mz_inC in_Gr) hown (T := T_Gr) (N := 9) rfl (by decide) (hts (.fieldLink "MazeForms$Grid" 42 "MazeForms$Grid" "doorCount" "I") (List.mem_cons_of_mem _ wm_131)) (fun _ h => h) (mz_dg d_Gr_addDoor 45 74 (.getfield 42) 3 rfl)) ?_
  refine mz_All.cons (sd_iast hx hb (mz_dg d_Gr_addDoor 46 77 (.iastore) 1 rfl)) ?_
  refine mz_All.cons (sd_aload_n hx hb (mz_dg d_Gr_addDoor 47 78 (.aload_n 0) 1 rfl) rfl) ?_
  refine mz_All.cons (sd_dup hx hb (mz_dg d_Gr_addDoor 48 79 (.dup) 1 rfl)) ?_
  refine mz_All.cons (sd_get (k := 7) hx hb hts (mz_inC in_Gr) hown (T := T_Gr) (N := 9) rfl (by decide) (hts (.fieldLink "MazeForms$Grid" 42 "MazeForms$Grid" "doorCount" "I") (List.mem_cons_of_mem _ wm_131)) (fun _ h => h) (mz_dg d_Gr_addDoor 49 80 (.getfield 42) 3 rfl)) ?_
  refine mz_All.cons (sd_iconst hx hb (mz_dg d_Gr_addDoor 50 83 (.iconst (1)) 1 rfl) (by decide)) ?_
  refine mz_All.cons (sd_iadd hx hb (mz_dg d_Gr_addDoor 51 84 (.iadd) 1 rfl)) ?_
  refine mz_All.cons (sd_puti (k := 7) hx hb hts (mz_inC in_Gr) ty_Gr ty_Gr_ok nm_Gr hown (T := T_Gr) (N := 9) rfl (by decide) (hts (.fieldLink "MazeForms$Grid" 42 "MazeForms$Grid" "doorCount" "I") (List.mem_cons_of_mem _ wm_131)) (fun _ h => h) rfl rfl (mz_dg d_Gr_addDoor 52 85 (.putfield 42) 3 rfl)) ?_
  refine mz_All.cons (sd_rv hx hb hr hlk (mz_dg d_Gr_addDoor 53 88 (.return_) 1 rfl)) ?_
  exact trivial
theorem met_Gr_addDoor (w h : Nat) (l : Launch) : mz_MV l y_Gr_addDoor w_Gr_addDoor 2 42 mz_cls (C_Gr_addDoor w h) := mz_MV_of (I_Gr_addDoor w h) (by decide) rfl (len_Gr_addDoor w h) (ok_Gr_addDoor w h) (snd_Gr_addDoor w h l)
end
section
def C_Ja_fillI (w h : Nat) : mz_CV := fun lay as X Q => match as with
  | [.ref q, .int v] => ∃ t n : Nat, lay[q]? = some (.inl (t, 0, n)) ∧ n < 2 ^ 31 ∧ Q (mz_fil X.1 q n v, X.2)
  | _ => False
def C_Ja_fillJ (w h : Nat) : mz_CV := fun lay as X Q => match as with
  | [.ref q, .long v] => ∃ t n : Nat, lay[q]? = some (.inl (t, 2, n)) ∧ n < 2 ^ 31 ∧ Q (X.1, mz_fil X.2 q n v)
  | _ => False
/-- what numberDoors does: at a cell, in a row, in rows -/
def zg_step1 (w h : Nat) (X : mz_X) (x y : Nat) : mz_X := zg_add w h X (zg_at X (nI x) (nI y)) 1 (zg_at X (nI x + 1) (nI y)) 3
def zg_step (w h : Nat) (X : mz_X) (x y : Nat) : mz_X := zg_add w h (zg_step1 w h X x y) (zg_at X (nI x) (nI y)) 2 (zg_at (zg_step1 w h X x y) (nI x) (nI y + 1)) 0
def zg_row (w h : Nat) (X : mz_X) (y k : Nat) : mz_X := match k with
  | 0 => X
  | j + 1 => zg_step w h (zg_row w h X y j) j y
def zg_rows (w h : Nat) (X : mz_X) (k : Nat) : mz_X := match k with
  | 0 => X
  | j + 1 => zg_row w h (zg_rows w h X j) j w
def zg_num0 (w h : Nat) (X : mz_X) : mz_X := (mz_up (mz_fil X.1 3 (4 * (w * h)) (-1)) 1 7 0, X.2)
def zg_num (w h : Nat) (X : mz_X) : mz_X := zg_rows w h (zg_num0 w h X) h
/-- the grid's edges, and a number of doors that fits -/
def zg_inv (w h : Nat) (X : mz_X) : Prop := X.1 1 0 = nI w ∧ X.1 1 1 = nI h ∧ ∃ k, k ≤ mz_dn w h ∧ X.1 1 7 = nI k
def zg_maskB (w h : Nat) (X : mz_X) (c v : Int32) : Bool := mz_lt c (w * h) && !decide (X.1 2 c.toNatClampNeg = v)
def zg_maskX (w h : Nat) (X : mz_X) (c v : Int32) : mz_X := zg_num w h (mz_up (zg_closeX w h X).1 2 c.toNatClampNeg v, (zg_closeX w h X).2)
def C_Gr_numberDoors (w h : Nat) : mz_CV := fun lay as X Q => match as with
  | [.ref 1] => lay = mz_lay w h ∧ mz_geo w h ∧ X.1 1 0 = nI w ∧ X.1 1 1 = nI h ∧ Q (zg_num w h X)
  | _ => False
def C_Gr_setMask (w h : Nat) : mz_CI := fun lay as X Q => match as with
  | [.ref 1, .int c, .int v] => lay = mz_lay w h ∧ mz_geo w h ∧ X.1 1 0 = nI w ∧ X.1 1 1 = nI h ∧ (v = 0 ∨ v = 1) ∧ Q (mz_b (zg_maskB w h X c v)) (match zg_maskB w h X c v with
    | true => zg_maskX w h X c v
    | false => X)
  | _ => False
def y_Ja_fillI : MethodName := ⟨"java/util/Arrays", "fill", "([II)V"⟩
abbrev w_Ja_fillI : List Cond := .code y_Ja_fillI prog_13_method_103_code 4 none :: mz_tb
def dl_Ja_fillI : List (Nat × ClassFile.Instr × Nat) := [(0, .iconst (0), 1), (1, .istore_n 2, 1), (2, .aload_n 0, 1), (3, .arraylength, 1), (4, .istore_n 3, 1), (5, .iload_n 2, 1), (6, .iload_n 3, 1), (7, .if_icmp .ge (13), 3), (10, .aload_n 0, 1), (11, .iload_n 2, 1), (12, .iload_n 1, 1), (13, .iastore, 1), (14, .iinc 2 (1), 3), (17, .goto (-12), 3), (20, .return_, 1)]
theorem d_Ja_fillI : mz_dec prog_13_method_103_code dl_Ja_fillI = true := by decide +kernel
def y_Ja_fillJ : MethodName := ⟨"java/util/Arrays", "fill", "([JJ)V"⟩
abbrev w_Ja_fillJ : List Cond := .code y_Ja_fillJ prog_13_method_101_code 5 none :: mz_tb
def dl_Ja_fillJ : List (Nat × ClassFile.Instr × Nat) := [(0, .iconst (0), 1), (1, .istore_n 3, 1), (2, .aload_n 0, 1), (3, .arraylength, 1), (4, .istore 4, 2), (6, .iload_n 3, 1), (7, .iload 4, 2), (9, .if_icmp .ge (13), 3), (12, .aload_n 0, 1), (13, .iload_n 3, 1), (14, .lload_n 1, 1), (15, .lastore, 1), (16, .iinc 3 (1), 3), (19, .goto (-13), 3), (22, .return_, 1)]
theorem d_Ja_fillJ : mz_dec prog_13_method_101_code dl_Ja_fillJ = true := by decide +kernel
def y_Gr_numberDoors : MethodName := ⟨"MazeForms$Grid", "numberDoors", "()V"⟩
abbrev w_Gr_numberDoors : List Cond := .code y_Gr_numberDoors prog_5_method_24_code 4 none :: mz_tb
def dl_Gr_numberDoors : List (Nat × ClassFile.Instr × Nat) := [(0, .aload_n 0, 1), (1, .getfield 26, 3), (4, .iconst (-1), 1), (5, .invokestatic 73, 3), (8, .aload_n 0, 1), (9, .iconst (0), 1), (10, .putfield 42, 3), (13, .iconst (0), 1), (14, .istore_n 1, 1), (15, .iload_n 1, 1), (16, .aload_n 0, 1), (17, .getfield 19, 3), (20, .if_icmp .ge (62), 3), (23, .iconst (0), 1), (24, .istore_n 2, 1), (25, .iload_n 2, 1), (26, .aload_n 0, 1), (27, .getfield 15, 3), (30, .if_icmp .ge (46), 3), (33, .aload_n 0, 1), (34, .iload_n 2, 1), (35, .iload_n 1, 1), (36, .invokevirtual 79, 3), (39, .istore_n 3, 1), (40, .aload_n 0, 1), (41, .iload_n 3, 1), (42, .iconst (1), 1), (43, .aload_n 0, 1), (44, .iload_n 2, 1), (45, .iconst (1), 1), (46, .iadd, 1), (47, .iload_n 1, 1), (48, .invokevirtual 79, 3), (51, .iconst (3), 1), (52, .invokevirtual 82, 3), (55, .aload_n 0, 1), (56, .iload_n 3, 1), (57, .iconst (2), 1), (58, .aload_n 0, 1), (59, .iload_n 2, 1), (60, .iload_n 1, 1), (61, .iconst (1), 1), (62, .iadd, 1), (63, .invokevirtual 79, 3), (66, .iconst (0), 1), (67, .invokevirtual 82, 3), (70, .iinc 2 (1), 3), (73, .goto (-48), 3), (76, .iinc 1 (1), 3), (79, .goto (-64), 3), (82, .return_, 1)]
theorem d_Gr_numberDoors : mz_dec prog_5_method_24_code dl_Gr_numberDoors = true := by decide +kernel
def y_Gr_setMask : MethodName := ⟨"MazeForms$Grid", "setMask", "(IZ)Z"⟩
abbrev w_Gr_setMask : List Cond := .code y_Gr_setMask prog_5_method_21_code 3 (some .boolean) :: mz_tb
def dl_Gr_setMask : List (Nat × ClassFile.Instr × Nat) := [(0, .aload_n 0, 1), (1, .iload_n 1, 1), (2, .invokevirtual 48, 3), (5, .ifCond .eq (13), 3), (8, .aload_n 0, 1), (9, .getfield 22, 3), (12, .iload_n 1, 1), (13, .baload, 1), (14, .iload_n 2, 1), (15, .if_icmp .ne (5), 3), (18, .iconst (0), 1), (19, .ireturn, 1), (20, .aload_n 0, 1), (21, .invokevirtual 62, 3), (24, .aload_n 0, 1), (25, .getfield 22, 3), (28, .iload_n 1, 1), (29, .iload_n 2, 1), (30, .bastore, 1), (31, .aload_n 0, 1), (32, .invokevirtual 39, 3), (35, .iconst (1), 1), (36, .ireturn, 1)]
theorem d_Gr_setMask : mz_dec prog_5_method_21_code dl_Gr_setMask = true := by decide +kernel
def I_Ja_fillI (w h : Nat) : List (Nat × mz_Op) := [(0, mz_push (.int (0)) 1), (1, mz_sti 2 2), (2, mz_lda 0 3), (3, mz_al 4), (4, mz_sti 3 5), (5, mz_ldi 2 6), (6, mz_ldi 3 7), (7, mz_ic (fun x y => y ≤ x) 20 10), (10, mz_lda 0 11), (11, mz_ldi 2 12), (12, mz_ldi 1 13), (13, mz_iast 0 14), (14, mz_inc 2 (1) 17), (17, mz_go 5), (20, mz_rv)]
def I_Ja_fillJ (w h : Nat) : List (Nat × mz_Op) := [(0, mz_push (.int (0)) 1), (1, mz_sti 3 2), (2, mz_lda 0 3), (3, mz_al 4), (4, mz_sti 4 6), (6, mz_ldi 3 7), (7, mz_ldi 4 9), (9, mz_ic (fun x y => y ≤ x) 22 12), (12, mz_lda 0 13), (13, mz_ldi 3 14), (14, mz_ldl 1 15), (15, mz_last 16), (16, mz_inc 3 (1) 19), (19, mz_go 6), (22, mz_rv)]
def I_Gr_numberDoors (w h : Nat) : List (Nat × mz_Op) := [(0, mz_lda 0 1), (1, mz_gf 3 3 4), (4, mz_push (.int (-1)) 5), (5, mz_svo 2 (C_Ja_fillI w h) 8), (8, mz_lda 0 9), (9, mz_push (.int (0)) 10), (10, mz_pfi 3 7 13), (13, mz_push (.int (0)) 14), (14, mz_sti 1 15), (15, mz_ldi 1 16), (16, mz_lda 0 17), (17, mz_gf 3 1 20), (20, mz_ic (fun x y => y ≤ x) 82 23), (23, mz_push (.int (0)) 24), (24, mz_sti 2 25), (25, mz_ldi 2 26), (26, mz_lda 0 27), (27, mz_gf 3 0 30), (30, mz_ic (fun x y => y ≤ x) 76 33), (33, mz_lda 0 34), (34, mz_ldi 2 35), (35, mz_ldi 1 36), (36, mz_ci 3 3 (C_Gr_cellAt w h) 39), (39, mz_sti 3 40), (40, mz_lda 0 41), (41, mz_ldi 3 42), (42, mz_push (.int (1)) 43), (43, mz_lda 0 44), (44, mz_ldi 2 45), (45, mz_push (.int (1)) 46), (46, mz_bi (fun x y => x + y) 47), (47, mz_ldi 1 48), (48, mz_ci 3 3 (C_Gr_cellAt w h) 51), (51, mz_push (.int (3)) 52), (52, mz_cvo 5 3 (C_Gr_addDoor w h) 55), (55, mz_lda 0 56), (56, mz_ldi 3 57), (57, mz_push (.int (2)) 58), (58, mz_lda 0 59), (59, mz_ldi 2 60), (60, mz_ldi 1 61), (61, mz_push (.int (1)) 62), (62, mz_bi (fun x y => x + y) 63), (63, mz_ci 3 3 (C_Gr_cellAt w h) 66), (66, mz_push (.int (0)) 67), (67, mz_cvo 5 3 (C_Gr_addDoor w h) 70), (70, mz_inc 2 (1) 73), (73, mz_go 25), (76, mz_inc 1 (1) 79), (79, mz_go 15), (82, mz_rv)]
def I_Gr_setMask (w h : Nat) : List (Nat × mz_Op) := [(0, mz_lda 0 1), (1, mz_ldi 1 2), (2, mz_ci 2 3 (C_Gr_isCell w h) 5), (5, mz_if (fun x => x = 0) 18 8), (8, mz_lda 0 9), (9, mz_gf 3 2 12), (12, mz_ldi 1 13), (13, mz_iald 1 14), (14, mz_ldi 2 15), (15, mz_ic (fun x y => x = y) 18 20), (18, mz_push (.int (0)) 19), (19, mz_rz), (20, mz_lda 0 21), (21, mz_cvo 1 3 (C_Gr_closeDoors w h) 24), (24, mz_lda 0 25), (25, mz_gf 3 2 28), (28, mz_ldi 1 29), (29, mz_ldi 2 30), (30, mz_iast 1 31), (31, mz_lda 0 32), (32, mz_cvo 1 3 (C_Gr_numberDoors w h) 35), (35, mz_push (.int (1)) 36), (36, mz_rz)]
theorem len_Ja_fillI (w h : Nat) (lay : List mz_E) (as : List Value) (X : mz_X) (Q : mz_X → Prop) (hC : C_Ja_fillI w h lay as X Q) : (mz_l0 as).length ≤ 4 := by
  unfold C_Ja_fillI at hC
  split at hC
  · exact Nat.le_of_ble_eq_true rfl
  · exact hC.elim
theorem ok_Ja_fillI (w h : Nat) (lay : List mz_E) (as : List Value) (X : mz_X) (Q : mz_X → Prop) (hC : C_Ja_fillI w h lay as X Q) (K : mz_K) (hK : mz_Cl (I_Ja_fillI w h) (mz_qv lay Q) K) : K 0 (mz_ent 4 as) [] (lay, X) := by
  unfold C_Ja_fillI at hC
  split at hC
  · next q v =>
    obtain ⟨t, n, hl, hn, hq⟩ := hC
    have loop : ∀ (k i : Nat), i + k = n → K 5 [some (.ref q), some (.int v), some (.int (nI i)), some (.int (nI n))] [] (lay, mz_fil X.1 q i v, X.2) := by
      intro k
      induction k with
      | zero =>
        intro i hi
        iterate 2 refine hK _ _ _ _ ?_
        refine hK _ _ _ _ (And.intro (fun c1 => ?_) (fun c1 => ?_))
        · exact hK _ _ _ _ (And.intro rfl (by rw [← hi] at hq; exact hq))
        · exact absurd (nI_le (a := n) (b := i) (by omega) (by omega)) c1
      | succ k ih =>
        intro i hi
        iterate 2 refine hK _ _ _ _ ?_
        refine hK _ _ _ _ (And.intro (fun c1 => ?_) (fun c1 => ?_))
        · exact absurd c1 (nI_ge (by omega) (by omega))
        · iterate 3 refine hK _ _ _ _ ?_
          refine hK _ _ _ _ (?_ : mz_iast 0 14 (mz_qv lay Q) K [some (.ref q), some (.int v), some (.int (nI i)), some (.int (nI n))] [.int v, .int (nI i), .ref q] (lay, mz_fil X.1 q i v, X.2))
          simp only [mz_iast, mz_ar, hl]
          refine ⟨vp_in_nI (by omega) (by omega), ?_⟩
          iterate 2 refine hK _ _ _ _ ?_
          have := ih (i + 1) (by omega)
          rw [← mz_fil_s, ← nI_1] at this
          rw [nI_clamp (by omega)]
          exact this
    iterate 3 refine hK _ _ _ _ ?_
    refine hK _ _ _ _ (?_ : mz_al 4 (mz_qv lay Q) K [some (.ref q), some (.int v), some (.int 0), none] [.ref q] (lay, X))
    simp only [mz_al, hl]
    refine hK _ _ _ _ ?_
    have := loop n 0 (by omega)
    rw [mz_fil_0] at this
    exact this
  · exact hC.elim
theorem len_Ja_fillJ (w h : Nat) (lay : List mz_E) (as : List Value) (X : mz_X) (Q : mz_X → Prop) (hC : C_Ja_fillJ w h lay as X Q) : (mz_l0 as).length ≤ 5 := by
  unfold C_Ja_fillJ at hC
  split at hC
  · exact Nat.le_of_ble_eq_true rfl
  · exact hC.elim
theorem ok_Ja_fillJ (w h : Nat) (lay : List mz_E) (as : List Value) (X : mz_X) (Q : mz_X → Prop) (hC : C_Ja_fillJ w h lay as X Q) (K : mz_K) (hK : mz_Cl (I_Ja_fillJ w h) (mz_qv lay Q) K) : K 0 (mz_ent 5 as) [] (lay, X) := by
  unfold C_Ja_fillJ at hC
  split at hC
  · next q v =>
    obtain ⟨t, n, hl, hn, hq⟩ := hC
    have loop : ∀ (k i : Nat), i + k = n → K 6 [some (.ref q), some (.long v), none, some (.int (nI i)), some (.int (nI n))] [] (lay, X.1, mz_fil X.2 q i v) := by
      intro k
      induction k with
      | zero =>
        intro i hi
        iterate 2 refine hK _ _ _ _ ?_
        refine hK _ _ _ _ (And.intro (fun c1 => ?_) (fun c1 => ?_))
        · exact hK _ _ _ _ (And.intro rfl (by rw [← hi] at hq; exact hq))
        · exact absurd (nI_le (a := n) (b := i) (by omega) (by omega)) c1
      | succ k ih =>
        intro i hi
        iterate 2 refine hK _ _ _ _ ?_
        refine hK _ _ _ _ (And.intro (fun c1 => ?_) (fun c1 => ?_))
        · exact absurd c1 (nI_ge (by omega) (by omega))
        · iterate 3 refine hK _ _ _ _ ?_
          refine hK _ _ _ _ (?_ : mz_last 16 (mz_qv lay Q) K [some (.ref q), some (.long v), none, some (.int (nI i)), some (.int (nI n))] [.long v, .int (nI i), .ref q] (lay, X.1, mz_fil X.2 q i v))
          simp only [mz_last, mz_ar, hl]
          refine ⟨vp_in_nI (by omega) (by omega), ?_⟩
          iterate 2 refine hK _ _ _ _ ?_
          have := ih (i + 1) (by omega)
          rw [← mz_fil_s, ← nI_1] at this
          rw [nI_clamp (by omega)]
          exact this
    iterate 3 refine hK _ _ _ _ ?_
    refine hK _ _ _ _ (?_ : mz_al 4 (mz_qv lay Q) K [some (.ref q), some (.long v), none, some (.int 0), none] [.ref q] (lay, X))
    simp only [mz_al, hl]
    refine hK _ _ _ _ ?_
    have := loop n 0 (by omega)
    rw [mz_fil_0] at this
    exact this
  · exact hC.elim
theorem zg_add_keep (w h : Nat) (X : mz_X) (c s o t : Int32) : (zg_add w h X c s o t).1 1 0 = X.1 1 0 ∧ (zg_add w h X c s o t).1 1 1 = X.1 1 1 := by
  unfold zg_add
  split <;> simp [zg_addX, mz_up]
theorem zg_add_inv {w h : Nat} {X : mz_X} (g : mz_geo w h) (hi : zg_inv w h X) (c s o t : Int32) : zg_inv w h (zg_add w h X c s o t) := by
  have hk := zg_add_keep w h X c s o t
  have hd := mz_geo_d g
  obtain ⟨h0, h1, k, hk1, hk2⟩ := hi
  refine ⟨by rw [hk.1, h0], by rw [hk.2, h1], ?_⟩
  unfold zg_add
  split
  · next hb =>
    simp only [zg_addB, Bool.and_eq_true, decide_eq_true_eq, hk2] at hb
    have hlt := (nI_ltI (by omega) (by omega)).mp hb.2
    exact ⟨k + 1, by omega, by simp [zg_addX, mz_up, hk2, nI_1]⟩
  · exact ⟨k, hk1, hk2⟩
theorem zg_inv_7 {w h : Nat} {X : mz_X} (g : mz_geo w h) (hi : zg_inv w h X) : ¬ X.1 1 7 < 0 := by
  have hd := mz_geo_d g
  obtain ⟨-, -, k, hk1, hk2⟩ := hi
  rw [hk2]
  exact nI_pos (by omega)
theorem zg_step1_inv {w h : Nat} {X : mz_X} (g : mz_geo w h) (hi : zg_inv w h X) (x y : Nat) : zg_inv w h (zg_step1 w h X x y) := zg_add_inv g hi _ _ _ _
theorem zg_step_inv {w h : Nat} {X : mz_X} (g : mz_geo w h) (hi : zg_inv w h X) (x y : Nat) : zg_inv w h (zg_step w h X x y) := zg_add_inv g (zg_step1_inv g hi x y) _ _ _ _
theorem zg_row_inv {w h : Nat} {X : mz_X} (g : mz_geo w h) (hi : zg_inv w h X) (y : Nat) : ∀ k, zg_inv w h (zg_row w h X y k)
  | 0 => hi
  | k + 1 => zg_step_inv g (zg_row_inv g hi y k) k y
theorem zg_rows_inv {w h : Nat} {X : mz_X} (g : mz_geo w h) (hi : zg_inv w h X) : ∀ k, zg_inv w h (zg_rows w h X k)
  | 0 => hi
  | k + 1 => zg_row_inv g (zg_rows_inv g hi k) k w
theorem zg_num0_inv {w h : Nat} {X : mz_X} (h0 : X.1 1 0 = nI w) (h1 : X.1 1 1 = nI h) : zg_inv w h (zg_num0 w h X) := by
  refine ⟨by simp [zg_num0, mz_up, mz_fil, h0], by simp [zg_num0, mz_up, mz_fil, h1], 0, Nat.zero_le _, by simp [zg_num0, mz_up, nI_0]⟩
theorem len_Gr_numberDoors (w h : Nat) (lay : List mz_E) (as : List Value) (X : mz_X) (Q : mz_X → Prop) (hC : C_Gr_numberDoors w h lay as X Q) : (mz_l0 as).length ≤ 4 := by
  unfold C_Gr_numberDoors at hC
  split at hC
  · exact Nat.le_of_ble_eq_true rfl
  · exact hC.elim
theorem ok_Gr_numberDoors (w h : Nat) (lay : List mz_E) (as : List Value) (X : mz_X) (Q : mz_X → Prop) (hC : C_Gr_numberDoors w h lay as X Q) (K : mz_K) (hK : mz_Cl (I_Gr_numberDoors w h) (mz_qv lay Q) K) : K 0 (mz_ent 4 as) [] (lay, X) := by
  unfold C_Gr_numberDoors at hC
  split at hC
  ·
    obtain ⟨rfl, g, h0, h1, hq⟩ := hC
    have hgw : w ≤ 12 := g.2.1
    have hgh : h ≤ 12 := g.2.2.2
    have inner : ∀ (Y : mz_X) (y : Nat), zg_inv w h Y → (∀ L3' : Option Value, K 76 [some (.ref 1), some (.int (nI y)), some (.int (nI w)), L3'] [] (mz_lay w h, zg_row w h Y y w)) → ∀ (k i : Nat), i + k = w → ∀ L3 : Option Value, K 25 [some (.ref 1), some (.int (nI y)), some (.int (nI i)), L3] [] (mz_lay w h, zg_row w h Y y i) := by
      intro Y y hY hend k
      induction k with
      | zero =>
        intro i hi L3
        have hI := zg_row_inv g hY y i
        iterate 3 refine hK _ _ _ _ ?_
        refine hK _ _ _ _ (And.intro (fun c1 => ?_) (fun c1 => ?_))
        · have e : i = w := by omega
          rw [e]
          exact hend L3
        · dsimp only at c1
          rw [hI.1] at c1
          exact absurd (nI_le (a := w) (b := i) (by omega) (by omega)) c1
      | succ k ih =>
        intro i hi L3
        have hI := zg_row_inv g hY y i
        have hI1 := zg_step1_inv g hI i y
        iterate 3 refine hK _ _ _ _ ?_
        refine hK _ _ _ _ (And.intro (fun c1 => ?_) (fun c1 => ?_))
        · dsimp only at c1
          rw [hI.1] at c1
          exact absurd c1 (nI_ge (by omega) (by omega))
        · iterate 3 refine hK _ _ _ _ ?_
          refine hK _ _ _ _ (And.intro (rfl) (And.intro (g) ?_))
          iterate 9 refine hK _ _ _ _ ?_
          refine hK _ _ _ _ (And.intro (rfl) (And.intro (g) ?_))
          refine hK _ _ _ _ ?_
          refine hK _ _ _ _ (And.intro (rfl) (And.intro (g) (And.intro (zg_inv_7 g hI) (And.intro (by decide) (And.intro (by decide) ?_)))))
          iterate 8 refine hK _ _ _ _ ?_
          refine hK _ _ _ _ (And.intro (rfl) (And.intro (g) ?_))
          refine hK _ _ _ _ ?_
          refine hK _ _ _ _ (And.intro (rfl) (And.intro (g) (And.intro (zg_inv_7 g hI1) (And.intro (by decide) (And.intro (by decide) ?_)))))
          iterate 2 refine hK _ _ _ _ ?_
          have := ih (i + 1) (by omega) (some (.int (zg_at (zg_row w h Y y i) (nI i) (nI y))))
          rw [← nI_1] at this
          exact this
    have outer : ∀ (k i : Nat), i + k = h → ∀ L2 L3 : Option Value, K 15 [some (.ref 1), some (.int (nI i)), L2, L3] [] (mz_lay w h, zg_rows w h (zg_num0 w h X) i) := by
      intro k
      induction k with
      | zero =>
        intro i hi L2 L3
        have hI := zg_rows_inv g (zg_num0_inv h0 h1) i
        iterate 3 refine hK _ _ _ _ ?_
        refine hK _ _ _ _ (And.intro (fun c1 => ?_) (fun c1 => ?_))
        · exact hK _ _ _ _ (And.intro rfl (by unfold zg_num at hq; rw [show zg_rows w h (zg_num0 w h X) i = zg_rows w h (zg_num0 w h X) h by rw [← hi]; rfl]; exact hq))
        · dsimp only at c1
          rw [hI.2.1] at c1
          exact absurd (nI_le (a := h) (b := i) (by omega) (by omega)) c1
      | succ k ih =>
        intro i hi L2 L3
        have hI := zg_rows_inv g (zg_num0_inv h0 h1) i
        iterate 3 refine hK _ _ _ _ ?_
        refine hK _ _ _ _ (And.intro (fun c1 => ?_) (fun c1 => ?_))
        · dsimp only at c1
          rw [hI.2.1] at c1
          exact absurd c1 (nI_ge (by omega) (by omega))
        · iterate 2 refine hK _ _ _ _ ?_
          refine inner _ i hI (fun L3' => ?_) w 0 (by omega) L3
          iterate 2 refine hK _ _ _ _ ?_
          have := ih (i + 1) (by omega) (some (.int (nI w))) L3'
          rw [← nI_1] at this
          exact this
    iterate 3 refine hK _ _ _ _ ?_
    refine hK _ _ _ _ (Exists.intro 1 (Exists.intro (4 * (w * h)) (And.intro rfl (And.intro (by have := mz_geo_n g; omega) ?_))))
    iterate 5 refine hK _ _ _ _ ?_
    exact outer h 0 (by omega) none none
  · exact hC.elim
theorem len_Gr_setMask (w h : Nat) (lay : List mz_E) (as : List Value) (X : mz_X) (Q : Int32 → mz_X → Prop) (hC : C_Gr_setMask w h lay as X Q) : (mz_l0 as).length ≤ 3 := by
  unfold C_Gr_setMask at hC
  split at hC
  · exact Nat.le_of_ble_eq_true rfl
  · exact hC.elim
theorem ok_Gr_setMask (w h : Nat) (lay : List mz_E) (as : List Value) (X : mz_X) (Q : Int32 → mz_X → Prop) (hC : C_Gr_setMask w h lay as X Q) (K : mz_K) (hK : mz_Cl (I_Gr_setMask w h) (mz_qi lay Q) K) : K 0 (mz_ent 3 as) [] (lay, X) := by
  unfold C_Gr_setMask at hC
  split at hC
  · next c v =>
    obtain ⟨rfl, g, h0, h1, hv, hq⟩ := hC
    have hn := mz_geo_n g
    iterate 2 refine hK _ _ _ _ ?_
    refine hK _ _ _ _ (And.intro (rfl) (And.intro (g) ?_))
    refine hK _ _ _ _ (And.intro (fun c1 => ?_) (fun c1 => ?_))
    · rw [show zg_maskB w h X c v = false by simp [zg_maskB, mz_b0 c1]] at hq
      refine hK _ _ _ _ ?_
      exact hK _ _ _ _ (And.intro (Or.inl rfl) (And.intro rfl (hq)))
    · iterate 3 refine hK _ _ _ _ ?_
      refine hK _ _ _ _ (And.intro (mz_lt_in (mz_b1 c1) (by omega)) ?_)
      refine hK _ _ _ _ ?_
      refine hK _ _ _ _ (And.intro (fun c2 => ?_) (fun c2 => ?_))
      · dsimp only at c2
        rw [show zg_maskB w h X c v = false by simp [zg_maskB, c2]] at hq
        refine hK _ _ _ _ ?_
        exact hK _ _ _ _ (And.intro (Or.inl rfl) (And.intro rfl (hq)))
      · dsimp only at c2
        rw [show zg_maskB w h X c v = true by simp [zg_maskB, mz_b1 c1, c2]] at hq
        refine hK _ _ _ _ ?_
        refine hK _ _ _ _ (And.intro (rfl) (And.intro (g) ?_))
        iterate 4 refine hK _ _ _ _ ?_
        refine hK _ _ _ _ (And.intro (mz_lt_in (mz_b1 c1) (by omega)) ?_)
        rw [mz_narb hv]
        refine hK _ _ _ _ ?_
        refine hK _ _ _ _ (And.intro (rfl) (And.intro (g) (And.intro (by simp [zg_closeX, mz_up, mz_fil, h0]) (And.intro (by simp [zg_closeX, mz_up, mz_fil, h1]) ?_))))
        refine hK _ _ _ _ ?_
        exact hK _ _ _ _ (And.intro (Or.inr rfl) (And.intro rfl (hq)))
  · exact hC.elim
set_option maxRecDepth 20000 in
theorem snd_Ja_fillI (w h : Nat) (l : Launch) (p : Program) (e : Env) (s : State) (m : MethodId) (args : Array Value) (below : List Frame) (meth : Method) (c : Code) (D : va_G) (ad0 : Nat → Nat) (cA0 : Nat → ClassId) (A : Nat → Prop) (lay : List mz_E) (Q : mz_X → Prop) (F : mz_F p s m args meth c prog_13_method_103_code 4 y_Ja_fillI.cls none w_Ja_fillI) (hA : ∀ q, s.heap.size ≤ q → A q) : mz_All (mz_V p l e (mz_rm 0 0) s m args below meth c 4 lay.length (mz_sz lay) D mz_cls (mz_G0 ad0 cA0) A (MQ below (va_Qv Q (mz_B D mz_cls ad0 cA0 lay A) A) args s 0 0 A)) (mz_qv lay Q) (I_Ja_fillI w h) := by
  obtain ⟨hx, hb, hml, hown, hts, hr, hlk⟩ := F
  unfold I_Ja_fillI
  refine mz_All.cons (sd_iconst hx hb (mz_dg d_Ja_fillI 0 0 (.iconst (0)) 1 rfl) (by decide)) ?_
  refine mz_All.cons (sd_istore_n hx hb (mz_dg d_Ja_fillI 1 1 (.istore_n 2) 1 rfl) rfl (by decide)) ?_
  refine mz_All.cons (sd_aload_n hx hb (mz_dg d_Ja_fillI 2 2 (.aload_n 0) 1 rfl) rfl) ?_
  refine mz_All.cons (sd_alen hx hb (mz_dg d_Ja_fillI 3 3 (.arraylength) 1 rfl)) ?_
  refine mz_All.cons (sd_istore_n hx hb (mz_dg d_Ja_fillI 4 4 (.istore_n 3) 1 rfl) rfl (by decide)) ?_
  refine mz_All.cons (sd_iload_n hx hb (mz_dg d_Ja_fillI 5 5 (.iload_n 2) 1 rfl) rfl) ?_
  refine mz_All.cons (sd_iload_n hx hb (mz_dg d_Ja_fillI 6 6 (.iload_n 3) 1 rfl) rfl) ?_
  refine mz_All.cons (sd_icmp_ge hx hb (mz_dg d_Ja_fillI 7 7 (.if_icmp .ge (13)) 3 rfl) (by decide)) ?_
  refine mz_All.cons (sd_aload_n hx hb (mz_dg d_Ja_fillI 8 10 (.aload_n 0) 1 rfl) rfl) ?_
  refine mz_All.cons (sd_iload_n hx hb (mz_dg d_Ja_fillI 9 11 (.iload_n 2) 1 rfl) rfl) ?_
  refine mz_All.cons (sd_iload_n hx hb (mz_dg d_Ja_fillI 10 12 (.iload_n 1) 1 rfl) rfl) ?_
  refine mz_All.cons (sd_iast hx hb (mz_dg d_Ja_fillI 11 13 (.iastore) 1 rfl)) ?_
  refine mz_All.cons (sd_iinc hx hb (mz_dg d_Ja_fillI 12 14 (.iinc 2 (1)) 3 rfl) (by decide) (by decide)) ?_
  refine mz_All.cons (sd_goto hx hb (mz_dg d_Ja_fillI 13 17 (.goto (-12)) 3 rfl) (by decide)) ?_
  refine mz_All.cons (sd_rv hx hb hr hlk (mz_dg d_Ja_fillI 14 20 (.return_) 1 rfl)) ?_
  exact trivial
theorem met_Ja_fillI (w h : Nat) (l : Launch) : mz_MV l y_Ja_fillI w_Ja_fillI 0 0 mz_cls (C_Ja_fillI w h) := mz_MV_of (I_Ja_fillI w h) (by decide) rfl (len_Ja_fillI w h) (ok_Ja_fillI w h) (snd_Ja_fillI w h l)
set_option maxRecDepth 20000 in
theorem snd_Ja_fillJ (w h : Nat) (l : Launch) (p : Program) (e : Env) (s : State) (m : MethodId) (args : Array Value) (below : List Frame) (meth : Method) (c : Code) (D : va_G) (ad0 : Nat → Nat) (cA0 : Nat → ClassId) (A : Nat → Prop) (lay : List mz_E) (Q : mz_X → Prop) (F : mz_F p s m args meth c prog_13_method_101_code 5 y_Ja_fillJ.cls none w_Ja_fillJ) (hA : ∀ q, s.heap.size ≤ q → A q) : mz_All (mz_V p l e (mz_rm 0 0) s m args below meth c 5 lay.length (mz_sz lay) D mz_cls (mz_G0 ad0 cA0) A (MQ below (va_Qv Q (mz_B D mz_cls ad0 cA0 lay A) A) args s 0 0 A)) (mz_qv lay Q) (I_Ja_fillJ w h) := by
  obtain ⟨hx, hb, hml, hown, hts, hr, hlk⟩ := F
  unfold I_Ja_fillJ
  refine mz_All.cons (sd_iconst hx hb (mz_dg d_Ja_fillJ 0 0 (.iconst (0)) 1 rfl) (by decide)) ?_
  refine mz_All.cons (sd_istore_n hx hb (mz_dg d_Ja_fillJ 1 1 (.istore_n 3) 1 rfl) rfl (by decide)) ?_
  refine mz_All.cons (sd_aload_n hx hb (mz_dg d_Ja_fillJ 2 2 (.aload_n 0) 1 rfl) rfl) ?_
  refine mz_All.cons (sd_alen hx hb (mz_dg d_Ja_fillJ 3 3 (.arraylength) 1 rfl)) ?_
  refine mz_All.cons (sd_istore hx hb (mz_dg d_Ja_fillJ 4 4 (.istore 4) 2 rfl) (by decide)) ?_
  refine mz_All.cons (sd_iload_n hx hb (mz_dg d_Ja_fillJ 5 6 (.iload_n 3) 1 rfl) rfl) ?_
  refine mz_All.cons (sd_iload hx hb (mz_dg d_Ja_fillJ 6 7 (.iload 4) 2 rfl)) ?_
  refine mz_All.cons (sd_icmp_ge hx hb (mz_dg d_Ja_fillJ 7 9 (.if_icmp .ge (13)) 3 rfl) (by decide)) ?_
  refine mz_All.cons (sd_aload_n hx hb (mz_dg d_Ja_fillJ 8 12 (.aload_n 0) 1 rfl) rfl) ?_
  refine mz_All.cons (sd_iload_n hx hb (mz_dg d_Ja_fillJ 9 13 (.iload_n 3) 1 rfl) rfl) ?_
  refine mz_All.cons (sd_lload_n hx hb (mz_dg d_Ja_fillJ 10 14 (.lload_n 1) 1 rfl) rfl) ?_
  refine mz_All.cons (sd_last hx hb (mz_dg d_Ja_fillJ 11 15 (.lastore) 1 rfl)) ?_
  refine mz_All.cons (sd_iinc hx hb (mz_dg d_Ja_fillJ 12 16 (.iinc 3 (1)) 3 rfl) (by decide) (by decide)) ?_
  refine mz_All.cons (sd_goto hx hb (mz_dg d_Ja_fillJ 13 19 (.goto (-13)) 3 rfl) (by decide)) ?_
  refine mz_All.cons (sd_rv hx hb hr hlk (mz_dg d_Ja_fillJ 14 22 (.return_) 1 rfl)) ?_
  exact trivial
theorem met_Ja_fillJ (w h : Nat) (l : Launch) : mz_MV l y_Ja_fillJ w_Ja_fillJ 0 0 mz_cls (C_Ja_fillJ w h) := mz_MV_of (I_Ja_fillJ w h) (by decide) rfl (len_Ja_fillJ w h) (ok_Ja_fillJ w h) (snd_Ja_fillJ w h l)
set_option maxRecDepth 20000 in
theorem snd_Gr_numberDoors (w h : Nat) (l : Launch) (p : Program) (e : Env) (s : State) (m : MethodId) (args : Array Value) (below : List Frame) (meth : Method) (c : Code) (D : va_G) (ad0 : Nat → Nat) (cA0 : Nat → ClassId) (A : Nat → Prop) (lay : List mz_E) (Q : mz_X → Prop) (F : mz_F p s m args meth c prog_5_method_24_code 4 y_Gr_numberDoors.cls none w_Gr_numberDoors) (hA : ∀ q, s.heap.size ≤ q → A q) : mz_All (mz_V p l e (mz_rm 3 66) s m args below meth c 4 lay.length (mz_sz lay) D mz_cls (mz_G0 ad0 cA0) A (MQ below (va_Qv Q (mz_B D mz_cls ad0 cA0 lay A) A) args s 0 0 A)) (mz_qv lay Q) (I_Gr_numberDoors w h) := by
  obtain ⟨hx, hb, hml, hown, hts, hr, hlk⟩ := F
  unfold I_Gr_numberDoors
  refine mz_All.cons (sd_aload_n hx hb (mz_dg d_Gr_numberDoors 0 0 (.aload_n 0) 1 rfl) rfl) ?_
  refine mz_All.cons (sd_get (k := 3) hx hb hts (mz_inC in_Gr) hown (T := T_Gr) (N := 9) rfl (by decide) (hts (.fieldLink "MazeForms$Grid" 26 "MazeForms$Grid" "doorOnSide" "[I") (List.mem_cons_of_mem _ wm_127)) (fun _ h => h) (mz_dg d_Gr_numberDoors 1 1 (.getfield 26) 3 rfl)) ?_
  refine mz_All.cons (sd_iconst hx hb (mz_dg d_Gr_numberDoors 2 4 (.iconst (-1)) 1 rfl) (by decide)) ?_
  refine mz_All.cons (sd_scallv ⟨hx, hb, hml, hown, hts⟩ (met_Ja_fillI w h l) (va_cwS 2 hts (mz_gSo wm_105 wm_106 wm_69 wm_107) rfl rfl rfl (by decide) ⟨by decide, by decide⟩) hA rfl (mz_dg d_Gr_numberDoors 3 5 (.invokestatic 73) 3 rfl)) ?_
  refine mz_All.cons (sd_aload_n hx hb (mz_dg d_Gr_numberDoors 4 8 (.aload_n 0) 1 rfl) rfl) ?_
  refine mz_All.cons (sd_iconst hx hb (mz_dg d_Gr_numberDoors 5 9 (.iconst (0)) 1 rfl) (by decide)) ?_
  refine mz_All.cons (sd_puti (k := 7) hx hb hts (mz_inC in_Gr) ty_Gr ty_Gr_ok nm_Gr hown (T := T_Gr) (N := 9) rfl (by decide) (hts (.fieldLink "MazeForms$Grid" 42 "MazeForms$Grid" "doorCount" "I") (List.mem_cons_of_mem _ wm_131)) (fun _ h => h) rfl rfl (mz_dg d_Gr_numberDoors 6 10 (.putfield 42) 3 rfl)) ?_
  refine mz_All.cons (sd_iconst hx hb (mz_dg d_Gr_numberDoors 7 13 (.iconst (0)) 1 rfl) (by decide)) ?_
  refine mz_All.cons (sd_istore_n hx hb (mz_dg d_Gr_numberDoors 8 14 (.istore_n 1) 1 rfl) rfl (by decide)) ?_
  refine mz_All.cons (sd_iload_n hx hb (mz_dg d_Gr_numberDoors 9 15 (.iload_n 1) 1 rfl) rfl) ?_
  refine mz_All.cons (sd_aload_n hx hb (mz_dg d_Gr_numberDoors 10 16 (.aload_n 0) 1 rfl) rfl) ?_
  refine mz_All.cons (sd_get (k := 1) hx hb hts (mz_inC in_Gr) hown (T := T_Gr) (N := 9) rfl (by decide) (hts (.fieldLink "MazeForms$Grid" 19 "MazeForms$Grid" "height" "I") (List.mem_cons_of_mem _ wm_125)) (fun _ h => h) (mz_dg d_Gr_numberDoors 11 17 (.getfield 19) 3 rfl)) ?_
  refine mz_All.cons (sd_icmp_ge hx hb (mz_dg d_Gr_numberDoors 12 20 (.if_icmp .ge (62)) 3 rfl) (by decide)) ?_
  refine mz_All.cons (sd_iconst hx hb (mz_dg d_Gr_numberDoors 13 23 (.iconst (0)) 1 rfl) (by decide)) ?_
  refine mz_All.cons (sd_istore_n hx hb (mz_dg d_Gr_numberDoors 14 24 (.istore_n 2) 1 rfl) rfl (by decide)) ?_
  refine mz_All.cons (sd_iload_n hx hb (mz_dg d_Gr_numberDoors 15 25 (.iload_n 2) 1 rfl) rfl) ?_
  refine mz_All.cons (sd_aload_n hx hb (mz_dg d_Gr_numberDoors 16 26 (.aload_n 0) 1 rfl) rfl) ?_
  refine mz_All.cons (sd_get (k := 0) hx hb hts (mz_inC in_Gr) hown (T := T_Gr) (N := 9) rfl (by decide) (hts (.fieldLink "MazeForms$Grid" 15 "MazeForms$Grid" "width" "I") (List.mem_cons_of_mem _ wm_124)) (fun _ h => h) (mz_dg d_Gr_numberDoors 17 27 (.getfield 15) 3 rfl)) ?_
  refine mz_All.cons (sd_icmp_ge hx hb (mz_dg d_Gr_numberDoors 18 30 (.if_icmp .ge (46)) 3 rfl) (by decide)) ?_
  refine mz_All.cons (sd_aload_n hx hb (mz_dg d_Gr_numberDoors 19 33 (.aload_n 0) 1 rfl) rfl) ?_
  refine mz_All.cons (sd_iload_n hx hb (mz_dg d_Gr_numberDoors 20 34 (.iload_n 2) 1 rfl) rfl) ?_
  refine mz_All.cons (sd_iload_n hx hb (mz_dg d_Gr_numberDoors 21 35 (.iload_n 1) 1 rfl) rfl) ?_
  refine mz_All.cons (sd_calli (T := T_Gr) ⟨hx, hb, hml, hown, hts⟩ (met_Gr_cellAt w h l) (cwV 2 hts (mz_gV wm_108 wm_109 wm_110 wm_67 wm_111) rfl rfl rfl (by decide) ⟨by decide, by decide⟩) rfl hA rfl (mz_dg d_Gr_numberDoors 22 36 (.invokevirtual 79) 3 rfl)) ?_
  refine mz_All.cons (sd_istore_n hx hb (mz_dg d_Gr_numberDoors 23 39 (.istore_n 3) 1 rfl) rfl (by decide)) ?_
  refine mz_All.cons (sd_aload_n hx hb (mz_dg d_Gr_numberDoors 24 40 (.aload_n 0) 1 rfl) rfl) ?_
  refine mz_All.cons (sd_iload_n hx hb (mz_dg d_Gr_numberDoors 25 41 (.iload_n 3) 1 rfl) rfl) ?_
  refine mz_All.cons (sd_iconst hx hb (mz_dg d_Gr_numberDoors 26 42 (.iconst (1)) 1 rfl) (by decide)) ?_
  refine mz_All.cons (sd_aload_n hx hb (mz_dg d_Gr_numberDoors 27 43 (.aload_n 0) 1 rfl) rfl) ?_
  refine mz_All.cons (sd_iload_n hx hb (mz_dg d_Gr_numberDoors 28 44 (.iload_n 2) 1 rfl) rfl) ?_
  refine mz_All.cons (sd_iconst hx hb (mz_dg d_Gr_numberDoors 29 45 (.iconst (1)) 1 rfl) (by decide)) ?_
  refine mz_All.cons (sd_iadd hx hb (mz_dg d_Gr_numberDoors 30 46 (.iadd) 1 rfl)) ?_
  refine mz_All.cons (sd_iload_n hx hb (mz_dg d_Gr_numberDoors 31 47 (.iload_n 1) 1 rfl) rfl) ?_
  refine mz_All.cons (sd_calli (T := T_Gr) ⟨hx, hb, hml, hown, hts⟩ (met_Gr_cellAt w h l) (cwV 2 hts (mz_gV wm_108 wm_109 wm_110 wm_67 wm_111) rfl rfl rfl (by decide) ⟨by decide, by decide⟩) rfl hA rfl (mz_dg d_Gr_numberDoors 32 48 (.invokevirtual 79) 3 rfl)) ?_
  refine mz_All.cons (sd_iconst hx hb (mz_dg d_Gr_numberDoors 33 51 (.iconst (3)) 1 rfl) (by decide)) ?_
  refine mz_All.cons (sd_callv (T := T_Gr) ⟨hx, hb, hml, hown, hts⟩ (met_Gr_addDoor w h l) (cwV 4 hts (mz_gV wm_112 wm_114 wm_1 wm_67 wm_115) rfl rfl rfl (by decide) ⟨by decide, by decide⟩) rfl hA rfl (mz_dg d_Gr_numberDoors 34 52 (.invokevirtual 82) 3 rfl)) ?_
  refine mz_All.cons (sd_aload_n hx hb (mz_dg d_Gr_numberDoors 35 55 (.aload_n 0) 1 rfl) rfl) ?_
  refine mz_All.cons (sd_iload_n hx hb (mz_dg d_Gr_numberDoors 36 56 (.iload_n 3) 1 rfl) rfl) ?_
  refine mz_All.cons (sd_iconst hx hb (mz_dg d_Gr_numberDoors 37 57 (.iconst (2)) 1 rfl) (by decide)) ?_
  refine mz_All.cons (sd_aload_n hx hb (mz_dg d_Gr_numberDoors 38 58 (.aload_n 0) 1 rfl) rfl) ?_
  refine mz_All.cons (sd_iload_n hx hb (mz_dg d_Gr_numberDoors 39 59 (.iload_n 2) 1 rfl) rfl) ?_
  refine mz_All.cons (sd_iload_n hx hb (mz_dg d_Gr_numberDoors 40 60 (.iload_n 1) 1 rfl) rfl) ?_
  refine mz_All.cons (sd_iconst hx hb (mz_dg d_Gr_numberDoors 41 61 (.iconst (1)) 1 rfl) (by decide)) ?_
  refine mz_All.cons (sd_iadd hx hb (mz_dg d_Gr_numberDoors 42 62 (.iadd) 1 rfl)) ?_
  refine mz_All.cons (sd_calli (T := T_Gr) ⟨hx, hb, hml, hown, hts⟩ (met_Gr_cellAt w h l) (cwV 2 hts (mz_gV wm_108 wm_109 wm_110 wm_67 wm_111) rfl rfl rfl (by decide) ⟨by decide, by decide⟩) rfl hA rfl (mz_dg d_Gr_numberDoors 43 63 (.invokevirtual 79) 3 rfl)) ?_
  refine mz_All.cons (sd_iconst hx hb (mz_dg d_Gr_numberDoors 44 66 (.iconst (0)) 1 rfl) (by decide)) ?_
  refine mz_All.cons (sd_callv (T := T_Gr) ⟨hx, hb, hml, hown, hts⟩ (met_Gr_addDoor w h l) (cwV 4 hts (mz_gV wm_112 wm_114 wm_1 wm_67 wm_115) rfl rfl rfl (by decide) ⟨by decide, by decide⟩) rfl hA rfl (mz_dg d_Gr_numberDoors 45 67 (.invokevirtual 82) 3 rfl)) ?_
  refine mz_All.cons (sd_iinc hx hb (mz_dg d_Gr_numberDoors 46 70 (.iinc 2 (1)) 3 rfl) (by decide) (by decide)) ?_
  refine mz_All.cons (sd_goto hx hb (mz_dg d_Gr_numberDoors 47 73 (.goto (-48)) 3 rfl) (by decide)) ?_
  refine mz_All.cons (sd_iinc hx hb (mz_dg d_Gr_numberDoors 48 76 (.iinc 1 (1)) 3 rfl) (by decide) (by decide)) ?_
  refine mz_All.cons (sd_goto hx hb (mz_dg d_Gr_numberDoors 49 79 (.goto (-64)) 3 rfl) (by decide)) ?_
  refine mz_All.cons (sd_rv hx hb hr hlk (mz_dg d_Gr_numberDoors 50 82 (.return_) 1 rfl)) ?_
  exact trivial
theorem met_Gr_numberDoors (w h : Nat) (l : Launch) : mz_MV l y_Gr_numberDoors w_Gr_numberDoors 3 66 mz_cls (C_Gr_numberDoors w h) := mz_MV_of (I_Gr_numberDoors w h) (by decide) rfl (len_Gr_numberDoors w h) (ok_Gr_numberDoors w h) (snd_Gr_numberDoors w h l)
set_option maxRecDepth 20000 in
theorem snd_Gr_setMask (w h : Nat) (l : Launch) (p : Program) (e : Env) (s : State) (m : MethodId) (args : Array Value) (below : List Frame) (meth : Method) (c : Code) (D : va_G) (ad0 : Nat → Nat) (cA0 : Nat → ClassId) (A : Nat → Prop) (lay : List mz_E) (Q : Int32 → mz_X → Prop) (F : mz_F p s m args meth c prog_5_method_21_code 3 y_Gr_setMask.cls (some .boolean) w_Gr_setMask) (hA : ∀ q, s.heap.size ≤ q → A q) : mz_All (mz_V p l e (mz_rm 4 89) s m args below meth c 3 lay.length (mz_sz lay) D mz_cls (mz_G0 ad0 cA0) A (MQ below (va_Qi Q (mz_B D mz_cls ad0 cA0 lay A) A) args s 0 0 A)) (mz_qi lay Q) (I_Gr_setMask w h) := by
  obtain ⟨hx, hb, hml, hown, hts, hr, hlk⟩ := F
  unfold I_Gr_setMask
  refine mz_All.cons (sd_aload_n hx hb (mz_dg d_Gr_setMask 0 0 (.aload_n 0) 1 rfl) rfl) ?_
  refine mz_All.cons (sd_iload_n hx hb (mz_dg d_Gr_setMask 1 1 (.iload_n 1) 1 rfl) rfl) ?_
  refine mz_All.cons (sd_calli (T := T_Gr) ⟨hx, hb, hml, hown, hts⟩ (met_Gr_isCell w h l) (cwV 1 hts (mz_gV wm_120 wm_121 wm_122 wm_67 wm_123) rfl rfl rfl (by decide) ⟨by decide, by decide⟩) rfl hA rfl (mz_dg d_Gr_setMask 2 2 (.invokevirtual 48) 3 rfl)) ?_
  refine mz_All.cons (sd_if_eq hx hb (mz_dg d_Gr_setMask 3 5 (.ifCond .eq (13)) 3 rfl) (by decide)) ?_
  refine mz_All.cons (sd_aload_n hx hb (mz_dg d_Gr_setMask 4 8 (.aload_n 0) 1 rfl) rfl) ?_
  refine mz_All.cons (sd_get (k := 2) hx hb hts (mz_inC in_Gr) hown (T := T_Gr) (N := 9) rfl (by decide) (hts (.fieldLink "MazeForms$Grid" 22 "MazeForms$Grid" "masked" "[Z") (List.mem_cons_of_mem _ wm_126)) (fun _ h => h) (mz_dg d_Gr_setMask 5 9 (.getfield 22) 3 rfl)) ?_
  refine mz_All.cons (sd_iload_n hx hb (mz_dg d_Gr_setMask 6 12 (.iload_n 1) 1 rfl) rfl) ?_
  refine mz_All.cons (sd_zald hx hb (mz_dg d_Gr_setMask 7 13 (.baload) 1 rfl)) ?_
  refine mz_All.cons (sd_iload_n hx hb (mz_dg d_Gr_setMask 8 14 (.iload_n 2) 1 rfl) rfl) ?_
  refine mz_All.cons (sd_icmp_ne hx hb (mz_dg d_Gr_setMask 9 15 (.if_icmp .ne (5)) 3 rfl) (by decide)) ?_
  refine mz_All.cons (sd_iconst hx hb (mz_dg d_Gr_setMask 10 18 (.iconst (0)) 1 rfl) (by decide)) ?_
  refine mz_All.cons (sd_rz hx hb hr hlk (mz_dg d_Gr_setMask 11 19 (.ireturn) 1 rfl)) ?_
  refine mz_All.cons (sd_aload_n hx hb (mz_dg d_Gr_setMask 12 20 (.aload_n 0) 1 rfl) rfl) ?_
  refine mz_All.cons (sd_callv (T := T_Gr) ⟨hx, hb, hml, hown, hts⟩ (met_Gr_closeDoors w h l) (cwV 0 hts (mz_gV wm_333 wm_334 wm_335 wm_67 wm_336) rfl rfl rfl (by decide) ⟨by decide, by decide⟩) rfl hA rfl (mz_dg d_Gr_setMask 13 21 (.invokevirtual 62) 3 rfl)) ?_
  refine mz_All.cons (sd_aload_n hx hb (mz_dg d_Gr_setMask 14 24 (.aload_n 0) 1 rfl) rfl) ?_
  refine mz_All.cons (sd_get (k := 2) hx hb hts (mz_inC in_Gr) hown (T := T_Gr) (N := 9) rfl (by decide) (hts (.fieldLink "MazeForms$Grid" 22 "MazeForms$Grid" "masked" "[Z") (List.mem_cons_of_mem _ wm_126)) (fun _ h => h) (mz_dg d_Gr_setMask 15 25 (.getfield 22) 3 rfl)) ?_
  refine mz_All.cons (sd_iload_n hx hb (mz_dg d_Gr_setMask 16 28 (.iload_n 1) 1 rfl) rfl) ?_
  refine mz_All.cons (sd_iload_n hx hb (mz_dg d_Gr_setMask 17 29 (.iload_n 2) 1 rfl) rfl) ?_
  refine mz_All.cons (sd_zast hx hb (mz_dg d_Gr_setMask 18 30 (.bastore) 1 rfl)) ?_
  refine mz_All.cons (sd_aload_n hx hb (mz_dg d_Gr_setMask 19 31 (.aload_n 0) 1 rfl) rfl) ?_
  refine mz_All.cons (sd_callv (T := T_Gr) ⟨hx, hb, hml, hown, hts⟩ (met_Gr_numberDoors w h l) (cwV 0 hts (mz_gV wm_101 wm_103 wm_0 wm_67 wm_104) rfl rfl rfl (by decide) ⟨by decide, by decide⟩) rfl hA rfl (mz_dg d_Gr_setMask 20 32 (.invokevirtual 39) 3 rfl)) ?_
  refine mz_All.cons (sd_iconst hx hb (mz_dg d_Gr_setMask 21 35 (.iconst (1)) 1 rfl) (by decide)) ?_
  refine mz_All.cons (sd_rz hx hb hr hlk (mz_dg d_Gr_setMask 22 36 (.ireturn) 1 rfl)) ?_
  exact trivial
theorem met_Gr_setMask (w h : Nat) (l : Launch) : mz_MI l y_Gr_setMask w_Gr_setMask 4 89 mz_cls (C_Gr_setMask w h) := mz_MI_of (I_Gr_setMask w h) (by decide) rfl (len_Gr_setMask w h) (ok_Gr_setMask w h) (snd_Gr_setMask w h l)
end
section
def zc_v (s : Int64) (n : Int32) : Int32 := ((s.toUInt64 >>> ((33 : Int32).toInt64.toUInt64 &&& Int64.toUInt64 63)).toInt64 - (s.toUInt64 >>> ((33 : Int32).toInt64.toUInt64 &&& Int64.toUInt64 63)).toInt64 / n.toInt64 * n.toInt64).toInt32
def zc_s (s : Int64) : Int64 := 6364136223846793005 * s + 1442695040888963407
/-- a number below n, and the chance behind it -/
def zc_X (X : mz_X) (n : Int32) : mz_X := match decide (1 ≤ n) with
  | true => (X.1, mz_up X.2 13 0 (zc_s (X.2 13 0)))
  | false => X
def zc_n (X : mz_X) (n : Int32) : Int32 := match decide (1 ≤ n) with
  | true => zc_v (zc_s (X.2 13 0)) n
  | false => 0
/-- the row of doors (places 14, 15) -/
def zr_at (w h : Nat) (X : mz_X) (i : Int32) : Int32 := if (!decide (i < 0) && !decide (X.1 14 2 ≤ i) && !decide (nI (mz_dn w h) ≤ i)) = true then X.1 15 i.toNatClampNeg else -1
def zr_addB (w h : Nat) (X : mz_X) (d : Int32) : Bool := !decide (d = -1) && !decide (X.1 14 2 < 0) && !decide (nI (mz_dn w h) ≤ X.1 14 2)
def zr_add (w h : Nat) (X : mz_X) (d : Int32) : mz_X := match zr_addB w h X d with
  | true => (mz_up (mz_up X.1 15 (X.1 14 2).toNatClampNeg d) 14 2 (X.1 14 2 + 1), X.2)
  | false => X
def zr_clr (X : mz_X) : mz_X := (mz_up X.1 14 2 0, X.2)
def zr_drX (X : mz_X) : mz_X := match decide (X.1 14 2 = 0) with
  | true => X
  | false => zc_X X (X.1 14 2)
def zr_drV (w h : Nat) (X : mz_X) : Int32 := match decide (X.1 14 2 = 0) with
  | true => -1
  | false => zr_at w h (zc_X X (X.1 14 2)) (zc_n X (X.1 14 2))
def zr_exc (w h : Nat) (X : mz_X) (i j : Int32) : mz_X := match decide (zr_at w h X i = -1) || decide (zr_at w h X j = -1) with
  | true => X
  | false => (mz_up (mz_up X.1 15 i.toNatClampNeg (zr_at w h X j)) 15 j.toNatClampNeg (zr_at w h X i), X.2)
/-- the shuffle from place k down to 1 -/
def zr_shu (w h : Nat) (X : mz_X) (k : Nat) : mz_X := match k with
  | 0 => X
  | j + 1 => zr_shu w h (zr_exc w h (zc_X X (nI (j + 1) + 1)) (nI (j + 1)) (zc_n X (nI (j + 1) + 1))) j
def C_Ch_below (w h : Nat) : mz_CI := fun lay as X Q => match as with
  | [.ref 13, .int n] => lay = mz_lay w h ∧ mz_geo w h ∧ Q (zc_n X n) (zc_X X n)
  | _ => False
def C_Dr_count (w h : Nat) : mz_CI := fun lay as X Q => match as with
  | [.ref 14] => lay = mz_lay w h ∧ mz_geo w h ∧ Q (X.1 14 2) X
  | _ => False
def C_Dr_doorAt (w h : Nat) : mz_CI := fun lay as X Q => match as with
  | [.ref 14, .int i] => lay = mz_lay w h ∧ mz_geo w h ∧ Q (zr_at w h X i) X
  | _ => False
def C_Dr_clear (w h : Nat) : mz_CV := fun lay as X Q => match as with
  | [.ref 14] => lay = mz_lay w h ∧ mz_geo w h ∧ Q (zr_clr X)
  | _ => False
def C_Dr_add (w h : Nat) : mz_CV := fun lay as X Q => match as with
  | [.ref 14, .int d] => lay = mz_lay w h ∧ mz_geo w h ∧ Q (zr_add w h X d)
  | _ => False
def C_Dr_draw (w h : Nat) : mz_CI := fun lay as X Q => match as with
  | [.ref 14] => lay = mz_lay w h ∧ mz_geo w h ∧ Q (zr_drV w h X) (zr_drX X)
  | _ => False
def C_Dr_exchange (w h : Nat) : mz_CV := fun lay as X Q => match as with
  | [.ref 14, .int i, .int j] => lay = mz_lay w h ∧ mz_geo w h ∧ Q (zr_exc w h X i j)
  | _ => False
def C_Dr_shuffle (w h : Nat) : mz_CV := fun lay as X Q => match as with
  | [.ref 14] => lay = mz_lay w h ∧ mz_geo w h ∧ ∃ k : Nat, k ≤ mz_dn w h ∧ X.1 14 2 = nI k ∧ Q (zr_shu w h X (k - 1))
  | _ => False
def y_Ch_below : MethodName := ⟨"MazeForms$Chance", "below", "(I)I"⟩
abbrev w_Ch_below : List Cond := .code y_Ch_below prog_2_method_2_code 2 (some .int) :: mz_tb
def dl_Ch_below : List (Nat × ClassFile.Instr × Nat) := [(0, .iload_n 1, 1), (1, .iconst (1), 1), (2, .if_icmp .ge (5), 3), (5, .iconst (0), 1), (6, .ireturn, 1), (7, .aload_n 0, 1), (8, .ldc2_w 13, 3), (11, .aload_n 0, 1), (12, .getfield 7, 3), (15, .lmul, 1), (16, .ldc2_w 15, 3), (19, .ladd, 1), (20, .putfield 7, 3), (23, .aload_n 0, 1), (24, .getfield 7, 3), (27, .bipush (33), 2), (29, .lushr, 1), (30, .iload_n 1, 1), (31, .i2l, 1), (32, .lrem, 1), (33, .l2i, 1), (34, .ireturn, 1)]
theorem d_Ch_below : mz_dec prog_2_method_2_code dl_Ch_below = true := by decide +kernel
def y_Dr_count : MethodName := ⟨"MazeForms$DoorRow", "count", "()I"⟩
abbrev w_Dr_count : List Cond := .code y_Dr_count prog_3_method_2_code 1 (some .int) :: mz_tb
def dl_Dr_count : List (Nat × ClassFile.Instr × Nat) := [(0, .aload_n 0, 1), (1, .getfield 25, 3), (4, .ireturn, 1)]
theorem d_Dr_count : mz_dec prog_3_method_2_code dl_Dr_count = true := by decide +kernel
def y_Dr_doorAt : MethodName := ⟨"MazeForms$DoorRow", "doorAt", "(I)I"⟩
abbrev w_Dr_doorAt : List Cond := .code y_Dr_doorAt prog_3_method_3_code 2 (some .int) :: mz_tb
def dl_Dr_doorAt : List (Nat × ClassFile.Instr × Nat) := [(0, .iload_n 1, 1), (1, .ifCond .lt (29), 3), (4, .iload_n 1, 1), (5, .aload_n 0, 1), (6, .getfield 25, 3), (9, .if_icmp .ge (21), 3), (12, .iload_n 1, 1), (13, .aload_n 0, 1), (14, .getfield 21, 3), (17, .arraylength, 1), (18, .if_icmp .ge (12), 3), (21, .aload_n 0, 1), (22, .getfield 21, 3), (25, .iload_n 1, 1), (26, .iaload, 1), (27, .goto (4), 3), (30, .iconst (-1), 1), (31, .ireturn, 1)]
theorem d_Dr_doorAt : mz_dec prog_3_method_3_code dl_Dr_doorAt = true := by decide +kernel
def y_Dr_clear : MethodName := ⟨"MazeForms$DoorRow", "clear", "()V"⟩
abbrev w_Dr_clear : List Cond := .code y_Dr_clear prog_3_method_4_code 1 none :: mz_tb
def dl_Dr_clear : List (Nat × ClassFile.Instr × Nat) := [(0, .aload_n 0, 1), (1, .iconst (0), 1), (2, .putfield 25, 3), (5, .return_, 1)]
theorem d_Dr_clear : mz_dec prog_3_method_4_code dl_Dr_clear = true := by decide +kernel
def y_Dr_add : MethodName := ⟨"MazeForms$DoorRow", "add", "(I)V"⟩
abbrev w_Dr_add : List Cond := .code y_Dr_add prog_3_method_5_code 2 none :: mz_tb
def dl_Dr_add : List (Nat × ClassFile.Instr × Nat) := [(0, .iload_n 1, 1), (1, .iconst (-1), 1), (2, .if_icmp .eq (42), 3), (5, .aload_n 0, 1), (6, .getfield 25, 3), (9, .ifCond .lt (35), 3), (12, .aload_n 0, 1), (13, .getfield 25, 3), (16, .aload_n 0, 1), (17, .getfield 21, 3), (20, .arraylength, 1), (21, .if_icmp .ge (23), 3), (24, .aload_n 0, 1), (25, .getfield 21, 3), (28, .aload_n 0, 1), (29, .getfield 25, 3), (32, .iload_n 1, 1), (33, .iastore, 1), (34, .aload_n 0, 1), (35, .dup, 1), (36, .getfield 25, 3), (39, .iconst (1), 1), (40, .iadd, 1), (41, .putfield 25, 3), (44, .return_, 1)]
theorem d_Dr_add : mz_dec prog_3_method_5_code dl_Dr_add = true := by decide +kernel
def y_Dr_draw : MethodName := ⟨"MazeForms$DoorRow", "draw", "()I"⟩
abbrev w_Dr_draw : List Cond := .code y_Dr_draw prog_3_method_6_code 1 (some .int) :: mz_tb
def dl_Dr_draw : List (Nat × ClassFile.Instr × Nat) := [(0, .aload_n 0, 1), (1, .getfield 25, 3), (4, .ifCond .ne (7), 3), (7, .iconst (-1), 1), (8, .goto (18), 3), (11, .aload_n 0, 1), (12, .aload_n 0, 1), (13, .getfield 9, 3), (16, .aload_n 0, 1), (17, .getfield 25, 3), (20, .invokevirtual 29, 3), (23, .invokevirtual 35, 3), (26, .ireturn, 1)]
theorem d_Dr_draw : mz_dec prog_3_method_6_code dl_Dr_draw = true := by decide +kernel
def y_Dr_exchange : MethodName := ⟨"MazeForms$DoorRow", "exchange", "(II)V"⟩
abbrev w_Dr_exchange : List Cond := .code y_Dr_exchange prog_3_method_8_code 5 none :: mz_tb
def dl_Dr_exchange : List (Nat × ClassFile.Instr × Nat) := [(0, .aload_n 0, 1), (1, .iload_n 1, 1), (2, .invokevirtual 35, 3), (5, .istore_n 3, 1), (6, .aload_n 0, 1), (7, .iload_n 2, 1), (8, .invokevirtual 35, 3), (11, .istore 4, 2), (13, .iload_n 3, 1), (14, .iconst (-1), 1), (15, .if_icmp .eq (24), 3), (18, .iload 4, 2), (20, .iconst (-1), 1), (21, .if_icmp .eq (18), 3), (24, .aload_n 0, 1), (25, .getfield 21, 3), (28, .iload_n 1, 1), (29, .iload 4, 2), (31, .iastore, 1), (32, .aload_n 0, 1), (33, .getfield 21, 3), (36, .iload_n 2, 1), (37, .iload_n 3, 1), (38, .iastore, 1), (39, .return_, 1)]
theorem d_Dr_exchange : mz_dec prog_3_method_8_code dl_Dr_exchange = true := by decide +kernel
def y_Dr_shuffle : MethodName := ⟨"MazeForms$DoorRow", "shuffle", "()V"⟩
abbrev w_Dr_shuffle : List Cond := .code y_Dr_shuffle prog_3_method_7_code 2 none :: mz_tb
def dl_Dr_shuffle : List (Nat × ClassFile.Instr × Nat) := [(0, .aload_n 0, 1), (1, .getfield 25, 3), (4, .iconst (1), 1), (5, .isub, 1), (6, .istore_n 1, 1), (7, .iload_n 1, 1), (8, .iconst (1), 1), (9, .if_icmp .lt (24), 3), (12, .aload_n 0, 1), (13, .iload_n 1, 1), (14, .aload_n 0, 1), (15, .getfield 9, 3), (18, .iload_n 1, 1), (19, .iconst (1), 1), (20, .iadd, 1), (21, .invokevirtual 29, 3), (24, .invokevirtual 38, 3), (27, .iinc 1 (-1), 3), (30, .goto (-23), 3), (33, .return_, 1)]
theorem d_Dr_shuffle : mz_dec prog_3_method_7_code dl_Dr_shuffle = true := by decide +kernel
def I_Ch_below (w h : Nat) : List (Nat × mz_Op) := [(0, mz_ldi 1 1), (1, mz_push (.int (1)) 2), (2, mz_ic (fun x y => y ≤ x) 7 5), (5, mz_push (.int (0)) 6), (6, mz_ri), (7, mz_lda 0 8), (8, mz_push (.long (6364136223846793005)) 11), (11, mz_lda 0 12), (12, mz_gf 0 0 15), (15, mz_bl (fun x y => x * y) 16), (16, mz_push (.long (1442695040888963407)) 19), (19, mz_bl (fun x y => x + y) 20), (20, mz_pfl 0 0 23), (23, mz_lda 0 24), (24, mz_gf 0 0 27), (27, mz_push (.int (33)) 29), (29, mz_sh (fun x y => (x.toUInt64 >>> (y.toInt64.toUInt64 &&& Int64.toUInt64 63)).toInt64) 30), (30, mz_ldi 1 31), (31, mz_i2l 32), (32, mz_bld (fun x y => x - x / y * y) 33), (33, mz_l2i 34), (34, mz_ri)]
def I_Dr_count (w h : Nat) : List (Nat × mz_Op) := [(0, mz_lda 0 1), (1, mz_gf 1 2 4), (4, mz_ri)]
def I_Dr_doorAt (w h : Nat) : List (Nat × mz_Op) := [(0, mz_ldi 1 1), (1, mz_if (fun x => x < 0) 30 4), (4, mz_ldi 1 5), (5, mz_lda 0 6), (6, mz_gf 1 2 9), (9, mz_ic (fun x y => y ≤ x) 30 12), (12, mz_ldi 1 13), (13, mz_lda 0 14), (14, mz_gf 1 1 17), (17, mz_al 18), (18, mz_ic (fun x y => y ≤ x) 30 21), (21, mz_lda 0 22), (22, mz_gf 1 1 25), (25, mz_ldi 1 26), (26, mz_iald 0 27), (27, mz_go 31), (30, mz_push (.int (-1)) 31), (31, mz_ri)]
def I_Dr_clear (w h : Nat) : List (Nat × mz_Op) := [(0, mz_lda 0 1), (1, mz_push (.int (0)) 2), (2, mz_pfi 1 2 5), (5, mz_rv)]
def I_Dr_add (w h : Nat) : List (Nat × mz_Op) := [(0, mz_ldi 1 1), (1, mz_push (.int (-1)) 2), (2, mz_ic (fun x y => x = y) 44 5), (5, mz_lda 0 6), (6, mz_gf 1 2 9), (9, mz_if (fun x => x < 0) 44 12), (12, mz_lda 0 13), (13, mz_gf 1 2 16), (16, mz_lda 0 17), (17, mz_gf 1 1 20), (20, mz_al 21), (21, mz_ic (fun x y => y ≤ x) 44 24), (24, mz_lda 0 25), (25, mz_gf 1 1 28), (28, mz_lda 0 29), (29, mz_gf 1 2 32), (32, mz_ldi 1 33), (33, mz_iast 0 34), (34, mz_lda 0 35), (35, mz_dup 36), (36, mz_gf 1 2 39), (39, mz_push (.int (1)) 40), (40, mz_bi (fun x y => x + y) 41), (41, mz_pfi 1 2 44), (44, mz_rv)]
def I_Dr_draw (w h : Nat) : List (Nat × mz_Op) := [(0, mz_lda 0 1), (1, mz_gf 1 2 4), (4, mz_if (fun x => x = 0) 7 11), (7, mz_push (.int (-1)) 8), (8, mz_go 26), (11, mz_lda 0 12), (12, mz_lda 0 13), (13, mz_gf 1 0 16), (16, mz_lda 0 17), (17, mz_gf 1 2 20), (20, mz_ci 2 0 (C_Ch_below w h) 23), (23, mz_ci 2 1 (C_Dr_doorAt w h) 26), (26, mz_ri)]
def I_Dr_exchange (w h : Nat) : List (Nat × mz_Op) := [(0, mz_lda 0 1), (1, mz_ldi 1 2), (2, mz_ci 2 1 (C_Dr_doorAt w h) 5), (5, mz_sti 3 6), (6, mz_lda 0 7), (7, mz_ldi 2 8), (8, mz_ci 2 1 (C_Dr_doorAt w h) 11), (11, mz_sti 4 13), (13, mz_ldi 3 14), (14, mz_push (.int (-1)) 15), (15, mz_ic (fun x y => x = y) 39 18), (18, mz_ldi 4 20), (20, mz_push (.int (-1)) 21), (21, mz_ic (fun x y => x = y) 39 24), (24, mz_lda 0 25), (25, mz_gf 1 1 28), (28, mz_ldi 1 29), (29, mz_ldi 4 31), (31, mz_iast 0 32), (32, mz_lda 0 33), (33, mz_gf 1 1 36), (36, mz_ldi 2 37), (37, mz_ldi 3 38), (38, mz_iast 0 39), (39, mz_rv)]
def I_Dr_shuffle (w h : Nat) : List (Nat × mz_Op) := [(0, mz_lda 0 1), (1, mz_gf 1 2 4), (4, mz_push (.int (1)) 5), (5, mz_bi (fun x y => x - y) 6), (6, mz_sti 1 7), (7, mz_ldi 1 8), (8, mz_push (.int (1)) 9), (9, mz_ic (fun x y => x < y) 33 12), (12, mz_lda 0 13), (13, mz_ldi 1 14), (14, mz_lda 0 15), (15, mz_gf 1 0 18), (18, mz_ldi 1 19), (19, mz_push (.int (1)) 20), (20, mz_bi (fun x y => x + y) 21), (21, mz_ci 2 0 (C_Ch_below w h) 24), (24, mz_cvo 3 1 (C_Dr_exchange w h) 27), (27, mz_inc 1 (-1) 30), (30, mz_go 7), (33, mz_rv)]
theorem len_Ch_below (w h : Nat) (lay : List mz_E) (as : List Value) (X : mz_X) (Q : Int32 → mz_X → Prop) (hC : C_Ch_below w h lay as X Q) : (mz_l0 as).length ≤ 2 := by
  unfold C_Ch_below at hC
  split at hC
  · exact Nat.le_of_ble_eq_true rfl
  · exact hC.elim
theorem ok_Ch_below (w h : Nat) (lay : List mz_E) (as : List Value) (X : mz_X) (Q : Int32 → mz_X → Prop) (hC : C_Ch_below w h lay as X Q) (K : mz_K) (hK : mz_Cl (I_Ch_below w h) (mz_qi lay Q) K) : K 0 (mz_ent 2 as) [] (lay, X) := by
  unfold C_Ch_below at hC
  split at hC
  · next n =>
    obtain ⟨rfl, g, hq⟩ := hC
    iterate 2 refine hK _ _ _ _ ?_
    refine hK _ _ _ _ (And.intro (fun c1 => ?_) (fun c1 => ?_))
    · dsimp only at c1
      have hc : decide (1 ≤ n) = true := by simpa using c1
      simp only [zc_n, zc_X, hc] at hq
      iterate 14 refine hK _ _ _ _ ?_
      refine hK _ _ _ _ (And.intro (fun e => ?_) ?_)
      · have h2 : n.toInt64.toInt = n.toInt := Int32.toInt_toInt64 n
        rw [Int32.le_iff_toInt_le] at c1
        have h3 : (1 : Int32).toInt = 1 := by decide
        rw [e] at h2
        have h4 : (0 : Int64).toInt = 0 := by decide
        omega
      · refine hK _ _ _ _ ?_
        exact hK _ _ _ _ (And.intro rfl (hq))
    · dsimp only at c1
      have hc : decide (1 ≤ n) = false := by simpa using c1
      simp only [zc_n, zc_X, hc] at hq
      refine hK _ _ _ _ ?_
      exact hK _ _ _ _ (And.intro rfl (hq))
  · exact hC.elim
theorem len_Dr_count (w h : Nat) (lay : List mz_E) (as : List Value) (X : mz_X) (Q : Int32 → mz_X → Prop) (hC : C_Dr_count w h lay as X Q) : (mz_l0 as).length ≤ 1 := by
  unfold C_Dr_count at hC
  split at hC
  · exact Nat.le_of_ble_eq_true rfl
  · exact hC.elim
theorem ok_Dr_count (w h : Nat) (lay : List mz_E) (as : List Value) (X : mz_X) (Q : Int32 → mz_X → Prop) (hC : C_Dr_count w h lay as X Q) (K : mz_K) (hK : mz_Cl (I_Dr_count w h) (mz_qi lay Q) K) : K 0 (mz_ent 1 as) [] (lay, X) := by
  unfold C_Dr_count at hC
  split at hC
  ·
    obtain ⟨rfl, g, hq⟩ := hC
    iterate 2 refine hK _ _ _ _ ?_
    exact hK _ _ _ _ (And.intro rfl (hq))
  · exact hC.elim
theorem len_Dr_clear (w h : Nat) (lay : List mz_E) (as : List Value) (X : mz_X) (Q : mz_X → Prop) (hC : C_Dr_clear w h lay as X Q) : (mz_l0 as).length ≤ 1 := by
  unfold C_Dr_clear at hC
  split at hC
  · exact Nat.le_of_ble_eq_true rfl
  · exact hC.elim
theorem ok_Dr_clear (w h : Nat) (lay : List mz_E) (as : List Value) (X : mz_X) (Q : mz_X → Prop) (hC : C_Dr_clear w h lay as X Q) (K : mz_K) (hK : mz_Cl (I_Dr_clear w h) (mz_qv lay Q) K) : K 0 (mz_ent 1 as) [] (lay, X) := by
  unfold C_Dr_clear at hC
  split at hC
  ·
    obtain ⟨rfl, g, hq⟩ := hC
    iterate 3 refine hK _ _ _ _ ?_
    exact hK _ _ _ _ (And.intro rfl (hq))
  · exact hC.elim
theorem len_Dr_doorAt (w h : Nat) (lay : List mz_E) (as : List Value) (X : mz_X) (Q : Int32 → mz_X → Prop) (hC : C_Dr_doorAt w h lay as X Q) : (mz_l0 as).length ≤ 2 := by
  unfold C_Dr_doorAt at hC
  split at hC
  · exact Nat.le_of_ble_eq_true rfl
  · exact hC.elim
theorem ok_Dr_doorAt (w h : Nat) (lay : List mz_E) (as : List Value) (X : mz_X) (Q : Int32 → mz_X → Prop) (hC : C_Dr_doorAt w h lay as X Q) (K : mz_K) (hK : mz_Cl (I_Dr_doorAt w h) (mz_qi lay Q) K) : K 0 (mz_ent 2 as) [] (lay, X) := by
  unfold C_Dr_doorAt at hC
  split at hC
  · next i =>
    obtain ⟨rfl, g, hq⟩ := hC
    have hd := mz_geo_d g
    have h30 : zr_at w h X i = -1 → K 30 (mz_ent 2 [.ref 14, .int i]) [] (mz_lay w h, X) := by
      intro e
      rw [e] at hq
      refine hK _ _ _ _ ?_
      exact hK _ _ _ _ (And.intro rfl (hq))
    refine hK _ _ _ _ ?_
    refine hK _ _ _ _ (And.intro (fun c1 => ?_) (fun c1 => ?_))
    · exact h30 (by simp [zr_at, c1])
    · iterate 3 refine hK _ _ _ _ ?_
      refine hK _ _ _ _ (And.intro (fun c2 => ?_) (fun c2 => ?_))
      · dsimp only at c2
        exact h30 (by simp [zr_at, c2])
      · dsimp only at c2
        iterate 4 refine hK _ _ _ _ ?_
        refine hK _ _ _ _ (And.intro (fun c3 => ?_) (fun c3 => ?_))
        · exact h30 (by simp [zr_at, c3])
        · iterate 3 refine hK _ _ _ _ ?_
          refine hK _ _ _ _ (And.intro (mz_in c1 c3 (by omega)) ?_)
          refine hK _ _ _ _ ?_
          exact hK _ _ _ _ (And.intro rfl (by simpa [zr_at, c1, c2, c3] using hq))
  · exact hC.elim
theorem len_Dr_add (w h : Nat) (lay : List mz_E) (as : List Value) (X : mz_X) (Q : mz_X → Prop) (hC : C_Dr_add w h lay as X Q) : (mz_l0 as).length ≤ 2 := by
  unfold C_Dr_add at hC
  split at hC
  · exact Nat.le_of_ble_eq_true rfl
  · exact hC.elim
theorem ok_Dr_add (w h : Nat) (lay : List mz_E) (as : List Value) (X : mz_X) (Q : mz_X → Prop) (hC : C_Dr_add w h lay as X Q) (K : mz_K) (hK : mz_Cl (I_Dr_add w h) (mz_qv lay Q) K) : K 0 (mz_ent 2 as) [] (lay, X) := by
  unfold C_Dr_add at hC
  split at hC
  · next d =>
    obtain ⟨rfl, g, hq⟩ := hC
    have hd := mz_geo_d g
    have h44 : zr_addB w h X d = false → K 44 (mz_ent 2 [.ref 14, .int d]) [] (mz_lay w h, X) := by
      intro e
      simp only [zr_add, e] at hq
      exact hK _ _ _ _ (And.intro rfl (hq))
    iterate 2 refine hK _ _ _ _ ?_
    refine hK _ _ _ _ (And.intro (fun c1 => ?_) (fun c1 => ?_))
    · exact h44 (by simp [zr_addB, c1])
    · iterate 2 refine hK _ _ _ _ ?_
      refine hK _ _ _ _ (And.intro (fun c2 => ?_) (fun c2 => ?_))
      · dsimp only at c2
        exact h44 (by simp [zr_addB, c2])
      · dsimp only at c2
        iterate 5 refine hK _ _ _ _ ?_
        refine hK _ _ _ _ (And.intro (fun c3 => ?_) (fun c3 => ?_))
        · dsimp only at c3
          exact h44 (by simp [zr_addB, c3])
        · dsimp only at c3
          have hb : zr_addB w h X d = true := by simp [zr_addB, c1, c2, c3]
          simp only [zr_add, hb] at hq
          iterate 5 refine hK _ _ _ _ ?_
          refine hK _ _ _ _ (And.intro (mz_in c2 c3 (by omega)) ?_)
          iterate 6 refine hK _ _ _ _ ?_
          exact hK _ _ _ _ (And.intro rfl (hq))
  · exact hC.elim
theorem len_Dr_draw (w h : Nat) (lay : List mz_E) (as : List Value) (X : mz_X) (Q : Int32 → mz_X → Prop) (hC : C_Dr_draw w h lay as X Q) : (mz_l0 as).length ≤ 1 := by
  unfold C_Dr_draw at hC
  split at hC
  · exact Nat.le_of_ble_eq_true rfl
  · exact hC.elim
theorem ok_Dr_draw (w h : Nat) (lay : List mz_E) (as : List Value) (X : mz_X) (Q : Int32 → mz_X → Prop) (hC : C_Dr_draw w h lay as X Q) (K : mz_K) (hK : mz_Cl (I_Dr_draw w h) (mz_qi lay Q) K) : K 0 (mz_ent 1 as) [] (lay, X) := by
  unfold C_Dr_draw at hC
  split at hC
  ·
    obtain ⟨rfl, g, hq⟩ := hC
    iterate 2 refine hK _ _ _ _ ?_
    refine hK _ _ _ _ (And.intro (fun c1 => ?_) (fun c1 => ?_))
    · dsimp only at c1
      have hc : decide (X.1 14 2 = 0) = true := by simpa using c1
      simp only [zr_drV, zr_drX, hc] at hq
      iterate 2 refine hK _ _ _ _ ?_
      exact hK _ _ _ _ (And.intro rfl (hq))
    · dsimp only at c1
      have hc : decide (X.1 14 2 = 0) = false := by simpa using c1
      simp only [zr_drV, zr_drX, hc] at hq
      iterate 5 refine hK _ _ _ _ ?_
      refine hK _ _ _ _ (And.intro (rfl) (And.intro (g) ?_))
      refine hK _ _ _ _ (And.intro (rfl) (And.intro (g) ?_))
      exact hK _ _ _ _ (And.intro rfl (hq))
  · exact hC.elim
theorem len_Dr_exchange (w h : Nat) (lay : List mz_E) (as : List Value) (X : mz_X) (Q : mz_X → Prop) (hC : C_Dr_exchange w h lay as X Q) : (mz_l0 as).length ≤ 5 := by
  unfold C_Dr_exchange at hC
  split at hC
  · exact Nat.le_of_ble_eq_true rfl
  · exact hC.elim
theorem ok_Dr_exchange (w h : Nat) (lay : List mz_E) (as : List Value) (X : mz_X) (Q : mz_X → Prop) (hC : C_Dr_exchange w h lay as X Q) (K : mz_K) (hK : mz_Cl (I_Dr_exchange w h) (mz_qv lay Q) K) : K 0 (mz_ent 5 as) [] (lay, X) := by
  unfold C_Dr_exchange at hC
  split at hC
  · next i j =>
    obtain ⟨rfl, g, hq⟩ := hC
    have hd := mz_geo_d g
    have hin : ∀ k : Int32, ¬ zr_at w h X k = -1 → vp_in k (mz_dn w h) := by
      intro k hk
      unfold zr_at at hk
      split at hk
      · next hb =>
        simp only [Bool.and_eq_true, Bool.not_eq_true', decide_eq_false_iff_not] at hb
        exact mz_in hb.1.1 hb.2 (by omega)
      · exact absurd rfl hk
    iterate 2 refine hK _ _ _ _ ?_
    refine hK _ _ _ _ (And.intro (rfl) (And.intro (g) ?_))
    iterate 3 refine hK _ _ _ _ ?_
    refine hK _ _ _ _ (And.intro (rfl) (And.intro (g) ?_))
    iterate 3 refine hK _ _ _ _ ?_
    refine hK _ _ _ _ (And.intro (fun c1 => ?_) (fun c1 => ?_))
    · rw [show zr_exc w h X i j = X by simp [zr_exc, c1]] at hq
      exact hK _ _ _ _ (And.intro rfl (hq))
    · iterate 2 refine hK _ _ _ _ ?_
      refine hK _ _ _ _ (And.intro (fun c2 => ?_) (fun c2 => ?_))
      · rw [show zr_exc w h X i j = X by simp [zr_exc, c2]] at hq
        exact hK _ _ _ _ (And.intro rfl (hq))
      · rw [show zr_exc w h X i j = (mz_up (mz_up X.1 15 i.toNatClampNeg (zr_at w h X j)) 15 j.toNatClampNeg (zr_at w h X i), X.2) by simp [zr_exc, c1, c2]] at hq
        iterate 4 refine hK _ _ _ _ ?_
        refine hK _ _ _ _ (And.intro (hin i c1) ?_)
        iterate 4 refine hK _ _ _ _ ?_
        refine hK _ _ _ _ (And.intro (hin j c2) ?_)
        exact hK _ _ _ _ (And.intro rfl (hq))
  · exact hC.elim
theorem len_Dr_shuffle (w h : Nat) (lay : List mz_E) (as : List Value) (X : mz_X) (Q : mz_X → Prop) (hC : C_Dr_shuffle w h lay as X Q) : (mz_l0 as).length ≤ 2 := by
  unfold C_Dr_shuffle at hC
  split at hC
  · exact Nat.le_of_ble_eq_true rfl
  · exact hC.elim
theorem ok_Dr_shuffle (w h : Nat) (lay : List mz_E) (as : List Value) (X : mz_X) (Q : mz_X → Prop) (hC : C_Dr_shuffle w h lay as X Q) (K : mz_K) (hK : mz_Cl (I_Dr_shuffle w h) (mz_qv lay Q) K) : K 0 (mz_ent 2 as) [] (lay, X) := by
  unfold C_Dr_shuffle at hC
  split at hC
  ·
    obtain ⟨rfl, g, k, hk, hX, hq⟩ := hC
    have hd := mz_geo_d g
    have loop : ∀ (i : Nat) (Y : mz_X), i ≤ mz_dn w h → Q (zr_shu w h Y i) → K 7 [some (.ref 14), some (.int (nI i))] [] (mz_lay w h, Y) := by
      intro i
      induction i with
      | zero =>
        intro Y hi hY
        iterate 2 refine hK _ _ _ _ ?_
        refine hK _ _ _ _ (And.intro (fun c1 => ?_) (fun c1 => ?_))
        · exact hK _ _ _ _ (And.intro rfl (hY))
        · exact absurd (by decide) c1
      | succ i ih =>
        intro Y hi hY
        iterate 2 refine hK _ _ _ _ ?_
        refine hK _ _ _ _ (And.intro (fun c1 => ?_) (fun c1 => ?_))
        · dsimp only at c1
          exact absurd ((nI_ltI (a := i + 1) (b := 1) (by omega) (by omega)).mp c1) (by omega)
        · iterate 7 refine hK _ _ _ _ ?_
          refine hK _ _ _ _ (And.intro (rfl) (And.intro (g) ?_))
          refine hK _ _ _ _ (And.intro (rfl) (And.intro (g) ?_))
          iterate 2 refine hK _ _ _ _ ?_
          have := ih (zr_exc w h (zc_X Y (nI (i + 1) + 1)) (nI (i + 1)) (zc_n Y (nI (i + 1) + 1))) (by omega) hY
          rw [← pk_m1 i] at this
          exact this
    iterate 5 refine hK _ _ _ _ ?_
    cases k with
    | zero =>
      iterate 2 refine hK _ _ _ _ ?_
      refine hK _ _ _ _ (And.intro (fun c1 => ?_) (fun c1 => ?_))
      · exact hK _ _ _ _ (And.intro rfl (hq))
      · dsimp only at c1
        rw [hX] at c1
        exact absurd (by decide) c1
    | succ k =>
      have := loop k X (by omega) hq
      rw [← nI_pred k, ← hX] at this
      exact this
  · exact hC.elim
set_option maxRecDepth 20000 in
theorem snd_Ch_below (w h : Nat) (l : Launch) (p : Program) (e : Env) (s : State) (m : MethodId) (args : Array Value) (below : List Frame) (meth : Method) (c : Code) (D : va_G) (ad0 : Nat → Nat) (cA0 : Nat → ClassId) (A : Nat → Prop) (lay : List mz_E) (Q : Int32 → mz_X → Prop) (F : mz_F p s m args meth c prog_2_method_2_code 2 y_Ch_below.cls (some .int) w_Ch_below) (hA : ∀ q, s.heap.size ≤ q → A q) : mz_All (mz_V p l e (mz_rm 0 0) s m args below meth c 2 lay.length (mz_sz lay) D mz_cls (mz_G0 ad0 cA0) A (MQ below (va_Qi Q (mz_B D mz_cls ad0 cA0 lay A) A) args s 0 0 A)) (mz_qi lay Q) (I_Ch_below w h) := by
  obtain ⟨hx, hb, hml, hown, hts, hr, hlk⟩ := F
  unfold I_Ch_below
  refine mz_All.cons (sd_iload_n hx hb (mz_dg d_Ch_below 0 0 (.iload_n 1) 1 rfl) rfl) ?_
  refine mz_All.cons (sd_iconst hx hb (mz_dg d_Ch_below 1 1 (.iconst (1)) 1 rfl) (by decide)) ?_
  refine mz_All.cons (sd_icmp_ge hx hb (mz_dg d_Ch_below 2 2 (.if_icmp .ge (5)) 3 rfl) (by decide)) ?_
  refine mz_All.cons (sd_iconst hx hb (mz_dg d_Ch_below 3 5 (.iconst (0)) 1 rfl) (by decide)) ?_
  refine mz_All.cons (sd_ri hx hb hr hlk (mz_dg d_Ch_below 4 6 (.ireturn) 1 rfl)) ?_
  refine mz_All.cons (sd_aload_n hx hb (mz_dg d_Ch_below 5 7 (.aload_n 0) 1 rfl) rfl) ?_
  refine mz_All.cons (sd_ldc2 hx hb hown (hts _ (List.mem_cons_of_mem _ wm_399)) (mz_dg d_Ch_below 6 8 (.ldc2_w 13) 3 rfl)) ?_
  refine mz_All.cons (sd_aload_n hx hb (mz_dg d_Ch_below 7 11 (.aload_n 0) 1 rfl) rfl) ?_
  refine mz_All.cons (sd_get (k := 0) hx hb hts (mz_inC in_Ch) hown (T := T_Ch) (N := 1) rfl (by decide) (hts (.fieldLink "MazeForms$Chance" 7 "MazeForms$Chance" "state" "J") (List.mem_cons_of_mem _ wm_199)) (fun _ h => h) (mz_dg d_Ch_below 8 12 (.getfield 7) 3 rfl)) ?_
  refine mz_All.cons (sd_lmul hx hb (mz_dg d_Ch_below 9 15 (.lmul) 1 rfl)) ?_
  refine mz_All.cons (sd_ldc2 hx hb hown (hts _ (List.mem_cons_of_mem _ wm_400)) (mz_dg d_Ch_below 10 16 (.ldc2_w 15) 3 rfl)) ?_
  refine mz_All.cons (sd_ladd hx hb (mz_dg d_Ch_below 11 19 (.ladd) 1 rfl)) ?_
  refine mz_All.cons (sd_putl (k := 0) hx hb hts (mz_inC in_Ch) ty_Ch ty_Ch_ok nm_Ch hown (T := T_Ch) (N := 1) rfl (by decide) (hts (.fieldLink "MazeForms$Chance" 7 "MazeForms$Chance" "state" "J") (List.mem_cons_of_mem _ wm_199)) (fun _ h => h) rfl rfl (mz_dg d_Ch_below 12 20 (.putfield 7) 3 rfl)) ?_
  refine mz_All.cons (sd_aload_n hx hb (mz_dg d_Ch_below 13 23 (.aload_n 0) 1 rfl) rfl) ?_
  refine mz_All.cons (sd_get (k := 0) hx hb hts (mz_inC in_Ch) hown (T := T_Ch) (N := 1) rfl (by decide) (hts (.fieldLink "MazeForms$Chance" 7 "MazeForms$Chance" "state" "J") (List.mem_cons_of_mem _ wm_199)) (fun _ h => h) (mz_dg d_Ch_below 14 24 (.getfield 7) 3 rfl)) ?_
  refine mz_All.cons (sd_bipush hx hb (mz_dg d_Ch_below 15 27 (.bipush (33)) 2 rfl) (by decide)) ?_
  refine mz_All.cons (sd_lushr hx hb (mz_dg d_Ch_below 16 29 (.lushr) 1 rfl)) ?_
  refine mz_All.cons (sd_iload_n hx hb (mz_dg d_Ch_below 17 30 (.iload_n 1) 1 rfl) rfl) ?_
  refine mz_All.cons (sd_i2l hx hb (mz_dg d_Ch_below 18 31 (.i2l) 1 rfl)) ?_
  refine mz_All.cons (sd_lrem hx hb (mz_dg d_Ch_below 19 32 (.lrem) 1 rfl)) ?_
  refine mz_All.cons (sd_l2i hx hb (mz_dg d_Ch_below 20 33 (.l2i) 1 rfl)) ?_
  refine mz_All.cons (sd_ri hx hb hr hlk (mz_dg d_Ch_below 21 34 (.ireturn) 1 rfl)) ?_
  exact trivial
theorem met_Ch_below (w h : Nat) (l : Launch) : mz_MI l y_Ch_below w_Ch_below 0 0 mz_cls (C_Ch_below w h) := mz_MI_of (I_Ch_below w h) (by decide) rfl (len_Ch_below w h) (ok_Ch_below w h) (snd_Ch_below w h l)
set_option maxRecDepth 20000 in
theorem snd_Dr_count (w h : Nat) (l : Launch) (p : Program) (e : Env) (s : State) (m : MethodId) (args : Array Value) (below : List Frame) (meth : Method) (c : Code) (D : va_G) (ad0 : Nat → Nat) (cA0 : Nat → ClassId) (A : Nat → Prop) (lay : List mz_E) (Q : Int32 → mz_X → Prop) (F : mz_F p s m args meth c prog_3_method_2_code 1 y_Dr_count.cls (some .int) w_Dr_count) (hA : ∀ q, s.heap.size ≤ q → A q) : mz_All (mz_V p l e (mz_rm 0 0) s m args below meth c 1 lay.length (mz_sz lay) D mz_cls (mz_G0 ad0 cA0) A (MQ below (va_Qi Q (mz_B D mz_cls ad0 cA0 lay A) A) args s 0 0 A)) (mz_qi lay Q) (I_Dr_count w h) := by
  obtain ⟨hx, hb, hml, hown, hts, hr, hlk⟩ := F
  unfold I_Dr_count
  refine mz_All.cons (sd_aload_n hx hb (mz_dg d_Dr_count 0 0 (.aload_n 0) 1 rfl) rfl) ?_
  refine mz_All.cons (sd_get (k := 2) hx hb hts (mz_inC in_Dr) hown (T := T_Dr) (N := 3) rfl (by decide) (hts (.fieldLink "MazeForms$DoorRow" 25 "MazeForms$DoorRow" "count" "I") (List.mem_cons_of_mem _ wm_220)) (fun _ h => h) (mz_dg d_Dr_count 1 1 (.getfield 25) 3 rfl)) ?_
  refine mz_All.cons (sd_ri hx hb hr hlk (mz_dg d_Dr_count 2 4 (.ireturn) 1 rfl)) ?_
  exact trivial
theorem met_Dr_count (w h : Nat) (l : Launch) : mz_MI l y_Dr_count w_Dr_count 0 0 mz_cls (C_Dr_count w h) := mz_MI_of (I_Dr_count w h) (by decide) rfl (len_Dr_count w h) (ok_Dr_count w h) (snd_Dr_count w h l)
set_option maxRecDepth 20000 in
theorem snd_Dr_doorAt (w h : Nat) (l : Launch) (p : Program) (e : Env) (s : State) (m : MethodId) (args : Array Value) (below : List Frame) (meth : Method) (c : Code) (D : va_G) (ad0 : Nat → Nat) (cA0 : Nat → ClassId) (A : Nat → Prop) (lay : List mz_E) (Q : Int32 → mz_X → Prop) (F : mz_F p s m args meth c prog_3_method_3_code 2 y_Dr_doorAt.cls (some .int) w_Dr_doorAt) (hA : ∀ q, s.heap.size ≤ q → A q) : mz_All (mz_V p l e (mz_rm 0 0) s m args below meth c 2 lay.length (mz_sz lay) D mz_cls (mz_G0 ad0 cA0) A (MQ below (va_Qi Q (mz_B D mz_cls ad0 cA0 lay A) A) args s 0 0 A)) (mz_qi lay Q) (I_Dr_doorAt w h) := by
  obtain ⟨hx, hb, hml, hown, hts, hr, hlk⟩ := F
  unfold I_Dr_doorAt
  refine mz_All.cons (sd_iload_n hx hb (mz_dg d_Dr_doorAt 0 0 (.iload_n 1) 1 rfl) rfl) ?_
  refine mz_All.cons (sd_if_lt hx hb (mz_dg d_Dr_doorAt 1 1 (.ifCond .lt (29)) 3 rfl) (by decide)) ?_
  refine mz_All.cons (sd_iload_n hx hb (mz_dg d_Dr_doorAt 2 4 (.iload_n 1) 1 rfl) rfl) ?_
  refine mz_All.cons (sd_aload_n hx hb (mz_dg d_Dr_doorAt 3 5 (.aload_n 0) 1 rfl) rfl) ?_
  refine mz_All.cons (sd_get (k := 2) hx hb hts (mz_inC in_Dr) hown (T := T_Dr) (N := 3) rfl (by decide) (hts (.fieldLink "MazeForms$DoorRow" 25 "MazeForms$DoorRow" "count" "I") (List.mem_cons_of_mem _ wm_220)) (fun _ h => h) (mz_dg d_Dr_doorAt 4 6 (.getfield 25) 3 rfl)) ?_
  refine mz_All.cons (sd_icmp_ge hx hb (mz_dg d_Dr_doorAt 5 9 (.if_icmp .ge (21)) 3 rfl) (by decide)) ?_
  refine mz_All.cons (sd_iload_n hx hb (mz_dg d_Dr_doorAt 6 12 (.iload_n 1) 1 rfl) rfl) ?_
  refine mz_All.cons (sd_aload_n hx hb (mz_dg d_Dr_doorAt 7 13 (.aload_n 0) 1 rfl) rfl) ?_
  refine mz_All.cons (sd_get (k := 1) hx hb hts (mz_inC in_Dr) hown (T := T_Dr) (N := 3) rfl (by decide) (hts (.fieldLink "MazeForms$DoorRow" 21 "MazeForms$DoorRow" "row" "[I") (List.mem_cons_of_mem _ wm_219)) (fun _ h => h) (mz_dg d_Dr_doorAt 8 14 (.getfield 21) 3 rfl)) ?_
  refine mz_All.cons (sd_alen hx hb (mz_dg d_Dr_doorAt 9 17 (.arraylength) 1 rfl)) ?_
  refine mz_All.cons (sd_icmp_ge hx hb (mz_dg d_Dr_doorAt 10 18 (.if_icmp .ge (12)) 3 rfl) (by decide)) ?_
  refine mz_All.cons (sd_aload_n hx hb (mz_dg d_Dr_doorAt 11 21 (.aload_n 0) 1 rfl) rfl) ?_
  refine mz_All.cons (sd_get (k := 1) hx hb hts (mz_inC in_Dr) hown (T := T_Dr) (N := 3) rfl (by decide) (hts (.fieldLink "MazeForms$DoorRow" 21 "MazeForms$DoorRow" "row" "[I") (List.mem_cons_of_mem _ wm_219)) (fun _ h => h) (mz_dg d_Dr_doorAt 12 22 (.getfield 21) 3 rfl)) ?_
  refine mz_All.cons (sd_iload_n hx hb (mz_dg d_Dr_doorAt 13 25 (.iload_n 1) 1 rfl) rfl) ?_
  refine mz_All.cons (sd_iald hx hb (mz_dg d_Dr_doorAt 14 26 (.iaload) 1 rfl)) ?_
  refine mz_All.cons (sd_goto hx hb (mz_dg d_Dr_doorAt 15 27 (.goto (4)) 3 rfl) (by decide)) ?_
  refine mz_All.cons (sd_iconst hx hb (mz_dg d_Dr_doorAt 16 30 (.iconst (-1)) 1 rfl) (by decide)) ?_
  refine mz_All.cons (sd_ri hx hb hr hlk (mz_dg d_Dr_doorAt 17 31 (.ireturn) 1 rfl)) ?_
  exact trivial
theorem met_Dr_doorAt (w h : Nat) (l : Launch) : mz_MI l y_Dr_doorAt w_Dr_doorAt 0 0 mz_cls (C_Dr_doorAt w h) := mz_MI_of (I_Dr_doorAt w h) (by decide) rfl (len_Dr_doorAt w h) (ok_Dr_doorAt w h) (snd_Dr_doorAt w h l)
set_option maxRecDepth 20000 in
theorem snd_Dr_clear (w h : Nat) (l : Launch) (p : Program) (e : Env) (s : State) (m : MethodId) (args : Array Value) (below : List Frame) (meth : Method) (c : Code) (D : va_G) (ad0 : Nat → Nat) (cA0 : Nat → ClassId) (A : Nat → Prop) (lay : List mz_E) (Q : mz_X → Prop) (F : mz_F p s m args meth c prog_3_method_4_code 1 y_Dr_clear.cls none w_Dr_clear) (hA : ∀ q, s.heap.size ≤ q → A q) : mz_All (mz_V p l e (mz_rm 0 0) s m args below meth c 1 lay.length (mz_sz lay) D mz_cls (mz_G0 ad0 cA0) A (MQ below (va_Qv Q (mz_B D mz_cls ad0 cA0 lay A) A) args s 0 0 A)) (mz_qv lay Q) (I_Dr_clear w h) := by
  obtain ⟨hx, hb, hml, hown, hts, hr, hlk⟩ := F
  unfold I_Dr_clear
  refine mz_All.cons (sd_aload_n hx hb (mz_dg d_Dr_clear 0 0 (.aload_n 0) 1 rfl) rfl) ?_
  refine mz_All.cons (sd_iconst hx hb (mz_dg d_Dr_clear 1 1 (.iconst (0)) 1 rfl) (by decide)) ?_
  refine mz_All.cons (sd_puti (k := 2) hx hb hts (mz_inC in_Dr) ty_Dr ty_Dr_ok nm_Dr hown (T := T_Dr) (N := 3) rfl (by decide) (hts (.fieldLink "MazeForms$DoorRow" 25 "MazeForms$DoorRow" "count" "I") (List.mem_cons_of_mem _ wm_220)) (fun _ h => h) rfl rfl (mz_dg d_Dr_clear 2 2 (.putfield 25) 3 rfl)) ?_
  refine mz_All.cons (sd_rv hx hb hr hlk (mz_dg d_Dr_clear 3 5 (.return_) 1 rfl)) ?_
  exact trivial
theorem met_Dr_clear (w h : Nat) (l : Launch) : mz_MV l y_Dr_clear w_Dr_clear 0 0 mz_cls (C_Dr_clear w h) := mz_MV_of (I_Dr_clear w h) (by decide) rfl (len_Dr_clear w h) (ok_Dr_clear w h) (snd_Dr_clear w h l)
set_option maxRecDepth 20000 in
theorem snd_Dr_add (w h : Nat) (l : Launch) (p : Program) (e : Env) (s : State) (m : MethodId) (args : Array Value) (below : List Frame) (meth : Method) (c : Code) (D : va_G) (ad0 : Nat → Nat) (cA0 : Nat → ClassId) (A : Nat → Prop) (lay : List mz_E) (Q : mz_X → Prop) (F : mz_F p s m args meth c prog_3_method_5_code 2 y_Dr_add.cls none w_Dr_add) (hA : ∀ q, s.heap.size ≤ q → A q) : mz_All (mz_V p l e (mz_rm 0 0) s m args below meth c 2 lay.length (mz_sz lay) D mz_cls (mz_G0 ad0 cA0) A (MQ below (va_Qv Q (mz_B D mz_cls ad0 cA0 lay A) A) args s 0 0 A)) (mz_qv lay Q) (I_Dr_add w h) := by
  obtain ⟨hx, hb, hml, hown, hts, hr, hlk⟩ := F
  unfold I_Dr_add
  refine mz_All.cons (sd_iload_n hx hb (mz_dg d_Dr_add 0 0 (.iload_n 1) 1 rfl) rfl) ?_
  refine mz_All.cons (sd_iconst hx hb (mz_dg d_Dr_add 1 1 (.iconst (-1)) 1 rfl) (by decide)) ?_
  refine mz_All.cons (sd_icmp_eq hx hb (mz_dg d_Dr_add 2 2 (.if_icmp .eq (42)) 3 rfl) (by decide)) ?_
  refine mz_All.cons (sd_aload_n hx hb (mz_dg d_Dr_add 3 5 (.aload_n 0) 1 rfl) rfl) ?_
  refine mz_All.cons (sd_get (k := 2) hx hb hts (mz_inC in_Dr) hown (T := T_Dr) (N := 3) rfl (by decide) (hts (.fieldLink "MazeForms$DoorRow" 25 "MazeForms$DoorRow" "count" "I") (List.mem_cons_of_mem _ wm_220)) (fun _ h => h) (mz_dg d_Dr_add 4 6 (.getfield 25) 3 rfl)) ?_
  refine mz_All.cons (sd_if_lt hx hb (mz_dg d_Dr_add 5 9 (.ifCond .lt (35)) 3 rfl) (by decide)) ?_
  refine mz_All.cons (sd_aload_n hx hb (mz_dg d_Dr_add 6 12 (.aload_n 0) 1 rfl) rfl) ?_
  refine mz_All.cons (sd_get (k := 2) hx hb hts (mz_inC in_Dr) hown (T := T_Dr) (N := 3) rfl (by decide) (hts (.fieldLink "MazeForms$DoorRow" 25 "MazeForms$DoorRow" "count" "I") (List.mem_cons_of_mem _ wm_220)) (fun _ h => h) (mz_dg d_Dr_add 7 13 (.getfield 25) 3 rfl)) ?_
  refine mz_All.cons (sd_aload_n hx hb (mz_dg d_Dr_add 8 16 (.aload_n 0) 1 rfl) rfl) ?_
  refine mz_All.cons (sd_get (k := 1) hx hb hts (mz_inC in_Dr) hown (T := T_Dr) (N := 3) rfl (by decide) (hts (.fieldLink "MazeForms$DoorRow" 21 "MazeForms$DoorRow" "row" "[I") (List.mem_cons_of_mem _ wm_219)) (fun _ h => h) (mz_dg d_Dr_add 9 17 (.getfield 21) 3 rfl)) ?_
  refine mz_All.cons (sd_alen hx hb (mz_dg d_Dr_add 10 20 (.arraylength) 1 rfl)) ?_
  refine mz_All.cons (sd_icmp_ge hx hb (mz_dg d_Dr_add 11 21 (.if_icmp .ge (23)) 3 rfl) (by decide)) ?_
  refine mz_All.cons (sd_aload_n hx hb (mz_dg d_Dr_add 12 24 (.aload_n 0) 1 rfl) rfl) ?_
  refine mz_All.cons (sd_get (k := 1) hx hb hts (mz_inC in_Dr) hown (T := T_Dr) (N := 3) rfl (by decide) (hts (.fieldLink "MazeForms$DoorRow" 21 "MazeForms$DoorRow" "row" "[I") (List.mem_cons_of_mem _ wm_219)) (fun _ h => h) (mz_dg d_Dr_add 13 25 (.getfield 21) 3 rfl)) ?_
  refine mz_All.cons (sd_aload_n hx hb (mz_dg d_Dr_add 14 28 (.aload_n 0) 1 rfl) rfl) ?_
  refine mz_All.cons (sd_get (k := 2) hx hb hts (mz_inC in_Dr) hown (T := T_Dr) (N := 3) rfl (by decide) (hts (.fieldLink "MazeForms$DoorRow" 25 "MazeForms$DoorRow" "count" "I") (List.mem_cons_of_mem _ wm_220)) (fun _ h => h) (mz_dg d_Dr_add 15 29 (.getfield 25) 3 rfl)) ?_
  refine mz_All.cons (sd_iload_n hx hb (mz_dg d_Dr_add 16 32 (.iload_n 1) 1 rfl) rfl) ?_
  refine mz_All.cons (sd_iast hx hb (mz_dg d_Dr_add 17 33 (.iastore) 1 rfl)) ?_
  refine mz_All.cons (sd_aload_n hx hb (mz_dg d_Dr_add 18 34 (.aload_n 0) 1 rfl) rfl) ?_
  refine mz_All.cons (sd_dup hx hb (mz_dg d_Dr_add 19 35 (.dup) 1 rfl)) ?_
  refine mz_All.cons (sd_get (k := 2) hx hb hts (mz_inC in_Dr) hown (T := T_Dr) (N := 3) rfl (by decide) (hts (.fieldLink "MazeForms$DoorRow" 25 "MazeForms$DoorRow" "count" "I") (List.mem_cons_of_mem _ wm_220)) (fun _ h => h) (mz_dg d_Dr_add 20 36 (.getfield 25) 3 rfl)) ?_
  refine mz_All.cons (sd_iconst hx hb (mz_dg d_Dr_add 21 39 (.iconst (1)) 1 rfl) (by decide)) ?_
  refine mz_All.cons (sd_iadd hx hb (mz_dg d_Dr_add 22 40 (.iadd) 1 rfl)) ?_
  refine mz_All.cons (sd_puti (k := 2) hx hb hts (mz_inC in_Dr) ty_Dr ty_Dr_ok nm_Dr hown (T := T_Dr) (N := 3) rfl (by decide) (hts (.fieldLink "MazeForms$DoorRow" 25 "MazeForms$DoorRow" "count" "I") (List.mem_cons_of_mem _ wm_220)) (fun _ h => h) rfl rfl (mz_dg d_Dr_add 23 41 (.putfield 25) 3 rfl)) ?_
  refine mz_All.cons (sd_rv hx hb hr hlk (mz_dg d_Dr_add 24 44 (.return_) 1 rfl)) ?_
  exact trivial
theorem met_Dr_add (w h : Nat) (l : Launch) : mz_MV l y_Dr_add w_Dr_add 0 0 mz_cls (C_Dr_add w h) := mz_MV_of (I_Dr_add w h) (by decide) rfl (len_Dr_add w h) (ok_Dr_add w h) (snd_Dr_add w h l)
set_option maxRecDepth 20000 in
theorem snd_Dr_draw (w h : Nat) (l : Launch) (p : Program) (e : Env) (s : State) (m : MethodId) (args : Array Value) (below : List Frame) (meth : Method) (c : Code) (D : va_G) (ad0 : Nat → Nat) (cA0 : Nat → ClassId) (A : Nat → Prop) (lay : List mz_E) (Q : Int32 → mz_X → Prop) (F : mz_F p s m args meth c prog_3_method_6_code 1 y_Dr_draw.cls (some .int) w_Dr_draw) (hA : ∀ q, s.heap.size ≤ q → A q) : mz_All (mz_V p l e (mz_rm 1 21) s m args below meth c 1 lay.length (mz_sz lay) D mz_cls (mz_G0 ad0 cA0) A (MQ below (va_Qi Q (mz_B D mz_cls ad0 cA0 lay A) A) args s 0 0 A)) (mz_qi lay Q) (I_Dr_draw w h) := by
  obtain ⟨hx, hb, hml, hown, hts, hr, hlk⟩ := F
  unfold I_Dr_draw
  refine mz_All.cons (sd_aload_n hx hb (mz_dg d_Dr_draw 0 0 (.aload_n 0) 1 rfl) rfl) ?_
  refine mz_All.cons (sd_get (k := 2) hx hb hts (mz_inC in_Dr) hown (T := T_Dr) (N := 3) rfl (by decide) (hts (.fieldLink "MazeForms$DoorRow" 25 "MazeForms$DoorRow" "count" "I") (List.mem_cons_of_mem _ wm_220)) (fun _ h => h) (mz_dg d_Dr_draw 1 1 (.getfield 25) 3 rfl)) ?_
  refine mz_All.cons (sd_if_ne hx hb (mz_dg d_Dr_draw 2 4 (.ifCond .ne (7)) 3 rfl) (by decide)) ?_
  refine mz_All.cons (sd_iconst hx hb (mz_dg d_Dr_draw 3 7 (.iconst (-1)) 1 rfl) (by decide)) ?_
  refine mz_All.cons (sd_goto hx hb (mz_dg d_Dr_draw 4 8 (.goto (18)) 3 rfl) (by decide)) ?_
  refine mz_All.cons (sd_aload_n hx hb (mz_dg d_Dr_draw 5 11 (.aload_n 0) 1 rfl) rfl) ?_
  refine mz_All.cons (sd_aload_n hx hb (mz_dg d_Dr_draw 6 12 (.aload_n 0) 1 rfl) rfl) ?_
  refine mz_All.cons (sd_get (k := 0) hx hb hts (mz_inC in_Dr) hown (T := T_Dr) (N := 3) rfl (by decide) (hts (.fieldLink "MazeForms$DoorRow" 9 "MazeForms$DoorRow" "chance" "LMazeForms$Chance;") (List.mem_cons_of_mem _ wm_218)) (fun _ h => h) (mz_dg d_Dr_draw 7 13 (.getfield 9) 3 rfl)) ?_
  refine mz_All.cons (sd_aload_n hx hb (mz_dg d_Dr_draw 8 16 (.aload_n 0) 1 rfl) rfl) ?_
  refine mz_All.cons (sd_get (k := 2) hx hb hts (mz_inC in_Dr) hown (T := T_Dr) (N := 3) rfl (by decide) (hts (.fieldLink "MazeForms$DoorRow" 25 "MazeForms$DoorRow" "count" "I") (List.mem_cons_of_mem _ wm_220)) (fun _ h => h) (mz_dg d_Dr_draw 9 17 (.getfield 25) 3 rfl)) ?_
  refine mz_All.cons (sd_calli (T := T_Ch) ⟨hx, hb, hml, hown, hts⟩ (met_Ch_below w h l) (cwV 1 hts (mz_gV wm_395 wm_396 wm_397 wm_73 wm_398) rfl rfl rfl (by decide) ⟨by decide, by decide⟩) rfl hA rfl (mz_dg d_Dr_draw 10 20 (.invokevirtual 29) 3 rfl)) ?_
  refine mz_All.cons (sd_calli (T := T_Dr) ⟨hx, hb, hml, hown, hts⟩ (met_Dr_doorAt w h l) (cwV 1 hts (mz_gV wm_401 wm_402 wm_403 wm_74 wm_404) rfl rfl rfl (by decide) ⟨by decide, by decide⟩) rfl hA rfl (mz_dg d_Dr_draw 11 23 (.invokevirtual 35) 3 rfl)) ?_
  refine mz_All.cons (sd_ri hx hb hr hlk (mz_dg d_Dr_draw 12 26 (.ireturn) 1 rfl)) ?_
  exact trivial
theorem met_Dr_draw (w h : Nat) (l : Launch) : mz_MI l y_Dr_draw w_Dr_draw 1 21 mz_cls (C_Dr_draw w h) := mz_MI_of (I_Dr_draw w h) (by decide) rfl (len_Dr_draw w h) (ok_Dr_draw w h) (snd_Dr_draw w h l)
set_option maxRecDepth 20000 in
theorem snd_Dr_exchange (w h : Nat) (l : Launch) (p : Program) (e : Env) (s : State) (m : MethodId) (args : Array Value) (below : List Frame) (meth : Method) (c : Code) (D : va_G) (ad0 : Nat → Nat) (cA0 : Nat → ClassId) (A : Nat → Prop) (lay : List mz_E) (Q : mz_X → Prop) (F : mz_F p s m args meth c prog_3_method_8_code 5 y_Dr_exchange.cls none w_Dr_exchange) (hA : ∀ q, s.heap.size ≤ q → A q) : mz_All (mz_V p l e (mz_rm 1 21) s m args below meth c 5 lay.length (mz_sz lay) D mz_cls (mz_G0 ad0 cA0) A (MQ below (va_Qv Q (mz_B D mz_cls ad0 cA0 lay A) A) args s 0 0 A)) (mz_qv lay Q) (I_Dr_exchange w h) := by
  obtain ⟨hx, hb, hml, hown, hts, hr, hlk⟩ := F
  unfold I_Dr_exchange
  refine mz_All.cons (sd_aload_n hx hb (mz_dg d_Dr_exchange 0 0 (.aload_n 0) 1 rfl) rfl) ?_
  refine mz_All.cons (sd_iload_n hx hb (mz_dg d_Dr_exchange 1 1 (.iload_n 1) 1 rfl) rfl) ?_
  refine mz_All.cons (sd_calli (T := T_Dr) ⟨hx, hb, hml, hown, hts⟩ (met_Dr_doorAt w h l) (cwV 1 hts (mz_gV wm_401 wm_402 wm_403 wm_74 wm_404) rfl rfl rfl (by decide) ⟨by decide, by decide⟩) rfl hA rfl (mz_dg d_Dr_exchange 2 2 (.invokevirtual 35) 3 rfl)) ?_
  refine mz_All.cons (sd_istore_n hx hb (mz_dg d_Dr_exchange 3 5 (.istore_n 3) 1 rfl) rfl (by decide)) ?_
  refine mz_All.cons (sd_aload_n hx hb (mz_dg d_Dr_exchange 4 6 (.aload_n 0) 1 rfl) rfl) ?_
  refine mz_All.cons (sd_iload_n hx hb (mz_dg d_Dr_exchange 5 7 (.iload_n 2) 1 rfl) rfl) ?_
  refine mz_All.cons (sd_calli (T := T_Dr) ⟨hx, hb, hml, hown, hts⟩ (met_Dr_doorAt w h l) (cwV 1 hts (mz_gV wm_401 wm_402 wm_403 wm_74 wm_404) rfl rfl rfl (by decide) ⟨by decide, by decide⟩) rfl hA rfl (mz_dg d_Dr_exchange 6 8 (.invokevirtual 35) 3 rfl)) ?_
  refine mz_All.cons (sd_istore hx hb (mz_dg d_Dr_exchange 7 11 (.istore 4) 2 rfl) (by decide)) ?_
  refine mz_All.cons (sd_iload_n hx hb (mz_dg d_Dr_exchange 8 13 (.iload_n 3) 1 rfl) rfl) ?_
  refine mz_All.cons (sd_iconst hx hb (mz_dg d_Dr_exchange 9 14 (.iconst (-1)) 1 rfl) (by decide)) ?_
  refine mz_All.cons (sd_icmp_eq hx hb (mz_dg d_Dr_exchange 10 15 (.if_icmp .eq (24)) 3 rfl) (by decide)) ?_
  refine mz_All.cons (sd_iload hx hb (mz_dg d_Dr_exchange 11 18 (.iload 4) 2 rfl)) ?_
  refine mz_All.cons (sd_iconst hx hb (mz_dg d_Dr_exchange 12 20 (.iconst (-1)) 1 rfl) (by decide)) ?_
  refine mz_All.cons (sd_icmp_eq hx hb (mz_dg d_Dr_exchange 13 21 (.if_icmp .eq (18)) 3 rfl) (by decide)) ?_
  refine mz_All.cons (sd_aload_n hx hb (mz_dg d_Dr_exchange 14 24 (.aload_n 0) 1 rfl) rfl) ?_
  refine mz_All.cons (sd_get (k := 1) hx hb hts (mz_inC in_Dr) hown (T := T_Dr) (N := 3) rfl (by decide) (hts (.fieldLink "MazeForms$DoorRow" 21 "MazeForms$DoorRow" "row" "[I") (List.mem_cons_of_mem _ wm_219)) (fun _ h => h) (mz_dg d_Dr_exchange 15 25 (.getfield 21) 3 rfl)) ?_
  refine mz_All.cons (sd_iload_n hx hb (mz_dg d_Dr_exchange 16 28 (.iload_n 1) 1 rfl) rfl) ?_
  refine mz_All.cons (sd_iload hx hb (mz_dg d_Dr_exchange 17 29 (.iload 4) 2 rfl)) ?_
  refine mz_All.cons (sd_iast hx hb (mz_dg d_Dr_exchange 18 31 (.iastore) 1 rfl)) ?_
  refine mz_All.cons (sd_aload_n hx hb (mz_dg d_Dr_exchange 19 32 (.aload_n 0) 1 rfl) rfl) ?_
  refine mz_All.cons (sd_get (k := 1) hx hb hts (mz_inC in_Dr) hown (T := T_Dr) (N := 3) rfl (by decide) (hts (.fieldLink "MazeForms$DoorRow" 21 "MazeForms$DoorRow" "row" "[I") (List.mem_cons_of_mem _ wm_219)) (fun _ h => h) (mz_dg d_Dr_exchange 20 33 (.getfield 21) 3 rfl)) ?_
  refine mz_All.cons (sd_iload_n hx hb (mz_dg d_Dr_exchange 21 36 (.iload_n 2) 1 rfl) rfl) ?_
  refine mz_All.cons (sd_iload_n hx hb (mz_dg d_Dr_exchange 22 37 (.iload_n 3) 1 rfl) rfl) ?_
  refine mz_All.cons (sd_iast hx hb (mz_dg d_Dr_exchange 23 38 (.iastore) 1 rfl)) ?_
  refine mz_All.cons (sd_rv hx hb hr hlk (mz_dg d_Dr_exchange 24 39 (.return_) 1 rfl)) ?_
  exact trivial
theorem met_Dr_exchange (w h : Nat) (l : Launch) : mz_MV l y_Dr_exchange w_Dr_exchange 1 21 mz_cls (C_Dr_exchange w h) := mz_MV_of (I_Dr_exchange w h) (by decide) rfl (len_Dr_exchange w h) (ok_Dr_exchange w h) (snd_Dr_exchange w h l)
set_option maxRecDepth 20000 in
theorem snd_Dr_shuffle (w h : Nat) (l : Launch) (p : Program) (e : Env) (s : State) (m : MethodId) (args : Array Value) (below : List Frame) (meth : Method) (c : Code) (D : va_G) (ad0 : Nat → Nat) (cA0 : Nat → ClassId) (A : Nat → Prop) (lay : List mz_E) (Q : mz_X → Prop) (F : mz_F p s m args meth c prog_3_method_7_code 2 y_Dr_shuffle.cls none w_Dr_shuffle) (hA : ∀ q, s.heap.size ≤ q → A q) : mz_All (mz_V p l e (mz_rm 2 45) s m args below meth c 2 lay.length (mz_sz lay) D mz_cls (mz_G0 ad0 cA0) A (MQ below (va_Qv Q (mz_B D mz_cls ad0 cA0 lay A) A) args s 0 0 A)) (mz_qv lay Q) (I_Dr_shuffle w h) := by
  obtain ⟨hx, hb, hml, hown, hts, hr, hlk⟩ := F
  unfold I_Dr_shuffle
  refine mz_All.cons (sd_aload_n hx hb (mz_dg d_Dr_shuffle 0 0 (.aload_n 0) 1 rfl) rfl) ?_
  refine mz_All.cons (sd_get (k := 2) hx hb hts (mz_inC in_Dr) hown (T := T_Dr) (N := 3) rfl (by decide) (hts (.fieldLink "MazeForms$DoorRow" 25 "MazeForms$DoorRow" "count" "I") (List.mem_cons_of_mem _ wm_220)) (fun _ h => h) (mz_dg d_Dr_shuffle 1 1 (.getfield 25) 3 rfl)) ?_
  refine mz_All.cons (sd_iconst hx hb (mz_dg d_Dr_shuffle 2 4 (.iconst (1)) 1 rfl) (by decide)) ?_
  refine mz_All.cons (sd_isub hx hb (mz_dg d_Dr_shuffle 3 5 (.isub) 1 rfl)) ?_
  refine mz_All.cons (sd_istore_n hx hb (mz_dg d_Dr_shuffle 4 6 (.istore_n 1) 1 rfl) rfl (by decide)) ?_
  refine mz_All.cons (sd_iload_n hx hb (mz_dg d_Dr_shuffle 5 7 (.iload_n 1) 1 rfl) rfl) ?_
  refine mz_All.cons (sd_iconst hx hb (mz_dg d_Dr_shuffle 6 8 (.iconst (1)) 1 rfl) (by decide)) ?_
  refine mz_All.cons (sd_icmp_lt hx hb (mz_dg d_Dr_shuffle 7 9 (.if_icmp .lt (24)) 3 rfl) (by decide)) ?_
  refine mz_All.cons (sd_aload_n hx hb (mz_dg d_Dr_shuffle 8 12 (.aload_n 0) 1 rfl) rfl) ?_
  refine mz_All.cons (sd_iload_n hx hb (mz_dg d_Dr_shuffle 9 13 (.iload_n 1) 1 rfl) rfl) ?_
  refine mz_All.cons (sd_aload_n hx hb (mz_dg d_Dr_shuffle 10 14 (.aload_n 0) 1 rfl) rfl) ?_
  refine mz_All.cons (sd_get (k := 0) hx hb hts (mz_inC in_Dr) hown (T := T_Dr) (N := 3) rfl (by decide) (hts (.fieldLink "MazeForms$DoorRow" 9 "MazeForms$DoorRow" "chance" "LMazeForms$Chance;") (List.mem_cons_of_mem _ wm_218)) (fun _ h => h) (mz_dg d_Dr_shuffle 11 15 (.getfield 9) 3 rfl)) ?_
  refine mz_All.cons (sd_iload_n hx hb (mz_dg d_Dr_shuffle 12 18 (.iload_n 1) 1 rfl) rfl) ?_
  refine mz_All.cons (sd_iconst hx hb (mz_dg d_Dr_shuffle 13 19 (.iconst (1)) 1 rfl) (by decide)) ?_
  refine mz_All.cons (sd_iadd hx hb (mz_dg d_Dr_shuffle 14 20 (.iadd) 1 rfl)) ?_
  refine mz_All.cons (sd_calli (T := T_Ch) ⟨hx, hb, hml, hown, hts⟩ (met_Ch_below w h l) (cwV 1 hts (mz_gV wm_395 wm_396 wm_397 wm_73 wm_398) rfl rfl rfl (by decide) ⟨by decide, by decide⟩) rfl hA rfl (mz_dg d_Dr_shuffle 15 21 (.invokevirtual 29) 3 rfl)) ?_
  refine mz_All.cons (sd_callv (T := T_Dr) ⟨hx, hb, hml, hown, hts⟩ (met_Dr_exchange w h l) (cwV 2 hts (mz_gV wm_433 wm_435 wm_11 wm_74 wm_436) rfl rfl rfl (by decide) ⟨by decide, by decide⟩) rfl hA rfl (mz_dg d_Dr_shuffle 16 24 (.invokevirtual 38) 3 rfl)) ?_
  refine mz_All.cons (sd_iinc hx hb (mz_dg d_Dr_shuffle 17 27 (.iinc 1 (-1)) 3 rfl) (by decide) (by decide)) ?_
  refine mz_All.cons (sd_goto hx hb (mz_dg d_Dr_shuffle 18 30 (.goto (-23)) 3 rfl) (by decide)) ?_
  refine mz_All.cons (sd_rv hx hb hr hlk (mz_dg d_Dr_shuffle 19 33 (.return_) 1 rfl)) ?_
  exact trivial
theorem met_Dr_shuffle (w h : Nat) (l : Launch) : mz_MV l y_Dr_shuffle w_Dr_shuffle 2 45 mz_cls (C_Dr_shuffle w h) := mz_MV_of (I_Dr_shuffle w h) (by decide) rfl (len_Dr_shuffle w h) (ok_Dr_shuffle w h) (snd_Dr_shuffle w h l)
end
section
/-- Joined (place 7), its parents (place 8): one halving step, and the search for the root -/
def zj_stp (X : mz_X) (x : Int32) : mz_X := (mz_up X.1 8 x.toNatClampNeg (X.1 8 (X.1 8 x.toNatClampNeg).toNatClampNeg), X.2)
def zj_rtX (k : Nat) (X : mz_X) (x : Int32) : mz_X := match k with
  | 0 => X
  | j + 1 => match decide (X.1 8 x.toNatClampNeg = x) with
    | true => X
    | false => zj_rtX j (zj_stp X x) ((zj_stp X x).1 8 x.toNatClampNeg)
def zj_rtV (k : Nat) (X : mz_X) (x : Int32) : Int32 := match k with
  | 0 => x
  | j + 1 => match decide (X.1 8 x.toNatClampNeg = x) with
    | true => x
    | false => zj_rtV j (zj_stp X x) ((zj_stp X x).1 8 x.toNatClampNeg)
def zj_roX (w h : Nat) (X : mz_X) (c : Int32) : mz_X := match mz_lt c (w * h) with
  | true => zj_rtX (w * h) X c
  | false => X
def zj_roV (w h : Nat) (X : mz_X) (c : Int32) : Int32 := match mz_lt c (w * h) with
  | true => zj_rtV (w * h) X c
  | false => -1
def zj_ok (w h : Nat) (X : mz_X) : Prop := ∀ i, i < w * h → vp_in (X.1 8 i) (w * h)
def zj_jX1 (w h : Nat) (X : mz_X) (d : Int32) : mz_X := zj_roX w h X (zg_les w h X d)
def zj_jX2 (w h : Nat) (X : mz_X) (d : Int32) : mz_X := zj_roX w h (zj_jX1 w h X d) (zg_gre w h (zj_jX1 w h X d) d)
def zj_ja (w h : Nat) (X : mz_X) (d : Int32) : Int32 := zj_roV w h X (zg_les w h X d)
def zj_jb (w h : Nat) (X : mz_X) (d : Int32) : Int32 := zj_roV w h (zj_jX1 w h X d) (zg_gre w h (zj_jX1 w h X d) d)
def zj_joB (w h : Nat) (X : mz_X) (d : Int32) : Bool := !decide (zj_ja w h X d = -1) && !decide (zj_jb w h X d = -1) && !decide (zj_ja w h X d = zj_jb w h X d)
def zj_joX (w h : Nat) (X : mz_X) (d : Int32) : mz_X := match zj_joB w h X d with
  | true => (mz_up (zj_jX2 w h X d).1 8 (zj_ja w h X d).toNatClampNeg (zj_jb w h X d), (zj_jX2 w h X d).2)
  | false => zj_jX2 w h X d
def zj_idn (X : mz_X) (k : Nat) : mz_X := (fun p i => if p = 8 ∧ i < k then nI i else X.1 p i, X.2)
/-- the joins by the open doors below k -/
def zj_aSt (w h : Nat) (s : mz_X × Nat) (j : Nat) : mz_X × Nat := match zg_open w h s.1 (nI j) with
  | true => (zj_joX w h s.1 (nI j), s.2 + (match zj_joB w h s.1 (nI j) with
      | true => 1
      | false => 0))
  | false => s
def zj_all (w h : Nat) (X : mz_X) (k : Nat) : mz_X × Nat := match k with
  | 0 => (zj_idn X (w * h), 0)
  | j + 1 => zj_aSt w h (zj_all w h X j) j
def C_Jo_reset (w h : Nat) : mz_CV := fun lay as X Q => match as with
  | [.ref 7] => lay = mz_lay w h ∧ mz_geo w h ∧ Q (zj_idn X (w * h))
  | _ => False
def C_Jo_root (w h : Nat) : mz_CI := fun lay as X Q => match as with
  | [.ref 7, .int c] => lay = mz_lay w h ∧ mz_geo w h ∧ zj_ok w h X ∧ Q (zj_roV w h X c) (zj_roX w h X c)
  | _ => False
def C_Jo_joinBy (w h : Nat) : mz_CI := fun lay as X Q => match as with
  | [.ref 7, .int d] => lay = mz_lay w h ∧ mz_geo w h ∧ zj_ok w h X ∧ Q (mz_b (zj_joB w h X d)) (zj_joX w h X d)
  | _ => False
def C_Jo_joinOpenDoors (w h : Nat) : mz_CI := fun lay as X Q => match as with
  | [.ref 7] => lay = mz_lay w h ∧ mz_geo w h ∧ ∃ D : Nat, D ≤ mz_dn w h ∧ X.1 1 7 = nI D ∧ Q (nI (zj_all w h X D).2) (zj_all w h X D).1
  | _ => False
def y_Jo_reset : MethodName := ⟨"MazeForms$Joined", "reset", "()V"⟩
abbrev w_Jo_reset : List Cond := .code y_Jo_reset prog_6_method_2_code 2 none :: mz_tb
def dl_Jo_reset : List (Nat × ClassFile.Instr × Nat) := [(0, .iconst (0), 1), (1, .istore_n 1, 1), (2, .iload_n 1, 1), (3, .aload_n 0, 1), (4, .getfield 21, 3), (7, .arraylength, 1), (8, .if_icmp .ge (16), 3), (11, .aload_n 0, 1), (12, .getfield 21, 3), (15, .iload_n 1, 1), (16, .iload_n 1, 1), (17, .iastore, 1), (18, .iinc 1 (1), 3), (21, .goto (-19), 3), (24, .return_, 1)]
theorem d_Jo_reset : mz_dec prog_6_method_2_code dl_Jo_reset = true := by decide +kernel
def y_Jo_root : MethodName := ⟨"MazeForms$Joined", "root", "(I)I"⟩
abbrev w_Jo_root : List Cond := .code y_Jo_root prog_6_method_5_code 4 (some .int) :: mz_tb
def dl_Jo_root : List (Nat × ClassFile.Instr × Nat) := [(0, .aload_n 0, 1), (1, .getfield 9, 3), (4, .iload_n 1, 1), (5, .invokevirtual 48, 3), (8, .ifCond .ne (5), 3), (11, .iconst (-1), 1), (12, .ireturn, 1), (13, .iload_n 1, 1), (14, .istore_n 2, 1), (15, .iconst (0), 1), (16, .istore_n 3, 1), (17, .iload_n 3, 1), (18, .aload_n 0, 1), (19, .getfield 21, 3), (22, .arraylength, 1), (23, .if_icmp .ge (43), 3), (26, .aload_n 0, 1), (27, .getfield 21, 3), (30, .iload_n 2, 1), (31, .iaload, 1), (32, .iload_n 2, 1), (33, .if_icmp .eq (33), 3), (36, .aload_n 0, 1), (37, .getfield 21, 3), (40, .iload_n 2, 1), (41, .aload_n 0, 1), (42, .getfield 21, 3), (45, .aload_n 0, 1), (46, .getfield 21, 3), (49, .iload_n 2, 1), (50, .iaload, 1), (51, .iaload, 1), (52, .iastore, 1), (53, .aload_n 0, 1), (54, .getfield 21, 3), (57, .iload_n 2, 1), (58, .iaload, 1), (59, .istore_n 2, 1), (60, .iinc 3 (1), 3), (63, .goto (-46), 3), (66, .iload_n 2, 1), (67, .ireturn, 1)]
theorem d_Jo_root : mz_dec prog_6_method_5_code dl_Jo_root = true := by decide +kernel
def y_Jo_joinBy : MethodName := ⟨"MazeForms$Joined", "joinBy", "(I)Z"⟩
abbrev w_Jo_joinBy : List Cond := .code y_Jo_joinBy prog_6_method_3_code 4 (some .boolean) :: mz_tb
def dl_Jo_joinBy : List (Nat × ClassFile.Instr × Nat) := [(0, .aload_n 0, 1), (1, .aload_n 0, 1), (2, .getfield 9, 3), (5, .iload_n 1, 1), (6, .invokevirtual 25, 3), (9, .invokevirtual 29, 3), (12, .istore_n 2, 1), (13, .aload_n 0, 1), (14, .aload_n 0, 1), (15, .getfield 9, 3), (18, .iload_n 1, 1), (19, .invokevirtual 32, 3), (22, .invokevirtual 29, 3), (25, .istore_n 3, 1), (26, .iload_n 2, 1), (27, .iconst (-1), 1), (28, .if_icmp .eq (13), 3), (31, .iload_n 3, 1), (32, .iconst (-1), 1), (33, .if_icmp .eq (8), 3), (36, .iload_n 2, 1), (37, .iload_n 3, 1), (38, .if_icmp .ne (5), 3), (41, .iconst (0), 1), (42, .ireturn, 1), (43, .aload_n 0, 1), (44, .getfield 21, 3), (47, .iload_n 2, 1), (48, .iload_n 3, 1), (49, .iastore, 1), (50, .iconst (1), 1), (51, .ireturn, 1)]
theorem d_Jo_joinBy : mz_dec prog_6_method_3_code dl_Jo_joinBy = true := by decide +kernel
def y_Jo_joinOpenDoors : MethodName := ⟨"MazeForms$Joined", "joinOpenDoors", "()I"⟩
abbrev w_Jo_joinOpenDoors : List Cond := .code y_Jo_joinOpenDoors prog_6_method_4_code 3 (some .int) :: mz_tb
def dl_Jo_joinOpenDoors : List (Nat × ClassFile.Instr × Nat) := [(0, .aload_n 0, 1), (1, .invokevirtual 35, 3), (4, .iconst (0), 1), (5, .istore_n 1, 1), (6, .iconst (0), 1), (7, .istore_n 2, 1), (8, .iload_n 2, 1), (9, .aload_n 0, 1), (10, .getfield 9, 3), (13, .invokevirtual 38, 3), (16, .if_icmp .ge (31), 3), (19, .aload_n 0, 1), (20, .getfield 9, 3), (23, .iload_n 2, 1), (24, .invokevirtual 41, 3), (27, .ifCond .eq (14), 3), (30, .aload_n 0, 1), (31, .iload_n 2, 1), (32, .invokevirtual 45, 3), (35, .ifCond .eq (6), 3), (38, .iinc 1 (1), 3), (41, .iinc 2 (1), 3), (44, .goto (-36), 3), (47, .iload_n 1, 1), (48, .ireturn, 1)]
theorem d_Jo_joinOpenDoors : mz_dec prog_6_method_4_code dl_Jo_joinOpenDoors = true := by decide +kernel
def I_Jo_reset (w h : Nat) : List (Nat × mz_Op) := [(0, mz_push (.int (0)) 1), (1, mz_sti 1 2), (2, mz_ldi 1 3), (3, mz_lda 0 4), (4, mz_gf 4 1 7), (7, mz_al 8), (8, mz_ic (fun x y => y ≤ x) 24 11), (11, mz_lda 0 12), (12, mz_gf 4 1 15), (15, mz_ldi 1 16), (16, mz_ldi 1 17), (17, mz_iast 0 18), (18, mz_inc 1 (1) 21), (21, mz_go 2), (24, mz_rv)]
def I_Jo_root (w h : Nat) : List (Nat × mz_Op) := [(0, mz_lda 0 1), (1, mz_gf 4 0 4), (4, mz_ldi 1 5), (5, mz_ci 2 3 (C_Gr_isCell w h) 8), (8, mz_if (fun x => x = 0) 11 13), (11, mz_push (.int (-1)) 12), (12, mz_ri), (13, mz_ldi 1 14), (14, mz_sti 2 15), (15, mz_push (.int (0)) 16), (16, mz_sti 3 17), (17, mz_ldi 3 18), (18, mz_lda 0 19), (19, mz_gf 4 1 22), (22, mz_al 23), (23, mz_ic (fun x y => y ≤ x) 66 26), (26, mz_lda 0 27), (27, mz_gf 4 1 30), (30, mz_ldi 2 31), (31, mz_iald 0 32), (32, mz_ldi 2 33), (33, mz_ic (fun x y => x = y) 66 36), (36, mz_lda 0 37), (37, mz_gf 4 1 40), (40, mz_ldi 2 41), (41, mz_lda 0 42), (42, mz_gf 4 1 45), (45, mz_lda 0 46), (46, mz_gf 4 1 49), (49, mz_ldi 2 50), (50, mz_iald 0 51), (51, mz_iald 0 52), (52, mz_iast 0 53), (53, mz_lda 0 54), (54, mz_gf 4 1 57), (57, mz_ldi 2 58), (58, mz_iald 0 59), (59, mz_sti 2 60), (60, mz_inc 3 (1) 63), (63, mz_go 17), (66, mz_ldi 2 67), (67, mz_ri)]
def I_Jo_joinBy (w h : Nat) : List (Nat × mz_Op) := [(0, mz_lda 0 1), (1, mz_lda 0 2), (2, mz_gf 4 0 5), (5, mz_ldi 1 6), (6, mz_ci 2 3 (C_Gr_lesserCell w h) 9), (9, mz_ci 2 4 (C_Jo_root w h) 12), (12, mz_sti 2 13), (13, mz_lda 0 14), (14, mz_lda 0 15), (15, mz_gf 4 0 18), (18, mz_ldi 1 19), (19, mz_ci 2 3 (C_Gr_greaterCell w h) 22), (22, mz_ci 2 4 (C_Jo_root w h) 25), (25, mz_sti 3 26), (26, mz_ldi 2 27), (27, mz_push (.int (-1)) 28), (28, mz_ic (fun x y => x = y) 41 31), (31, mz_ldi 3 32), (32, mz_push (.int (-1)) 33), (33, mz_ic (fun x y => x = y) 41 36), (36, mz_ldi 2 37), (37, mz_ldi 3 38), (38, mz_ic (fun x y => x = y) 41 43), (41, mz_push (.int (0)) 42), (42, mz_rz), (43, mz_lda 0 44), (44, mz_gf 4 1 47), (47, mz_ldi 2 48), (48, mz_ldi 3 49), (49, mz_iast 0 50), (50, mz_push (.int (1)) 51), (51, mz_rz)]
def I_Jo_joinOpenDoors (w h : Nat) : List (Nat × mz_Op) := [(0, mz_lda 0 1), (1, mz_cvo 1 4 (C_Jo_reset w h) 4), (4, mz_push (.int (0)) 5), (5, mz_sti 1 6), (6, mz_push (.int (0)) 7), (7, mz_sti 2 8), (8, mz_ldi 2 9), (9, mz_lda 0 10), (10, mz_gf 4 0 13), (13, mz_ci 1 3 (C_Gr_doorCount w h) 16), (16, mz_ic (fun x y => y ≤ x) 47 19), (19, mz_lda 0 20), (20, mz_gf 4 0 23), (23, mz_ldi 2 24), (24, mz_ci 2 3 (C_Gr_isOpen w h) 27), (27, mz_if (fun x => x = 0) 41 30), (30, mz_lda 0 31), (31, mz_ldi 2 32), (32, mz_ci 2 4 (C_Jo_joinBy w h) 35), (35, mz_if (fun x => x = 0) 41 38), (38, mz_inc 1 (1) 41), (41, mz_inc 2 (1) 44), (44, mz_go 8), (47, mz_ldi 1 48), (48, mz_ri)]
theorem mz_in_cl {x : Int32} {n : Nat} (h : vp_in x n) : x.toNatClampNeg < n := Nat.not_le.mp fun q => h (Or.inr q)
theorem zj_stp_ok {w h : Nat} {X : mz_X} {x : Int32} (hX : zj_ok w h X) (hx : vp_in x (w * h)) : zj_ok w h (zj_stp X x) := by
  intro i hi
  have h2 := hX _ (mz_in_cl (hX _ (mz_in_cl hx)))
  simp only [zj_stp, mz_up]
  by_cases hc : i = x.toNatClampNeg
  · simp only [if_pos hc, if_true]
    exact h2
  · simp only [if_neg hc, if_true]
    exact hX i hi
theorem zj_rt_ok {w h : Nat} : ∀ (k : Nat) (X : mz_X) (x : Int32), zj_ok w h X → vp_in x (w * h) → zj_ok w h (zj_rtX k X x) ∧ vp_in (zj_rtV k X x) (w * h)
  | 0, X, x, hX, hx => ⟨hX, hx⟩
  | k + 1, X, x, hX, hx => by
    simp only [zj_rtX, zj_rtV]
    split
    · exact ⟨hX, hx⟩
    · have h1 := zj_stp_ok hX hx
      exact zj_rt_ok k _ _ h1 (h1 _ (mz_in_cl hx))
theorem zj_ro_ok {w h : Nat} {X : mz_X} (g : mz_geo w h) (c : Int32) (hX : zj_ok w h X) : zj_ok w h (zj_roX w h X c) ∧ (¬ zj_roV w h X c = -1 → vp_in (zj_roV w h X c) (w * h)) := by
  have hn := mz_geo_n g
  unfold zj_roX zj_roV
  cases hc : mz_lt c (w * h) with
  | true =>
    have := zj_rt_ok (w * h) X c hX (mz_lt_in hc (by omega))
    exact ⟨this.1, fun _ => this.2⟩
  | false => exact ⟨hX, fun q => absurd rfl q⟩
theorem zj_jX1_ok {w h : Nat} {X : mz_X} (g : mz_geo w h) (d : Int32) (hX : zj_ok w h X) : zj_ok w h (zj_jX1 w h X d) := (zj_ro_ok g _ hX).1
theorem zj_jX2_ok {w h : Nat} {X : mz_X} (g : mz_geo w h) (d : Int32) (hX : zj_ok w h X) : zj_ok w h (zj_jX2 w h X d) := (zj_ro_ok g _ (zj_jX1_ok g d hX)).1
theorem zj_joX_t {w h : Nat} {X : mz_X} {d : Int32} (e : zj_joB w h X d = true) : zj_joX w h X d = (mz_up (zj_jX2 w h X d).1 8 (zj_ja w h X d).toNatClampNeg (zj_jb w h X d), (zj_jX2 w h X d).2) := by
  unfold zj_joX
  rw [e]
theorem zj_joX_f {w h : Nat} {X : mz_X} {d : Int32} (e : zj_joB w h X d = false) : zj_joX w h X d = zj_jX2 w h X d := by
  unfold zj_joX
  rw [e]
theorem zj_aSt_f {w h j : Nat} {s : mz_X × Nat} (e : zg_open w h s.1 (nI j) = false) : zj_aSt w h s j = s := by
  unfold zj_aSt
  rw [e]
theorem zj_aSt_tt {w h j : Nat} {s : mz_X × Nat} (e : zg_open w h s.1 (nI j) = true) (e2 : zj_joB w h s.1 (nI j) = true) : zj_aSt w h s j = (zj_joX w h s.1 (nI j), s.2 + 1) := by
  unfold zj_aSt
  rw [e, e2]
theorem zj_aSt_tf {w h j : Nat} {s : mz_X × Nat} (e : zg_open w h s.1 (nI j) = true) (e2 : zj_joB w h s.1 (nI j) = false) : zj_aSt w h s j = (zj_joX w h s.1 (nI j), s.2) := by
  unfold zj_aSt
  rw [e, e2]
  rfl
theorem zj_joX_ok {w h : Nat} {X : mz_X} (g : mz_geo w h) (d : Int32) (hX : zj_ok w h X) : zj_ok w h (zj_joX w h X d) := by
  have h2 := zj_jX2_ok g d hX
  cases hb : zj_joB w h X d with
  | true =>
    rw [zj_joX_t hb]
    simp only [zj_joB, Bool.and_eq_true, Bool.not_eq_true', decide_eq_false_iff_not] at hb
    intro i hi
    have h3 := (zj_ro_ok (X := zj_jX1 w h X d) g (zg_gre w h (zj_jX1 w h X d) d) (zj_jX1_ok g d hX)).2 hb.1.2
    simp only [mz_up]
    by_cases hc : i = (zj_ja w h X d).toNatClampNeg
    · simp only [if_pos hc, if_true]
      exact h3
    · simp only [if_neg hc, if_true]
      exact h2 i hi
  | false =>
    rw [zj_joX_f hb]
    exact h2
theorem zj_idn_ok {w h : Nat} (g : mz_geo w h) (X : mz_X) : zj_ok w h (zj_idn X (w * h)) := by
  have hn := mz_geo_n g
  intro i hi
  simp only [zj_idn, hi, and_self, if_true]
  exact vp_in_nI hi (by omega)
theorem zj_idn_s (X : mz_X) (k : Nat) : (mz_up (zj_idn X k).1 8 k (nI k), (zj_idn X k).2) = zj_idn X (k + 1) := by
  refine Prod.ext ?_ rfl
  funext a b
  simp only [mz_up, zj_idn]
  by_cases ha : a = 8
  · subst ha
    by_cases hb : b = k
    · subst hb
      simp
    · have : b < k ↔ b < k + 1 := by omega
      simp [hb, this]
  · simp [ha]
theorem zj_rt_keep {p i : Nat} (hp : p ≠ 8) : ∀ (k : Nat) (X : mz_X) (x : Int32), (zj_rtX k X x).1 p i = X.1 p i
  | 0, X, x => rfl
  | k + 1, X, x => by
    simp only [zj_rtX]
    split
    · rfl
    · rw [zj_rt_keep hp k]
      simp [zj_stp, mz_up, hp]
theorem zj_ro_keep {w h p i : Nat} (hp : p ≠ 8) (X : mz_X) (c : Int32) : (zj_roX w h X c).1 p i = X.1 p i := by
  unfold zj_roX
  split
  · exact zj_rt_keep hp _ _ _
  · rfl
theorem zj_jo_keep {w h p i : Nat} (hp : p ≠ 8) (X : mz_X) (d : Int32) : (zj_joX w h X d).1 p i = X.1 p i := by
  have h2 : (zj_jX2 w h X d).1 p i = X.1 p i := by
    unfold zj_jX2 zj_jX1
    rw [zj_ro_keep hp, zj_ro_keep hp]
  cases hb : zj_joB w h X d with
  | true =>
    rw [zj_joX_t hb]
    simp only [mz_up, if_neg hp]
    exact h2
  | false =>
    rw [zj_joX_f hb]
    exact h2
theorem zj_aSt_keep {w h p i j : Nat} (hp : p ≠ 8) (s : mz_X × Nat) : (zj_aSt w h s j).1.1 p i = s.1.1 p i := by
  cases e : zg_open w h s.1 (nI j) with
  | false => rw [zj_aSt_f e]
  | true =>
    cases e2 : zj_joB w h s.1 (nI j) with
    | true =>
      rw [zj_aSt_tt e e2]
      exact zj_jo_keep hp _ _
    | false =>
      rw [zj_aSt_tf e e2]
      exact zj_jo_keep hp _ _
theorem zj_aSt_ok {w h j : Nat} (g : mz_geo w h) {s : mz_X × Nat} (hs : zj_ok w h s.1) : zj_ok w h (zj_aSt w h s j).1 := by
  cases e : zg_open w h s.1 (nI j) with
  | false =>
    rw [zj_aSt_f e]
    exact hs
  | true =>
    cases e2 : zj_joB w h s.1 (nI j) with
    | true =>
      rw [zj_aSt_tt e e2]
      exact zj_joX_ok g _ hs
    | false =>
      rw [zj_aSt_tf e e2]
      exact zj_joX_ok g _ hs
theorem zj_all_keep {w h p i : Nat} (hp : p ≠ 8) (X : mz_X) : ∀ k, (zj_all w h X k).1.1 p i = X.1 p i
  | 0 => by
    show (zj_idn X (w * h)).1 p i = X.1 p i
    simp only [zj_idn]
    rw [if_neg (fun q => hp q.1)]
  | k + 1 => by
    show (zj_aSt w h (zj_all w h X k) k).1.1 p i = X.1 p i
    rw [zj_aSt_keep hp]
    exact zj_all_keep hp X k
theorem zj_all_ok {w h : Nat} (g : mz_geo w h) (X : mz_X) : ∀ k, zj_ok w h (zj_all w h X k).1
  | 0 => zj_idn_ok g X
  | k + 1 => zj_aSt_ok (j := k) g (zj_all_ok g X k)
theorem len_Jo_reset (w h : Nat) (lay : List mz_E) (as : List Value) (X : mz_X) (Q : mz_X → Prop) (hC : C_Jo_reset w h lay as X Q) : (mz_l0 as).length ≤ 2 := by
  unfold C_Jo_reset at hC
  split at hC
  · exact Nat.le_of_ble_eq_true rfl
  · exact hC.elim
theorem ok_Jo_reset (w h : Nat) (lay : List mz_E) (as : List Value) (X : mz_X) (Q : mz_X → Prop) (hC : C_Jo_reset w h lay as X Q) (K : mz_K) (hK : mz_Cl (I_Jo_reset w h) (mz_qv lay Q) K) : K 0 (mz_ent 2 as) [] (lay, X) := by
  unfold C_Jo_reset at hC
  split at hC
  ·
    obtain ⟨rfl, g, hq⟩ := hC
    have hn := mz_geo_n g
    have loop : ∀ (k i : Nat), i + k = w * h → K 2 [some (.ref 7), some (.int (nI i))] [] (mz_lay w h, zj_idn X i) := by
      intro k
      induction k with
      | zero =>
        intro i hi
        iterate 4 refine hK _ _ _ _ ?_
        refine hK _ _ _ _ (And.intro (fun c1 => ?_) (fun c1 => ?_))
        · exact hK _ _ _ _ (And.intro rfl (by rw [show i = w * h by omega]; exact hq))
        · exact absurd (nI_le (a := w * h) (b := i) (by omega) (by omega)) c1
      | succ k ih =>
        intro i hi
        iterate 4 refine hK _ _ _ _ ?_
        refine hK _ _ _ _ (And.intro (fun c1 => ?_) (fun c1 => ?_))
        · exact absurd c1 (nI_ge (by omega) (by omega))
        · iterate 4 refine hK _ _ _ _ ?_
          refine hK _ _ _ _ (And.intro (vp_in_nI (by omega) (by omega)) ?_)
          iterate 2 refine hK _ _ _ _ ?_
          have := ih (i + 1) (by omega)
          rw [← zj_idn_s, ← nI_1] at this
          rw [nI_clamp (by omega)]
          exact this
    iterate 2 refine hK _ _ _ _ ?_
    have := loop (w * h) 0 (by omega)
    rw [show zj_idn X 0 = X by simp [zj_idn]] at this
    exact this
  · exact hC.elim
theorem len_Jo_root (w h : Nat) (lay : List mz_E) (as : List Value) (X : mz_X) (Q : Int32 → mz_X → Prop) (hC : C_Jo_root w h lay as X Q) : (mz_l0 as).length ≤ 4 := by
  unfold C_Jo_root at hC
  split at hC
  · exact Nat.le_of_ble_eq_true rfl
  · exact hC.elim
theorem ok_Jo_root (w h : Nat) (lay : List mz_E) (as : List Value) (X : mz_X) (Q : Int32 → mz_X → Prop) (hC : C_Jo_root w h lay as X Q) (K : mz_K) (hK : mz_Cl (I_Jo_root w h) (mz_qi lay Q) K) : K 0 (mz_ent 4 as) [] (lay, X) := by
  unfold C_Jo_root at hC
  split at hC
  · next c =>
    obtain ⟨rfl, g, hX, hq⟩ := hC
    have hn := mz_geo_n g
    iterate 3 refine hK _ _ _ _ ?_
    refine hK _ _ _ _ (And.intro (rfl) (And.intro (g) ?_))
    refine hK _ _ _ _ (And.intro (fun c1 => ?_) (fun c1 => ?_))
    · rw [show zj_roV w h X c = -1 by simp [zj_roV, mz_b0 c1], show zj_roX w h X c = X by simp [zj_roX, mz_b0 c1]] at hq
      refine hK _ _ _ _ ?_
      exact hK _ _ _ _ (And.intro rfl (hq))
    · rw [show zj_roV w h X c = zj_rtV (w * h) X c by simp [zj_roV, mz_b1 c1], show zj_roX w h X c = zj_rtX (w * h) X c by simp [zj_roX, mz_b1 c1]] at hq
      have loop : ∀ (k i : Nat) (Y : mz_X) (x : Int32), i + k = w * h → zj_ok w h Y → vp_in x (w * h) → Q (zj_rtV k Y x) (zj_rtX k Y x) → K 17 [some (.ref 7), some (.int c), some (.int x), some (.int (nI i))] [] (mz_lay w h, Y) := by
        intro k
        induction k with
        | zero =>
          intro i Y x hi hY hx hQ
          iterate 4 refine hK _ _ _ _ ?_
          refine hK _ _ _ _ (And.intro (fun c2 => ?_) (fun c2 => ?_))
          · refine hK _ _ _ _ ?_
            exact hK _ _ _ _ (And.intro rfl (hQ))
          · exact absurd (nI_le (a := w * h) (b := i) (by omega) (by omega)) c2
        | succ k ih =>
          intro i Y x hi hY hx hQ
          have hpx := hY _ (mz_in_cl hx)
          have hY1 := zj_stp_ok hY hx
          iterate 4 refine hK _ _ _ _ ?_
          refine hK _ _ _ _ (And.intro (fun c2 => ?_) (fun c2 => ?_))
          · exact absurd c2 (nI_ge (by omega) (by omega))
          · iterate 3 refine hK _ _ _ _ ?_
            refine hK _ _ _ _ (And.intro (hx) ?_)
            refine hK _ _ _ _ ?_
            refine hK _ _ _ _ (And.intro (fun c3 => ?_) (fun c3 => ?_))
            · dsimp only at c3
              simp only [zj_rtV, zj_rtX, c3, decide_true] at hQ
              refine hK _ _ _ _ ?_
              exact hK _ _ _ _ (And.intro rfl (hQ))
            · dsimp only at c3
              simp only [zj_rtV, zj_rtX, c3, decide_false] at hQ
              iterate 8 refine hK _ _ _ _ ?_
              refine hK _ _ _ _ (And.intro (hx) ?_)
              refine hK _ _ _ _ (And.intro (hpx) ?_)
              refine hK _ _ _ _ (And.intro (hx) ?_)
              rw [mz_nari]
              iterate 3 refine hK _ _ _ _ ?_
              refine hK _ _ _ _ (And.intro (hx) ?_)
              iterate 3 refine hK _ _ _ _ ?_
              have := ih (i + 1) (zj_stp Y x) ((zj_stp Y x).1 8 x.toNatClampNeg) (by omega) hY1 (hY1 _ (mz_in_cl hx)) hQ
              rw [← nI_1] at this
              exact this
      iterate 4 refine hK _ _ _ _ ?_
      exact loop (w * h) 0 X c (by omega) hX (mz_lt_in (mz_b1 c1) (by omega)) hq
  · exact hC.elim
theorem len_Jo_joinBy (w h : Nat) (lay : List mz_E) (as : List Value) (X : mz_X) (Q : Int32 → mz_X → Prop) (hC : C_Jo_joinBy w h lay as X Q) : (mz_l0 as).length ≤ 4 := by
  unfold C_Jo_joinBy at hC
  split at hC
  · exact Nat.le_of_ble_eq_true rfl
  · exact hC.elim
theorem ok_Jo_joinBy (w h : Nat) (lay : List mz_E) (as : List Value) (X : mz_X) (Q : Int32 → mz_X → Prop) (hC : C_Jo_joinBy w h lay as X Q) (K : mz_K) (hK : mz_Cl (I_Jo_joinBy w h) (mz_qi lay Q) K) : K 0 (mz_ent 4 as) [] (lay, X) := by
  unfold C_Jo_joinBy at hC
  split at hC
  · next d =>
    obtain ⟨rfl, g, hX, hq⟩ := hC
    have hn := mz_geo_n g
    have h1 := zj_jX1_ok g d hX
    have hF : zj_joB w h X d = false → K 41 [some (.ref 7), some (.int d), some (.int (zj_ja w h X d)), some (.int (zj_jb w h X d))] [] (mz_lay w h, zj_jX2 w h X d) := by
      intro e
      rw [zj_joX_f e, e] at hq
      refine hK _ _ _ _ ?_
      exact hK _ _ _ _ (And.intro (Or.inl rfl) (And.intro rfl (hq)))
    iterate 4 refine hK _ _ _ _ ?_
    refine hK _ _ _ _ (And.intro (rfl) (And.intro (g) ?_))
    refine hK _ _ _ _ (And.intro (rfl) (And.intro (g) (And.intro (hX) ?_)))
    iterate 5 refine hK _ _ _ _ ?_
    refine hK _ _ _ _ (And.intro (rfl) (And.intro (g) ?_))
    refine hK _ _ _ _ (And.intro (rfl) (And.intro (g) (And.intro (h1) ?_)))
    iterate 3 refine hK _ _ _ _ ?_
    refine hK _ _ _ _ (And.intro (fun c1 => ?_) (fun c1 => ?_))
    · exact hF (by simp only [zj_joB]; rw [show zj_ja w h X d = -1 from c1]; rfl)
    · iterate 2 refine hK _ _ _ _ ?_
      refine hK _ _ _ _ (And.intro (fun c2 => ?_) (fun c2 => ?_))
      · exact hF (by simp only [zj_joB]; rw [show zj_jb w h X d = -1 from c2]; simp)
      · iterate 2 refine hK _ _ _ _ ?_
        refine hK _ _ _ _ (And.intro (fun c3 => ?_) (fun c3 => ?_))
        · exact hF (by simp only [zj_joB]; rw [show zj_ja w h X d = zj_jb w h X d from c3]; simp)
        · have hb : zj_joB w h X d = true := by
            simp only [zj_joB, Bool.and_eq_true, Bool.not_eq_true', decide_eq_false_iff_not]
            exact ⟨⟨c1, c2⟩, c3⟩
          rw [zj_joX_t hb, hb] at hq
          iterate 4 refine hK _ _ _ _ ?_
          refine hK _ _ _ _ (And.intro ((zj_ro_ok g (zg_les w h X d) hX).2 c1) ?_)
          refine hK _ _ _ _ ?_
          exact hK _ _ _ _ (And.intro (Or.inr rfl) (And.intro rfl (hq)))
  · exact hC.elim
theorem len_Jo_joinOpenDoors (w h : Nat) (lay : List mz_E) (as : List Value) (X : mz_X) (Q : Int32 → mz_X → Prop) (hC : C_Jo_joinOpenDoors w h lay as X Q) : (mz_l0 as).length ≤ 3 := by
  unfold C_Jo_joinOpenDoors at hC
  split at hC
  · exact Nat.le_of_ble_eq_true rfl
  · exact hC.elim
theorem ok_Jo_joinOpenDoors (w h : Nat) (lay : List mz_E) (as : List Value) (X : mz_X) (Q : Int32 → mz_X → Prop) (hC : C_Jo_joinOpenDoors w h lay as X Q) (K : mz_K) (hK : mz_Cl (I_Jo_joinOpenDoors w h) (mz_qi lay Q) K) : K 0 (mz_ent 3 as) [] (lay, X) := by
  unfold C_Jo_joinOpenDoors at hC
  split at hC
  ·
    obtain ⟨rfl, g, D, hD, hX, hq⟩ := hC
    have hd := mz_geo_d g
    have loop : ∀ (k i : Nat), i + k = D → K 8 [some (.ref 7), some (.int (nI (zj_all w h X i).2)), some (.int (nI i))] [] (mz_lay w h, (zj_all w h X i).1) := by
      intro k
      induction k with
      | zero =>
        intro i hi
        have h7 : (zj_all w h X i).1.1 1 7 = nI D := by rw [zj_all_keep (by decide), hX]
        iterate 3 refine hK _ _ _ _ ?_
        refine hK _ _ _ _ (And.intro (rfl) (And.intro (g) ?_))
        refine hK _ _ _ _ (And.intro (fun c1 => ?_) (fun c1 => ?_))
        · refine hK _ _ _ _ ?_
          exact hK _ _ _ _ (And.intro rfl (by rw [show i = D by omega]; exact hq))
        · dsimp only at c1
          rw [h7] at c1
          exact absurd (nI_le (a := D) (b := i) (by omega) (by omega)) c1
      | succ k ih =>
        intro i hi
        have h7 : (zj_all w h X i).1.1 1 7 = nI D := by rw [zj_all_keep (by decide), hX]
        have ih1 := ih (i + 1) (by omega)
        iterate 3 refine hK _ _ _ _ ?_
        refine hK _ _ _ _ (And.intro (rfl) (And.intro (g) ?_))
        refine hK _ _ _ _ (And.intro (fun c1 => ?_) (fun c1 => ?_))
        · dsimp only at c1
          rw [h7] at c1
          exact absurd c1 (nI_ge (by omega) (by omega))
        · iterate 3 refine hK _ _ _ _ ?_
          refine hK _ _ _ _ (And.intro (rfl) (And.intro (g) ?_))
          refine hK _ _ _ _ (And.intro (fun c2 => ?_) (fun c2 => ?_))
          · have c2 := mz_b0 c2
            rw [show zj_all w h X (i + 1) = zj_aSt w h (zj_all w h X i) i from rfl, zj_aSt_f c2] at ih1
            iterate 2 refine hK _ _ _ _ ?_
            rw [← nI_1] at ih1
            exact ih1
          · have c2 := mz_b1 c2
            iterate 2 refine hK _ _ _ _ ?_
            refine hK _ _ _ _ (And.intro (rfl) (And.intro (g) (And.intro (zj_all_ok g X i) ?_)))
            refine hK _ _ _ _ (And.intro (fun c3 => ?_) (fun c3 => ?_))
            · have c3 := mz_b0 c3
              rw [show zj_all w h X (i + 1) = zj_aSt w h (zj_all w h X i) i from rfl, zj_aSt_tf c2 c3] at ih1
              iterate 2 refine hK _ _ _ _ ?_
              rw [← nI_1] at ih1
              exact ih1
            · have c3 := mz_b1 c3
              rw [show zj_all w h X (i + 1) = zj_aSt w h (zj_all w h X i) i from rfl, zj_aSt_tt c2 c3] at ih1
              iterate 3 refine hK _ _ _ _ ?_
              rw [← nI_1, ← nI_1] at ih1
              exact ih1
    refine hK _ _ _ _ ?_
    refine hK _ _ _ _ (And.intro (rfl) (And.intro (g) ?_))
    iterate 4 refine hK _ _ _ _ ?_
    exact loop D 0 (by omega)
  · exact hC.elim
set_option maxRecDepth 20000 in
theorem snd_Jo_reset (w h : Nat) (l : Launch) (p : Program) (e : Env) (s : State) (m : MethodId) (args : Array Value) (below : List Frame) (meth : Method) (c : Code) (D : va_G) (ad0 : Nat → Nat) (cA0 : Nat → ClassId) (A : Nat → Prop) (lay : List mz_E) (Q : mz_X → Prop) (F : mz_F p s m args meth c prog_6_method_2_code 2 y_Jo_reset.cls none w_Jo_reset) (hA : ∀ q, s.heap.size ≤ q → A q) : mz_All (mz_V p l e (mz_rm 0 0) s m args below meth c 2 lay.length (mz_sz lay) D mz_cls (mz_G0 ad0 cA0) A (MQ below (va_Qv Q (mz_B D mz_cls ad0 cA0 lay A) A) args s 0 0 A)) (mz_qv lay Q) (I_Jo_reset w h) := by
  obtain ⟨hx, hb, hml, hown, hts, hr, hlk⟩ := F
  unfold I_Jo_reset
  refine mz_All.cons (sd_iconst hx hb (mz_dg d_Jo_reset 0 0 (.iconst (0)) 1 rfl) (by decide)) ?_
  refine mz_All.cons (sd_istore_n hx hb (mz_dg d_Jo_reset 1 1 (.istore_n 1) 1 rfl) rfl (by decide)) ?_
  refine mz_All.cons (sd_iload_n hx hb (mz_dg d_Jo_reset 2 2 (.iload_n 1) 1 rfl) rfl) ?_
  refine mz_All.cons (sd_aload_n hx hb (mz_dg d_Jo_reset 3 3 (.aload_n 0) 1 rfl) rfl) ?_
  refine mz_All.cons (sd_get (k := 1) hx hb hts (mz_inC in_Jo) hown (T := T_Jo) (N := 2) rfl (by decide) (hts (.fieldLink "MazeForms$Joined" 21 "MazeForms$Joined" "parent" "[I") (List.mem_cons_of_mem _ wm_165)) (fun _ h => h) (mz_dg d_Jo_reset 4 4 (.getfield 21) 3 rfl)) ?_
  refine mz_All.cons (sd_alen hx hb (mz_dg d_Jo_reset 5 7 (.arraylength) 1 rfl)) ?_
  refine mz_All.cons (sd_icmp_ge hx hb (mz_dg d_Jo_reset 6 8 (.if_icmp .ge (16)) 3 rfl) (by decide)) ?_
  refine mz_All.cons (sd_aload_n hx hb (mz_dg d_Jo_reset 7 11 (.aload_n 0) 1 rfl) rfl) ?_
  refine mz_All.cons (sd_get (k := 1) hx hb hts (mz_inC in_Jo) hown (T := T_Jo) (N := 2) rfl (by decide) (hts (.fieldLink "MazeForms$Joined" 21 "MazeForms$Joined" "parent" "[I") (List.mem_cons_of_mem _ wm_165)) (fun _ h => h) (mz_dg d_Jo_reset 8 12 (.getfield 21) 3 rfl)) ?_
  refine mz_All.cons (sd_iload_n hx hb (mz_dg d_Jo_reset 9 15 (.iload_n 1) 1 rfl) rfl) ?_
  refine mz_All.cons (sd_iload_n hx hb (mz_dg d_Jo_reset 10 16 (.iload_n 1) 1 rfl) rfl) ?_
  refine mz_All.cons (sd_iast hx hb (mz_dg d_Jo_reset 11 17 (.iastore) 1 rfl)) ?_
  refine mz_All.cons (sd_iinc hx hb (mz_dg d_Jo_reset 12 18 (.iinc 1 (1)) 3 rfl) (by decide) (by decide)) ?_
  refine mz_All.cons (sd_goto hx hb (mz_dg d_Jo_reset 13 21 (.goto (-19)) 3 rfl) (by decide)) ?_
  refine mz_All.cons (sd_rv hx hb hr hlk (mz_dg d_Jo_reset 14 24 (.return_) 1 rfl)) ?_
  exact trivial
theorem met_Jo_reset (w h : Nat) (l : Launch) : mz_MV l y_Jo_reset w_Jo_reset 0 0 mz_cls (C_Jo_reset w h) := mz_MV_of (I_Jo_reset w h) (by decide) rfl (len_Jo_reset w h) (ok_Jo_reset w h) (snd_Jo_reset w h l)
set_option maxRecDepth 20000 in
theorem snd_Jo_root (w h : Nat) (l : Launch) (p : Program) (e : Env) (s : State) (m : MethodId) (args : Array Value) (below : List Frame) (meth : Method) (c : Code) (D : va_G) (ad0 : Nat → Nat) (cA0 : Nat → ClassId) (A : Nat → Prop) (lay : List mz_E) (Q : Int32 → mz_X → Prop) (F : mz_F p s m args meth c prog_6_method_5_code 4 y_Jo_root.cls (some .int) w_Jo_root) (hA : ∀ q, s.heap.size ≤ q → A q) : mz_All (mz_V p l e (mz_rm 1 21) s m args below meth c 4 lay.length (mz_sz lay) D mz_cls (mz_G0 ad0 cA0) A (MQ below (va_Qi Q (mz_B D mz_cls ad0 cA0 lay A) A) args s 0 0 A)) (mz_qi lay Q) (I_Jo_root w h) := by
  obtain ⟨hx, hb, hml, hown, hts, hr, hlk⟩ := F
  unfold I_Jo_root
  refine mz_All.cons (sd_aload_n hx hb (mz_dg d_Jo_root 0 0 (.aload_n 0) 1 rfl) rfl) ?_
  refine mz_All.cons (sd_get (k := 0) hx hb hts (mz_inC in_Jo) hown (T := T_Jo) (N := 2) rfl (by decide) (hts (.fieldLink "MazeForms$Joined" 9 "MazeForms$Joined" "grid" "LMazeForms$Grid;") (List.mem_cons_of_mem _ wm_164)) (fun _ h => h) (mz_dg d_Jo_root 1 1 (.getfield 9) 3 rfl)) ?_
  refine mz_All.cons (sd_iload_n hx hb (mz_dg d_Jo_root 2 4 (.iload_n 1) 1 rfl) rfl) ?_
  refine mz_All.cons (sd_calli (T := T_Gr) ⟨hx, hb, hml, hown, hts⟩ (met_Gr_isCell w h l) (cwV 1 hts (mz_gV wm_458 wm_121 wm_122 wm_67 wm_123) rfl rfl rfl (by decide) ⟨by decide, by decide⟩) rfl hA rfl (mz_dg d_Jo_root 3 5 (.invokevirtual 48) 3 rfl)) ?_
  refine mz_All.cons (sd_if_ne hx hb (mz_dg d_Jo_root 4 8 (.ifCond .ne (5)) 3 rfl) (by decide)) ?_
  refine mz_All.cons (sd_iconst hx hb (mz_dg d_Jo_root 5 11 (.iconst (-1)) 1 rfl) (by decide)) ?_
  refine mz_All.cons (sd_ri hx hb hr hlk (mz_dg d_Jo_root 6 12 (.ireturn) 1 rfl)) ?_
  refine mz_All.cons (sd_iload_n hx hb (mz_dg d_Jo_root 7 13 (.iload_n 1) 1 rfl) rfl) ?_
  refine mz_All.cons (sd_istore_n hx hb (mz_dg d_Jo_root 8 14 (.istore_n 2) 1 rfl) rfl (by decide)) ?_
  refine mz_All.cons (sd_iconst hx hb (mz_dg d_Jo_root 9 15 (.iconst (0)) 1 rfl) (by decide)) ?_
  refine mz_All.cons (sd_istore_n hx hb (mz_dg d_Jo_root 10 16 (.istore_n 3) 1 rfl) rfl (by decide)) ?_
  refine mz_All.cons (sd_iload_n hx hb (mz_dg d_Jo_root 11 17 (.iload_n 3) 1 rfl) rfl) ?_
  refine mz_All.cons (sd_aload_n hx hb (mz_dg d_Jo_root 12 18 (.aload_n 0) 1 rfl) rfl) ?_
  refine mz_All.cons (sd_get (k := 1) hx hb hts (mz_inC in_Jo) hown (T := T_Jo) (N := 2) rfl (by decide) (hts (.fieldLink "MazeForms$Joined" 21 "MazeForms$Joined" "parent" "[I") (List.mem_cons_of_mem _ wm_165)) (fun _ h => h) (mz_dg d_Jo_root 13 19 (.getfield 21) 3 rfl)) ?_
  refine mz_All.cons (sd_alen hx hb (mz_dg d_Jo_root 14 22 (.arraylength) 1 rfl)) ?_
  refine mz_All.cons (sd_icmp_ge hx hb (mz_dg d_Jo_root 15 23 (.if_icmp .ge (43)) 3 rfl) (by decide)) ?_
  refine mz_All.cons (sd_aload_n hx hb (mz_dg d_Jo_root 16 26 (.aload_n 0) 1 rfl) rfl) ?_
  refine mz_All.cons (sd_get (k := 1) hx hb hts (mz_inC in_Jo) hown (T := T_Jo) (N := 2) rfl (by decide) (hts (.fieldLink "MazeForms$Joined" 21 "MazeForms$Joined" "parent" "[I") (List.mem_cons_of_mem _ wm_165)) (fun _ h => h) (mz_dg d_Jo_root 17 27 (.getfield 21) 3 rfl)) ?_
  refine mz_All.cons (sd_iload_n hx hb (mz_dg d_Jo_root 18 30 (.iload_n 2) 1 rfl) rfl) ?_
  refine mz_All.cons (sd_iald hx hb (mz_dg d_Jo_root 19 31 (.iaload) 1 rfl)) ?_
  refine mz_All.cons (sd_iload_n hx hb (mz_dg d_Jo_root 20 32 (.iload_n 2) 1 rfl) rfl) ?_
  refine mz_All.cons (sd_icmp_eq hx hb (mz_dg d_Jo_root 21 33 (.if_icmp .eq (33)) 3 rfl) (by decide)) ?_
  refine mz_All.cons (sd_aload_n hx hb (mz_dg d_Jo_root 22 36 (.aload_n 0) 1 rfl) rfl) ?_
  refine mz_All.cons (sd_get (k := 1) hx hb hts (mz_inC in_Jo) hown (T := T_Jo) (N := 2) rfl (by decide) (hts (.fieldLink "MazeForms$Joined" 21 "MazeForms$Joined" "parent" "[I") (List.mem_cons_of_mem _ wm_165)) (fun _ h => h) (mz_dg d_Jo_root 23 37 (.getfield 21) 3 rfl)) ?_
  refine mz_All.cons (sd_iload_n hx hb (mz_dg d_Jo_root 24 40 (.iload_n 2) 1 rfl) rfl) ?_
  refine mz_All.cons (sd_aload_n hx hb (mz_dg d_Jo_root 25 41 (.aload_n 0) 1 rfl) rfl) ?_
  refine mz_All.cons (sd_get (k := 1) hx hb hts (mz_inC in_Jo) hown (T := T_Jo) (N := 2) rfl (by decide) (hts (.fieldLink "MazeForms$Joined" 21 "MazeForms$Joined" "parent" "[I") (List.mem_cons_of_mem _ wm_165)) (fun _ h => h) (mz_dg d_Jo_root 26 42 (.getfield 21) 3 rfl)) ?_
  refine mz_All.cons (sd_aload_n hx hb (mz_dg d_Jo_root 27 45 (.aload_n 0) 1 rfl) rfl) ?_
  refine mz_All.cons (sd_get (k := 1) hx hb hts (mz_inC in_Jo) hown (T := T_Jo) (N := 2) rfl (by decide) (hts (.fieldLink "MazeForms$Joined" 21 "MazeForms$Joined" "parent" "[I") (List.mem_cons_of_mem _ wm_165)) (fun _ h => h) (mz_dg d_Jo_root 28 46 (.getfield 21) 3 rfl)) ?_
  refine mz_All.cons (sd_iload_n hx hb (mz_dg d_Jo_root 29 49 (.iload_n 2) 1 rfl) rfl) ?_
  refine mz_All.cons (sd_iald hx hb (mz_dg d_Jo_root 30 50 (.iaload) 1 rfl)) ?_
  refine mz_All.cons (sd_iald hx hb (mz_dg d_Jo_root 31 51 (.iaload) 1 rfl)) ?_
  refine mz_All.cons (sd_iast hx hb (mz_dg d_Jo_root 32 52 (.iastore) 1 rfl)) ?_
  refine mz_All.cons (sd_aload_n hx hb (mz_dg d_Jo_root 33 53 (.aload_n 0) 1 rfl) rfl) ?_
  refine mz_All.cons (sd_get (k := 1) hx hb hts (mz_inC in_Jo) hown (T := T_Jo) (N := 2) rfl (by decide) (hts (.fieldLink "MazeForms$Joined" 21 "MazeForms$Joined" "parent" "[I") (List.mem_cons_of_mem _ wm_165)) (fun _ h => h) (mz_dg d_Jo_root 34 54 (.getfield 21) 3 rfl)) ?_
  refine mz_All.cons (sd_iload_n hx hb (mz_dg d_Jo_root 35 57 (.iload_n 2) 1 rfl) rfl) ?_
  refine mz_All.cons (sd_iald hx hb (mz_dg d_Jo_root 36 58 (.iaload) 1 rfl)) ?_
  refine mz_All.cons (sd_istore_n hx hb (mz_dg d_Jo_root 37 59 (.istore_n 2) 1 rfl) rfl (by decide)) ?_
  refine mz_All.cons (sd_iinc hx hb (mz_dg d_Jo_root 38 60 (.iinc 3 (1)) 3 rfl) (by decide) (by decide)) ?_
  refine mz_All.cons (sd_goto hx hb (mz_dg d_Jo_root 39 63 (.goto (-46)) 3 rfl) (by decide)) ?_
  refine mz_All.cons (sd_iload_n hx hb (mz_dg d_Jo_root 40 66 (.iload_n 2) 1 rfl) rfl) ?_
  refine mz_All.cons (sd_ri hx hb hr hlk (mz_dg d_Jo_root 41 67 (.ireturn) 1 rfl)) ?_
  exact trivial
theorem met_Jo_root (w h : Nat) (l : Launch) : mz_MI l y_Jo_root w_Jo_root 1 21 mz_cls (C_Jo_root w h) := mz_MI_of (I_Jo_root w h) (by decide) rfl (len_Jo_root w h) (ok_Jo_root w h) (snd_Jo_root w h l)
set_option maxRecDepth 20000 in
theorem snd_Jo_joinBy (w h : Nat) (l : Launch) (p : Program) (e : Env) (s : State) (m : MethodId) (args : Array Value) (below : List Frame) (meth : Method) (c : Code) (D : va_G) (ad0 : Nat → Nat) (cA0 : Nat → ClassId) (A : Nat → Prop) (lay : List mz_E) (Q : Int32 → mz_X → Prop) (F : mz_F p s m args meth c prog_6_method_3_code 4 y_Jo_joinBy.cls (some .boolean) w_Jo_joinBy) (hA : ∀ q, s.heap.size ≤ q → A q) : mz_All (mz_V p l e (mz_rm 2 44) s m args below meth c 4 lay.length (mz_sz lay) D mz_cls (mz_G0 ad0 cA0) A (MQ below (va_Qi Q (mz_B D mz_cls ad0 cA0 lay A) A) args s 0 0 A)) (mz_qi lay Q) (I_Jo_joinBy w h) := by
  obtain ⟨hx, hb, hml, hown, hts, hr, hlk⟩ := F
  unfold I_Jo_joinBy
  refine mz_All.cons (sd_aload_n hx hb (mz_dg d_Jo_joinBy 0 0 (.aload_n 0) 1 rfl) rfl) ?_
  refine mz_All.cons (sd_aload_n hx hb (mz_dg d_Jo_joinBy 1 1 (.aload_n 0) 1 rfl) rfl) ?_
  refine mz_All.cons (sd_get (k := 0) hx hb hts (mz_inC in_Jo) hown (T := T_Jo) (N := 2) rfl (by decide) (hts (.fieldLink "MazeForms$Joined" 9 "MazeForms$Joined" "grid" "LMazeForms$Grid;") (List.mem_cons_of_mem _ wm_164)) (fun _ h => h) (mz_dg d_Jo_joinBy 2 2 (.getfield 9) 3 rfl)) ?_
  refine mz_All.cons (sd_iload_n hx hb (mz_dg d_Jo_joinBy 3 5 (.iload_n 1) 1 rfl) rfl) ?_
  refine mz_All.cons (sd_calli (T := T_Gr) ⟨hx, hb, hml, hown, hts⟩ (met_Gr_lesserCell w h l) (cwV 1 hts (mz_gV wm_450 wm_451 wm_452 wm_67 wm_453) rfl rfl rfl (by decide) ⟨by decide, by decide⟩) rfl hA rfl (mz_dg d_Jo_joinBy 4 6 (.invokevirtual 25) 3 rfl)) ?_
  refine mz_All.cons (sd_calli (T := T_Jo) ⟨hx, hb, hml, hown, hts⟩ (met_Jo_root w h l) (cwV 1 hts (mz_gV wm_454 wm_456 wm_12 wm_70 wm_457) rfl rfl rfl (by decide) ⟨by decide, by decide⟩) rfl hA rfl (mz_dg d_Jo_joinBy 5 9 (.invokevirtual 29) 3 rfl)) ?_
  refine mz_All.cons (sd_istore_n hx hb (mz_dg d_Jo_joinBy 6 12 (.istore_n 2) 1 rfl) rfl (by decide)) ?_
  refine mz_All.cons (sd_aload_n hx hb (mz_dg d_Jo_joinBy 7 13 (.aload_n 0) 1 rfl) rfl) ?_
  refine mz_All.cons (sd_aload_n hx hb (mz_dg d_Jo_joinBy 8 14 (.aload_n 0) 1 rfl) rfl) ?_
  refine mz_All.cons (sd_get (k := 0) hx hb hts (mz_inC in_Jo) hown (T := T_Jo) (N := 2) rfl (by decide) (hts (.fieldLink "MazeForms$Joined" 9 "MazeForms$Joined" "grid" "LMazeForms$Grid;") (List.mem_cons_of_mem _ wm_164)) (fun _ h => h) (mz_dg d_Jo_joinBy 9 15 (.getfield 9) 3 rfl)) ?_
  refine mz_All.cons (sd_iload_n hx hb (mz_dg d_Jo_joinBy 10 18 (.iload_n 1) 1 rfl) rfl) ?_
  refine mz_All.cons (sd_calli (T := T_Gr) ⟨hx, hb, hml, hown, hts⟩ (met_Gr_greaterCell w h l) (cwV 1 hts (mz_gV wm_459 wm_460 wm_461 wm_67 wm_462) rfl rfl rfl (by decide) ⟨by decide, by decide⟩) rfl hA rfl (mz_dg d_Jo_joinBy 11 19 (.invokevirtual 32) 3 rfl)) ?_
  refine mz_All.cons (sd_calli (T := T_Jo) ⟨hx, hb, hml, hown, hts⟩ (met_Jo_root w h l) (cwV 1 hts (mz_gV wm_454 wm_456 wm_12 wm_70 wm_457) rfl rfl rfl (by decide) ⟨by decide, by decide⟩) rfl hA rfl (mz_dg d_Jo_joinBy 12 22 (.invokevirtual 29) 3 rfl)) ?_
  refine mz_All.cons (sd_istore_n hx hb (mz_dg d_Jo_joinBy 13 25 (.istore_n 3) 1 rfl) rfl (by decide)) ?_
  refine mz_All.cons (sd_iload_n hx hb (mz_dg d_Jo_joinBy 14 26 (.iload_n 2) 1 rfl) rfl) ?_
  refine mz_All.cons (sd_iconst hx hb (mz_dg d_Jo_joinBy 15 27 (.iconst (-1)) 1 rfl) (by decide)) ?_
  refine mz_All.cons (sd_icmp_eq hx hb (mz_dg d_Jo_joinBy 16 28 (.if_icmp .eq (13)) 3 rfl) (by decide)) ?_
  refine mz_All.cons (sd_iload_n hx hb (mz_dg d_Jo_joinBy 17 31 (.iload_n 3) 1 rfl) rfl) ?_
  refine mz_All.cons (sd_iconst hx hb (mz_dg d_Jo_joinBy 18 32 (.iconst (-1)) 1 rfl) (by decide)) ?_
  refine mz_All.cons (sd_icmp_eq hx hb (mz_dg d_Jo_joinBy 19 33 (.if_icmp .eq (8)) 3 rfl) (by decide)) ?_
  refine mz_All.cons (sd_iload_n hx hb (mz_dg d_Jo_joinBy 20 36 (.iload_n 2) 1 rfl) rfl) ?_
  refine mz_All.cons (sd_iload_n hx hb (mz_dg d_Jo_joinBy 21 37 (.iload_n 3) 1 rfl) rfl) ?_
  refine mz_All.cons (sd_icmp_ne hx hb (mz_dg d_Jo_joinBy 22 38 (.if_icmp .ne (5)) 3 rfl) (by decide)) ?_
  refine mz_All.cons (sd_iconst hx hb (mz_dg d_Jo_joinBy 23 41 (.iconst (0)) 1 rfl) (by decide)) ?_
  refine mz_All.cons (sd_rz hx hb hr hlk (mz_dg d_Jo_joinBy 24 42 (.ireturn) 1 rfl)) ?_
  refine mz_All.cons (sd_aload_n hx hb (mz_dg d_Jo_joinBy 25 43 (.aload_n 0) 1 rfl) rfl) ?_
  refine mz_All.cons (sd_get (k := 1) hx hb hts (mz_inC in_Jo) hown (T := T_Jo) (N := 2) rfl (by decide) (hts (.fieldLink "MazeForms$Joined" 21 "MazeForms$Joined" "parent" "[I") (List.mem_cons_of_mem _ wm_165)) (fun _ h => h) (mz_dg d_Jo_joinBy 26 44 (.getfield 21) 3 rfl)) ?_
  refine mz_All.cons (sd_iload_n hx hb (mz_dg d_Jo_joinBy 27 47 (.iload_n 2) 1 rfl) rfl) ?_
  refine mz_All.cons (sd_iload_n hx hb (mz_dg d_Jo_joinBy 28 48 (.iload_n 3) 1 rfl) rfl) ?_
  refine mz_All.cons (sd_iast hx hb (mz_dg d_Jo_joinBy 29 49 (.iastore) 1 rfl)) ?_
  refine mz_All.cons (sd_iconst hx hb (mz_dg d_Jo_joinBy 30 50 (.iconst (1)) 1 rfl) (by decide)) ?_
  refine mz_All.cons (sd_rz hx hb hr hlk (mz_dg d_Jo_joinBy 31 51 (.ireturn) 1 rfl)) ?_
  exact trivial
theorem met_Jo_joinBy (w h : Nat) (l : Launch) : mz_MI l y_Jo_joinBy w_Jo_joinBy 2 44 mz_cls (C_Jo_joinBy w h) := mz_MI_of (I_Jo_joinBy w h) (by decide) rfl (len_Jo_joinBy w h) (ok_Jo_joinBy w h) (snd_Jo_joinBy w h l)
set_option maxRecDepth 20000 in
theorem snd_Jo_joinOpenDoors (w h : Nat) (l : Launch) (p : Program) (e : Env) (s : State) (m : MethodId) (args : Array Value) (below : List Frame) (meth : Method) (c : Code) (D : va_G) (ad0 : Nat → Nat) (cA0 : Nat → ClassId) (A : Nat → Prop) (lay : List mz_E) (Q : Int32 → mz_X → Prop) (F : mz_F p s m args meth c prog_6_method_4_code 3 y_Jo_joinOpenDoors.cls (some .int) w_Jo_joinOpenDoors) (hA : ∀ q, s.heap.size ≤ q → A q) : mz_All (mz_V p l e (mz_rm 3 67) s m args below meth c 3 lay.length (mz_sz lay) D mz_cls (mz_G0 ad0 cA0) A (MQ below (va_Qi Q (mz_B D mz_cls ad0 cA0 lay A) A) args s 0 0 A)) (mz_qi lay Q) (I_Jo_joinOpenDoors w h) := by
  obtain ⟨hx, hb, hml, hown, hts, hr, hlk⟩ := F
  unfold I_Jo_joinOpenDoors
  refine mz_All.cons (sd_aload_n hx hb (mz_dg d_Jo_joinOpenDoors 0 0 (.aload_n 0) 1 rfl) rfl) ?_
  refine mz_All.cons (sd_callv (T := T_Jo) ⟨hx, hb, hml, hown, hts⟩ (met_Jo_reset w h l) (cwV 0 hts (mz_gV wm_602 wm_438 wm_439 wm_70 wm_440) rfl rfl rfl (by decide) ⟨by decide, by decide⟩) rfl hA rfl (mz_dg d_Jo_joinOpenDoors 1 1 (.invokevirtual 35) 3 rfl)) ?_
  refine mz_All.cons (sd_iconst hx hb (mz_dg d_Jo_joinOpenDoors 2 4 (.iconst (0)) 1 rfl) (by decide)) ?_
  refine mz_All.cons (sd_istore_n hx hb (mz_dg d_Jo_joinOpenDoors 3 5 (.istore_n 1) 1 rfl) rfl (by decide)) ?_
  refine mz_All.cons (sd_iconst hx hb (mz_dg d_Jo_joinOpenDoors 4 6 (.iconst (0)) 1 rfl) (by decide)) ?_
  refine mz_All.cons (sd_istore_n hx hb (mz_dg d_Jo_joinOpenDoors 5 7 (.istore_n 2) 1 rfl) rfl (by decide)) ?_
  refine mz_All.cons (sd_iload_n hx hb (mz_dg d_Jo_joinOpenDoors 6 8 (.iload_n 2) 1 rfl) rfl) ?_
  refine mz_All.cons (sd_aload_n hx hb (mz_dg d_Jo_joinOpenDoors 7 9 (.aload_n 0) 1 rfl) rfl) ?_
  refine mz_All.cons (sd_get (k := 0) hx hb hts (mz_inC in_Jo) hown (T := T_Jo) (N := 2) rfl (by decide) (hts (.fieldLink "MazeForms$Joined" 9 "MazeForms$Joined" "grid" "LMazeForms$Grid;") (List.mem_cons_of_mem _ wm_164)) (fun _ h => h) (mz_dg d_Jo_joinOpenDoors 8 10 (.getfield 9) 3 rfl)) ?_
  refine mz_All.cons (sd_calli (T := T_Gr) ⟨hx, hb, hml, hown, hts⟩ (met_Gr_doorCount w h l) (cwV 0 hts (mz_gV wm_603 wm_426 wm_427 wm_67 wm_428) rfl rfl rfl (by decide) ⟨by decide, by decide⟩) rfl hA rfl (mz_dg d_Jo_joinOpenDoors 9 13 (.invokevirtual 38) 3 rfl)) ?_
  refine mz_All.cons (sd_icmp_ge hx hb (mz_dg d_Jo_joinOpenDoors 10 16 (.if_icmp .ge (31)) 3 rfl) (by decide)) ?_
  refine mz_All.cons (sd_aload_n hx hb (mz_dg d_Jo_joinOpenDoors 11 19 (.aload_n 0) 1 rfl) rfl) ?_
  refine mz_All.cons (sd_get (k := 0) hx hb hts (mz_inC in_Jo) hown (T := T_Jo) (N := 2) rfl (by decide) (hts (.fieldLink "MazeForms$Joined" 9 "MazeForms$Joined" "grid" "LMazeForms$Grid;") (List.mem_cons_of_mem _ wm_164)) (fun _ h => h) (mz_dg d_Jo_joinOpenDoors 12 20 (.getfield 9) 3 rfl)) ?_
  refine mz_All.cons (sd_iload_n hx hb (mz_dg d_Jo_joinOpenDoors 13 23 (.iload_n 2) 1 rfl) rfl) ?_
  refine mz_All.cons (sd_calli (T := T_Gr) ⟨hx, hb, hml, hown, hts⟩ (met_Gr_isOpen w h l) (cwV 1 hts (mz_gV wm_604 wm_497 wm_498 wm_67 wm_499) rfl rfl rfl (by decide) ⟨by decide, by decide⟩) rfl hA rfl (mz_dg d_Jo_joinOpenDoors 14 24 (.invokevirtual 41) 3 rfl)) ?_
  refine mz_All.cons (sd_if_eq hx hb (mz_dg d_Jo_joinOpenDoors 15 27 (.ifCond .eq (14)) 3 rfl) (by decide)) ?_
  refine mz_All.cons (sd_aload_n hx hb (mz_dg d_Jo_joinOpenDoors 16 30 (.aload_n 0) 1 rfl) rfl) ?_
  refine mz_All.cons (sd_iload_n hx hb (mz_dg d_Jo_joinOpenDoors 17 31 (.iload_n 2) 1 rfl) rfl) ?_
  refine mz_All.cons (sd_calli (T := T_Jo) ⟨hx, hb, hml, hown, hts⟩ (met_Jo_joinBy w h l) (cwV 1 hts (mz_gV wm_605 wm_447 wm_448 wm_70 wm_449) rfl rfl rfl (by decide) ⟨by decide, by decide⟩) rfl hA rfl (mz_dg d_Jo_joinOpenDoors 18 32 (.invokevirtual 45) 3 rfl)) ?_
  refine mz_All.cons (sd_if_eq hx hb (mz_dg d_Jo_joinOpenDoors 19 35 (.ifCond .eq (6)) 3 rfl) (by decide)) ?_
  refine mz_All.cons (sd_iinc hx hb (mz_dg d_Jo_joinOpenDoors 20 38 (.iinc 1 (1)) 3 rfl) (by decide) (by decide)) ?_
  refine mz_All.cons (sd_iinc hx hb (mz_dg d_Jo_joinOpenDoors 21 41 (.iinc 2 (1)) 3 rfl) (by decide) (by decide)) ?_
  refine mz_All.cons (sd_goto hx hb (mz_dg d_Jo_joinOpenDoors 22 44 (.goto (-36)) 3 rfl) (by decide)) ?_
  refine mz_All.cons (sd_iload_n hx hb (mz_dg d_Jo_joinOpenDoors 23 47 (.iload_n 1) 1 rfl) rfl) ?_
  refine mz_All.cons (sd_ri hx hb hr hlk (mz_dg d_Jo_joinOpenDoors 24 48 (.ireturn) 1 rfl)) ?_
  exact trivial
theorem met_Jo_joinOpenDoors (w h : Nat) (l : Launch) : mz_MI l y_Jo_joinOpenDoors w_Jo_joinOpenDoors 3 67 mz_cls (C_Jo_joinOpenDoors w h) := mz_MI_of (I_Jo_joinOpenDoors w h) (by decide) rfl (len_Jo_joinOpenDoors w h) (ok_Jo_joinOpenDoors w h) (snd_Jo_joinOpenDoors w h l)
end
section
/-- Flood (place 9, queued is its field 3), its steps (place 10) and queue (place 11) -/
def zf_ok (w h : Nat) (X : mz_X) : Prop := ∃ q : Nat, q ≤ w * h ∧ X.1 9 3 = nI q
def zf_reB (w h : Nat) (X : mz_X) (c : Int32) : Bool := mz_lt c (w * h) && decide (X.1 10 c.toNatClampNeg = -1) && !decide (nI (w * h) ≤ X.1 9 3)
def zf_reX (X : mz_X) (c d : Int32) : mz_X := (mz_up (mz_up (mz_up X.1 10 c.toNatClampNeg d) 11 (X.1 9 3).toNatClampNeg c) 9 3 (X.1 9 3 + 1), X.2)
def zf_re (w h : Nat) (X : mz_X) (c d : Int32) : mz_X := match zf_reB w h X c with
  | true => zf_reX X c d
  | false => X
def zf_to (w h : Nat) (X : mz_X) (c : Int32) : Int32 := match mz_lt c (w * h) with
  | true => X.1 10 c.toNatClampNeg
  | false => -1
/-- one side, and the first k sides -/
def zf_sdB (w h : Nat) (X : mz_X) (c t : Int32) (s : Nat) : Bool := !decide (t = 0) || zg_open w h X (zg_on w h X c (nI s))
def zf_sd (w h : Nat) (X : mz_X) (c t n : Int32) (s : Nat) : mz_X := match zf_sdB w h X c t s with
  | true => zf_re w h X (zg_oth w h X (zg_on w h X c (nI s)) c) n
  | false => X
def zf_sds (w h : Nat) (X : mz_X) (c t n : Int32) (k : Nat) : mz_X := match k with
  | 0 => X
  | s + 1 => zf_sd w h (zf_sds w h X c t n s) c t n s
def zf_on (w h : Nat) (X : mz_X) (c t : Int32) : mz_X := zf_sds w h X c t (zf_to w h X c + 1) 4
/-- the flood from head i on, at most k heads -/
def zf_go (w h : Nat) (X : mz_X) (t : Int32) (i k : Nat) : mz_X := match k with
  | 0 => X
  | j + 1 => match decide (nI i < X.1 9 3) with
    | true => zf_go w h (zf_on w h X (X.1 11 i) t) t (i + 1) j
    | false => X
def zf_0 (w h : Nat) (X : mz_X) : mz_X := (mz_up (mz_fil X.1 10 (w * h) (-1)) 9 3 0, X.2)
def zf_spr (w h : Nat) (X : mz_X) (c t : Int32) : mz_X := zf_go w h (zf_re w h (zf_0 w h X) c 0) t 0 (w * h)
def C_Fl_stepsTo (w h : Nat) : mz_CI := fun lay as X Q => match as with
  | [.ref 9, .int c] => lay = mz_lay w h ∧ mz_geo w h ∧ Q (zf_to w h X c) X
  | _ => False
def C_Fl_reach (w h : Nat) : mz_CV := fun lay as X Q => match as with
  | [.ref 9, .int c, .int d] => lay = mz_lay w h ∧ mz_geo w h ∧ zf_ok w h X ∧ Q (zf_re w h X c d)
  | _ => False
def C_Fl_spreadOn (w h : Nat) : mz_CV := fun lay as X Q => match as with
  | [.ref 9, .int c, .int t] => lay = mz_lay w h ∧ mz_geo w h ∧ zf_ok w h X ∧ Q (zf_on w h X c t)
  | _ => False
def C_Fl_spread (w h : Nat) : mz_CV := fun lay as X Q => match as with
  | [.ref 9, .int c, .int t] => lay = mz_lay w h ∧ mz_geo w h ∧ Q (zf_spr w h X c t)
  | _ => False
def y_Fl_stepsTo : MethodName := ⟨"MazeForms$Flood", "stepsTo", "(I)I"⟩
abbrev w_Fl_stepsTo : List Cond := .code y_Fl_stepsTo prog_4_method_3_code 2 (some .int) :: mz_tb
def dl_Fl_stepsTo : List (Nat × ClassFile.Instr × Nat) := [(0, .aload_n 0, 1), (1, .getfield 9, 3), (4, .iload_n 1, 1), (5, .invokevirtual 46, 3), (8, .ifCond .eq (12), 3), (11, .aload_n 0, 1), (12, .getfield 21, 3), (15, .iload_n 1, 1), (16, .iaload, 1), (17, .goto (4), 3), (20, .iconst (-1), 1), (21, .ireturn, 1)]
theorem d_Fl_stepsTo : mz_dec prog_4_method_3_code dl_Fl_stepsTo = true := by decide +kernel
def y_Fl_reach : MethodName := ⟨"MazeForms$Flood", "reach", "(II)V"⟩
abbrev w_Fl_reach : List Cond := .code y_Fl_reach prog_4_method_5_code 3 none :: mz_tb
def dl_Fl_reach : List (Nat × ClassFile.Instr × Nat) := [(0, .aload_n 0, 1), (1, .getfield 9, 3), (4, .iload_n 1, 1), (5, .invokevirtual 46, 3), (8, .ifCond .eq (52), 3), (11, .aload_n 0, 1), (12, .getfield 21, 3), (15, .iload_n 1, 1), (16, .iaload, 1), (17, .iconst (-1), 1), (18, .if_icmp .ne (42), 3), (21, .aload_n 0, 1), (22, .getfield 34, 3), (25, .aload_n 0, 1), (26, .getfield 25, 3), (29, .arraylength, 1), (30, .if_icmp .ge (30), 3), (33, .aload_n 0, 1), (34, .getfield 21, 3), (37, .iload_n 1, 1), (38, .iload_n 2, 1), (39, .iastore, 1), (40, .aload_n 0, 1), (41, .getfield 25, 3), (44, .aload_n 0, 1), (45, .getfield 34, 3), (48, .iload_n 1, 1), (49, .iastore, 1), (50, .aload_n 0, 1), (51, .dup, 1), (52, .getfield 34, 3), (55, .iconst (1), 1), (56, .iadd, 1), (57, .putfield 34, 3), (60, .return_, 1)]
theorem d_Fl_reach : mz_dec prog_4_method_5_code dl_Fl_reach = true := by decide +kernel
def y_Fl_spreadOn : MethodName := ⟨"MazeForms$Flood", "spreadOn", "(IZ)V"⟩
abbrev w_Fl_spreadOn : List Cond := .code y_Fl_spreadOn prog_4_method_4_code 6 none :: mz_tb
def dl_Fl_spreadOn : List (Nat × ClassFile.Instr × Nat) := [(0, .aload_n 0, 1), (1, .iload_n 1, 1), (2, .invokevirtual 50, 3), (5, .iconst (1), 1), (6, .iadd, 1), (7, .istore_n 3, 1), (8, .iconst (0), 1), (9, .istore 4, 2), (11, .iload 4, 2), (13, .iconst (4), 1), (14, .if_icmp .ge (52), 3), (17, .aload_n 0, 1), (18, .getfield 9, 3), (21, .iload_n 1, 1), (22, .iload 4, 2), (24, .invokevirtual 54, 3), (27, .istore 5, 2), (29, .iload_n 2, 1), (30, .ifCond .ne (15), 3), (33, .aload_n 0, 1), (34, .getfield 9, 3), (37, .iload 5, 2), (39, .invokevirtual 58, 3), (42, .ifCond .eq (18), 3), (45, .aload_n 0, 1), (46, .aload_n 0, 1), (47, .getfield 9, 3), (50, .iload 5, 2), (52, .iload_n 1, 1), (53, .invokevirtual 61, 3), (56, .iload_n 3, 1), (57, .invokevirtual 38, 3), (60, .iinc 4 (1), 3), (63, .goto (-52), 3), (66, .return_, 1)]
theorem d_Fl_spreadOn : mz_dec prog_4_method_4_code dl_Fl_spreadOn = true := by decide +kernel
def y_Fl_spread : MethodName := ⟨"MazeForms$Flood", "spread", "(IZ)V"⟩
abbrev w_Fl_spread : List Cond := .code y_Fl_spread prog_4_method_2_code 4 none :: mz_tb
def dl_Fl_spread : List (Nat × ClassFile.Instr × Nat) := [(0, .aload_n 0, 1), (1, .getfield 21, 3), (4, .iconst (-1), 1), (5, .invokestatic 28, 3), (8, .aload_n 0, 1), (9, .iconst (0), 1), (10, .putfield 34, 3), (13, .aload_n 0, 1), (14, .iload_n 1, 1), (15, .iconst (0), 1), (16, .invokevirtual 38, 3), (19, .iconst (0), 1), (20, .istore_n 3, 1), (21, .iload_n 3, 1), (22, .aload_n 0, 1), (23, .getfield 34, 3), (26, .if_icmp .ge (29), 3), (29, .iload_n 3, 1), (30, .aload_n 0, 1), (31, .getfield 25, 3), (34, .arraylength, 1), (35, .if_icmp .ge (20), 3), (38, .aload_n 0, 1), (39, .aload_n 0, 1), (40, .getfield 25, 3), (43, .iload_n 3, 1), (44, .iaload, 1), (45, .iload_n 2, 1), (46, .invokevirtual 42, 3), (49, .iinc 3 (1), 3), (52, .goto (-31), 3), (55, .return_, 1)]
theorem d_Fl_spread : mz_dec prog_4_method_2_code dl_Fl_spread = true := by decide +kernel
def I_Fl_stepsTo (w h : Nat) : List (Nat × mz_Op) := [(0, mz_lda 0 1), (1, mz_gf 2 0 4), (4, mz_ldi 1 5), (5, mz_ci 2 3 (C_Gr_isCell w h) 8), (8, mz_if (fun x => x = 0) 20 11), (11, mz_lda 0 12), (12, mz_gf 2 1 15), (15, mz_ldi 1 16), (16, mz_iald 0 17), (17, mz_go 21), (20, mz_push (.int (-1)) 21), (21, mz_ri)]
def I_Fl_reach (w h : Nat) : List (Nat × mz_Op) := [(0, mz_lda 0 1), (1, mz_gf 2 0 4), (4, mz_ldi 1 5), (5, mz_ci 2 3 (C_Gr_isCell w h) 8), (8, mz_if (fun x => x = 0) 60 11), (11, mz_lda 0 12), (12, mz_gf 2 1 15), (15, mz_ldi 1 16), (16, mz_iald 0 17), (17, mz_push (.int (-1)) 18), (18, mz_ic (fun x y => x = y) 21 60), (21, mz_lda 0 22), (22, mz_gf 2 3 25), (25, mz_lda 0 26), (26, mz_gf 2 2 29), (29, mz_al 30), (30, mz_ic (fun x y => y ≤ x) 60 33), (33, mz_lda 0 34), (34, mz_gf 2 1 37), (37, mz_ldi 1 38), (38, mz_ldi 2 39), (39, mz_iast 0 40), (40, mz_lda 0 41), (41, mz_gf 2 2 44), (44, mz_lda 0 45), (45, mz_gf 2 3 48), (48, mz_ldi 1 49), (49, mz_iast 0 50), (50, mz_lda 0 51), (51, mz_dup 52), (52, mz_gf 2 3 55), (55, mz_push (.int (1)) 56), (56, mz_bi (fun x y => x + y) 57), (57, mz_pfi 2 3 60), (60, mz_rv)]
def I_Fl_spreadOn (w h : Nat) : List (Nat × mz_Op) := [(0, mz_lda 0 1), (1, mz_ldi 1 2), (2, mz_ci 2 2 (C_Fl_stepsTo w h) 5), (5, mz_push (.int (1)) 6), (6, mz_bi (fun x y => x + y) 7), (7, mz_sti 3 8), (8, mz_push (.int (0)) 9), (9, mz_sti 4 11), (11, mz_ldi 4 13), (13, mz_push (.int (4)) 14), (14, mz_ic (fun x y => y ≤ x) 66 17), (17, mz_lda 0 18), (18, mz_gf 2 0 21), (21, mz_ldi 1 22), (22, mz_ldi 4 24), (24, mz_ci 3 3 (C_Gr_doorOn w h) 27), (27, mz_sti 5 29), (29, mz_ldi 2 30), (30, mz_if (fun x => x = 0) 33 45), (33, mz_lda 0 34), (34, mz_gf 2 0 37), (37, mz_ldi 5 39), (39, mz_ci 2 3 (C_Gr_isOpen w h) 42), (42, mz_if (fun x => x = 0) 60 45), (45, mz_lda 0 46), (46, mz_lda 0 47), (47, mz_gf 2 0 50), (50, mz_ldi 5 52), (52, mz_ldi 1 53), (53, mz_ci 3 3 (C_Gr_otherCell w h) 56), (56, mz_ldi 3 57), (57, mz_cvo 3 2 (C_Fl_reach w h) 60), (60, mz_inc 4 (1) 63), (63, mz_go 11), (66, mz_rv)]
def I_Fl_spread (w h : Nat) : List (Nat × mz_Op) := [(0, mz_lda 0 1), (1, mz_gf 2 1 4), (4, mz_push (.int (-1)) 5), (5, mz_svo 2 (C_Ja_fillI w h) 8), (8, mz_lda 0 9), (9, mz_push (.int (0)) 10), (10, mz_pfi 2 3 13), (13, mz_lda 0 14), (14, mz_ldi 1 15), (15, mz_push (.int (0)) 16), (16, mz_cvo 3 2 (C_Fl_reach w h) 19), (19, mz_push (.int (0)) 20), (20, mz_sti 3 21), (21, mz_ldi 3 22), (22, mz_lda 0 23), (23, mz_gf 2 3 26), (26, mz_ic (fun x y => y ≤ x) 55 29), (29, mz_ldi 3 30), (30, mz_lda 0 31), (31, mz_gf 2 2 34), (34, mz_al 35), (35, mz_ic (fun x y => y ≤ x) 55 38), (38, mz_lda 0 39), (39, mz_lda 0 40), (40, mz_gf 2 2 43), (43, mz_ldi 3 44), (44, mz_iald 0 45), (45, mz_ldi 2 46), (46, mz_cvo 3 2 (C_Fl_spreadOn w h) 49), (49, mz_inc 3 (1) 52), (52, mz_go 21), (55, mz_rv)]
theorem zf_re_t {w h : Nat} {X : mz_X} {c d : Int32} (e : zf_reB w h X c = true) : zf_re w h X c d = zf_reX X c d := by
  unfold zf_re
  rw [e]
theorem zf_re_f {w h : Nat} {X : mz_X} {c d : Int32} (e : zf_reB w h X c = false) : zf_re w h X c d = X := by
  unfold zf_re
  rw [e]
theorem zf_sd_t {w h s : Nat} {X : mz_X} {c t n : Int32} (e : zf_sdB w h X c t s = true) : zf_sd w h X c t n s = zf_re w h X (zg_oth w h X (zg_on w h X c (nI s)) c) n := by
  unfold zf_sd
  rw [e]
theorem zf_sd_f {w h s : Nat} {X : mz_X} {c t n : Int32} (e : zf_sdB w h X c t s = false) : zf_sd w h X c t n s = X := by
  unfold zf_sd
  rw [e]
theorem zf_re_ok {w h : Nat} {X : mz_X} (g : mz_geo w h) (c d : Int32) (hX : zf_ok w h X) : zf_ok w h (zf_re w h X c d) := by
  have hn := mz_geo_n g
  cases e : zf_reB w h X c with
  | false =>
    rw [zf_re_f e]
    exact hX
  | true =>
    rw [zf_re_t e]
    obtain ⟨q, hq1, hq2⟩ := hX
    simp only [zf_reB, Bool.and_eq_true, Bool.not_eq_true', decide_eq_false_iff_not, hq2] at e
    rw [nI_leI (by omega) (by omega)] at e
    exact ⟨q + 1, by omega, by simp [zf_reX, mz_up, hq2, nI_1]⟩
theorem zf_sd_ok {w h s : Nat} {X : mz_X} (g : mz_geo w h) (c t n : Int32) (hX : zf_ok w h X) : zf_ok w h (zf_sd w h X c t n s) := by
  cases e : zf_sdB w h X c t s with
  | false =>
    rw [zf_sd_f e]
    exact hX
  | true =>
    rw [zf_sd_t e]
    exact zf_re_ok g _ _ hX
theorem zf_sds_ok {w h : Nat} {X : mz_X} (g : mz_geo w h) (c t n : Int32) (hX : zf_ok w h X) : ∀ k, zf_ok w h (zf_sds w h X c t n k)
  | 0 => hX
  | k + 1 => zf_sd_ok g c t n (zf_sds_ok g c t n hX k)
theorem zf_on_ok {w h : Nat} {X : mz_X} (g : mz_geo w h) (c t : Int32) (hX : zf_ok w h X) : zf_ok w h (zf_on w h X c t) := zf_sds_ok g c t _ hX 4
theorem len_Fl_stepsTo (w h : Nat) (lay : List mz_E) (as : List Value) (X : mz_X) (Q : Int32 → mz_X → Prop) (hC : C_Fl_stepsTo w h lay as X Q) : (mz_l0 as).length ≤ 2 := by
  unfold C_Fl_stepsTo at hC
  split at hC
  · exact Nat.le_of_ble_eq_true rfl
  · exact hC.elim
theorem ok_Fl_stepsTo (w h : Nat) (lay : List mz_E) (as : List Value) (X : mz_X) (Q : Int32 → mz_X → Prop) (hC : C_Fl_stepsTo w h lay as X Q) (K : mz_K) (hK : mz_Cl (I_Fl_stepsTo w h) (mz_qi lay Q) K) : K 0 (mz_ent 2 as) [] (lay, X) := by
  unfold C_Fl_stepsTo at hC
  split at hC
  · next c =>
    obtain ⟨rfl, g, hq⟩ := hC
    have hn := mz_geo_n g
    iterate 3 refine hK _ _ _ _ ?_
    refine hK _ _ _ _ (And.intro (rfl) (And.intro (g) ?_))
    refine hK _ _ _ _ (And.intro (fun c1 => ?_) (fun c1 => ?_))
    · have e : zf_to w h X c = -1 := by
        unfold zf_to
        rw [mz_b0 c1]
      rw [e] at hq
      refine hK _ _ _ _ ?_
      exact hK _ _ _ _ (And.intro rfl (hq))
    · have e : zf_to w h X c = X.1 10 c.toNatClampNeg := by
        unfold zf_to
        rw [mz_b1 c1]
      rw [e] at hq
      iterate 3 refine hK _ _ _ _ ?_
      refine hK _ _ _ _ (And.intro (mz_lt_in (mz_b1 c1) (by omega)) ?_)
      refine hK _ _ _ _ ?_
      exact hK _ _ _ _ (And.intro rfl (hq))
  · exact hC.elim
theorem len_Fl_reach (w h : Nat) (lay : List mz_E) (as : List Value) (X : mz_X) (Q : mz_X → Prop) (hC : C_Fl_reach w h lay as X Q) : (mz_l0 as).length ≤ 3 := by
  unfold C_Fl_reach at hC
  split at hC
  · exact Nat.le_of_ble_eq_true rfl
  · exact hC.elim
theorem ok_Fl_reach (w h : Nat) (lay : List mz_E) (as : List Value) (X : mz_X) (Q : mz_X → Prop) (hC : C_Fl_reach w h lay as X Q) (K : mz_K) (hK : mz_Cl (I_Fl_reach w h) (mz_qv lay Q) K) : K 0 (mz_ent 3 as) [] (lay, X) := by
  unfold C_Fl_reach at hC
  split at hC
  · next c d =>
    obtain ⟨rfl, g, hX, hq⟩ := hC
    have hn := mz_geo_n g
    have h60 : zf_reB w h X c = false → K 60 (mz_ent 3 [.ref 9, .int c, .int d]) [] (mz_lay w h, X) := by
      intro e
      rw [zf_re_f e] at hq
      exact hK _ _ _ _ (And.intro rfl (hq))
    iterate 3 refine hK _ _ _ _ ?_
    refine hK _ _ _ _ (And.intro (rfl) (And.intro (g) ?_))
    refine hK _ _ _ _ (And.intro (fun c1 => ?_) (fun c1 => ?_))
    · exact h60 (by simp [zf_reB, mz_b0 c1])
    · have hcin := mz_lt_in (mz_b1 c1) (show w * h < 2 ^ 31 by omega)
      iterate 3 refine hK _ _ _ _ ?_
      refine hK _ _ _ _ (And.intro (hcin) ?_)
      refine hK _ _ _ _ ?_
      refine hK _ _ _ _ (And.intro (fun c2 => ?_) (fun c2 => ?_))
      · dsimp only at c2
        iterate 5 refine hK _ _ _ _ ?_
        refine hK _ _ _ _ (And.intro (fun c3 => ?_) (fun c3 => ?_))
        · dsimp only at c3
          exact h60 (by simp [zf_reB, c3])
        · dsimp only at c3
          have hb : zf_reB w h X c = true := by simp [zf_reB, mz_b1 c1, c2, c3]
          rw [zf_re_t hb] at hq
          obtain ⟨q, hq1, hq2⟩ := hX
          have hqi : vp_in (X.1 9 3) (w * h) := by
            rw [hq2] at c3 ⊢
            rw [nI_leI (by omega) (by omega)] at c3
            exact vp_in_nI (by omega) (by omega)
          iterate 4 refine hK _ _ _ _ ?_
          refine hK _ _ _ _ (And.intro (hcin) ?_)
          iterate 5 refine hK _ _ _ _ ?_
          refine hK _ _ _ _ (And.intro (hqi) ?_)
          iterate 6 refine hK _ _ _ _ ?_
          exact hK _ _ _ _ (And.intro rfl (hq))
      · dsimp only at c2
        exact h60 (by simp [zf_reB, c2])
  · exact hC.elim
theorem len_Fl_spreadOn (w h : Nat) (lay : List mz_E) (as : List Value) (X : mz_X) (Q : mz_X → Prop) (hC : C_Fl_spreadOn w h lay as X Q) : (mz_l0 as).length ≤ 6 := by
  unfold C_Fl_spreadOn at hC
  split at hC
  · exact Nat.le_of_ble_eq_true rfl
  · exact hC.elim
theorem ok_Fl_spreadOn (w h : Nat) (lay : List mz_E) (as : List Value) (X : mz_X) (Q : mz_X → Prop) (hC : C_Fl_spreadOn w h lay as X Q) (K : mz_K) (hK : mz_Cl (I_Fl_spreadOn w h) (mz_qv lay Q) K) : K 0 (mz_ent 6 as) [] (lay, X) := by
  unfold C_Fl_spreadOn at hC
  split at hC
  · next c t =>
    obtain ⟨rfl, g, hX, hq⟩ := hC
    have loop : ∀ (k i : Nat), i + k = 4 → ∀ L5 : Option Value, K 11 [some (.ref 9), some (.int c), some (.int t), some (.int (zf_to w h X c + 1)), some (.int (nI i)), L5] [] (mz_lay w h, zf_sds w h X c t (zf_to w h X c + 1) i) := by
      intro k
      induction k with
      | zero =>
        intro i hi L5
        iterate 2 refine hK _ _ _ _ ?_
        refine hK _ _ _ _ (And.intro (fun c1 => ?_) (fun c1 => ?_))
        · exact hK _ _ _ _ (And.intro rfl (by rw [show i = 4 by omega]; exact hq))
        · exact absurd (nI_le (a := 4) (b := i) (by omega) (by omega)) c1
      | succ k ih =>
        intro i hi L5
        have hY := zf_sds_ok g c t (zf_to w h X c + 1) hX i
        have ih1 := ih (i + 1) (by omega)
        rw [show zf_sds w h X c t (zf_to w h X c + 1) (i + 1) = zf_sd w h (zf_sds w h X c t (zf_to w h X c + 1) i) c t (zf_to w h X c + 1) i from rfl] at ih1
        generalize zf_sds w h X c t (zf_to w h X c + 1) i = Y at hY ih1 ⊢
        have ht : zf_sdB w h Y c t i = true → K 45 [some (.ref 9), some (.int c), some (.int t), some (.int (zf_to w h X c + 1)), some (.int (nI i)), some (.int (zg_on w h Y c (nI i)))] [] (mz_lay w h, Y) := by
          intro e
          rw [zf_sd_t e] at ih1
          iterate 5 refine hK _ _ _ _ ?_
          refine hK _ _ _ _ (And.intro (rfl) (And.intro (g) ?_))
          refine hK _ _ _ _ ?_
          refine hK _ _ _ _ (And.intro (rfl) (And.intro (g) (And.intro (hY) ?_)))
          iterate 2 refine hK _ _ _ _ ?_
          have := ih1 (some (.int (zg_on w h Y c (nI i))))
          rw [← nI_1] at this
          exact this
        iterate 2 refine hK _ _ _ _ ?_
        refine hK _ _ _ _ (And.intro (fun c1 => ?_) (fun c1 => ?_))
        · exact absurd c1 (nI_ge (a := i) (b := 4) (by omega) (by omega))
        · iterate 4 refine hK _ _ _ _ ?_
          refine hK _ _ _ _ (And.intro (rfl) (And.intro (g) ?_))
          iterate 2 refine hK _ _ _ _ ?_
          refine hK _ _ _ _ (And.intro (fun c2 => ?_) (fun c2 => ?_))
          · iterate 3 refine hK _ _ _ _ ?_
            refine hK _ _ _ _ (And.intro (rfl) (And.intro (g) ?_))
            refine hK _ _ _ _ (And.intro (fun c3 => ?_) (fun c3 => ?_))
            · have e : zf_sdB w h Y c t i = false := by
                simp only [zf_sdB]
                rw [show t = 0 from c2, show zg_open w h Y (zg_on w h Y c (nI i)) = false from mz_b0 c3]
                rfl
              rw [zf_sd_f e] at ih1
              iterate 2 refine hK _ _ _ _ ?_
              have := ih1 (some (.int (zg_on w h Y c (nI i))))
              rw [← nI_1] at this
              exact this
            · exact ht (by
                simp only [zf_sdB]
                rw [show zg_open w h Y (zg_on w h Y c (nI i)) = true from mz_b1 c3]
                simp)
          · exact ht (by
              simp only [zf_sdB]
              rw [show decide (t = 0) = false from decide_eq_false c2]
              rfl)
    iterate 2 refine hK _ _ _ _ ?_
    refine hK _ _ _ _ (And.intro (rfl) (And.intro (g) ?_))
    iterate 5 refine hK _ _ _ _ ?_
    exact loop 4 0 (by omega) none
  · exact hC.elim
theorem len_Fl_spread (w h : Nat) (lay : List mz_E) (as : List Value) (X : mz_X) (Q : mz_X → Prop) (hC : C_Fl_spread w h lay as X Q) : (mz_l0 as).length ≤ 4 := by
  unfold C_Fl_spread at hC
  split at hC
  · exact Nat.le_of_ble_eq_true rfl
  · exact hC.elim
theorem ok_Fl_spread (w h : Nat) (lay : List mz_E) (as : List Value) (X : mz_X) (Q : mz_X → Prop) (hC : C_Fl_spread w h lay as X Q) (K : mz_K) (hK : mz_Cl (I_Fl_spread w h) (mz_qv lay Q) K) : K 0 (mz_ent 4 as) [] (lay, X) := by
  unfold C_Fl_spread at hC
  split at hC
  · next c t =>
    obtain ⟨rfl, g, hq⟩ := hC
    have hn := mz_geo_n g
    have loop : ∀ (k i : Nat) (Y : mz_X), i + k = w * h → zf_ok w h Y → Q (zf_go w h Y t i k) → K 21 [some (.ref 9), some (.int c), some (.int t), some (.int (nI i))] [] (mz_lay w h, Y) := by
      intro k
      induction k with
      | zero =>
        intro i Y hi hY hQ
        iterate 3 refine hK _ _ _ _ ?_
        refine hK _ _ _ _ (And.intro (fun c1 => ?_) (fun c1 => ?_))
        · exact hK _ _ _ _ (And.intro rfl (hQ))
        · iterate 4 refine hK _ _ _ _ ?_
          refine hK _ _ _ _ (And.intro (fun c2 => ?_) (fun c2 => ?_))
          · exact hK _ _ _ _ (And.intro rfl (hQ))
          · exact absurd (nI_le (a := w * h) (b := i) (by omega) (by omega)) c2
      | succ k ih =>
        intro i Y hi hY hQ
        iterate 3 refine hK _ _ _ _ ?_
        refine hK _ _ _ _ (And.intro (fun c1 => ?_) (fun c1 => ?_))
        · dsimp only at c1
          have e : zf_go w h Y t i (k + 1) = Y := by
            show (match decide (nI i < Y.1 9 3) with | true => zf_go w h (zf_on w h Y (Y.1 11 i) t) t (i + 1) k | false => Y) = Y
            rw [show decide (nI i < Y.1 9 3) = false from decide_eq_false (Int32.not_lt.mpr c1)]
          rw [e] at hQ
          exact hK _ _ _ _ (And.intro rfl (hQ))
        · dsimp only at c1
          have e : zf_go w h Y t i (k + 1) = zf_go w h (zf_on w h Y (Y.1 11 i) t) t (i + 1) k := by
            show (match decide (nI i < Y.1 9 3) with | true => zf_go w h (zf_on w h Y (Y.1 11 i) t) t (i + 1) k | false => Y) = _
            rw [show decide (nI i < Y.1 9 3) = true from decide_eq_true (Int32.not_le.mp c1)]
          rw [e] at hQ
          iterate 4 refine hK _ _ _ _ ?_
          refine hK _ _ _ _ (And.intro (fun c2 => ?_) (fun c2 => ?_))
          · exact absurd c2 (nI_ge (by omega) (by omega))
          · iterate 4 refine hK _ _ _ _ ?_
            refine hK _ _ _ _ (And.intro (vp_in_nI (by omega) (by omega)) ?_)
            refine hK _ _ _ _ ?_
            refine hK _ _ _ _ (And.intro (rfl) (And.intro (g) (And.intro (hY) ?_)))
            iterate 2 refine hK _ _ _ _ ?_
            have := ih (i + 1) _ (by omega) (zf_on_ok g (Y.1 11 i) t hY) hQ
            rw [← nI_1] at this
            rw [nI_clamp (by omega)]
            exact this
    have hok0 : zf_ok w h (zf_0 w h X) := ⟨0, Nat.zero_le _, by simp [zf_0, mz_up, nI_0]⟩
    iterate 3 refine hK _ _ _ _ ?_
    refine hK _ _ _ _ (Exists.intro 6 (Exists.intro (w * h) (And.intro rfl (And.intro (by omega) ?_))))
    iterate 6 refine hK _ _ _ _ ?_
    refine hK _ _ _ _ (And.intro (rfl) (And.intro (g) (And.intro (hok0) ?_)))
    iterate 2 refine hK _ _ _ _ ?_
    exact loop (w * h) 0 _ (by omega) (zf_re_ok g c 0 hok0) hq
  · exact hC.elim
set_option maxRecDepth 20000 in
theorem snd_Fl_stepsTo (w h : Nat) (l : Launch) (p : Program) (e : Env) (s : State) (m : MethodId) (args : Array Value) (below : List Frame) (meth : Method) (c : Code) (D : va_G) (ad0 : Nat → Nat) (cA0 : Nat → ClassId) (A : Nat → Prop) (lay : List mz_E) (Q : Int32 → mz_X → Prop) (F : mz_F p s m args meth c prog_4_method_3_code 2 y_Fl_stepsTo.cls (some .int) w_Fl_stepsTo) (hA : ∀ q, s.heap.size ≤ q → A q) : mz_All (mz_V p l e (mz_rm 1 21) s m args below meth c 2 lay.length (mz_sz lay) D mz_cls (mz_G0 ad0 cA0) A (MQ below (va_Qi Q (mz_B D mz_cls ad0 cA0 lay A) A) args s 0 0 A)) (mz_qi lay Q) (I_Fl_stepsTo w h) := by
  obtain ⟨hx, hb, hml, hown, hts, hr, hlk⟩ := F
  unfold I_Fl_stepsTo
  refine mz_All.cons (sd_aload_n hx hb (mz_dg d_Fl_stepsTo 0 0 (.aload_n 0) 1 rfl) rfl) ?_
  refine mz_All.cons (sd_get (k := 0) hx hb hts (mz_inC in_Fl) hown (T := T_Fl) (N := 4) rfl (by decide) (hts (.fieldLink "MazeForms$Flood" 9 "MazeForms$Flood" "grid" "LMazeForms$Grid;") (List.mem_cons_of_mem _ wm_178)) (fun _ h => h) (mz_dg d_Fl_stepsTo 1 1 (.getfield 9) 3 rfl)) ?_
  refine mz_All.cons (sd_iload_n hx hb (mz_dg d_Fl_stepsTo 2 4 (.iload_n 1) 1 rfl) rfl) ?_
  refine mz_All.cons (sd_calli (T := T_Gr) ⟨hx, hb, hml, hown, hts⟩ (met_Gr_isCell w h l) (cwV 1 hts (mz_gV wm_486 wm_121 wm_122 wm_67 wm_123) rfl rfl rfl (by decide) ⟨by decide, by decide⟩) rfl hA rfl (mz_dg d_Fl_stepsTo 3 5 (.invokevirtual 46) 3 rfl)) ?_
  refine mz_All.cons (sd_if_eq hx hb (mz_dg d_Fl_stepsTo 4 8 (.ifCond .eq (12)) 3 rfl) (by decide)) ?_
  refine mz_All.cons (sd_aload_n hx hb (mz_dg d_Fl_stepsTo 5 11 (.aload_n 0) 1 rfl) rfl) ?_
  refine mz_All.cons (sd_get (k := 1) hx hb hts (mz_inC in_Fl) hown (T := T_Fl) (N := 4) rfl (by decide) (hts (.fieldLink "MazeForms$Flood" 21 "MazeForms$Flood" "steps" "[I") (List.mem_cons_of_mem _ wm_179)) (fun _ h => h) (mz_dg d_Fl_stepsTo 6 12 (.getfield 21) 3 rfl)) ?_
  refine mz_All.cons (sd_iload_n hx hb (mz_dg d_Fl_stepsTo 7 15 (.iload_n 1) 1 rfl) rfl) ?_
  refine mz_All.cons (sd_iald hx hb (mz_dg d_Fl_stepsTo 8 16 (.iaload) 1 rfl)) ?_
  refine mz_All.cons (sd_goto hx hb (mz_dg d_Fl_stepsTo 9 17 (.goto (4)) 3 rfl) (by decide)) ?_
  refine mz_All.cons (sd_iconst hx hb (mz_dg d_Fl_stepsTo 10 20 (.iconst (-1)) 1 rfl) (by decide)) ?_
  refine mz_All.cons (sd_ri hx hb hr hlk (mz_dg d_Fl_stepsTo 11 21 (.ireturn) 1 rfl)) ?_
  exact trivial
theorem met_Fl_stepsTo (w h : Nat) (l : Launch) : mz_MI l y_Fl_stepsTo w_Fl_stepsTo 1 21 mz_cls (C_Fl_stepsTo w h) := mz_MI_of (I_Fl_stepsTo w h) (by decide) rfl (len_Fl_stepsTo w h) (ok_Fl_stepsTo w h) (snd_Fl_stepsTo w h l)
set_option maxRecDepth 20000 in
theorem snd_Fl_reach (w h : Nat) (l : Launch) (p : Program) (e : Env) (s : State) (m : MethodId) (args : Array Value) (below : List Frame) (meth : Method) (c : Code) (D : va_G) (ad0 : Nat → Nat) (cA0 : Nat → ClassId) (A : Nat → Prop) (lay : List mz_E) (Q : mz_X → Prop) (F : mz_F p s m args meth c prog_4_method_5_code 3 y_Fl_reach.cls none w_Fl_reach) (hA : ∀ q, s.heap.size ≤ q → A q) : mz_All (mz_V p l e (mz_rm 1 21) s m args below meth c 3 lay.length (mz_sz lay) D mz_cls (mz_G0 ad0 cA0) A (MQ below (va_Qv Q (mz_B D mz_cls ad0 cA0 lay A) A) args s 0 0 A)) (mz_qv lay Q) (I_Fl_reach w h) := by
  obtain ⟨hx, hb, hml, hown, hts, hr, hlk⟩ := F
  unfold I_Fl_reach
  refine mz_All.cons (sd_aload_n hx hb (mz_dg d_Fl_reach 0 0 (.aload_n 0) 1 rfl) rfl) ?_
  refine mz_All.cons (sd_get (k := 0) hx hb hts (mz_inC in_Fl) hown (T := T_Fl) (N := 4) rfl (by decide) (hts (.fieldLink "MazeForms$Flood" 9 "MazeForms$Flood" "grid" "LMazeForms$Grid;") (List.mem_cons_of_mem _ wm_178)) (fun _ h => h) (mz_dg d_Fl_reach 1 1 (.getfield 9) 3 rfl)) ?_
  refine mz_All.cons (sd_iload_n hx hb (mz_dg d_Fl_reach 2 4 (.iload_n 1) 1 rfl) rfl) ?_
  refine mz_All.cons (sd_calli (T := T_Gr) ⟨hx, hb, hml, hown, hts⟩ (met_Gr_isCell w h l) (cwV 1 hts (mz_gV wm_486 wm_121 wm_122 wm_67 wm_123) rfl rfl rfl (by decide) ⟨by decide, by decide⟩) rfl hA rfl (mz_dg d_Fl_reach 3 5 (.invokevirtual 46) 3 rfl)) ?_
  refine mz_All.cons (sd_if_eq hx hb (mz_dg d_Fl_reach 4 8 (.ifCond .eq (52)) 3 rfl) (by decide)) ?_
  refine mz_All.cons (sd_aload_n hx hb (mz_dg d_Fl_reach 5 11 (.aload_n 0) 1 rfl) rfl) ?_
  refine mz_All.cons (sd_get (k := 1) hx hb hts (mz_inC in_Fl) hown (T := T_Fl) (N := 4) rfl (by decide) (hts (.fieldLink "MazeForms$Flood" 21 "MazeForms$Flood" "steps" "[I") (List.mem_cons_of_mem _ wm_179)) (fun _ h => h) (mz_dg d_Fl_reach 6 12 (.getfield 21) 3 rfl)) ?_
  refine mz_All.cons (sd_iload_n hx hb (mz_dg d_Fl_reach 7 15 (.iload_n 1) 1 rfl) rfl) ?_
  refine mz_All.cons (sd_iald hx hb (mz_dg d_Fl_reach 8 16 (.iaload) 1 rfl)) ?_
  refine mz_All.cons (sd_iconst hx hb (mz_dg d_Fl_reach 9 17 (.iconst (-1)) 1 rfl) (by decide)) ?_
  refine mz_All.cons (sd_icmp_ne hx hb (mz_dg d_Fl_reach 10 18 (.if_icmp .ne (42)) 3 rfl) (by decide)) ?_
  refine mz_All.cons (sd_aload_n hx hb (mz_dg d_Fl_reach 11 21 (.aload_n 0) 1 rfl) rfl) ?_
  refine mz_All.cons (sd_get (k := 3) hx hb hts (mz_inC in_Fl) hown (T := T_Fl) (N := 4) rfl (by decide) (hts (.fieldLink "MazeForms$Flood" 34 "MazeForms$Flood" "queued" "I") (List.mem_cons_of_mem _ wm_181)) (fun _ h => h) (mz_dg d_Fl_reach 12 22 (.getfield 34) 3 rfl)) ?_
  refine mz_All.cons (sd_aload_n hx hb (mz_dg d_Fl_reach 13 25 (.aload_n 0) 1 rfl) rfl) ?_
  refine mz_All.cons (sd_get (k := 2) hx hb hts (mz_inC in_Fl) hown (T := T_Fl) (N := 4) rfl (by decide) (hts (.fieldLink "MazeForms$Flood" 25 "MazeForms$Flood" "queue" "[I") (List.mem_cons_of_mem _ wm_180)) (fun _ h => h) (mz_dg d_Fl_reach 14 26 (.getfield 25) 3 rfl)) ?_
  refine mz_All.cons (sd_alen hx hb (mz_dg d_Fl_reach 15 29 (.arraylength) 1 rfl)) ?_
  refine mz_All.cons (sd_icmp_ge hx hb (mz_dg d_Fl_reach 16 30 (.if_icmp .ge (30)) 3 rfl) (by decide)) ?_
  refine mz_All.cons (sd_aload_n hx hb (mz_dg d_Fl_reach 17 33 (.aload_n 0) 1 rfl) rfl) ?_
  refine mz_All.cons (sd_get (k := 1) hx hb hts (mz_inC in_Fl) hown (T := T_Fl) (N := 4) rfl (by decide) (hts (.fieldLink "MazeForms$Flood" 21 "MazeForms$Flood" "steps" "[I") (List.mem_cons_of_mem _ wm_179)) (fun _ h => h) (mz_dg d_Fl_reach 18 34 (.getfield 21) 3 rfl)) ?_
  refine mz_All.cons (sd_iload_n hx hb (mz_dg d_Fl_reach 19 37 (.iload_n 1) 1 rfl) rfl) ?_
  refine mz_All.cons (sd_iload_n hx hb (mz_dg d_Fl_reach 20 38 (.iload_n 2) 1 rfl) rfl) ?_
  refine mz_All.cons (sd_iast hx hb (mz_dg d_Fl_reach 21 39 (.iastore) 1 rfl)) ?_
  refine mz_All.cons (sd_aload_n hx hb (mz_dg d_Fl_reach 22 40 (.aload_n 0) 1 rfl) rfl) ?_
  refine mz_All.cons (sd_get (k := 2) hx hb hts (mz_inC in_Fl) hown (T := T_Fl) (N := 4) rfl (by decide) (hts (.fieldLink "MazeForms$Flood" 25 "MazeForms$Flood" "queue" "[I") (List.mem_cons_of_mem _ wm_180)) (fun _ h => h) (mz_dg d_Fl_reach 23 41 (.getfield 25) 3 rfl)) ?_
  refine mz_All.cons (sd_aload_n hx hb (mz_dg d_Fl_reach 24 44 (.aload_n 0) 1 rfl) rfl) ?_
  refine mz_All.cons (sd_get (k := 3) hx hb hts (mz_inC in_Fl) hown (T := T_Fl) (N := 4) rfl (by decide) (hts (.fieldLink "MazeForms$Flood" 34 "MazeForms$Flood" "queued" "I") (List.mem_cons_of_mem _ wm_181)) (fun _ h => h) (mz_dg d_Fl_reach 25 45 (.getfield 34) 3 rfl)) ?_
  refine mz_All.cons (sd_iload_n hx hb (mz_dg d_Fl_reach 26 48 (.iload_n 1) 1 rfl) rfl) ?_
  refine mz_All.cons (sd_iast hx hb (mz_dg d_Fl_reach 27 49 (.iastore) 1 rfl)) ?_
  refine mz_All.cons (sd_aload_n hx hb (mz_dg d_Fl_reach 28 50 (.aload_n 0) 1 rfl) rfl) ?_
  refine mz_All.cons (sd_dup hx hb (mz_dg d_Fl_reach 29 51 (.dup) 1 rfl)) ?_
  refine mz_All.cons (sd_get (k := 3) hx hb hts (mz_inC in_Fl) hown (T := T_Fl) (N := 4) rfl (by decide) (hts (.fieldLink "MazeForms$Flood" 34 "MazeForms$Flood" "queued" "I") (List.mem_cons_of_mem _ wm_181)) (fun _ h => h) (mz_dg d_Fl_reach 30 52 (.getfield 34) 3 rfl)) ?_
  refine mz_All.cons (sd_iconst hx hb (mz_dg d_Fl_reach 31 55 (.iconst (1)) 1 rfl) (by decide)) ?_
  refine mz_All.cons (sd_iadd hx hb (mz_dg d_Fl_reach 32 56 (.iadd) 1 rfl)) ?_
  refine mz_All.cons (sd_puti (k := 3) hx hb hts (mz_inC in_Fl) ty_Fl ty_Fl_ok nm_Fl hown (T := T_Fl) (N := 4) rfl (by decide) (hts (.fieldLink "MazeForms$Flood" 34 "MazeForms$Flood" "queued" "I") (List.mem_cons_of_mem _ wm_181)) (fun _ h => h) rfl rfl (mz_dg d_Fl_reach 33 57 (.putfield 34) 3 rfl)) ?_
  refine mz_All.cons (sd_rv hx hb hr hlk (mz_dg d_Fl_reach 34 60 (.return_) 1 rfl)) ?_
  exact trivial
theorem met_Fl_reach (w h : Nat) (l : Launch) : mz_MV l y_Fl_reach w_Fl_reach 1 21 mz_cls (C_Fl_reach w h) := mz_MV_of (I_Fl_reach w h) (by decide) rfl (len_Fl_reach w h) (ok_Fl_reach w h) (snd_Fl_reach w h l)
set_option maxRecDepth 20000 in
theorem snd_Fl_spreadOn (w h : Nat) (l : Launch) (p : Program) (e : Env) (s : State) (m : MethodId) (args : Array Value) (below : List Frame) (meth : Method) (c : Code) (D : va_G) (ad0 : Nat → Nat) (cA0 : Nat → ClassId) (A : Nat → Prop) (lay : List mz_E) (Q : mz_X → Prop) (F : mz_F p s m args meth c prog_4_method_4_code 6 y_Fl_spreadOn.cls none w_Fl_spreadOn) (hA : ∀ q, s.heap.size ≤ q → A q) : mz_All (mz_V p l e (mz_rm 2 44) s m args below meth c 6 lay.length (mz_sz lay) D mz_cls (mz_G0 ad0 cA0) A (MQ below (va_Qv Q (mz_B D mz_cls ad0 cA0 lay A) A) args s 0 0 A)) (mz_qv lay Q) (I_Fl_spreadOn w h) := by
  obtain ⟨hx, hb, hml, hown, hts, hr, hlk⟩ := F
  unfold I_Fl_spreadOn
  refine mz_All.cons (sd_aload_n hx hb (mz_dg d_Fl_spreadOn 0 0 (.aload_n 0) 1 rfl) rfl) ?_
  refine mz_All.cons (sd_iload_n hx hb (mz_dg d_Fl_spreadOn 1 1 (.iload_n 1) 1 rfl) rfl) ?_
  refine mz_All.cons (sd_calli (T := T_Fl) ⟨hx, hb, hml, hown, hts⟩ (met_Fl_stepsTo w h l) (cwV 1 hts (mz_gV wm_491 wm_492 wm_493 wm_71 wm_494) rfl rfl rfl (by decide) ⟨by decide, by decide⟩) rfl hA rfl (mz_dg d_Fl_spreadOn 2 2 (.invokevirtual 50) 3 rfl)) ?_
  refine mz_All.cons (sd_iconst hx hb (mz_dg d_Fl_spreadOn 3 5 (.iconst (1)) 1 rfl) (by decide)) ?_
  refine mz_All.cons (sd_iadd hx hb (mz_dg d_Fl_spreadOn 4 6 (.iadd) 1 rfl)) ?_
  refine mz_All.cons (sd_istore_n hx hb (mz_dg d_Fl_spreadOn 5 7 (.istore_n 3) 1 rfl) rfl (by decide)) ?_
  refine mz_All.cons (sd_iconst hx hb (mz_dg d_Fl_spreadOn 6 8 (.iconst (0)) 1 rfl) (by decide)) ?_
  refine mz_All.cons (sd_istore hx hb (mz_dg d_Fl_spreadOn 7 9 (.istore 4) 2 rfl) (by decide)) ?_
  refine mz_All.cons (sd_iload hx hb (mz_dg d_Fl_spreadOn 8 11 (.iload 4) 2 rfl)) ?_
  refine mz_All.cons (sd_iconst hx hb (mz_dg d_Fl_spreadOn 9 13 (.iconst (4)) 1 rfl) (by decide)) ?_
  refine mz_All.cons (sd_icmp_ge hx hb (mz_dg d_Fl_spreadOn 10 14 (.if_icmp .ge (52)) 3 rfl) (by decide)) ?_
  refine mz_All.cons (sd_aload_n hx hb (mz_dg d_Fl_spreadOn 11 17 (.aload_n 0) 1 rfl) rfl) ?_
  refine mz_All.cons (sd_get (k := 0) hx hb hts (mz_inC in_Fl) hown (T := T_Fl) (N := 4) rfl (by decide) (hts (.fieldLink "MazeForms$Flood" 9 "MazeForms$Flood" "grid" "LMazeForms$Grid;") (List.mem_cons_of_mem _ wm_178)) (fun _ h => h) (mz_dg d_Fl_spreadOn 12 18 (.getfield 9) 3 rfl)) ?_
  refine mz_All.cons (sd_iload_n hx hb (mz_dg d_Fl_spreadOn 13 21 (.iload_n 1) 1 rfl) rfl) ?_
  refine mz_All.cons (sd_iload hx hb (mz_dg d_Fl_spreadOn 14 22 (.iload 4) 2 rfl)) ?_
  refine mz_All.cons (sd_calli (T := T_Gr) ⟨hx, hb, hml, hown, hts⟩ (met_Gr_doorOn w h l) (cwV 2 hts (mz_gV wm_495 wm_372 wm_373 wm_67 wm_374) rfl rfl rfl (by decide) ⟨by decide, by decide⟩) rfl hA rfl (mz_dg d_Fl_spreadOn 15 24 (.invokevirtual 54) 3 rfl)) ?_
  refine mz_All.cons (sd_istore hx hb (mz_dg d_Fl_spreadOn 16 27 (.istore 5) 2 rfl) (by decide)) ?_
  refine mz_All.cons (sd_iload_n hx hb (mz_dg d_Fl_spreadOn 17 29 (.iload_n 2) 1 rfl) rfl) ?_
  refine mz_All.cons (sd_if_ne hx hb (mz_dg d_Fl_spreadOn 18 30 (.ifCond .ne (15)) 3 rfl) (by decide)) ?_
  refine mz_All.cons (sd_aload_n hx hb (mz_dg d_Fl_spreadOn 19 33 (.aload_n 0) 1 rfl) rfl) ?_
  refine mz_All.cons (sd_get (k := 0) hx hb hts (mz_inC in_Fl) hown (T := T_Fl) (N := 4) rfl (by decide) (hts (.fieldLink "MazeForms$Flood" 9 "MazeForms$Flood" "grid" "LMazeForms$Grid;") (List.mem_cons_of_mem _ wm_178)) (fun _ h => h) (mz_dg d_Fl_spreadOn 20 34 (.getfield 9) 3 rfl)) ?_
  refine mz_All.cons (sd_iload hx hb (mz_dg d_Fl_spreadOn 21 37 (.iload 5) 2 rfl)) ?_
  refine mz_All.cons (sd_calli (T := T_Gr) ⟨hx, hb, hml, hown, hts⟩ (met_Gr_isOpen w h l) (cwV 1 hts (mz_gV wm_496 wm_497 wm_498 wm_67 wm_499) rfl rfl rfl (by decide) ⟨by decide, by decide⟩) rfl hA rfl (mz_dg d_Fl_spreadOn 22 39 (.invokevirtual 58) 3 rfl)) ?_
  refine mz_All.cons (sd_if_eq hx hb (mz_dg d_Fl_spreadOn 23 42 (.ifCond .eq (18)) 3 rfl) (by decide)) ?_
  refine mz_All.cons (sd_aload_n hx hb (mz_dg d_Fl_spreadOn 24 45 (.aload_n 0) 1 rfl) rfl) ?_
  refine mz_All.cons (sd_aload_n hx hb (mz_dg d_Fl_spreadOn 25 46 (.aload_n 0) 1 rfl) rfl) ?_
  refine mz_All.cons (sd_get (k := 0) hx hb hts (mz_inC in_Fl) hown (T := T_Fl) (N := 4) rfl (by decide) (hts (.fieldLink "MazeForms$Flood" 9 "MazeForms$Flood" "grid" "LMazeForms$Grid;") (List.mem_cons_of_mem _ wm_178)) (fun _ h => h) (mz_dg d_Fl_spreadOn 26 47 (.getfield 9) 3 rfl)) ?_
  refine mz_All.cons (sd_iload hx hb (mz_dg d_Fl_spreadOn 27 50 (.iload 5) 2 rfl)) ?_
  refine mz_All.cons (sd_iload_n hx hb (mz_dg d_Fl_spreadOn 28 52 (.iload_n 1) 1 rfl) rfl) ?_
  refine mz_All.cons (sd_calli (T := T_Gr) ⟨hx, hb, hml, hown, hts⟩ (met_Gr_otherCell w h l) (cwV 2 hts (mz_gV wm_500 wm_376 wm_377 wm_67 wm_378) rfl rfl rfl (by decide) ⟨by decide, by decide⟩) rfl hA rfl (mz_dg d_Fl_spreadOn 29 53 (.invokevirtual 61) 3 rfl)) ?_
  refine mz_All.cons (sd_iload_n hx hb (mz_dg d_Fl_spreadOn 30 56 (.iload_n 3) 1 rfl) rfl) ?_
  refine mz_All.cons (sd_callv (T := T_Fl) ⟨hx, hb, hml, hown, hts⟩ (met_Fl_reach w h l) (cwV 2 hts (mz_gV wm_482 wm_484 wm_16 wm_71 wm_485) rfl rfl rfl (by decide) ⟨by decide, by decide⟩) rfl hA rfl (mz_dg d_Fl_spreadOn 31 57 (.invokevirtual 38) 3 rfl)) ?_
  refine mz_All.cons (sd_iinc hx hb (mz_dg d_Fl_spreadOn 32 60 (.iinc 4 (1)) 3 rfl) (by decide) (by decide)) ?_
  refine mz_All.cons (sd_goto hx hb (mz_dg d_Fl_spreadOn 33 63 (.goto (-52)) 3 rfl) (by decide)) ?_
  refine mz_All.cons (sd_rv hx hb hr hlk (mz_dg d_Fl_spreadOn 34 66 (.return_) 1 rfl)) ?_
  exact trivial
theorem met_Fl_spreadOn (w h : Nat) (l : Launch) : mz_MV l y_Fl_spreadOn w_Fl_spreadOn 2 44 mz_cls (C_Fl_spreadOn w h) := mz_MV_of (I_Fl_spreadOn w h) (by decide) rfl (len_Fl_spreadOn w h) (ok_Fl_spreadOn w h) (snd_Fl_spreadOn w h l)
set_option maxRecDepth 20000 in
theorem snd_Fl_spread (w h : Nat) (l : Launch) (p : Program) (e : Env) (s : State) (m : MethodId) (args : Array Value) (below : List Frame) (meth : Method) (c : Code) (D : va_G) (ad0 : Nat → Nat) (cA0 : Nat → ClassId) (A : Nat → Prop) (lay : List mz_E) (Q : mz_X → Prop) (F : mz_F p s m args meth c prog_4_method_2_code 4 y_Fl_spread.cls none w_Fl_spread) (hA : ∀ q, s.heap.size ≤ q → A q) : mz_All (mz_V p l e (mz_rm 3 69) s m args below meth c 4 lay.length (mz_sz lay) D mz_cls (mz_G0 ad0 cA0) A (MQ below (va_Qv Q (mz_B D mz_cls ad0 cA0 lay A) A) args s 0 0 A)) (mz_qv lay Q) (I_Fl_spread w h) := by
  obtain ⟨hx, hb, hml, hown, hts, hr, hlk⟩ := F
  unfold I_Fl_spread
  refine mz_All.cons (sd_aload_n hx hb (mz_dg d_Fl_spread 0 0 (.aload_n 0) 1 rfl) rfl) ?_
  refine mz_All.cons (sd_get (k := 1) hx hb hts (mz_inC in_Fl) hown (T := T_Fl) (N := 4) rfl (by decide) (hts (.fieldLink "MazeForms$Flood" 21 "MazeForms$Flood" "steps" "[I") (List.mem_cons_of_mem _ wm_179)) (fun _ h => h) (mz_dg d_Fl_spread 1 1 (.getfield 21) 3 rfl)) ?_
  refine mz_All.cons (sd_iconst hx hb (mz_dg d_Fl_spread 2 4 (.iconst (-1)) 1 rfl) (by decide)) ?_
  refine mz_All.cons (sd_scallv ⟨hx, hb, hml, hown, hts⟩ (met_Ja_fillI w h l) (va_cwS 2 hts (mz_gSo wm_481 wm_106 wm_69 wm_107) rfl rfl rfl (by decide) ⟨by decide, by decide⟩) hA rfl (mz_dg d_Fl_spread 3 5 (.invokestatic 28) 3 rfl)) ?_
  refine mz_All.cons (sd_aload_n hx hb (mz_dg d_Fl_spread 4 8 (.aload_n 0) 1 rfl) rfl) ?_
  refine mz_All.cons (sd_iconst hx hb (mz_dg d_Fl_spread 5 9 (.iconst (0)) 1 rfl) (by decide)) ?_
  refine mz_All.cons (sd_puti (k := 3) hx hb hts (mz_inC in_Fl) ty_Fl ty_Fl_ok nm_Fl hown (T := T_Fl) (N := 4) rfl (by decide) (hts (.fieldLink "MazeForms$Flood" 34 "MazeForms$Flood" "queued" "I") (List.mem_cons_of_mem _ wm_181)) (fun _ h => h) rfl rfl (mz_dg d_Fl_spread 6 10 (.putfield 34) 3 rfl)) ?_
  refine mz_All.cons (sd_aload_n hx hb (mz_dg d_Fl_spread 7 13 (.aload_n 0) 1 rfl) rfl) ?_
  refine mz_All.cons (sd_iload_n hx hb (mz_dg d_Fl_spread 8 14 (.iload_n 1) 1 rfl) rfl) ?_
  refine mz_All.cons (sd_iconst hx hb (mz_dg d_Fl_spread 9 15 (.iconst (0)) 1 rfl) (by decide)) ?_
  refine mz_All.cons (sd_callv (T := T_Fl) ⟨hx, hb, hml, hown, hts⟩ (met_Fl_reach w h l) (cwV 2 hts (mz_gV wm_482 wm_484 wm_16 wm_71 wm_485) rfl rfl rfl (by decide) ⟨by decide, by decide⟩) rfl hA rfl (mz_dg d_Fl_spread 10 16 (.invokevirtual 38) 3 rfl)) ?_
  refine mz_All.cons (sd_iconst hx hb (mz_dg d_Fl_spread 11 19 (.iconst (0)) 1 rfl) (by decide)) ?_
  refine mz_All.cons (sd_istore_n hx hb (mz_dg d_Fl_spread 12 20 (.istore_n 3) 1 rfl) rfl (by decide)) ?_
  refine mz_All.cons (sd_iload_n hx hb (mz_dg d_Fl_spread 13 21 (.iload_n 3) 1 rfl) rfl) ?_
  refine mz_All.cons (sd_aload_n hx hb (mz_dg d_Fl_spread 14 22 (.aload_n 0) 1 rfl) rfl) ?_
  refine mz_All.cons (sd_get (k := 3) hx hb hts (mz_inC in_Fl) hown (T := T_Fl) (N := 4) rfl (by decide) (hts (.fieldLink "MazeForms$Flood" 34 "MazeForms$Flood" "queued" "I") (List.mem_cons_of_mem _ wm_181)) (fun _ h => h) (mz_dg d_Fl_spread 15 23 (.getfield 34) 3 rfl)) ?_
  refine mz_All.cons (sd_icmp_ge hx hb (mz_dg d_Fl_spread 16 26 (.if_icmp .ge (29)) 3 rfl) (by decide)) ?_
  refine mz_All.cons (sd_iload_n hx hb (mz_dg d_Fl_spread 17 29 (.iload_n 3) 1 rfl) rfl) ?_
  refine mz_All.cons (sd_aload_n hx hb (mz_dg d_Fl_spread 18 30 (.aload_n 0) 1 rfl) rfl) ?_
  refine mz_All.cons (sd_get (k := 2) hx hb hts (mz_inC in_Fl) hown (T := T_Fl) (N := 4) rfl (by decide) (hts (.fieldLink "MazeForms$Flood" 25 "MazeForms$Flood" "queue" "[I") (List.mem_cons_of_mem _ wm_180)) (fun _ h => h) (mz_dg d_Fl_spread 19 31 (.getfield 25) 3 rfl)) ?_
  refine mz_All.cons (sd_alen hx hb (mz_dg d_Fl_spread 20 34 (.arraylength) 1 rfl)) ?_
  refine mz_All.cons (sd_icmp_ge hx hb (mz_dg d_Fl_spread 21 35 (.if_icmp .ge (20)) 3 rfl) (by decide)) ?_
  refine mz_All.cons (sd_aload_n hx hb (mz_dg d_Fl_spread 22 38 (.aload_n 0) 1 rfl) rfl) ?_
  refine mz_All.cons (sd_aload_n hx hb (mz_dg d_Fl_spread 23 39 (.aload_n 0) 1 rfl) rfl) ?_
  refine mz_All.cons (sd_get (k := 2) hx hb hts (mz_inC in_Fl) hown (T := T_Fl) (N := 4) rfl (by decide) (hts (.fieldLink "MazeForms$Flood" 25 "MazeForms$Flood" "queue" "[I") (List.mem_cons_of_mem _ wm_180)) (fun _ h => h) (mz_dg d_Fl_spread 24 40 (.getfield 25) 3 rfl)) ?_
  refine mz_All.cons (sd_iload_n hx hb (mz_dg d_Fl_spread 25 43 (.iload_n 3) 1 rfl) rfl) ?_
  refine mz_All.cons (sd_iald hx hb (mz_dg d_Fl_spread 26 44 (.iaload) 1 rfl)) ?_
  refine mz_All.cons (sd_iload_n hx hb (mz_dg d_Fl_spread 27 45 (.iload_n 2) 1 rfl) rfl) ?_
  refine mz_All.cons (sd_callv (T := T_Fl) ⟨hx, hb, hml, hown, hts⟩ (met_Fl_spreadOn w h l) (cwV 2 hts (mz_gV wm_487 wm_489 wm_17 wm_71 wm_490) rfl rfl rfl (by decide) ⟨by decide, by decide⟩) rfl hA rfl (mz_dg d_Fl_spread 28 46 (.invokevirtual 42) 3 rfl)) ?_
  refine mz_All.cons (sd_iinc hx hb (mz_dg d_Fl_spread 29 49 (.iinc 3 (1)) 3 rfl) (by decide) (by decide)) ?_
  refine mz_All.cons (sd_goto hx hb (mz_dg d_Fl_spread 30 52 (.goto (-31)) 3 rfl) (by decide)) ?_
  refine mz_All.cons (sd_rv hx hb hr hlk (mz_dg d_Fl_spread 31 55 (.return_) 1 rfl)) ?_
  exact trivial
theorem met_Fl_spread (w h : Nat) (l : Launch) : mz_MV l y_Fl_spread w_Fl_spread 3 69 mz_cls (C_Fl_spread w h) := mz_MV_of (I_Fl_spread w h) (by decide) rfl (len_Fl_spread w h) (ok_Fl_spread w h) (snd_Fl_spread w h l)
end
section
/-- Maker (place 12, opened is its field 6), reached (place 16), trace (place 17) -/
def zm_odX (X : mz_X) (d : Int32) : mz_X := (mz_up (zg_setX X d 1).1 12 6 ((zg_setX X d 1).1 12 6 + 1), (zg_setX X d 1).2)
def zm_od (w h : Nat) (X : mz_X) (d : Int32) : mz_X := match zg_setB w h X d 1 with
  | true => zm_odX X d
  | false => X
def zm_en (w h : Nat) (X : mz_X) (c : Int32) : mz_X := match mz_lt c (w * h) with
  | true => (mz_up X.1 16 c.toNatClampNeg 1, X.2)
  | false => X
def zm_b0 (X : mz_X) (k : Nat) : mz_X := (mz_fil (mz_fil X.1 16 k 0) 17 k (-1), X.2)
def zm_beg (w h : Nat) (X : mz_X) (c : Int32) : mz_X := zm_en w h (zm_b0 X (w * h)) c
def zm_isR (w h : Nat) (X : mz_X) (c : Int32) : Bool := mz_lt c (w * h) && !decide (X.1 16 c.toNatClampNeg = 0)
def zm_tr (w h : Nat) (X : mz_X) (c : Int32) : Int32 := match mz_lt c (w * h) with
  | true => X.1 17 c.toNatClampNeg
  | false => -1
def zm_stT (w h : Nat) (X : mz_X) (c m : Int32) : mz_X := match mz_lt c (w * h) with
  | true => (mz_up X.1 17 c.toNatClampNeg m, X.2)
  | false => X
/-- offers -/
def zm_uB (w h : Nat) (X : mz_X) (c : Int32) (s : Nat) : Bool := !decide (zg_on w h X c (nI s) = -1) && !zm_isR w h X (zg_oth w h X (zg_on w h X c (nI s)) c)
def zm_uS (w h : Nat) (X : mz_X) (c : Int32) (s : Nat) : mz_X := match zm_uB w h X c s with
  | true => zr_add w h X (zg_on w h X c (nI s))
  | false => X
def zm_u (w h : Nat) (X : mz_X) (c : Int32) (k : Nat) : mz_X := match k with
  | 0 => zr_clr X
  | s + 1 => zm_uS w h (zm_u w h X c s) c s
def zm_a (w h : Nat) (X : mz_X) (c : Int32) (k : Nat) : mz_X := match k with
  | 0 => zr_clr X
  | s + 1 => zr_add w h (zm_a w h X c s) (zg_on w h (zm_a w h X c s) c (nI s))
def zm_rB (w h : Nat) (X : mz_X) (d : Nat) : Bool := !decide (zm_isR w h X (zg_les w h X (nI d)) = zm_isR w h X (zg_gre w h X (nI d)))
def zm_rS (w h : Nat) (X : mz_X) (d : Nat) : mz_X := match zm_rB w h X d with
  | true => zr_add w h X (nI d)
  | false => X
def zm_r (w h : Nat) (X : mz_X) (k : Nat) : mz_X := match k with
  | 0 => zr_clr X
  | s + 1 => zm_rS w h (zm_r w h X s) s
def zm_cS (w h : Nat) (X : mz_X) (d : Nat) : mz_X := match zg_open w h X (nI d) with
  | true => X
  | false => zr_add w h X (nI d)
def zm_c (w h : Nat) (X : mz_X) (k : Nat) : mz_X := match k with
  | 0 => zr_clr X
  | s + 1 => zm_cS w h (zm_c w h X s) s
def C_Mk_openDoor (w h : Nat) : mz_CV := fun lay as X Q => match as with
  | [.ref 12, .int d] => lay = mz_lay w h ∧ mz_geo w h ∧ Q (zm_od w h X d)
  | _ => False
def C_Mk_enter (w h : Nat) : mz_CV := fun lay as X Q => match as with
  | [.ref 12, .int c] => lay = mz_lay w h ∧ mz_geo w h ∧ Q (zm_en w h X c)
  | _ => False
def C_Mk_begin (w h : Nat) : mz_CV := fun lay as X Q => match as with
  | [.ref 12, .int c] => lay = mz_lay w h ∧ mz_geo w h ∧ Q (zm_beg w h X c)
  | _ => False
def C_Mk_isReached (w h : Nat) : mz_CI := fun lay as X Q => match as with
  | [.ref 12, .int c] => lay = mz_lay w h ∧ mz_geo w h ∧ Q (mz_b (zm_isR w h X c)) X
  | _ => False
def C_Mk_traceOf (w h : Nat) : mz_CI := fun lay as X Q => match as with
  | [.ref 12, .int c] => lay = mz_lay w h ∧ mz_geo w h ∧ Q (zm_tr w h X c) X
  | _ => False
def C_Mk_setTrace (w h : Nat) : mz_CV := fun lay as X Q => match as with
  | [.ref 12, .int c, .int m] => lay = mz_lay w h ∧ mz_geo w h ∧ Q (zm_stT w h X c m)
  | _ => False
def C_Mk_offerUnreached (w h : Nat) : mz_CV := fun lay as X Q => match as with
  | [.ref 12, .int c] => lay = mz_lay w h ∧ mz_geo w h ∧ Q (zm_u w h X c 4)
  | _ => False
def C_Mk_offerAll (w h : Nat) : mz_CV := fun lay as X Q => match as with
  | [.ref 12, .int c] => lay = mz_lay w h ∧ mz_geo w h ∧ Q (zm_a w h X c 4)
  | _ => False
def C_Mk_offerRim (w h : Nat) : mz_CV := fun lay as X Q => match as with
  | [.ref 12] => lay = mz_lay w h ∧ mz_geo w h ∧ ∃ D : Nat, D ≤ mz_dn w h ∧ X.1 1 7 = nI D ∧ Q (zm_r w h X D)
  | _ => False
def y_Mk_openDoor : MethodName := ⟨"MazeForms$Maker", "openDoor", "(I)V"⟩
abbrev w_Mk_openDoor : List Cond := .code y_Mk_openDoor prog_7_method_4_code 2 none :: mz_tb
def dl_Mk_openDoor : List (Nat × ClassFile.Instr × Nat) := [(0, .aload_n 0, 1), (1, .getfield 9, 3), (4, .iload_n 1, 1), (5, .iconst (1), 1), (6, .invokevirtual 94, 3), (9, .ifCond .eq (13), 3), (12, .aload_n 0, 1), (13, .dup, 1), (14, .getfield 52, 3), (17, .iconst (1), 1), (18, .iadd, 1), (19, .putfield 52, 3), (22, .return_, 1)]
theorem d_Mk_openDoor : mz_dec prog_7_method_4_code dl_Mk_openDoor = true := by decide +kernel
def y_Mk_enter : MethodName := ⟨"MazeForms$Maker", "enter", "(I)V"⟩
abbrev w_Mk_enter : List Cond := .code y_Mk_enter prog_7_method_6_code 2 none :: mz_tb
def dl_Mk_enter : List (Nat × ClassFile.Instr × Nat) := [(0, .aload_n 0, 1), (1, .getfield 9, 3), (4, .iload_n 1, 1), (5, .invokevirtual 101, 3), (8, .ifCond .eq (10), 3), (11, .aload_n 0, 1), (12, .getfield 41, 3), (15, .iload_n 1, 1), (16, .iconst (1), 1), (17, .bastore, 1), (18, .return_, 1)]
theorem d_Mk_enter : mz_dec prog_7_method_6_code dl_Mk_enter = true := by decide +kernel
def y_Mk_begin : MethodName := ⟨"MazeForms$Maker", "begin", "(I)V"⟩
abbrev w_Mk_begin : List Cond := .code y_Mk_begin prog_7_method_5_code 3 none :: mz_tb
def dl_Mk_begin : List (Nat × ClassFile.Instr × Nat) := [(0, .iconst (0), 1), (1, .istore_n 2, 1), (2, .iload_n 2, 1), (3, .aload_n 0, 1), (4, .getfield 41, 3), (7, .arraylength, 1), (8, .if_icmp .ge (23), 3), (11, .aload_n 0, 1), (12, .getfield 41, 3), (15, .iload_n 2, 1), (16, .iconst (0), 1), (17, .bastore, 1), (18, .aload_n 0, 1), (19, .getfield 45, 3), (22, .iload_n 2, 1), (23, .iconst (-1), 1), (24, .iastore, 1), (25, .iinc 2 (1), 3), (28, .goto (-26), 3), (31, .aload_n 0, 1), (32, .iload_n 1, 1), (33, .invokevirtual 98, 3), (36, .return_, 1)]
theorem d_Mk_begin : mz_dec prog_7_method_5_code dl_Mk_begin = true := by decide +kernel
def y_Mk_isReached : MethodName := ⟨"MazeForms$Maker", "isReached", "(I)Z"⟩
abbrev w_Mk_isReached : List Cond := .code y_Mk_isReached prog_7_method_7_code 2 (some .boolean) :: mz_tb
def dl_Mk_isReached : List (Nat × ClassFile.Instr × Nat) := [(0, .aload_n 0, 1), (1, .getfield 9, 3), (4, .iload_n 1, 1), (5, .invokevirtual 101, 3), (8, .ifCond .eq (16), 3), (11, .aload_n 0, 1), (12, .getfield 41, 3), (15, .iload_n 1, 1), (16, .baload, 1), (17, .ifCond .eq (7), 3), (20, .iconst (1), 1), (21, .goto (4), 3), (24, .iconst (0), 1), (25, .ireturn, 1)]
theorem d_Mk_isReached : mz_dec prog_7_method_7_code dl_Mk_isReached = true := by decide +kernel
def y_Mk_traceOf : MethodName := ⟨"MazeForms$Maker", "traceOf", "(I)I"⟩
abbrev w_Mk_traceOf : List Cond := .code y_Mk_traceOf prog_7_method_8_code 2 (some .int) :: mz_tb
def dl_Mk_traceOf : List (Nat × ClassFile.Instr × Nat) := [(0, .aload_n 0, 1), (1, .getfield 9, 3), (4, .iload_n 1, 1), (5, .invokevirtual 101, 3), (8, .ifCond .eq (12), 3), (11, .aload_n 0, 1), (12, .getfield 45, 3), (15, .iload_n 1, 1), (16, .iaload, 1), (17, .goto (4), 3), (20, .iconst (-1), 1), (21, .ireturn, 1)]
theorem d_Mk_traceOf : mz_dec prog_7_method_8_code dl_Mk_traceOf = true := by decide +kernel
def y_Mk_setTrace : MethodName := ⟨"MazeForms$Maker", "setTrace", "(II)V"⟩
abbrev w_Mk_setTrace : List Cond := .code y_Mk_setTrace prog_7_method_9_code 3 none :: mz_tb
def dl_Mk_setTrace : List (Nat × ClassFile.Instr × Nat) := [(0, .aload_n 0, 1), (1, .getfield 9, 3), (4, .iload_n 1, 1), (5, .invokevirtual 101, 3), (8, .ifCond .eq (10), 3), (11, .aload_n 0, 1), (12, .getfield 45, 3), (15, .iload_n 1, 1), (16, .iload_n 2, 1), (17, .iastore, 1), (18, .return_, 1)]
theorem d_Mk_setTrace : mz_dec prog_7_method_9_code dl_Mk_setTrace = true := by decide +kernel
def y_Mk_offerUnreached : MethodName := ⟨"MazeForms$Maker", "offerUnreached", "(I)V"⟩
abbrev w_Mk_offerUnreached : List Cond := .code y_Mk_offerUnreached prog_7_method_11_code 4 none :: mz_tb
def dl_Mk_offerUnreached : List (Nat × ClassFile.Instr × Nat) := [(0, .aload_n 0, 1), (1, .getfield 34, 3), (4, .invokevirtual 71, 3), (7, .iconst (0), 1), (8, .istore_n 2, 1), (9, .iload_n 2, 1), (10, .iconst (4), 1), (11, .if_icmp .ge (48), 3), (14, .aload_n 0, 1), (15, .getfield 9, 3), (18, .iload_n 1, 1), (19, .iload_n 2, 1), (20, .invokevirtual 125, 3), (23, .istore_n 3, 1), (24, .iload_n 3, 1), (25, .iconst (-1), 1), (26, .if_icmp .eq (27), 3), (29, .aload_n 0, 1), (30, .aload_n 0, 1), (31, .getfield 9, 3), (34, .iload_n 3, 1), (35, .iload_n 1, 1), (36, .invokevirtual 117, 3), (39, .invokevirtual 128, 3), (42, .ifCond .ne (11), 3), (45, .aload_n 0, 1), (46, .getfield 34, 3), (49, .iload_n 3, 1), (50, .invokevirtual 81, 3), (53, .iinc 2 (1), 3), (56, .goto (-47), 3), (59, .return_, 1)]
theorem d_Mk_offerUnreached : mz_dec prog_7_method_11_code dl_Mk_offerUnreached = true := by decide +kernel
def y_Mk_offerAll : MethodName := ⟨"MazeForms$Maker", "offerAll", "(I)V"⟩
abbrev w_Mk_offerAll : List Cond := .code y_Mk_offerAll prog_7_method_17_code 3 none :: mz_tb
def dl_Mk_offerAll : List (Nat × ClassFile.Instr × Nat) := [(0, .aload_n 0, 1), (1, .getfield 34, 3), (4, .invokevirtual 71, 3), (7, .iconst (0), 1), (8, .istore_n 2, 1), (9, .iload_n 2, 1), (10, .iconst (4), 1), (11, .if_icmp .ge (25), 3), (14, .aload_n 0, 1), (15, .getfield 34, 3), (18, .aload_n 0, 1), (19, .getfield 9, 3), (22, .iload_n 1, 1), (23, .iload_n 2, 1), (24, .invokevirtual 125, 3), (27, .invokevirtual 81, 3), (30, .iinc 2 (1), 3), (33, .goto (-24), 3), (36, .return_, 1)]
theorem d_Mk_offerAll : mz_dec prog_7_method_17_code dl_Mk_offerAll = true := by decide +kernel
def y_Mk_offerRim : MethodName := ⟨"MazeForms$Maker", "offerRim", "()V"⟩
abbrev w_Mk_offerRim : List Cond := .code y_Mk_offerRim prog_7_method_14_code 2 none :: mz_tb
def dl_Mk_offerRim : List (Nat × ClassFile.Instr × Nat) := [(0, .aload_n 0, 1), (1, .getfield 34, 3), (4, .invokevirtual 71, 3), (7, .iconst (0), 1), (8, .istore_n 1, 1), (9, .iload_n 1, 1), (10, .aload_n 0, 1), (11, .getfield 9, 3), (14, .invokevirtual 74, 3), (17, .if_icmp .ge (44), 3), (20, .aload_n 0, 1), (21, .aload_n 0, 1), (22, .getfield 9, 3), (25, .iload_n 1, 1), (26, .invokevirtual 148, 3), (29, .invokevirtual 128, 3), (32, .aload_n 0, 1), (33, .aload_n 0, 1), (34, .getfield 9, 3), (37, .iload_n 1, 1), (38, .invokevirtual 151, 3), (41, .invokevirtual 128, 3), (44, .if_icmp .eq (11), 3), (47, .aload_n 0, 1), (48, .getfield 34, 3), (51, .iload_n 1, 1), (52, .invokevirtual 81, 3), (55, .iinc 1 (1), 3), (58, .goto (-49), 3), (61, .return_, 1)]
theorem d_Mk_offerRim : mz_dec prog_7_method_14_code dl_Mk_offerRim = true := by decide +kernel
def I_Mk_openDoor (w h : Nat) : List (Nat × mz_Op) := [(0, mz_lda 0 1), (1, mz_gf 5 0 4), (4, mz_ldi 1 5), (5, mz_push (.int (1)) 6), (6, mz_ci 3 3 (C_Gr_setDoor w h) 9), (9, mz_if (fun x => x = 0) 22 12), (12, mz_lda 0 13), (13, mz_dup 14), (14, mz_gf 5 6 17), (17, mz_push (.int (1)) 18), (18, mz_bi (fun x y => x + y) 19), (19, mz_pfi 5 6 22), (22, mz_rv)]
def I_Mk_enter (w h : Nat) : List (Nat × mz_Op) := [(0, mz_lda 0 1), (1, mz_gf 5 0 4), (4, mz_ldi 1 5), (5, mz_ci 2 3 (C_Gr_isCell w h) 8), (8, mz_if (fun x => x = 0) 18 11), (11, mz_lda 0 12), (12, mz_gf 5 4 15), (15, mz_ldi 1 16), (16, mz_push (.int (1)) 17), (17, mz_iast 1 18), (18, mz_rv)]
def I_Mk_begin (w h : Nat) : List (Nat × mz_Op) := [(0, mz_push (.int (0)) 1), (1, mz_sti 2 2), (2, mz_ldi 2 3), (3, mz_lda 0 4), (4, mz_gf 5 4 7), (7, mz_al 8), (8, mz_ic (fun x y => y ≤ x) 31 11), (11, mz_lda 0 12), (12, mz_gf 5 4 15), (15, mz_ldi 2 16), (16, mz_push (.int (0)) 17), (17, mz_iast 1 18), (18, mz_lda 0 19), (19, mz_gf 5 5 22), (22, mz_ldi 2 23), (23, mz_push (.int (-1)) 24), (24, mz_iast 0 25), (25, mz_inc 2 (1) 28), (28, mz_go 2), (31, mz_lda 0 32), (32, mz_ldi 1 33), (33, mz_cvo 2 5 (C_Mk_enter w h) 36), (36, mz_rv)]
def I_Mk_isReached (w h : Nat) : List (Nat × mz_Op) := [(0, mz_lda 0 1), (1, mz_gf 5 0 4), (4, mz_ldi 1 5), (5, mz_ci 2 3 (C_Gr_isCell w h) 8), (8, mz_if (fun x => x = 0) 24 11), (11, mz_lda 0 12), (12, mz_gf 5 4 15), (15, mz_ldi 1 16), (16, mz_iald 1 17), (17, mz_if (fun x => x = 0) 24 20), (20, mz_push (.int (1)) 21), (21, mz_go 25), (24, mz_push (.int (0)) 25), (25, mz_rz)]
def I_Mk_traceOf (w h : Nat) : List (Nat × mz_Op) := [(0, mz_lda 0 1), (1, mz_gf 5 0 4), (4, mz_ldi 1 5), (5, mz_ci 2 3 (C_Gr_isCell w h) 8), (8, mz_if (fun x => x = 0) 20 11), (11, mz_lda 0 12), (12, mz_gf 5 5 15), (15, mz_ldi 1 16), (16, mz_iald 0 17), (17, mz_go 21), (20, mz_push (.int (-1)) 21), (21, mz_ri)]
def I_Mk_setTrace (w h : Nat) : List (Nat × mz_Op) := [(0, mz_lda 0 1), (1, mz_gf 5 0 4), (4, mz_ldi 1 5), (5, mz_ci 2 3 (C_Gr_isCell w h) 8), (8, mz_if (fun x => x = 0) 18 11), (11, mz_lda 0 12), (12, mz_gf 5 5 15), (15, mz_ldi 1 16), (16, mz_ldi 2 17), (17, mz_iast 0 18), (18, mz_rv)]
def I_Mk_offerUnreached (w h : Nat) : List (Nat × mz_Op) := [(0, mz_lda 0 1), (1, mz_gf 5 3 4), (4, mz_cvo 1 1 (C_Dr_clear w h) 7), (7, mz_push (.int (0)) 8), (8, mz_sti 2 9), (9, mz_ldi 2 10), (10, mz_push (.int (4)) 11), (11, mz_ic (fun x y => y ≤ x) 59 14), (14, mz_lda 0 15), (15, mz_gf 5 0 18), (18, mz_ldi 1 19), (19, mz_ldi 2 20), (20, mz_ci 3 3 (C_Gr_doorOn w h) 23), (23, mz_sti 3 24), (24, mz_ldi 3 25), (25, mz_push (.int (-1)) 26), (26, mz_ic (fun x y => x = y) 53 29), (29, mz_lda 0 30), (30, mz_lda 0 31), (31, mz_gf 5 0 34), (34, mz_ldi 3 35), (35, mz_ldi 1 36), (36, mz_ci 3 3 (C_Gr_otherCell w h) 39), (39, mz_ci 2 5 (C_Mk_isReached w h) 42), (42, mz_if (fun x => x = 0) 45 53), (45, mz_lda 0 46), (46, mz_gf 5 3 49), (49, mz_ldi 3 50), (50, mz_cvo 2 1 (C_Dr_add w h) 53), (53, mz_inc 2 (1) 56), (56, mz_go 9), (59, mz_rv)]
def I_Mk_offerAll (w h : Nat) : List (Nat × mz_Op) := [(0, mz_lda 0 1), (1, mz_gf 5 3 4), (4, mz_cvo 1 1 (C_Dr_clear w h) 7), (7, mz_push (.int (0)) 8), (8, mz_sti 2 9), (9, mz_ldi 2 10), (10, mz_push (.int (4)) 11), (11, mz_ic (fun x y => y ≤ x) 36 14), (14, mz_lda 0 15), (15, mz_gf 5 3 18), (18, mz_lda 0 19), (19, mz_gf 5 0 22), (22, mz_ldi 1 23), (23, mz_ldi 2 24), (24, mz_ci 3 3 (C_Gr_doorOn w h) 27), (27, mz_cvo 2 1 (C_Dr_add w h) 30), (30, mz_inc 2 (1) 33), (33, mz_go 9), (36, mz_rv)]
def I_Mk_offerRim (w h : Nat) : List (Nat × mz_Op) := [(0, mz_lda 0 1), (1, mz_gf 5 3 4), (4, mz_cvo 1 1 (C_Dr_clear w h) 7), (7, mz_push (.int (0)) 8), (8, mz_sti 1 9), (9, mz_ldi 1 10), (10, mz_lda 0 11), (11, mz_gf 5 0 14), (14, mz_ci 1 3 (C_Gr_doorCount w h) 17), (17, mz_ic (fun x y => y ≤ x) 61 20), (20, mz_lda 0 21), (21, mz_lda 0 22), (22, mz_gf 5 0 25), (25, mz_ldi 1 26), (26, mz_ci 2 3 (C_Gr_lesserCell w h) 29), (29, mz_ci 2 5 (C_Mk_isReached w h) 32), (32, mz_lda 0 33), (33, mz_lda 0 34), (34, mz_gf 5 0 37), (37, mz_ldi 1 38), (38, mz_ci 2 3 (C_Gr_greaterCell w h) 41), (41, mz_ci 2 5 (C_Mk_isReached w h) 44), (44, mz_ic (fun x y => x = y) 55 47), (47, mz_lda 0 48), (48, mz_gf 5 3 51), (51, mz_ldi 1 52), (52, mz_cvo 2 1 (C_Dr_add w h) 55), (55, mz_inc 1 (1) 58), (58, mz_go 9), (61, mz_rv)]
theorem zm_b0_0 (X : mz_X) : zm_b0 X 0 = X := by
  simp only [zm_b0, mz_fil_0]
theorem zm_b0_s (X : mz_X) (k : Nat) : mz_up (mz_up (zm_b0 X k).1 16 k 0) 17 k (-1) = (zm_b0 X (k + 1)).1 := by
  funext a b
  simp only [mz_up, zm_b0, mz_fil]
  by_cases h6 : a = 16
  · subst h6
    by_cases hb : b = k
    · subst hb
      simp
    · have : b < k ↔ b < k + 1 := by omega
      simp [hb, this]
  · by_cases h7 : a = 17
    · subst h7
      by_cases hb : b = k
      · subst hb
        simp
      · have : b < k ↔ b < k + 1 := by omega
        simp [hb, this]
    · simp [h6, h7]
theorem zr_add_keep {w h p i : Nat} (hp : p ≠ 14) (hp2 : p ≠ 15) (X : mz_X) (d : Int32) : (zr_add w h X d).1 p i = X.1 p i := by
  unfold zr_add
  split
  · simp only [mz_up, if_neg hp, if_neg hp2]
  · rfl
theorem zr_clr_keep {p i : Nat} (hp : p ≠ 14) (X : mz_X) : (zr_clr X).1 p i = X.1 p i := by
  simp only [zr_clr, mz_up, if_neg hp]
theorem zm_rS_keep {w h p i d : Nat} (hp : p ≠ 14) (hp2 : p ≠ 15) (X : mz_X) : (zm_rS w h X d).1 p i = X.1 p i := by
  unfold zm_rS
  split
  · exact zr_add_keep hp hp2 X _
  · rfl
theorem zm_r_keep {w h p i : Nat} (hp : p ≠ 14) (hp2 : p ≠ 15) (X : mz_X) : ∀ k, (zm_r w h X k).1 p i = X.1 p i
  | 0 => zr_clr_keep hp X
  | k + 1 => (zm_rS_keep hp hp2 _).trans (zm_r_keep hp hp2 X k)
theorem zm_cS_keep {w h p i d : Nat} (hp : p ≠ 14) (hp2 : p ≠ 15) (X : mz_X) : (zm_cS w h X d).1 p i = X.1 p i := by
  unfold zm_cS
  split
  · rfl
  · exact zr_add_keep hp hp2 X _
theorem zm_c_keep {w h p i : Nat} (hp : p ≠ 14) (hp2 : p ≠ 15) (X : mz_X) : ∀ k, (zm_c w h X k).1 p i = X.1 p i
  | 0 => zr_clr_keep hp X
  | k + 1 => (zm_cS_keep hp hp2 _).trans (zm_c_keep hp hp2 X k)
theorem mz_beq_b {a b : Bool} : (mz_b a = mz_b b) ↔ a = b := by cases a <;> cases b <;> simp [mz_b]
theorem len_Mk_openDoor (w h : Nat) (lay : List mz_E) (as : List Value) (X : mz_X) (Q : mz_X → Prop) (hC : C_Mk_openDoor w h lay as X Q) : (mz_l0 as).length ≤ 2 := by
  unfold C_Mk_openDoor at hC
  split at hC
  · exact Nat.le_of_ble_eq_true rfl
  · exact hC.elim
theorem ok_Mk_openDoor (w h : Nat) (lay : List mz_E) (as : List Value) (X : mz_X) (Q : mz_X → Prop) (hC : C_Mk_openDoor w h lay as X Q) (K : mz_K) (hK : mz_Cl (I_Mk_openDoor w h) (mz_qv lay Q) K) : K 0 (mz_ent 2 as) [] (lay, X) := by
  unfold C_Mk_openDoor at hC
  split at hC
  · next d =>
    obtain ⟨rfl, g, hq⟩ := hC
    iterate 4 refine hK _ _ _ _ ?_
    refine hK _ _ _ _ (And.intro (rfl) (And.intro (g) (And.intro (Or.inr rfl) ?_)))
    refine hK _ _ _ _ (And.intro (fun c1 => ?_) (fun c1 => ?_))
    · have e := mz_b0 c1
      have e2 : zm_od w h X d = X := by
        unfold zm_od
        rw [e]
      rw [e2] at hq
      rw [e]
      exact hK _ _ _ _ (And.intro rfl (hq))
    · have e := mz_b1 c1
      have e2 : zm_od w h X d = zm_odX X d := by
        unfold zm_od
        rw [e]
      rw [e2] at hq
      rw [e]
      iterate 6 refine hK _ _ _ _ ?_
      exact hK _ _ _ _ (And.intro rfl (hq))
  · exact hC.elim
theorem len_Mk_enter (w h : Nat) (lay : List mz_E) (as : List Value) (X : mz_X) (Q : mz_X → Prop) (hC : C_Mk_enter w h lay as X Q) : (mz_l0 as).length ≤ 2 := by
  unfold C_Mk_enter at hC
  split at hC
  · exact Nat.le_of_ble_eq_true rfl
  · exact hC.elim
theorem ok_Mk_enter (w h : Nat) (lay : List mz_E) (as : List Value) (X : mz_X) (Q : mz_X → Prop) (hC : C_Mk_enter w h lay as X Q) (K : mz_K) (hK : mz_Cl (I_Mk_enter w h) (mz_qv lay Q) K) : K 0 (mz_ent 2 as) [] (lay, X) := by
  unfold C_Mk_enter at hC
  split at hC
  · next c =>
    obtain ⟨rfl, g, hq⟩ := hC
    have hn := mz_geo_n g
    iterate 3 refine hK _ _ _ _ ?_
    refine hK _ _ _ _ (And.intro (rfl) (And.intro (g) ?_))
    refine hK _ _ _ _ (And.intro (fun c1 => ?_) (fun c1 => ?_))
    · have e2 : zm_en w h X c = X := by
        unfold zm_en
        rw [mz_b0 c1]
      rw [e2] at hq
      exact hK _ _ _ _ (And.intro rfl (hq))
    · have e2 : zm_en w h X c = (mz_up X.1 16 c.toNatClampNeg 1, X.2) := by
        unfold zm_en
        rw [mz_b1 c1]
      rw [e2] at hq
      iterate 4 refine hK _ _ _ _ ?_
      refine hK _ _ _ _ (And.intro (mz_lt_in (mz_b1 c1) (by omega)) ?_)
      exact hK _ _ _ _ (And.intro rfl (hq))
  · exact hC.elim
theorem len_Mk_begin (w h : Nat) (lay : List mz_E) (as : List Value) (X : mz_X) (Q : mz_X → Prop) (hC : C_Mk_begin w h lay as X Q) : (mz_l0 as).length ≤ 3 := by
  unfold C_Mk_begin at hC
  split at hC
  · exact Nat.le_of_ble_eq_true rfl
  · exact hC.elim
theorem ok_Mk_begin (w h : Nat) (lay : List mz_E) (as : List Value) (X : mz_X) (Q : mz_X → Prop) (hC : C_Mk_begin w h lay as X Q) (K : mz_K) (hK : mz_Cl (I_Mk_begin w h) (mz_qv lay Q) K) : K 0 (mz_ent 3 as) [] (lay, X) := by
  unfold C_Mk_begin at hC
  split at hC
  · next c =>
    obtain ⟨rfl, g, hq⟩ := hC
    have hn := mz_geo_n g
    have loop : ∀ (k i : Nat), i + k = w * h → K 2 [some (.ref 12), some (.int c), some (.int (nI i))] [] (mz_lay w h, zm_b0 X i) := by
      intro k
      induction k with
      | zero =>
        intro i hi
        iterate 4 refine hK _ _ _ _ ?_
        refine hK _ _ _ _ (And.intro (fun c1 => ?_) (fun c1 => ?_))
        · iterate 2 refine hK _ _ _ _ ?_
          rw [show i = w * h by omega]
          refine hK _ _ _ _ (And.intro (rfl) (And.intro (g) ?_))
          exact hK _ _ _ _ (And.intro rfl (hq))
        · exact absurd (nI_le (a := w * h) (b := i) (by omega) (by omega)) c1
      | succ k ih =>
        intro i hi
        iterate 4 refine hK _ _ _ _ ?_
        refine hK _ _ _ _ (And.intro (fun c1 => ?_) (fun c1 => ?_))
        · exact absurd c1 (nI_ge (by omega) (by omega))
        · iterate 4 refine hK _ _ _ _ ?_
          refine hK _ _ _ _ (And.intro (vp_in_nI (by omega) (by omega)) ?_)
          iterate 4 refine hK _ _ _ _ ?_
          refine hK _ _ _ _ (And.intro (vp_in_nI (by omega) (by omega)) ?_)
          iterate 2 refine hK _ _ _ _ ?_
          have := ih (i + 1) (by omega)
          rw [← nI_1] at this
          rw [nI_clamp (by omega)]
          rw [show zm_b0 X (i + 1) = (mz_up (mz_up (zm_b0 X i).1 16 i 0) 17 i (-1), X.2) from Prod.ext (zm_b0_s X i).symm rfl] at this
          exact this
    iterate 2 refine hK _ _ _ _ ?_
    have := loop (w * h) 0 (by omega)
    rw [zm_b0_0] at this
    exact this
  · exact hC.elim
theorem len_Mk_isReached (w h : Nat) (lay : List mz_E) (as : List Value) (X : mz_X) (Q : Int32 → mz_X → Prop) (hC : C_Mk_isReached w h lay as X Q) : (mz_l0 as).length ≤ 2 := by
  unfold C_Mk_isReached at hC
  split at hC
  · exact Nat.le_of_ble_eq_true rfl
  · exact hC.elim
theorem ok_Mk_isReached (w h : Nat) (lay : List mz_E) (as : List Value) (X : mz_X) (Q : Int32 → mz_X → Prop) (hC : C_Mk_isReached w h lay as X Q) (K : mz_K) (hK : mz_Cl (I_Mk_isReached w h) (mz_qi lay Q) K) : K 0 (mz_ent 2 as) [] (lay, X) := by
  unfold C_Mk_isReached at hC
  split at hC
  · next c =>
    obtain ⟨rfl, g, hq⟩ := hC
    have hn := mz_geo_n g
    iterate 3 refine hK _ _ _ _ ?_
    refine hK _ _ _ _ (And.intro (rfl) (And.intro (g) ?_))
    refine hK _ _ _ _ (And.intro (fun c1 => ?_) (fun c1 => ?_))
    · refine hK _ _ _ _ ?_
      exact hK _ _ _ _ (And.intro (Or.inl rfl) (And.intro rfl (by simpa [zm_isR, mz_b0 c1, mz_b] using hq)))
    · iterate 3 refine hK _ _ _ _ ?_
      refine hK _ _ _ _ (And.intro (mz_lt_in (mz_b1 c1) (by omega)) ?_)
      refine hK _ _ _ _ (And.intro (fun c2 => ?_) (fun c2 => ?_))
      · dsimp only at c2
        refine hK _ _ _ _ ?_
        exact hK _ _ _ _ (And.intro (Or.inl rfl) (And.intro rfl (by simpa [zm_isR, c2, mz_b] using hq)))
      · dsimp only at c2
        iterate 2 refine hK _ _ _ _ ?_
        exact hK _ _ _ _ (And.intro (Or.inr rfl) (And.intro rfl (by simpa [zm_isR, mz_b1 c1, c2, mz_b] using hq)))
  · exact hC.elim
theorem len_Mk_traceOf (w h : Nat) (lay : List mz_E) (as : List Value) (X : mz_X) (Q : Int32 → mz_X → Prop) (hC : C_Mk_traceOf w h lay as X Q) : (mz_l0 as).length ≤ 2 := by
  unfold C_Mk_traceOf at hC
  split at hC
  · exact Nat.le_of_ble_eq_true rfl
  · exact hC.elim
theorem ok_Mk_traceOf (w h : Nat) (lay : List mz_E) (as : List Value) (X : mz_X) (Q : Int32 → mz_X → Prop) (hC : C_Mk_traceOf w h lay as X Q) (K : mz_K) (hK : mz_Cl (I_Mk_traceOf w h) (mz_qi lay Q) K) : K 0 (mz_ent 2 as) [] (lay, X) := by
  unfold C_Mk_traceOf at hC
  split at hC
  · next c =>
    obtain ⟨rfl, g, hq⟩ := hC
    have hn := mz_geo_n g
    iterate 3 refine hK _ _ _ _ ?_
    refine hK _ _ _ _ (And.intro (rfl) (And.intro (g) ?_))
    refine hK _ _ _ _ (And.intro (fun c1 => ?_) (fun c1 => ?_))
    · have e2 : zm_tr w h X c = -1 := by
        unfold zm_tr
        rw [mz_b0 c1]
      rw [e2] at hq
      refine hK _ _ _ _ ?_
      exact hK _ _ _ _ (And.intro rfl (hq))
    · have e2 : zm_tr w h X c = X.1 17 c.toNatClampNeg := by
        unfold zm_tr
        rw [mz_b1 c1]
      rw [e2] at hq
      iterate 3 refine hK _ _ _ _ ?_
      refine hK _ _ _ _ (And.intro (mz_lt_in (mz_b1 c1) (by omega)) ?_)
      refine hK _ _ _ _ ?_
      exact hK _ _ _ _ (And.intro rfl (hq))
  · exact hC.elim
theorem len_Mk_setTrace (w h : Nat) (lay : List mz_E) (as : List Value) (X : mz_X) (Q : mz_X → Prop) (hC : C_Mk_setTrace w h lay as X Q) : (mz_l0 as).length ≤ 3 := by
  unfold C_Mk_setTrace at hC
  split at hC
  · exact Nat.le_of_ble_eq_true rfl
  · exact hC.elim
theorem ok_Mk_setTrace (w h : Nat) (lay : List mz_E) (as : List Value) (X : mz_X) (Q : mz_X → Prop) (hC : C_Mk_setTrace w h lay as X Q) (K : mz_K) (hK : mz_Cl (I_Mk_setTrace w h) (mz_qv lay Q) K) : K 0 (mz_ent 3 as) [] (lay, X) := by
  unfold C_Mk_setTrace at hC
  split at hC
  · next c m =>
    obtain ⟨rfl, g, hq⟩ := hC
    have hn := mz_geo_n g
    iterate 3 refine hK _ _ _ _ ?_
    refine hK _ _ _ _ (And.intro (rfl) (And.intro (g) ?_))
    refine hK _ _ _ _ (And.intro (fun c1 => ?_) (fun c1 => ?_))
    · have e2 : zm_stT w h X c m = X := by
        unfold zm_stT
        rw [mz_b0 c1]
      rw [e2] at hq
      exact hK _ _ _ _ (And.intro rfl (hq))
    · have e2 : zm_stT w h X c m = (mz_up X.1 17 c.toNatClampNeg m, X.2) := by
        unfold zm_stT
        rw [mz_b1 c1]
      rw [e2] at hq
      iterate 4 refine hK _ _ _ _ ?_
      refine hK _ _ _ _ (And.intro (mz_lt_in (mz_b1 c1) (by omega)) ?_)
      exact hK _ _ _ _ (And.intro rfl (hq))
  · exact hC.elim
theorem len_Mk_offerUnreached (w h : Nat) (lay : List mz_E) (as : List Value) (X : mz_X) (Q : mz_X → Prop) (hC : C_Mk_offerUnreached w h lay as X Q) : (mz_l0 as).length ≤ 4 := by
  unfold C_Mk_offerUnreached at hC
  split at hC
  · exact Nat.le_of_ble_eq_true rfl
  · exact hC.elim
theorem ok_Mk_offerUnreached (w h : Nat) (lay : List mz_E) (as : List Value) (X : mz_X) (Q : mz_X → Prop) (hC : C_Mk_offerUnreached w h lay as X Q) (K : mz_K) (hK : mz_Cl (I_Mk_offerUnreached w h) (mz_qv lay Q) K) : K 0 (mz_ent 4 as) [] (lay, X) := by
  unfold C_Mk_offerUnreached at hC
  split at hC
  · next c =>
    obtain ⟨rfl, g, hq⟩ := hC
    have loop : ∀ (k i : Nat), i + k = 4 → ∀ L3 : Option Value, K 9 [some (.ref 12), some (.int c), some (.int (nI i)), L3] [] (mz_lay w h, zm_u w h X c i) := by
      intro k
      induction k with
      | zero =>
        intro i hi L3
        iterate 2 refine hK _ _ _ _ ?_
        refine hK _ _ _ _ (And.intro (fun c1 => ?_) (fun c1 => ?_))
        · exact hK _ _ _ _ (And.intro rfl (by rw [show i = 4 by omega]; exact hq))
        · exact absurd (nI_le (a := 4) (b := i) (by omega) (by omega)) c1
      | succ k ih =>
        intro i hi L3
        have ih1 := ih (i + 1) (by omega)
        rw [show zm_u w h X c (i + 1) = zm_uS w h (zm_u w h X c i) c i from rfl, ← nI_1] at ih1
        generalize zm_u w h X c i = Y at ih1 ⊢
        have hf : zm_uB w h Y c i = false → zm_uS w h Y c i = Y := fun e => by
          unfold zm_uS
          rw [e]
        iterate 2 refine hK _ _ _ _ ?_
        refine hK _ _ _ _ (And.intro (fun c1 => ?_) (fun c1 => ?_))
        · exact absurd c1 (nI_ge (a := i) (b := 4) (by omega) (by omega))
        · iterate 4 refine hK _ _ _ _ ?_
          refine hK _ _ _ _ (And.intro (rfl) (And.intro (g) ?_))
          iterate 3 refine hK _ _ _ _ ?_
          refine hK _ _ _ _ (And.intro (fun c2 => ?_) (fun c2 => ?_))
          · rw [hf (by simp only [zm_uB]; rw [show zg_on w h Y c (nI i) = -1 from c2]; rfl)] at ih1
            iterate 2 refine hK _ _ _ _ ?_
            exact ih1 _
          · iterate 5 refine hK _ _ _ _ ?_
            refine hK _ _ _ _ (And.intro (rfl) (And.intro (g) ?_))
            refine hK _ _ _ _ (And.intro (rfl) (And.intro (g) ?_))
            refine hK _ _ _ _ (And.intro (fun c3 => ?_) (fun c3 => ?_))
            · have e : zm_uB w h Y c i = true := by
                simp only [zm_uB]
                rw [show zm_isR w h Y (zg_oth w h Y (zg_on w h Y c (nI i)) c) = false from mz_b0 c3, show decide (zg_on w h Y c (nI i) = -1) = false from decide_eq_false c2]
                rfl
              have e2 : zm_uS w h Y c i = zr_add w h Y (zg_on w h Y c (nI i)) := by
                unfold zm_uS
                rw [e]
              rw [e2] at ih1
              iterate 3 refine hK _ _ _ _ ?_
              refine hK _ _ _ _ (And.intro (rfl) (And.intro (g) ?_))
              iterate 2 refine hK _ _ _ _ ?_
              exact ih1 _
            · rw [hf (by simp only [zm_uB]; rw [show zm_isR w h Y (zg_oth w h Y (zg_on w h Y c (nI i)) c) = true from mz_b1 c3]; simp)] at ih1
              iterate 2 refine hK _ _ _ _ ?_
              exact ih1 _
    iterate 2 refine hK _ _ _ _ ?_
    refine hK _ _ _ _ (And.intro (rfl) (And.intro (g) ?_))
    iterate 2 refine hK _ _ _ _ ?_
    exact loop 4 0 (by omega) none
  · exact hC.elim
theorem len_Mk_offerAll (w h : Nat) (lay : List mz_E) (as : List Value) (X : mz_X) (Q : mz_X → Prop) (hC : C_Mk_offerAll w h lay as X Q) : (mz_l0 as).length ≤ 3 := by
  unfold C_Mk_offerAll at hC
  split at hC
  · exact Nat.le_of_ble_eq_true rfl
  · exact hC.elim
theorem ok_Mk_offerAll (w h : Nat) (lay : List mz_E) (as : List Value) (X : mz_X) (Q : mz_X → Prop) (hC : C_Mk_offerAll w h lay as X Q) (K : mz_K) (hK : mz_Cl (I_Mk_offerAll w h) (mz_qv lay Q) K) : K 0 (mz_ent 3 as) [] (lay, X) := by
  unfold C_Mk_offerAll at hC
  split at hC
  · next c =>
    obtain ⟨rfl, g, hq⟩ := hC
    have loop : ∀ (k i : Nat), i + k = 4 → K 9 [some (.ref 12), some (.int c), some (.int (nI i))] [] (mz_lay w h, zm_a w h X c i) := by
      intro k
      induction k with
      | zero =>
        intro i hi
        iterate 2 refine hK _ _ _ _ ?_
        refine hK _ _ _ _ (And.intro (fun c1 => ?_) (fun c1 => ?_))
        · exact hK _ _ _ _ (And.intro rfl (by rw [show i = 4 by omega]; exact hq))
        · exact absurd (nI_le (a := 4) (b := i) (by omega) (by omega)) c1
      | succ k ih =>
        intro i hi
        have ih1 := ih (i + 1) (by omega)
        rw [show zm_a w h X c (i + 1) = zr_add w h (zm_a w h X c i) (zg_on w h (zm_a w h X c i) c (nI i)) from rfl, ← nI_1] at ih1
        generalize zm_a w h X c i = Y at ih1 ⊢
        iterate 2 refine hK _ _ _ _ ?_
        refine hK _ _ _ _ (And.intro (fun c1 => ?_) (fun c1 => ?_))
        · exact absurd c1 (nI_ge (a := i) (b := 4) (by omega) (by omega))
        · iterate 6 refine hK _ _ _ _ ?_
          refine hK _ _ _ _ (And.intro (rfl) (And.intro (g) ?_))
          refine hK _ _ _ _ (And.intro (rfl) (And.intro (g) ?_))
          iterate 2 refine hK _ _ _ _ ?_
          exact ih1
    iterate 2 refine hK _ _ _ _ ?_
    refine hK _ _ _ _ (And.intro (rfl) (And.intro (g) ?_))
    iterate 2 refine hK _ _ _ _ ?_
    exact loop 4 0 (by omega)
  · exact hC.elim
theorem len_Mk_offerRim (w h : Nat) (lay : List mz_E) (as : List Value) (X : mz_X) (Q : mz_X → Prop) (hC : C_Mk_offerRim w h lay as X Q) : (mz_l0 as).length ≤ 2 := by
  unfold C_Mk_offerRim at hC
  split at hC
  · exact Nat.le_of_ble_eq_true rfl
  · exact hC.elim
theorem ok_Mk_offerRim (w h : Nat) (lay : List mz_E) (as : List Value) (X : mz_X) (Q : mz_X → Prop) (hC : C_Mk_offerRim w h lay as X Q) (K : mz_K) (hK : mz_Cl (I_Mk_offerRim w h) (mz_qv lay Q) K) : K 0 (mz_ent 2 as) [] (lay, X) := by
  unfold C_Mk_offerRim at hC
  split at hC
  ·
    obtain ⟨rfl, g, D, hD, hX, hq⟩ := hC
    have hd := mz_geo_d g
    have loop : ∀ (k i : Nat), i + k = D → K 9 [some (.ref 12), some (.int (nI i))] [] (mz_lay w h, zm_r w h X i) := by
      intro k
      induction k with
      | zero =>
        intro i hi
        have h7 : (zm_r w h X i).1 1 7 = nI D := by rw [zm_r_keep (by decide) (by decide), hX]
        iterate 3 refine hK _ _ _ _ ?_
        refine hK _ _ _ _ (And.intro (rfl) (And.intro (g) ?_))
        refine hK _ _ _ _ (And.intro (fun c1 => ?_) (fun c1 => ?_))
        · exact hK _ _ _ _ (And.intro rfl (by rw [show i = D by omega]; exact hq))
        · dsimp only at c1
          rw [h7] at c1
          exact absurd (nI_le (a := D) (b := i) (by omega) (by omega)) c1
      | succ k ih =>
        intro i hi
        have h7 : (zm_r w h X i).1 1 7 = nI D := by rw [zm_r_keep (by decide) (by decide), hX]
        have ih1 := ih (i + 1) (by omega)
        rw [show zm_r w h X (i + 1) = zm_rS w h (zm_r w h X i) i from rfl, ← nI_1] at ih1
        generalize zm_r w h X i = Y at ih1 h7 ⊢
        iterate 3 refine hK _ _ _ _ ?_
        refine hK _ _ _ _ (And.intro (rfl) (And.intro (g) ?_))
        refine hK _ _ _ _ (And.intro (fun c1 => ?_) (fun c1 => ?_))
        · dsimp only at c1
          rw [h7] at c1
          exact absurd c1 (nI_ge (by omega) (by omega))
        · iterate 4 refine hK _ _ _ _ ?_
          refine hK _ _ _ _ (And.intro (rfl) (And.intro (g) ?_))
          refine hK _ _ _ _ (And.intro (rfl) (And.intro (g) ?_))
          iterate 4 refine hK _ _ _ _ ?_
          refine hK _ _ _ _ (And.intro (rfl) (And.intro (g) ?_))
          refine hK _ _ _ _ (And.intro (rfl) (And.intro (g) ?_))
          refine hK _ _ _ _ (And.intro (fun c2 => ?_) (fun c2 => ?_))
          · have e : zm_rB w h Y i = false := by
              simp only [zm_rB]
              rw [mz_beq_b.mp c2]
              simp
            have e2 : zm_rS w h Y i = Y := by
              unfold zm_rS
              rw [e]
            rw [e2] at ih1
            iterate 2 refine hK _ _ _ _ ?_
            exact ih1
          · have e : zm_rB w h Y i = true := by
              simp only [zm_rB, Bool.not_eq_true', decide_eq_false_iff_not]
              exact fun q => c2 (mz_beq_b.mpr q)
            have e2 : zm_rS w h Y i = zr_add w h Y (nI i) := by
              unfold zm_rS
              rw [e]
            rw [e2] at ih1
            iterate 3 refine hK _ _ _ _ ?_
            refine hK _ _ _ _ (And.intro (rfl) (And.intro (g) ?_))
            iterate 2 refine hK _ _ _ _ ?_
            exact ih1
    iterate 2 refine hK _ _ _ _ ?_
    refine hK _ _ _ _ (And.intro (rfl) (And.intro (g) ?_))
    iterate 2 refine hK _ _ _ _ ?_
    exact loop D 0 (by omega)
  · exact hC.elim
set_option maxRecDepth 20000 in
theorem snd_Mk_openDoor (w h : Nat) (l : Launch) (p : Program) (e : Env) (s : State) (m : MethodId) (args : Array Value) (below : List Frame) (meth : Method) (c : Code) (D : va_G) (ad0 : Nat → Nat) (cA0 : Nat → ClassId) (A : Nat → Prop) (lay : List mz_E) (Q : mz_X → Prop) (F : mz_F p s m args meth c prog_7_method_4_code 2 y_Mk_openDoor.cls none w_Mk_openDoor) (hA : ∀ q, s.heap.size ≤ q → A q) : mz_All (mz_V p l e (mz_rm 2 43) s m args below meth c 2 lay.length (mz_sz lay) D mz_cls (mz_G0 ad0 cA0) A (MQ below (va_Qv Q (mz_B D mz_cls ad0 cA0 lay A) A) args s 0 0 A)) (mz_qv lay Q) (I_Mk_openDoor w h) := by
  obtain ⟨hx, hb, hml, hown, hts, hr, hlk⟩ := F
  unfold I_Mk_openDoor
  refine mz_All.cons (sd_aload_n hx hb (mz_dg d_Mk_openDoor 0 0 (.aload_n 0) 1 rfl) rfl) ?_
  refine mz_All.cons (sd_get (k := 0) hx hb hts (mz_inC in_Mk) hown (T := T_Mk) (N := 7) rfl (by decide) (hts (.fieldLink "MazeForms$Maker" 9 "MazeForms$Maker" "grid" "LMazeForms$Grid;") (List.mem_cons_of_mem _ wm_229)) (fun _ h => h) (mz_dg d_Mk_openDoor 1 1 (.getfield 9) 3 rfl)) ?_
  refine mz_All.cons (sd_iload_n hx hb (mz_dg d_Mk_openDoor 2 4 (.iload_n 1) 1 rfl) rfl) ?_
  refine mz_All.cons (sd_iconst hx hb (mz_dg d_Mk_openDoor 3 5 (.iconst (1)) 1 rfl) (by decide)) ?_
  refine mz_All.cons (sd_calli (T := T_Gr) ⟨hx, hb, hml, hown, hts⟩ (met_Gr_setDoor w h l) (cwV 2 hts (mz_gV wm_413 wm_414 wm_415 wm_67 wm_416) rfl rfl rfl (by decide) ⟨by decide, by decide⟩) rfl hA rfl (mz_dg d_Mk_openDoor 4 6 (.invokevirtual 94) 3 rfl)) ?_
  refine mz_All.cons (sd_if_eq hx hb (mz_dg d_Mk_openDoor 5 9 (.ifCond .eq (13)) 3 rfl) (by decide)) ?_
  refine mz_All.cons (sd_aload_n hx hb (mz_dg d_Mk_openDoor 6 12 (.aload_n 0) 1 rfl) rfl) ?_
  refine mz_All.cons (sd_dup hx hb (mz_dg d_Mk_openDoor 7 13 (.dup) 1 rfl)) ?_
  refine mz_All.cons (sd_get (k := 6) hx hb hts (mz_inC in_Mk) hown (T := T_Mk) (N := 7) rfl (by decide) (hts (.fieldLink "MazeForms$Maker" 52 "MazeForms$Maker" "opened" "I") (List.mem_cons_of_mem _ wm_235)) (fun _ h => h) (mz_dg d_Mk_openDoor 8 14 (.getfield 52) 3 rfl)) ?_
  refine mz_All.cons (sd_iconst hx hb (mz_dg d_Mk_openDoor 9 17 (.iconst (1)) 1 rfl) (by decide)) ?_
  refine mz_All.cons (sd_iadd hx hb (mz_dg d_Mk_openDoor 10 18 (.iadd) 1 rfl)) ?_
  refine mz_All.cons (sd_puti (k := 6) hx hb hts (mz_inC in_Mk) ty_Mk ty_Mk_ok nm_Mk hown (T := T_Mk) (N := 7) rfl (by decide) (hts (.fieldLink "MazeForms$Maker" 52 "MazeForms$Maker" "opened" "I") (List.mem_cons_of_mem _ wm_235)) (fun _ h => h) rfl rfl (mz_dg d_Mk_openDoor 11 19 (.putfield 52) 3 rfl)) ?_
  refine mz_All.cons (sd_rv hx hb hr hlk (mz_dg d_Mk_openDoor 12 22 (.return_) 1 rfl)) ?_
  exact trivial
theorem met_Mk_openDoor (w h : Nat) (l : Launch) : mz_MV l y_Mk_openDoor w_Mk_openDoor 2 43 mz_cls (C_Mk_openDoor w h) := mz_MV_of (I_Mk_openDoor w h) (by decide) rfl (len_Mk_openDoor w h) (ok_Mk_openDoor w h) (snd_Mk_openDoor w h l)
set_option maxRecDepth 20000 in
theorem snd_Mk_enter (w h : Nat) (l : Launch) (p : Program) (e : Env) (s : State) (m : MethodId) (args : Array Value) (below : List Frame) (meth : Method) (c : Code) (D : va_G) (ad0 : Nat → Nat) (cA0 : Nat → ClassId) (A : Nat → Prop) (lay : List mz_E) (Q : mz_X → Prop) (F : mz_F p s m args meth c prog_7_method_6_code 2 y_Mk_enter.cls none w_Mk_enter) (hA : ∀ q, s.heap.size ≤ q → A q) : mz_All (mz_V p l e (mz_rm 1 21) s m args below meth c 2 lay.length (mz_sz lay) D mz_cls (mz_G0 ad0 cA0) A (MQ below (va_Qv Q (mz_B D mz_cls ad0 cA0 lay A) A) args s 0 0 A)) (mz_qv lay Q) (I_Mk_enter w h) := by
  obtain ⟨hx, hb, hml, hown, hts, hr, hlk⟩ := F
  unfold I_Mk_enter
  refine mz_All.cons (sd_aload_n hx hb (mz_dg d_Mk_enter 0 0 (.aload_n 0) 1 rfl) rfl) ?_
  refine mz_All.cons (sd_get (k := 0) hx hb hts (mz_inC in_Mk) hown (T := T_Mk) (N := 7) rfl (by decide) (hts (.fieldLink "MazeForms$Maker" 9 "MazeForms$Maker" "grid" "LMazeForms$Grid;") (List.mem_cons_of_mem _ wm_229)) (fun _ h => h) (mz_dg d_Mk_enter 1 1 (.getfield 9) 3 rfl)) ?_
  refine mz_All.cons (sd_iload_n hx hb (mz_dg d_Mk_enter 2 4 (.iload_n 1) 1 rfl) rfl) ?_
  refine mz_All.cons (sd_calli (T := T_Gr) ⟨hx, hb, hml, hown, hts⟩ (met_Gr_isCell w h l) (cwV 1 hts (mz_gV wm_362 wm_121 wm_122 wm_67 wm_123) rfl rfl rfl (by decide) ⟨by decide, by decide⟩) rfl hA rfl (mz_dg d_Mk_enter 3 5 (.invokevirtual 101) 3 rfl)) ?_
  refine mz_All.cons (sd_if_eq hx hb (mz_dg d_Mk_enter 4 8 (.ifCond .eq (10)) 3 rfl) (by decide)) ?_
  refine mz_All.cons (sd_aload_n hx hb (mz_dg d_Mk_enter 5 11 (.aload_n 0) 1 rfl) rfl) ?_
  refine mz_All.cons (sd_get (k := 4) hx hb hts (mz_inC in_Mk) hown (T := T_Mk) (N := 7) rfl (by decide) (hts (.fieldLink "MazeForms$Maker" 41 "MazeForms$Maker" "reached" "[Z") (List.mem_cons_of_mem _ wm_233)) (fun _ h => h) (mz_dg d_Mk_enter 6 12 (.getfield 41) 3 rfl)) ?_
  refine mz_All.cons (sd_iload_n hx hb (mz_dg d_Mk_enter 7 15 (.iload_n 1) 1 rfl) rfl) ?_
  refine mz_All.cons (sd_iconst hx hb (mz_dg d_Mk_enter 8 16 (.iconst (1)) 1 rfl) (by decide)) ?_
  refine mz_All.cons (sd_zast hx hb (mz_dg d_Mk_enter 9 17 (.bastore) 1 rfl)) ?_
  refine mz_All.cons (sd_rv hx hb hr hlk (mz_dg d_Mk_enter 10 18 (.return_) 1 rfl)) ?_
  exact trivial
theorem met_Mk_enter (w h : Nat) (l : Launch) : mz_MV l y_Mk_enter w_Mk_enter 1 21 mz_cls (C_Mk_enter w h) := mz_MV_of (I_Mk_enter w h) (by decide) rfl (len_Mk_enter w h) (ok_Mk_enter w h) (snd_Mk_enter w h l)
set_option maxRecDepth 20000 in
theorem snd_Mk_begin (w h : Nat) (l : Launch) (p : Program) (e : Env) (s : State) (m : MethodId) (args : Array Value) (below : List Frame) (meth : Method) (c : Code) (D : va_G) (ad0 : Nat → Nat) (cA0 : Nat → ClassId) (A : Nat → Prop) (lay : List mz_E) (Q : mz_X → Prop) (F : mz_F p s m args meth c prog_7_method_5_code 3 y_Mk_begin.cls none w_Mk_begin) (hA : ∀ q, s.heap.size ≤ q → A q) : mz_All (mz_V p l e (mz_rm 2 42) s m args below meth c 3 lay.length (mz_sz lay) D mz_cls (mz_G0 ad0 cA0) A (MQ below (va_Qv Q (mz_B D mz_cls ad0 cA0 lay A) A) args s 0 0 A)) (mz_qv lay Q) (I_Mk_begin w h) := by
  obtain ⟨hx, hb, hml, hown, hts, hr, hlk⟩ := F
  unfold I_Mk_begin
  refine mz_All.cons (sd_iconst hx hb (mz_dg d_Mk_begin 0 0 (.iconst (0)) 1 rfl) (by decide)) ?_
  refine mz_All.cons (sd_istore_n hx hb (mz_dg d_Mk_begin 1 1 (.istore_n 2) 1 rfl) rfl (by decide)) ?_
  refine mz_All.cons (sd_iload_n hx hb (mz_dg d_Mk_begin 2 2 (.iload_n 2) 1 rfl) rfl) ?_
  refine mz_All.cons (sd_aload_n hx hb (mz_dg d_Mk_begin 3 3 (.aload_n 0) 1 rfl) rfl) ?_
  refine mz_All.cons (sd_get (k := 4) hx hb hts (mz_inC in_Mk) hown (T := T_Mk) (N := 7) rfl (by decide) (hts (.fieldLink "MazeForms$Maker" 41 "MazeForms$Maker" "reached" "[Z") (List.mem_cons_of_mem _ wm_233)) (fun _ h => h) (mz_dg d_Mk_begin 4 4 (.getfield 41) 3 rfl)) ?_
  refine mz_All.cons (sd_alen hx hb (mz_dg d_Mk_begin 5 7 (.arraylength) 1 rfl)) ?_
  refine mz_All.cons (sd_icmp_ge hx hb (mz_dg d_Mk_begin 6 8 (.if_icmp .ge (23)) 3 rfl) (by decide)) ?_
  refine mz_All.cons (sd_aload_n hx hb (mz_dg d_Mk_begin 7 11 (.aload_n 0) 1 rfl) rfl) ?_
  refine mz_All.cons (sd_get (k := 4) hx hb hts (mz_inC in_Mk) hown (T := T_Mk) (N := 7) rfl (by decide) (hts (.fieldLink "MazeForms$Maker" 41 "MazeForms$Maker" "reached" "[Z") (List.mem_cons_of_mem _ wm_233)) (fun _ h => h) (mz_dg d_Mk_begin 8 12 (.getfield 41) 3 rfl)) ?_
  refine mz_All.cons (sd_iload_n hx hb (mz_dg d_Mk_begin 9 15 (.iload_n 2) 1 rfl) rfl) ?_
  refine mz_All.cons (sd_iconst hx hb (mz_dg d_Mk_begin 10 16 (.iconst (0)) 1 rfl) (by decide)) ?_
  refine mz_All.cons (sd_zast hx hb (mz_dg d_Mk_begin 11 17 (.bastore) 1 rfl)) ?_
  refine mz_All.cons (sd_aload_n hx hb (mz_dg d_Mk_begin 12 18 (.aload_n 0) 1 rfl) rfl) ?_
  refine mz_All.cons (sd_get (k := 5) hx hb hts (mz_inC in_Mk) hown (T := T_Mk) (N := 7) rfl (by decide) (hts (.fieldLink "MazeForms$Maker" 45 "MazeForms$Maker" "trace" "[I") (List.mem_cons_of_mem _ wm_234)) (fun _ h => h) (mz_dg d_Mk_begin 13 19 (.getfield 45) 3 rfl)) ?_
  refine mz_All.cons (sd_iload_n hx hb (mz_dg d_Mk_begin 14 22 (.iload_n 2) 1 rfl) rfl) ?_
  refine mz_All.cons (sd_iconst hx hb (mz_dg d_Mk_begin 15 23 (.iconst (-1)) 1 rfl) (by decide)) ?_
  refine mz_All.cons (sd_iast hx hb (mz_dg d_Mk_begin 16 24 (.iastore) 1 rfl)) ?_
  refine mz_All.cons (sd_iinc hx hb (mz_dg d_Mk_begin 17 25 (.iinc 2 (1)) 3 rfl) (by decide) (by decide)) ?_
  refine mz_All.cons (sd_goto hx hb (mz_dg d_Mk_begin 18 28 (.goto (-26)) 3 rfl) (by decide)) ?_
  refine mz_All.cons (sd_aload_n hx hb (mz_dg d_Mk_begin 19 31 (.aload_n 0) 1 rfl) rfl) ?_
  refine mz_All.cons (sd_iload_n hx hb (mz_dg d_Mk_begin 20 32 (.iload_n 1) 1 rfl) rfl) ?_
  refine mz_All.cons (sd_callv (T := T_Mk) ⟨hx, hb, hml, hown, hts⟩ (met_Mk_enter w h l) (cwV 1 hts (mz_gV wm_358 wm_360 wm_4 wm_72 wm_361) rfl rfl rfl (by decide) ⟨by decide, by decide⟩) rfl hA rfl (mz_dg d_Mk_begin 21 33 (.invokevirtual 98) 3 rfl)) ?_
  refine mz_All.cons (sd_rv hx hb hr hlk (mz_dg d_Mk_begin 22 36 (.return_) 1 rfl)) ?_
  exact trivial
theorem met_Mk_begin (w h : Nat) (l : Launch) : mz_MV l y_Mk_begin w_Mk_begin 2 42 mz_cls (C_Mk_begin w h) := mz_MV_of (I_Mk_begin w h) (by decide) rfl (len_Mk_begin w h) (ok_Mk_begin w h) (snd_Mk_begin w h l)
set_option maxRecDepth 20000 in
theorem snd_Mk_isReached (w h : Nat) (l : Launch) (p : Program) (e : Env) (s : State) (m : MethodId) (args : Array Value) (below : List Frame) (meth : Method) (c : Code) (D : va_G) (ad0 : Nat → Nat) (cA0 : Nat → ClassId) (A : Nat → Prop) (lay : List mz_E) (Q : Int32 → mz_X → Prop) (F : mz_F p s m args meth c prog_7_method_7_code 2 y_Mk_isReached.cls (some .boolean) w_Mk_isReached) (hA : ∀ q, s.heap.size ≤ q → A q) : mz_All (mz_V p l e (mz_rm 1 21) s m args below meth c 2 lay.length (mz_sz lay) D mz_cls (mz_G0 ad0 cA0) A (MQ below (va_Qi Q (mz_B D mz_cls ad0 cA0 lay A) A) args s 0 0 A)) (mz_qi lay Q) (I_Mk_isReached w h) := by
  obtain ⟨hx, hb, hml, hown, hts, hr, hlk⟩ := F
  unfold I_Mk_isReached
  refine mz_All.cons (sd_aload_n hx hb (mz_dg d_Mk_isReached 0 0 (.aload_n 0) 1 rfl) rfl) ?_
  refine mz_All.cons (sd_get (k := 0) hx hb hts (mz_inC in_Mk) hown (T := T_Mk) (N := 7) rfl (by decide) (hts (.fieldLink "MazeForms$Maker" 9 "MazeForms$Maker" "grid" "LMazeForms$Grid;") (List.mem_cons_of_mem _ wm_229)) (fun _ h => h) (mz_dg d_Mk_isReached 1 1 (.getfield 9) 3 rfl)) ?_
  refine mz_All.cons (sd_iload_n hx hb (mz_dg d_Mk_isReached 2 4 (.iload_n 1) 1 rfl) rfl) ?_
  refine mz_All.cons (sd_calli (T := T_Gr) ⟨hx, hb, hml, hown, hts⟩ (met_Gr_isCell w h l) (cwV 1 hts (mz_gV wm_362 wm_121 wm_122 wm_67 wm_123) rfl rfl rfl (by decide) ⟨by decide, by decide⟩) rfl hA rfl (mz_dg d_Mk_isReached 3 5 (.invokevirtual 101) 3 rfl)) ?_
  refine mz_All.cons (sd_if_eq hx hb (mz_dg d_Mk_isReached 4 8 (.ifCond .eq (16)) 3 rfl) (by decide)) ?_
  refine mz_All.cons (sd_aload_n hx hb (mz_dg d_Mk_isReached 5 11 (.aload_n 0) 1 rfl) rfl) ?_
  refine mz_All.cons (sd_get (k := 4) hx hb hts (mz_inC in_Mk) hown (T := T_Mk) (N := 7) rfl (by decide) (hts (.fieldLink "MazeForms$Maker" 41 "MazeForms$Maker" "reached" "[Z") (List.mem_cons_of_mem _ wm_233)) (fun _ h => h) (mz_dg d_Mk_isReached 6 12 (.getfield 41) 3 rfl)) ?_
  refine mz_All.cons (sd_iload_n hx hb (mz_dg d_Mk_isReached 7 15 (.iload_n 1) 1 rfl) rfl) ?_
  refine mz_All.cons (sd_zald hx hb (mz_dg d_Mk_isReached 8 16 (.baload) 1 rfl)) ?_
  refine mz_All.cons (sd_if_eq hx hb (mz_dg d_Mk_isReached 9 17 (.ifCond .eq (7)) 3 rfl) (by decide)) ?_
  refine mz_All.cons (sd_iconst hx hb (mz_dg d_Mk_isReached 10 20 (.iconst (1)) 1 rfl) (by decide)) ?_
  refine mz_All.cons (sd_goto hx hb (mz_dg d_Mk_isReached 11 21 (.goto (4)) 3 rfl) (by decide)) ?_
  refine mz_All.cons (sd_iconst hx hb (mz_dg d_Mk_isReached 12 24 (.iconst (0)) 1 rfl) (by decide)) ?_
  refine mz_All.cons (sd_rz hx hb hr hlk (mz_dg d_Mk_isReached 13 25 (.ireturn) 1 rfl)) ?_
  exact trivial
theorem met_Mk_isReached (w h : Nat) (l : Launch) : mz_MI l y_Mk_isReached w_Mk_isReached 1 21 mz_cls (C_Mk_isReached w h) := mz_MI_of (I_Mk_isReached w h) (by decide) rfl (len_Mk_isReached w h) (ok_Mk_isReached w h) (snd_Mk_isReached w h l)
set_option maxRecDepth 20000 in
theorem snd_Mk_traceOf (w h : Nat) (l : Launch) (p : Program) (e : Env) (s : State) (m : MethodId) (args : Array Value) (below : List Frame) (meth : Method) (c : Code) (D : va_G) (ad0 : Nat → Nat) (cA0 : Nat → ClassId) (A : Nat → Prop) (lay : List mz_E) (Q : Int32 → mz_X → Prop) (F : mz_F p s m args meth c prog_7_method_8_code 2 y_Mk_traceOf.cls (some .int) w_Mk_traceOf) (hA : ∀ q, s.heap.size ≤ q → A q) : mz_All (mz_V p l e (mz_rm 1 21) s m args below meth c 2 lay.length (mz_sz lay) D mz_cls (mz_G0 ad0 cA0) A (MQ below (va_Qi Q (mz_B D mz_cls ad0 cA0 lay A) A) args s 0 0 A)) (mz_qi lay Q) (I_Mk_traceOf w h) := by
  obtain ⟨hx, hb, hml, hown, hts, hr, hlk⟩ := F
  unfold I_Mk_traceOf
  refine mz_All.cons (sd_aload_n hx hb (mz_dg d_Mk_traceOf 0 0 (.aload_n 0) 1 rfl) rfl) ?_
  refine mz_All.cons (sd_get (k := 0) hx hb hts (mz_inC in_Mk) hown (T := T_Mk) (N := 7) rfl (by decide) (hts (.fieldLink "MazeForms$Maker" 9 "MazeForms$Maker" "grid" "LMazeForms$Grid;") (List.mem_cons_of_mem _ wm_229)) (fun _ h => h) (mz_dg d_Mk_traceOf 1 1 (.getfield 9) 3 rfl)) ?_
  refine mz_All.cons (sd_iload_n hx hb (mz_dg d_Mk_traceOf 2 4 (.iload_n 1) 1 rfl) rfl) ?_
  refine mz_All.cons (sd_calli (T := T_Gr) ⟨hx, hb, hml, hown, hts⟩ (met_Gr_isCell w h l) (cwV 1 hts (mz_gV wm_362 wm_121 wm_122 wm_67 wm_123) rfl rfl rfl (by decide) ⟨by decide, by decide⟩) rfl hA rfl (mz_dg d_Mk_traceOf 3 5 (.invokevirtual 101) 3 rfl)) ?_
  refine mz_All.cons (sd_if_eq hx hb (mz_dg d_Mk_traceOf 4 8 (.ifCond .eq (12)) 3 rfl) (by decide)) ?_
  refine mz_All.cons (sd_aload_n hx hb (mz_dg d_Mk_traceOf 5 11 (.aload_n 0) 1 rfl) rfl) ?_
  refine mz_All.cons (sd_get (k := 5) hx hb hts (mz_inC in_Mk) hown (T := T_Mk) (N := 7) rfl (by decide) (hts (.fieldLink "MazeForms$Maker" 45 "MazeForms$Maker" "trace" "[I") (List.mem_cons_of_mem _ wm_234)) (fun _ h => h) (mz_dg d_Mk_traceOf 6 12 (.getfield 45) 3 rfl)) ?_
  refine mz_All.cons (sd_iload_n hx hb (mz_dg d_Mk_traceOf 7 15 (.iload_n 1) 1 rfl) rfl) ?_
  refine mz_All.cons (sd_iald hx hb (mz_dg d_Mk_traceOf 8 16 (.iaload) 1 rfl)) ?_
  refine mz_All.cons (sd_goto hx hb (mz_dg d_Mk_traceOf 9 17 (.goto (4)) 3 rfl) (by decide)) ?_
  refine mz_All.cons (sd_iconst hx hb (mz_dg d_Mk_traceOf 10 20 (.iconst (-1)) 1 rfl) (by decide)) ?_
  refine mz_All.cons (sd_ri hx hb hr hlk (mz_dg d_Mk_traceOf 11 21 (.ireturn) 1 rfl)) ?_
  exact trivial
theorem met_Mk_traceOf (w h : Nat) (l : Launch) : mz_MI l y_Mk_traceOf w_Mk_traceOf 1 21 mz_cls (C_Mk_traceOf w h) := mz_MI_of (I_Mk_traceOf w h) (by decide) rfl (len_Mk_traceOf w h) (ok_Mk_traceOf w h) (snd_Mk_traceOf w h l)
set_option maxRecDepth 20000 in
theorem snd_Mk_setTrace (w h : Nat) (l : Launch) (p : Program) (e : Env) (s : State) (m : MethodId) (args : Array Value) (below : List Frame) (meth : Method) (c : Code) (D : va_G) (ad0 : Nat → Nat) (cA0 : Nat → ClassId) (A : Nat → Prop) (lay : List mz_E) (Q : mz_X → Prop) (F : mz_F p s m args meth c prog_7_method_9_code 3 y_Mk_setTrace.cls none w_Mk_setTrace) (hA : ∀ q, s.heap.size ≤ q → A q) : mz_All (mz_V p l e (mz_rm 1 21) s m args below meth c 3 lay.length (mz_sz lay) D mz_cls (mz_G0 ad0 cA0) A (MQ below (va_Qv Q (mz_B D mz_cls ad0 cA0 lay A) A) args s 0 0 A)) (mz_qv lay Q) (I_Mk_setTrace w h) := by
  obtain ⟨hx, hb, hml, hown, hts, hr, hlk⟩ := F
  unfold I_Mk_setTrace
  refine mz_All.cons (sd_aload_n hx hb (mz_dg d_Mk_setTrace 0 0 (.aload_n 0) 1 rfl) rfl) ?_
  refine mz_All.cons (sd_get (k := 0) hx hb hts (mz_inC in_Mk) hown (T := T_Mk) (N := 7) rfl (by decide) (hts (.fieldLink "MazeForms$Maker" 9 "MazeForms$Maker" "grid" "LMazeForms$Grid;") (List.mem_cons_of_mem _ wm_229)) (fun _ h => h) (mz_dg d_Mk_setTrace 1 1 (.getfield 9) 3 rfl)) ?_
  refine mz_All.cons (sd_iload_n hx hb (mz_dg d_Mk_setTrace 2 4 (.iload_n 1) 1 rfl) rfl) ?_
  refine mz_All.cons (sd_calli (T := T_Gr) ⟨hx, hb, hml, hown, hts⟩ (met_Gr_isCell w h l) (cwV 1 hts (mz_gV wm_362 wm_121 wm_122 wm_67 wm_123) rfl rfl rfl (by decide) ⟨by decide, by decide⟩) rfl hA rfl (mz_dg d_Mk_setTrace 3 5 (.invokevirtual 101) 3 rfl)) ?_
  refine mz_All.cons (sd_if_eq hx hb (mz_dg d_Mk_setTrace 4 8 (.ifCond .eq (10)) 3 rfl) (by decide)) ?_
  refine mz_All.cons (sd_aload_n hx hb (mz_dg d_Mk_setTrace 5 11 (.aload_n 0) 1 rfl) rfl) ?_
  refine mz_All.cons (sd_get (k := 5) hx hb hts (mz_inC in_Mk) hown (T := T_Mk) (N := 7) rfl (by decide) (hts (.fieldLink "MazeForms$Maker" 45 "MazeForms$Maker" "trace" "[I") (List.mem_cons_of_mem _ wm_234)) (fun _ h => h) (mz_dg d_Mk_setTrace 6 12 (.getfield 45) 3 rfl)) ?_
  refine mz_All.cons (sd_iload_n hx hb (mz_dg d_Mk_setTrace 7 15 (.iload_n 1) 1 rfl) rfl) ?_
  refine mz_All.cons (sd_iload_n hx hb (mz_dg d_Mk_setTrace 8 16 (.iload_n 2) 1 rfl) rfl) ?_
  refine mz_All.cons (sd_iast hx hb (mz_dg d_Mk_setTrace 9 17 (.iastore) 1 rfl)) ?_
  refine mz_All.cons (sd_rv hx hb hr hlk (mz_dg d_Mk_setTrace 10 18 (.return_) 1 rfl)) ?_
  exact trivial
theorem met_Mk_setTrace (w h : Nat) (l : Launch) : mz_MV l y_Mk_setTrace w_Mk_setTrace 1 21 mz_cls (C_Mk_setTrace w h) := mz_MV_of (I_Mk_setTrace w h) (by decide) rfl (len_Mk_setTrace w h) (ok_Mk_setTrace w h) (snd_Mk_setTrace w h l)
set_option maxRecDepth 20000 in
theorem snd_Mk_offerUnreached (w h : Nat) (l : Launch) (p : Program) (e : Env) (s : State) (m : MethodId) (args : Array Value) (below : List Frame) (meth : Method) (c : Code) (D : va_G) (ad0 : Nat → Nat) (cA0 : Nat → ClassId) (A : Nat → Prop) (lay : List mz_E) (Q : mz_X → Prop) (F : mz_F p s m args meth c prog_7_method_11_code 4 y_Mk_offerUnreached.cls none w_Mk_offerUnreached) (hA : ∀ q, s.heap.size ≤ q → A q) : mz_All (mz_V p l e (mz_rm 2 44) s m args below meth c 4 lay.length (mz_sz lay) D mz_cls (mz_G0 ad0 cA0) A (MQ below (va_Qv Q (mz_B D mz_cls ad0 cA0 lay A) A) args s 0 0 A)) (mz_qv lay Q) (I_Mk_offerUnreached w h) := by
  obtain ⟨hx, hb, hml, hown, hts, hr, hlk⟩ := F
  unfold I_Mk_offerUnreached
  refine mz_All.cons (sd_aload_n hx hb (mz_dg d_Mk_offerUnreached 0 0 (.aload_n 0) 1 rfl) rfl) ?_
  refine mz_All.cons (sd_get (k := 3) hx hb hts (mz_inC in_Mk) hown (T := T_Mk) (N := 7) rfl (by decide) (hts (.fieldLink "MazeForms$Maker" 34 "MazeForms$Maker" "choice" "LMazeForms$DoorRow;") (List.mem_cons_of_mem _ wm_232)) (fun _ h => h) (mz_dg d_Mk_offerUnreached 1 1 (.getfield 34) 3 rfl)) ?_
  refine mz_All.cons (sd_callv (T := T_Dr) ⟨hx, hb, hml, hown, hts⟩ (met_Dr_clear w h l) (cwV 0 hts (mz_gV wm_367 wm_368 wm_369 wm_74 wm_370) rfl rfl rfl (by decide) ⟨by decide, by decide⟩) rfl hA rfl (mz_dg d_Mk_offerUnreached 2 4 (.invokevirtual 71) 3 rfl)) ?_
  refine mz_All.cons (sd_iconst hx hb (mz_dg d_Mk_offerUnreached 3 7 (.iconst (0)) 1 rfl) (by decide)) ?_
  refine mz_All.cons (sd_istore_n hx hb (mz_dg d_Mk_offerUnreached 4 8 (.istore_n 2) 1 rfl) rfl (by decide)) ?_
  refine mz_All.cons (sd_iload_n hx hb (mz_dg d_Mk_offerUnreached 5 9 (.iload_n 2) 1 rfl) rfl) ?_
  refine mz_All.cons (sd_iconst hx hb (mz_dg d_Mk_offerUnreached 6 10 (.iconst (4)) 1 rfl) (by decide)) ?_
  refine mz_All.cons (sd_icmp_ge hx hb (mz_dg d_Mk_offerUnreached 7 11 (.if_icmp .ge (48)) 3 rfl) (by decide)) ?_
  refine mz_All.cons (sd_aload_n hx hb (mz_dg d_Mk_offerUnreached 8 14 (.aload_n 0) 1 rfl) rfl) ?_
  refine mz_All.cons (sd_get (k := 0) hx hb hts (mz_inC in_Mk) hown (T := T_Mk) (N := 7) rfl (by decide) (hts (.fieldLink "MazeForms$Maker" 9 "MazeForms$Maker" "grid" "LMazeForms$Grid;") (List.mem_cons_of_mem _ wm_229)) (fun _ h => h) (mz_dg d_Mk_offerUnreached 9 15 (.getfield 9) 3 rfl)) ?_
  refine mz_All.cons (sd_iload_n hx hb (mz_dg d_Mk_offerUnreached 10 18 (.iload_n 1) 1 rfl) rfl) ?_
  refine mz_All.cons (sd_iload_n hx hb (mz_dg d_Mk_offerUnreached 11 19 (.iload_n 2) 1 rfl) rfl) ?_
  refine mz_All.cons (sd_calli (T := T_Gr) ⟨hx, hb, hml, hown, hts⟩ (met_Gr_doorOn w h l) (cwV 2 hts (mz_gV wm_371 wm_372 wm_373 wm_67 wm_374) rfl rfl rfl (by decide) ⟨by decide, by decide⟩) rfl hA rfl (mz_dg d_Mk_offerUnreached 12 20 (.invokevirtual 125) 3 rfl)) ?_
  refine mz_All.cons (sd_istore_n hx hb (mz_dg d_Mk_offerUnreached 13 23 (.istore_n 3) 1 rfl) rfl (by decide)) ?_
  refine mz_All.cons (sd_iload_n hx hb (mz_dg d_Mk_offerUnreached 14 24 (.iload_n 3) 1 rfl) rfl) ?_
  refine mz_All.cons (sd_iconst hx hb (mz_dg d_Mk_offerUnreached 15 25 (.iconst (-1)) 1 rfl) (by decide)) ?_
  refine mz_All.cons (sd_icmp_eq hx hb (mz_dg d_Mk_offerUnreached 16 26 (.if_icmp .eq (27)) 3 rfl) (by decide)) ?_
  refine mz_All.cons (sd_aload_n hx hb (mz_dg d_Mk_offerUnreached 17 29 (.aload_n 0) 1 rfl) rfl) ?_
  refine mz_All.cons (sd_aload_n hx hb (mz_dg d_Mk_offerUnreached 18 30 (.aload_n 0) 1 rfl) rfl) ?_
  refine mz_All.cons (sd_get (k := 0) hx hb hts (mz_inC in_Mk) hown (T := T_Mk) (N := 7) rfl (by decide) (hts (.fieldLink "MazeForms$Maker" 9 "MazeForms$Maker" "grid" "LMazeForms$Grid;") (List.mem_cons_of_mem _ wm_229)) (fun _ h => h) (mz_dg d_Mk_offerUnreached 19 31 (.getfield 9) 3 rfl)) ?_
  refine mz_All.cons (sd_iload_n hx hb (mz_dg d_Mk_offerUnreached 20 34 (.iload_n 3) 1 rfl) rfl) ?_
  refine mz_All.cons (sd_iload_n hx hb (mz_dg d_Mk_offerUnreached 21 35 (.iload_n 1) 1 rfl) rfl) ?_
  refine mz_All.cons (sd_calli (T := T_Gr) ⟨hx, hb, hml, hown, hts⟩ (met_Gr_otherCell w h l) (cwV 2 hts (mz_gV wm_375 wm_376 wm_377 wm_67 wm_378) rfl rfl rfl (by decide) ⟨by decide, by decide⟩) rfl hA rfl (mz_dg d_Mk_offerUnreached 22 36 (.invokevirtual 117) 3 rfl)) ?_
  refine mz_All.cons (sd_calli (T := T_Mk) ⟨hx, hb, hml, hown, hts⟩ (met_Mk_isReached w h l) (cwV 1 hts (mz_gV wm_383 wm_385 wm_6 wm_72 wm_386) rfl rfl rfl (by decide) ⟨by decide, by decide⟩) rfl hA rfl (mz_dg d_Mk_offerUnreached 23 39 (.invokevirtual 128) 3 rfl)) ?_
  refine mz_All.cons (sd_if_ne hx hb (mz_dg d_Mk_offerUnreached 24 42 (.ifCond .ne (11)) 3 rfl) (by decide)) ?_
  refine mz_All.cons (sd_aload_n hx hb (mz_dg d_Mk_offerUnreached 25 45 (.aload_n 0) 1 rfl) rfl) ?_
  refine mz_All.cons (sd_get (k := 3) hx hb hts (mz_inC in_Mk) hown (T := T_Mk) (N := 7) rfl (by decide) (hts (.fieldLink "MazeForms$Maker" 34 "MazeForms$Maker" "choice" "LMazeForms$DoorRow;") (List.mem_cons_of_mem _ wm_232)) (fun _ h => h) (mz_dg d_Mk_offerUnreached 26 46 (.getfield 34) 3 rfl)) ?_
  refine mz_All.cons (sd_iload_n hx hb (mz_dg d_Mk_offerUnreached 27 49 (.iload_n 3) 1 rfl) rfl) ?_
  refine mz_All.cons (sd_callv (T := T_Dr) ⟨hx, hb, hml, hown, hts⟩ (met_Dr_add w h l) (cwV 1 hts (mz_gV wm_387 wm_388 wm_389 wm_74 wm_390) rfl rfl rfl (by decide) ⟨by decide, by decide⟩) rfl hA rfl (mz_dg d_Mk_offerUnreached 28 50 (.invokevirtual 81) 3 rfl)) ?_
  refine mz_All.cons (sd_iinc hx hb (mz_dg d_Mk_offerUnreached 29 53 (.iinc 2 (1)) 3 rfl) (by decide) (by decide)) ?_
  refine mz_All.cons (sd_goto hx hb (mz_dg d_Mk_offerUnreached 30 56 (.goto (-47)) 3 rfl) (by decide)) ?_
  refine mz_All.cons (sd_rv hx hb hr hlk (mz_dg d_Mk_offerUnreached 31 59 (.return_) 1 rfl)) ?_
  exact trivial
theorem met_Mk_offerUnreached (w h : Nat) (l : Launch) : mz_MV l y_Mk_offerUnreached w_Mk_offerUnreached 2 44 mz_cls (C_Mk_offerUnreached w h) := mz_MV_of (I_Mk_offerUnreached w h) (by decide) rfl (len_Mk_offerUnreached w h) (ok_Mk_offerUnreached w h) (snd_Mk_offerUnreached w h l)
set_option maxRecDepth 20000 in
theorem snd_Mk_offerAll (w h : Nat) (l : Launch) (p : Program) (e : Env) (s : State) (m : MethodId) (args : Array Value) (below : List Frame) (meth : Method) (c : Code) (D : va_G) (ad0 : Nat → Nat) (cA0 : Nat → ClassId) (A : Nat → Prop) (lay : List mz_E) (Q : mz_X → Prop) (F : mz_F p s m args meth c prog_7_method_17_code 3 y_Mk_offerAll.cls none w_Mk_offerAll) (hA : ∀ q, s.heap.size ≤ q → A q) : mz_All (mz_V p l e (mz_rm 2 44) s m args below meth c 3 lay.length (mz_sz lay) D mz_cls (mz_G0 ad0 cA0) A (MQ below (va_Qv Q (mz_B D mz_cls ad0 cA0 lay A) A) args s 0 0 A)) (mz_qv lay Q) (I_Mk_offerAll w h) := by
  obtain ⟨hx, hb, hml, hown, hts, hr, hlk⟩ := F
  unfold I_Mk_offerAll
  refine mz_All.cons (sd_aload_n hx hb (mz_dg d_Mk_offerAll 0 0 (.aload_n 0) 1 rfl) rfl) ?_
  refine mz_All.cons (sd_get (k := 3) hx hb hts (mz_inC in_Mk) hown (T := T_Mk) (N := 7) rfl (by decide) (hts (.fieldLink "MazeForms$Maker" 34 "MazeForms$Maker" "choice" "LMazeForms$DoorRow;") (List.mem_cons_of_mem _ wm_232)) (fun _ h => h) (mz_dg d_Mk_offerAll 1 1 (.getfield 34) 3 rfl)) ?_
  refine mz_All.cons (sd_callv (T := T_Dr) ⟨hx, hb, hml, hown, hts⟩ (met_Dr_clear w h l) (cwV 0 hts (mz_gV wm_367 wm_368 wm_369 wm_74 wm_370) rfl rfl rfl (by decide) ⟨by decide, by decide⟩) rfl hA rfl (mz_dg d_Mk_offerAll 2 4 (.invokevirtual 71) 3 rfl)) ?_
  refine mz_All.cons (sd_iconst hx hb (mz_dg d_Mk_offerAll 3 7 (.iconst (0)) 1 rfl) (by decide)) ?_
  refine mz_All.cons (sd_istore_n hx hb (mz_dg d_Mk_offerAll 4 8 (.istore_n 2) 1 rfl) rfl (by decide)) ?_
  refine mz_All.cons (sd_iload_n hx hb (mz_dg d_Mk_offerAll 5 9 (.iload_n 2) 1 rfl) rfl) ?_
  refine mz_All.cons (sd_iconst hx hb (mz_dg d_Mk_offerAll 6 10 (.iconst (4)) 1 rfl) (by decide)) ?_
  refine mz_All.cons (sd_icmp_ge hx hb (mz_dg d_Mk_offerAll 7 11 (.if_icmp .ge (25)) 3 rfl) (by decide)) ?_
  refine mz_All.cons (sd_aload_n hx hb (mz_dg d_Mk_offerAll 8 14 (.aload_n 0) 1 rfl) rfl) ?_
  refine mz_All.cons (sd_get (k := 3) hx hb hts (mz_inC in_Mk) hown (T := T_Mk) (N := 7) rfl (by decide) (hts (.fieldLink "MazeForms$Maker" 34 "MazeForms$Maker" "choice" "LMazeForms$DoorRow;") (List.mem_cons_of_mem _ wm_232)) (fun _ h => h) (mz_dg d_Mk_offerAll 9 15 (.getfield 34) 3 rfl)) ?_
  refine mz_All.cons (sd_aload_n hx hb (mz_dg d_Mk_offerAll 10 18 (.aload_n 0) 1 rfl) rfl) ?_
  refine mz_All.cons (sd_get (k := 0) hx hb hts (mz_inC in_Mk) hown (T := T_Mk) (N := 7) rfl (by decide) (hts (.fieldLink "MazeForms$Maker" 9 "MazeForms$Maker" "grid" "LMazeForms$Grid;") (List.mem_cons_of_mem _ wm_229)) (fun _ h => h) (mz_dg d_Mk_offerAll 11 19 (.getfield 9) 3 rfl)) ?_
  refine mz_All.cons (sd_iload_n hx hb (mz_dg d_Mk_offerAll 12 22 (.iload_n 1) 1 rfl) rfl) ?_
  refine mz_All.cons (sd_iload_n hx hb (mz_dg d_Mk_offerAll 13 23 (.iload_n 2) 1 rfl) rfl) ?_
  refine mz_All.cons (sd_calli (T := T_Gr) ⟨hx, hb, hml, hown, hts⟩ (met_Gr_doorOn w h l) (cwV 2 hts (mz_gV wm_371 wm_372 wm_373 wm_67 wm_374) rfl rfl rfl (by decide) ⟨by decide, by decide⟩) rfl hA rfl (mz_dg d_Mk_offerAll 14 24 (.invokevirtual 125) 3 rfl)) ?_
  refine mz_All.cons (sd_callv (T := T_Dr) ⟨hx, hb, hml, hown, hts⟩ (met_Dr_add w h l) (cwV 1 hts (mz_gV wm_387 wm_388 wm_389 wm_74 wm_390) rfl rfl rfl (by decide) ⟨by decide, by decide⟩) rfl hA rfl (mz_dg d_Mk_offerAll 15 27 (.invokevirtual 81) 3 rfl)) ?_
  refine mz_All.cons (sd_iinc hx hb (mz_dg d_Mk_offerAll 16 30 (.iinc 2 (1)) 3 rfl) (by decide) (by decide)) ?_
  refine mz_All.cons (sd_goto hx hb (mz_dg d_Mk_offerAll 17 33 (.goto (-24)) 3 rfl) (by decide)) ?_
  refine mz_All.cons (sd_rv hx hb hr hlk (mz_dg d_Mk_offerAll 18 36 (.return_) 1 rfl)) ?_
  exact trivial
theorem met_Mk_offerAll (w h : Nat) (l : Launch) : mz_MV l y_Mk_offerAll w_Mk_offerAll 2 44 mz_cls (C_Mk_offerAll w h) := mz_MV_of (I_Mk_offerAll w h) (by decide) rfl (len_Mk_offerAll w h) (ok_Mk_offerAll w h) (snd_Mk_offerAll w h l)
set_option maxRecDepth 20000 in
theorem snd_Mk_offerRim (w h : Nat) (l : Launch) (p : Program) (e : Env) (s : State) (m : MethodId) (args : Array Value) (below : List Frame) (meth : Method) (c : Code) (D : va_G) (ad0 : Nat → Nat) (cA0 : Nat → ClassId) (A : Nat → Prop) (lay : List mz_E) (Q : mz_X → Prop) (F : mz_F p s m args meth c prog_7_method_14_code 2 y_Mk_offerRim.cls none w_Mk_offerRim) (hA : ∀ q, s.heap.size ≤ q → A q) : mz_All (mz_V p l e (mz_rm 2 42) s m args below meth c 2 lay.length (mz_sz lay) D mz_cls (mz_G0 ad0 cA0) A (MQ below (va_Qv Q (mz_B D mz_cls ad0 cA0 lay A) A) args s 0 0 A)) (mz_qv lay Q) (I_Mk_offerRim w h) := by
  obtain ⟨hx, hb, hml, hown, hts, hr, hlk⟩ := F
  unfold I_Mk_offerRim
  refine mz_All.cons (sd_aload_n hx hb (mz_dg d_Mk_offerRim 0 0 (.aload_n 0) 1 rfl) rfl) ?_
  refine mz_All.cons (sd_get (k := 3) hx hb hts (mz_inC in_Mk) hown (T := T_Mk) (N := 7) rfl (by decide) (hts (.fieldLink "MazeForms$Maker" 34 "MazeForms$Maker" "choice" "LMazeForms$DoorRow;") (List.mem_cons_of_mem _ wm_232)) (fun _ h => h) (mz_dg d_Mk_offerRim 1 1 (.getfield 34) 3 rfl)) ?_
  refine mz_All.cons (sd_callv (T := T_Dr) ⟨hx, hb, hml, hown, hts⟩ (met_Dr_clear w h l) (cwV 0 hts (mz_gV wm_367 wm_368 wm_369 wm_74 wm_370) rfl rfl rfl (by decide) ⟨by decide, by decide⟩) rfl hA rfl (mz_dg d_Mk_offerRim 2 4 (.invokevirtual 71) 3 rfl)) ?_
  refine mz_All.cons (sd_iconst hx hb (mz_dg d_Mk_offerRim 3 7 (.iconst (0)) 1 rfl) (by decide)) ?_
  refine mz_All.cons (sd_istore_n hx hb (mz_dg d_Mk_offerRim 4 8 (.istore_n 1) 1 rfl) rfl (by decide)) ?_
  refine mz_All.cons (sd_iload_n hx hb (mz_dg d_Mk_offerRim 5 9 (.iload_n 1) 1 rfl) rfl) ?_
  refine mz_All.cons (sd_aload_n hx hb (mz_dg d_Mk_offerRim 6 10 (.aload_n 0) 1 rfl) rfl) ?_
  refine mz_All.cons (sd_get (k := 0) hx hb hts (mz_inC in_Mk) hown (T := T_Mk) (N := 7) rfl (by decide) (hts (.fieldLink "MazeForms$Maker" 9 "MazeForms$Maker" "grid" "LMazeForms$Grid;") (List.mem_cons_of_mem _ wm_229)) (fun _ h => h) (mz_dg d_Mk_offerRim 7 11 (.getfield 9) 3 rfl)) ?_
  refine mz_All.cons (sd_calli (T := T_Gr) ⟨hx, hb, hml, hown, hts⟩ (met_Gr_doorCount w h l) (cwV 0 hts (mz_gV wm_425 wm_426 wm_427 wm_67 wm_428) rfl rfl rfl (by decide) ⟨by decide, by decide⟩) rfl hA rfl (mz_dg d_Mk_offerRim 8 14 (.invokevirtual 74) 3 rfl)) ?_
  refine mz_All.cons (sd_icmp_ge hx hb (mz_dg d_Mk_offerRim 9 17 (.if_icmp .ge (44)) 3 rfl) (by decide)) ?_
  refine mz_All.cons (sd_aload_n hx hb (mz_dg d_Mk_offerRim 10 20 (.aload_n 0) 1 rfl) rfl) ?_
  refine mz_All.cons (sd_aload_n hx hb (mz_dg d_Mk_offerRim 11 21 (.aload_n 0) 1 rfl) rfl) ?_
  refine mz_All.cons (sd_get (k := 0) hx hb hts (mz_inC in_Mk) hown (T := T_Mk) (N := 7) rfl (by decide) (hts (.fieldLink "MazeForms$Maker" 9 "MazeForms$Maker" "grid" "LMazeForms$Grid;") (List.mem_cons_of_mem _ wm_229)) (fun _ h => h) (mz_dg d_Mk_offerRim 12 22 (.getfield 9) 3 rfl)) ?_
  refine mz_All.cons (sd_iload_n hx hb (mz_dg d_Mk_offerRim 13 25 (.iload_n 1) 1 rfl) rfl) ?_
  refine mz_All.cons (sd_calli (T := T_Gr) ⟨hx, hb, hml, hown, hts⟩ (met_Gr_lesserCell w h l) (cwV 1 hts (mz_gV wm_471 wm_451 wm_452 wm_67 wm_453) rfl rfl rfl (by decide) ⟨by decide, by decide⟩) rfl hA rfl (mz_dg d_Mk_offerRim 14 26 (.invokevirtual 148) 3 rfl)) ?_
  refine mz_All.cons (sd_calli (T := T_Mk) ⟨hx, hb, hml, hown, hts⟩ (met_Mk_isReached w h l) (cwV 1 hts (mz_gV wm_383 wm_385 wm_6 wm_72 wm_386) rfl rfl rfl (by decide) ⟨by decide, by decide⟩) rfl hA rfl (mz_dg d_Mk_offerRim 15 29 (.invokevirtual 128) 3 rfl)) ?_
  refine mz_All.cons (sd_aload_n hx hb (mz_dg d_Mk_offerRim 16 32 (.aload_n 0) 1 rfl) rfl) ?_
  refine mz_All.cons (sd_aload_n hx hb (mz_dg d_Mk_offerRim 17 33 (.aload_n 0) 1 rfl) rfl) ?_
  refine mz_All.cons (sd_get (k := 0) hx hb hts (mz_inC in_Mk) hown (T := T_Mk) (N := 7) rfl (by decide) (hts (.fieldLink "MazeForms$Maker" 9 "MazeForms$Maker" "grid" "LMazeForms$Grid;") (List.mem_cons_of_mem _ wm_229)) (fun _ h => h) (mz_dg d_Mk_offerRim 18 34 (.getfield 9) 3 rfl)) ?_
  refine mz_All.cons (sd_iload_n hx hb (mz_dg d_Mk_offerRim 19 37 (.iload_n 1) 1 rfl) rfl) ?_
  refine mz_All.cons (sd_calli (T := T_Gr) ⟨hx, hb, hml, hown, hts⟩ (met_Gr_greaterCell w h l) (cwV 1 hts (mz_gV wm_472 wm_460 wm_461 wm_67 wm_462) rfl rfl rfl (by decide) ⟨by decide, by decide⟩) rfl hA rfl (mz_dg d_Mk_offerRim 20 38 (.invokevirtual 151) 3 rfl)) ?_
  refine mz_All.cons (sd_calli (T := T_Mk) ⟨hx, hb, hml, hown, hts⟩ (met_Mk_isReached w h l) (cwV 1 hts (mz_gV wm_383 wm_385 wm_6 wm_72 wm_386) rfl rfl rfl (by decide) ⟨by decide, by decide⟩) rfl hA rfl (mz_dg d_Mk_offerRim 21 41 (.invokevirtual 128) 3 rfl)) ?_
  refine mz_All.cons (sd_icmp_eq hx hb (mz_dg d_Mk_offerRim 22 44 (.if_icmp .eq (11)) 3 rfl) (by decide)) ?_
  refine mz_All.cons (sd_aload_n hx hb (mz_dg d_Mk_offerRim 23 47 (.aload_n 0) 1 rfl) rfl) ?_
  refine mz_All.cons (sd_get (k := 3) hx hb hts (mz_inC in_Mk) hown (T := T_Mk) (N := 7) rfl (by decide) (hts (.fieldLink "MazeForms$Maker" 34 "MazeForms$Maker" "choice" "LMazeForms$DoorRow;") (List.mem_cons_of_mem _ wm_232)) (fun _ h => h) (mz_dg d_Mk_offerRim 24 48 (.getfield 34) 3 rfl)) ?_
  refine mz_All.cons (sd_iload_n hx hb (mz_dg d_Mk_offerRim 25 51 (.iload_n 1) 1 rfl) rfl) ?_
  refine mz_All.cons (sd_callv (T := T_Dr) ⟨hx, hb, hml, hown, hts⟩ (met_Dr_add w h l) (cwV 1 hts (mz_gV wm_387 wm_388 wm_389 wm_74 wm_390) rfl rfl rfl (by decide) ⟨by decide, by decide⟩) rfl hA rfl (mz_dg d_Mk_offerRim 26 52 (.invokevirtual 81) 3 rfl)) ?_
  refine mz_All.cons (sd_iinc hx hb (mz_dg d_Mk_offerRim 27 55 (.iinc 1 (1)) 3 rfl) (by decide) (by decide)) ?_
  refine mz_All.cons (sd_goto hx hb (mz_dg d_Mk_offerRim 28 58 (.goto (-49)) 3 rfl) (by decide)) ?_
  refine mz_All.cons (sd_rv hx hb hr hlk (mz_dg d_Mk_offerRim 29 61 (.return_) 1 rfl)) ?_
  exact trivial
theorem met_Mk_offerRim (w h : Nat) (l : Launch) : mz_MV l y_Mk_offerRim w_Mk_offerRim 2 42 mz_cls (C_Mk_offerRim w h) := mz_MV_of (I_Mk_offerRim w h) (by decide) rfl (len_Mk_offerRim w h) (ok_Mk_offerRim w h) (snd_Mk_offerRim w h l)
end
section
/-- DEEP: one step from a cell: the memory and the next cell -/
def zm_dX (w h : Nat) (X : mz_X) (c : Int32) : mz_X := zr_drX (zm_u w h X c 4)
def zm_dD (w h : Nat) (X : mz_X) (c : Int32) : Int32 := zr_drV w h (zm_u w h X c 4)
def zm_dN (w h : Nat) (X : mz_X) (c : Int32) : Int32 := zg_oth w h (zm_dX w h X c) (zm_dD w h X c) c
def zm_dS (w h : Nat) (X : mz_X) (c : Int32) : mz_X × Int32 := match decide (zm_dD w h X c = -1) with
  | true => (zm_dX w h X c, zm_tr w h (zm_dX w h X c) c)
  | false => (zm_stT w h (zm_en w h (zm_od w h (zm_dX w h X c) (zm_dD w h X c)) (zm_dN w h X c)) (zm_dN w h X c) c, zm_dN w h X c)
def zm_dp (w h : Nat) (X : mz_X) (c : Int32) (k : Nat) : mz_X := match k with
  | 0 => X
  | j + 1 => match decide (c = -1) with
    | true => X
    | false => zm_dp w h (zm_dS w h X c).1 (zm_dS w h X c).2 j
def zm_deep (w h : Nat) (X : mz_X) : mz_X := zm_dp w h (zm_beg w h X (zg_fst X (w * h) 0)) (zg_fst X (w * h) 0) (2 * (w * h))
/-- SETS: the row of all doors, shuffled; then the joins along it -/
def zm_ro (w h : Nat) (X : mz_X) (k : Nat) : mz_X := match k with
  | 0 => zr_clr X
  | j + 1 => zr_add w h (zm_ro w h X j) (nI j)
def zm_jS (w h : Nat) (X : mz_X) (i : Nat) : mz_X := match zj_joB w h X (zr_at w h X (nI i)) with
  | true => zm_od w h (zj_joX w h X (zr_at w h X (nI i))) (zr_at w h X (nI i))
  | false => zj_joX w h X (zr_at w h X (nI i))
def zm_js (w h : Nat) (X : mz_X) (k : Nat) : mz_X := match k with
  | 0 => X
  | j + 1 => zm_jS w h (zm_js w h X j) j
def zm_sets (w h D : Nat) (X : mz_X) : mz_X := zm_js w h (zj_idn (zr_shu w h (zm_ro w h X D) (D - 1)) (w * h)) D
/-- GROWN -/
def zm_gX (w h D : Nat) (X : mz_X) : mz_X := zr_drX (zm_r w h X D)
def zm_gD (w h D : Nat) (X : mz_X) : Int32 := zr_drV w h (zm_r w h X D)
def zm_gO (w h D : Nat) (X : mz_X) : mz_X := zm_od w h (zm_gX w h D X) (zm_gD w h D X)
def zm_gE (w h D : Nat) (X : mz_X) : mz_X := zm_en w h (zm_gO w h D X) (zg_les w h (zm_gO w h D X) (zm_gD w h D X))
def zm_gS (w h D : Nat) (X : mz_X) : mz_X := zm_en w h (zm_gE w h D X) (zg_gre w h (zm_gE w h D X) (zm_gD w h D X))
def zm_gr (w h D : Nat) (X : mz_X) (k : Nat) : mz_X := match k with
  | 0 => X
  | j + 1 => match decide (zm_gD w h D X = -1) with
    | true => zm_gX w h D X
    | false => zm_gr w h D (zm_gS w h D X) j
def zm_grow (w h D : Nat) (X : mz_X) : mz_X := zm_gr w h D (zm_beg w h X (zg_fst X (w * h) 0)) (w * h)
/-- WALKED: a walk of at most k steps, and the way back along the kept doors -/
def zm_wX (w h : Nat) (X : mz_X) (c : Int32) : mz_X := zr_drX (zm_a w h X c 4)
def zm_wD (w h : Nat) (X : mz_X) (c : Int32) : Int32 := zr_drV w h (zm_a w h X c 4)
def zm_wT (w h : Nat) (X : mz_X) (c : Int32) : mz_X := zm_stT w h (zm_wX w h X c) c (zm_wD w h X c)
def zm_wk (w h : Nat) (X : mz_X) (c : Int32) (k : Nat) : mz_X × Int32 := match k with
  | 0 => (X, c)
  | j + 1 => match decide (c = -1) || zm_isR w h X c with
    | true => (X, c)
    | false => zm_wk w h (zm_wT w h X c) (zg_oth w h (zm_wT w h X c) (zm_wD w h X c) c) j
def zm_jw (w h : Nat) (X : mz_X) (c : Int32) (k : Nat) : mz_X := match k with
  | 0 => X
  | j + 1 => match zm_isR w h X c with
    | true => X
    | false => zm_jw w h (zm_od w h (zm_en w h X c) (zm_tr w h X c)) (zg_oth w h (zm_od w h (zm_en w h X c) (zm_tr w h X c)) (zm_tr w h X c) c) j
/-- one cell in order; N is the longest walk -/
def zm_wB (w h : Nat) (X : mz_X) (i : Nat) : Bool := !decide (zf_to w h X (nI i) = -1) && !zm_isR w h X (nI i)
def zm_wS (w h N : Nat) (X : mz_X) (i : Nat) : mz_X := match zm_wB w h X i with
  | true => match zm_isR w h (zm_wk w h X (nI i) N).1 (zm_wk w h X (nI i) N).2 with
    | true => zm_jw w h (zm_wk w h X (nI i) N).1 (nI i) (w * h)
    | false => (zm_wk w h X (nI i) N).1
  | false => X
def zm_ws (w h N : Nat) (X : mz_X) (k : Nat) : mz_X := match k with
  | 0 => X
  | j + 1 => zm_wS w h N (zm_ws w h N X j) j
def zm_wal (w h N : Nat) (X : mz_X) : mz_X := zm_ws w h N (zf_spr w h (zm_beg w h X (zg_fst X (w * h) 0)) (zg_fst X (w * h) 0) 1) (w * h)
/-- COMBED -/
def zm_k1 (w h : Nat) (X : mz_X) (i : Nat) : mz_X := zr_add w h (zr_clr X) (zg_on w h (zr_clr X) (nI i) 0)
def zm_k2 (w h : Nat) (X : mz_X) (i : Nat) : mz_X := zr_add w h (zm_k1 w h X i) (zg_on w h (zm_k1 w h X i) (nI i) 3)
def zm_kS (w h : Nat) (X : mz_X) (i : Nat) : mz_X := zm_od w h (zr_drX (zm_k2 w h X i)) (zr_drV w h (zm_k2 w h X i))
def zm_ks (w h : Nat) (X : mz_X) (k : Nat) : mz_X := match k with
  | 0 => X
  | j + 1 => zm_kS w h (zm_ks w h X j) j
/-- LOOPS -/
def zm_lS (w h D : Nat) (X : mz_X) : mz_X := zm_od w h (zr_drX (zm_c w h X D)) (zr_drV w h (zm_c w h X D))
def zm_lo (w h D : Nat) (X : mz_X) (k : Nat) : mz_X := match k with
  | 0 => X
  | j + 1 => match decide ((zm_c w h X D).1 14 2 = 0) with
    | true => zm_c w h X D
    | false => zm_lo w h D (zm_lS w h D X) j
def zm_o0 (X : mz_X) : mz_X := (mz_up X.1 12 6 0, X.2)
/-- the number of doors stands, and fits -/
def zm_D (w h D : Nat) (X : mz_X) : Prop := D ≤ mz_dn w h ∧ X.1 1 7 = nI D
def C_Mk_goDeep (w h : Nat) : mz_CV := fun lay as X Q => match as with
  | [.ref 12] => lay = mz_lay w h ∧ mz_geo w h ∧ Q (zm_deep w h X)
  | _ => False
def C_Mk_joinSets (w h : Nat) : mz_CV := fun lay as X Q => match as with
  | [.ref 12] => lay = mz_lay w h ∧ mz_geo w h ∧ ∃ D : Nat, zm_D w h D X ∧ Q (zm_sets w h D X)
  | _ => False
def C_Mk_grow (w h : Nat) : mz_CV := fun lay as X Q => match as with
  | [.ref 12] => lay = mz_lay w h ∧ mz_geo w h ∧ ∃ D : Nat, zm_D w h D X ∧ Q (zm_grow w h D X)
  | _ => False
def C_Mk_walkToTree (w h : Nat) : mz_CI := fun lay as X Q => match as with
  | [.ref 12, .int c] => lay = mz_lay w h ∧ mz_geo w h ∧ ∃ N : Nat, N = 1000000 ∧ Q (mz_b (zm_isR w h (zm_wk w h X c N).1 (zm_wk w h X c N).2)) (zm_wk w h X c N).1
  | _ => False
def C_Mk_joinWalk (w h : Nat) : mz_CV := fun lay as X Q => match as with
  | [.ref 12, .int c] => lay = mz_lay w h ∧ mz_geo w h ∧ Q (zm_jw w h X c (w * h))
  | _ => False
def C_Mk_walkAll (w h : Nat) : mz_CV := fun lay as X Q => match as with
  | [.ref 12] => lay = mz_lay w h ∧ mz_geo w h ∧ ∃ N : Nat, N = 1000000 ∧ Q (zm_wal w h N X)
  | _ => False
def C_Mk_comb (w h : Nat) : mz_CV := fun lay as X Q => match as with
  | [.ref 12] => lay = mz_lay w h ∧ mz_geo w h ∧ Q (zm_ks w h X (w * h))
  | _ => False
def C_Mk_openMore (w h : Nat) : mz_CI := fun lay as X Q => match as with
  | [.ref 12, .int n] => lay = mz_lay w h ∧ mz_geo w h ∧ ∃ (D k : Nat), zm_D w h D X ∧ k < 2 ^ 31 ∧ n = nI k ∧ Q ((zm_lo w h D (zm_o0 X) k).1 12 6) (zm_lo w h D (zm_o0 X) k)
  | _ => False
def y_Mk_goDeep : MethodName := ⟨"MazeForms$Maker", "goDeep", "()V"⟩
abbrev w_Mk_goDeep : List Cond := .code y_Mk_goDeep prog_7_method_10_code 5 none :: mz_tb
def dl_Mk_goDeep : List (Nat × ClassFile.Instr × Nat) := [(0, .aload_n 0, 1), (1, .getfield 9, 3), (4, .invokevirtual 104, 3), (7, .istore_n 1, 1), (8, .aload_n 0, 1), (9, .iload_n 1, 1), (10, .invokevirtual 107, 3), (13, .iconst (0), 1), (14, .istore_n 2, 1), (15, .iload_n 2, 1), (16, .iconst (2), 1), (17, .aload_n 0, 1), (18, .getfield 41, 3), (21, .arraylength, 1), (22, .imul, 1), (23, .if_icmp .ge (73), 3), (26, .iload_n 1, 1), (27, .iconst (-1), 1), (28, .if_icmp .eq (68), 3), (31, .aload_n 0, 1), (32, .iload_n 1, 1), (33, .invokevirtual 110, 3), (36, .aload_n 0, 1), (37, .getfield 34, 3), (40, .invokevirtual 88, 3), (43, .istore_n 3, 1), (44, .iload_n 3, 1), (45, .iconst (-1), 1), (46, .if_icmp .ne (12), 3), (49, .aload_n 0, 1), (50, .iload_n 1, 1), (51, .invokevirtual 113, 3), (54, .istore_n 1, 1), (55, .goto (35), 3), (58, .aload_n 0, 1), (59, .getfield 9, 3), (62, .iload_n 3, 1), (63, .iload_n 1, 1), (64, .invokevirtual 117, 3), (67, .istore 4, 2), (69, .aload_n 0, 1), (70, .iload_n 3, 1), (71, .invokevirtual 91, 3), (74, .aload_n 0, 1), (75, .iload 4, 2), (77, .invokevirtual 98, 3), (80, .aload_n 0, 1), (81, .iload 4, 2), (83, .iload_n 1, 1), (84, .invokevirtual 121, 3), (87, .iload 4, 2), (89, .istore_n 1, 1), (90, .iinc 2 (1), 3), (93, .goto (-78), 3), (96, .return_, 1)]
theorem d_Mk_goDeep : mz_dec prog_7_method_10_code dl_Mk_goDeep = true := by decide +kernel
def y_Mk_grow : MethodName := ⟨"MazeForms$Maker", "grow", "()V"⟩
abbrev w_Mk_grow : List Cond := .code y_Mk_grow prog_7_method_13_code 3 none :: mz_tb
def dl_Mk_grow : List (Nat × ClassFile.Instr × Nat) := [(0, .aload_n 0, 1), (1, .aload_n 0, 1), (2, .getfield 9, 3), (5, .invokevirtual 104, 3), (8, .invokevirtual 107, 3), (11, .iconst (0), 1), (12, .istore_n 1, 1), (13, .iload_n 1, 1), (14, .aload_n 0, 1), (15, .getfield 41, 3), (18, .arraylength, 1), (19, .if_icmp .ge (56), 3), (22, .aload_n 0, 1), (23, .invokevirtual 145, 3), (26, .aload_n 0, 1), (27, .getfield 34, 3), (30, .invokevirtual 88, 3), (33, .istore_n 2, 1), (34, .iload_n 2, 1), (35, .iconst (-1), 1), (36, .if_icmp .ne (4), 3), (39, .return_, 1), (40, .aload_n 0, 1), (41, .iload_n 2, 1), (42, .invokevirtual 91, 3), (45, .aload_n 0, 1), (46, .aload_n 0, 1), (47, .getfield 9, 3), (50, .iload_n 2, 1), (51, .invokevirtual 148, 3), (54, .invokevirtual 98, 3), (57, .aload_n 0, 1), (58, .aload_n 0, 1), (59, .getfield 9, 3), (62, .iload_n 2, 1), (63, .invokevirtual 151, 3), (66, .invokevirtual 98, 3), (69, .iinc 1 (1), 3), (72, .goto (-59), 3), (75, .return_, 1)]
theorem d_Mk_grow : mz_dec prog_7_method_13_code dl_Mk_grow = true := by decide +kernel
def y_Mk_walkToTree : MethodName := ⟨"MazeForms$Maker", "walkToTree", "(I)Z"⟩
abbrev w_Mk_walkToTree : List Cond := .code y_Mk_walkToTree prog_7_method_16_code 5 (some .boolean) :: mz_tb
def dl_Mk_walkToTree : List (Nat × ClassFile.Instr × Nat) := [(0, .iload_n 1, 1), (1, .istore_n 2, 1), (2, .iconst (0), 1), (3, .istore_n 3, 1), (4, .iload_n 3, 1), (5, .ldc 169, 2), (7, .if_icmp .ge (54), 3), (10, .iload_n 2, 1), (11, .iconst (-1), 1), (12, .if_icmp .eq (49), 3), (15, .aload_n 0, 1), (16, .iload_n 2, 1), (17, .invokevirtual 128, 3), (20, .ifCond .ne (41), 3), (23, .aload_n 0, 1), (24, .iload_n 2, 1), (25, .invokevirtual 170, 3), (28, .aload_n 0, 1), (29, .getfield 34, 3), (32, .invokevirtual 88, 3), (35, .istore 4, 2), (37, .aload_n 0, 1), (38, .iload_n 2, 1), (39, .iload 4, 2), (41, .invokevirtual 121, 3), (44, .aload_n 0, 1), (45, .getfield 9, 3), (48, .iload 4, 2), (50, .iload_n 2, 1), (51, .invokevirtual 117, 3), (54, .istore_n 2, 1), (55, .iinc 3 (1), 3), (58, .goto (-54), 3), (61, .aload_n 0, 1), (62, .iload_n 2, 1), (63, .invokevirtual 128, 3), (66, .ireturn, 1)]
theorem d_Mk_walkToTree : mz_dec prog_7_method_16_code dl_Mk_walkToTree = true := by decide +kernel
def y_Mk_joinWalk : MethodName := ⟨"MazeForms$Maker", "joinWalk", "(I)V"⟩
abbrev w_Mk_joinWalk : List Cond := .code y_Mk_joinWalk prog_7_method_18_code 5 none :: mz_tb
def dl_Mk_joinWalk : List (Nat × ClassFile.Instr × Nat) := [(0, .iload_n 1, 1), (1, .istore_n 2, 1), (2, .iconst (0), 1), (3, .istore_n 3, 1), (4, .iload_n 3, 1), (5, .aload_n 0, 1), (6, .getfield 41, 3), (9, .arraylength, 1), (10, .if_icmp .ge (46), 3), (13, .aload_n 0, 1), (14, .iload_n 2, 1), (15, .invokevirtual 128, 3), (18, .ifCond .ne (38), 3), (21, .aload_n 0, 1), (22, .iload_n 2, 1), (23, .invokevirtual 113, 3), (26, .istore 4, 2), (28, .aload_n 0, 1), (29, .iload_n 2, 1), (30, .invokevirtual 98, 3), (33, .aload_n 0, 1), (34, .iload 4, 2), (36, .invokevirtual 91, 3), (39, .aload_n 0, 1), (40, .getfield 9, 3), (43, .iload 4, 2), (45, .iload_n 2, 1), (46, .invokevirtual 117, 3), (49, .istore_n 2, 1), (50, .iinc 3 (1), 3), (53, .goto (-49), 3), (56, .return_, 1)]
theorem d_Mk_joinWalk : mz_dec prog_7_method_18_code dl_Mk_joinWalk = true := by decide +kernel
def y_Mk_walkAll : MethodName := ⟨"MazeForms$Maker", "walkAll", "()V"⟩
abbrev w_Mk_walkAll : List Cond := .code y_Mk_walkAll prog_7_method_15_code 3 none :: mz_tb
def dl_Mk_walkAll : List (Nat × ClassFile.Instr × Nat) := [(0, .aload_n 0, 1), (1, .getfield 9, 3), (4, .invokevirtual 104, 3), (7, .istore_n 1, 1), (8, .aload_n 0, 1), (9, .iload_n 1, 1), (10, .invokevirtual 107, 3), (13, .aload_n 0, 1), (14, .getfield 19, 3), (17, .iload_n 1, 1), (18, .iconst (1), 1), (19, .invokevirtual 154, 3), (22, .iconst (0), 1), (23, .istore_n 2, 1), (24, .iload_n 2, 1), (25, .aload_n 0, 1), (26, .getfield 41, 3), (29, .arraylength, 1), (30, .if_icmp .ge (42), 3), (33, .aload_n 0, 1), (34, .getfield 19, 3), (37, .iload_n 2, 1), (38, .invokevirtual 160, 3), (41, .iconst (-1), 1), (42, .if_icmp .eq (24), 3), (45, .aload_n 0, 1), (46, .iload_n 2, 1), (47, .invokevirtual 128, 3), (50, .ifCond .ne (16), 3), (53, .aload_n 0, 1), (54, .iload_n 2, 1), (55, .invokevirtual 163, 3), (58, .ifCond .eq (8), 3), (61, .aload_n 0, 1), (62, .iload_n 2, 1), (63, .invokevirtual 166, 3), (66, .iinc 2 (1), 3), (69, .goto (-45), 3), (72, .return_, 1)]
theorem d_Mk_walkAll : mz_dec prog_7_method_15_code dl_Mk_walkAll = true := by decide +kernel
def y_Mk_comb : MethodName := ⟨"MazeForms$Maker", "comb", "()V"⟩
abbrev w_Mk_comb : List Cond := .code y_Mk_comb prog_7_method_19_code 2 none :: mz_tb
def dl_Mk_comb : List (Nat × ClassFile.Instr × Nat) := [(0, .iconst (0), 1), (1, .istore_n 1, 1), (2, .iload_n 1, 1), (3, .aload_n 0, 1), (4, .getfield 41, 3), (7, .arraylength, 1), (8, .if_icmp .ge (59), 3), (11, .aload_n 0, 1), (12, .getfield 34, 3), (15, .invokevirtual 71, 3), (18, .aload_n 0, 1), (19, .getfield 34, 3), (22, .aload_n 0, 1), (23, .getfield 9, 3), (26, .iload_n 1, 1), (27, .iconst (0), 1), (28, .invokevirtual 125, 3), (31, .invokevirtual 81, 3), (34, .aload_n 0, 1), (35, .getfield 34, 3), (38, .aload_n 0, 1), (39, .getfield 9, 3), (42, .iload_n 1, 1), (43, .iconst (3), 1), (44, .invokevirtual 125, 3), (47, .invokevirtual 81, 3), (50, .aload_n 0, 1), (51, .aload_n 0, 1), (52, .getfield 34, 3), (55, .invokevirtual 88, 3), (58, .invokevirtual 91, 3), (61, .iinc 1 (1), 3), (64, .goto (-62), 3), (67, .return_, 1)]
theorem d_Mk_comb : mz_dec prog_7_method_19_code dl_Mk_comb = true := by decide +kernel
def y_Mk_openMore : MethodName := ⟨"MazeForms$Maker", "openMore", "(I)I"⟩
abbrev w_Mk_openMore : List Cond := .code y_Mk_openMore prog_7_method_3_code 4 (some .int) :: mz_tb
def dl_Mk_openMore : List (Nat × ClassFile.Instr × Nat) := [(0, .aload_n 0, 1), (1, .iconst (0), 1), (2, .putfield 52, 3), (5, .iconst (0), 1), (6, .istore_n 2, 1), (7, .iload_n 2, 1), (8, .iload_n 1, 1), (9, .if_icmp .ge (80), 3), (12, .aload_n 0, 1), (13, .getfield 34, 3), (16, .invokevirtual 71, 3), (19, .iconst (0), 1), (20, .istore_n 3, 1), (21, .iload_n 3, 1), (22, .aload_n 0, 1), (23, .getfield 9, 3), (26, .invokevirtual 74, 3), (29, .if_icmp .ge (28), 3), (32, .aload_n 0, 1), (33, .getfield 9, 3), (36, .iload_n 3, 1), (37, .invokevirtual 77, 3), (40, .ifCond .ne (11), 3), (43, .aload_n 0, 1), (44, .getfield 34, 3), (47, .iload_n 3, 1), (48, .invokevirtual 81, 3), (51, .iinc 3 (1), 3), (54, .goto (-33), 3), (57, .aload_n 0, 1), (58, .getfield 34, 3), (61, .invokevirtual 85, 3), (64, .ifCond .ne (8), 3), (67, .aload_n 0, 1), (68, .getfield 52, 3), (71, .ireturn, 1), (72, .aload_n 0, 1), (73, .aload_n 0, 1), (74, .getfield 34, 3), (77, .invokevirtual 88, 3), (80, .invokevirtual 91, 3), (83, .iinc 2 (1), 3), (86, .goto (-79), 3), (89, .aload_n 0, 1), (90, .getfield 52, 3), (93, .ireturn, 1)]
theorem d_Mk_openMore : mz_dec prog_7_method_3_code dl_Mk_openMore = true := by decide +kernel
def I_Mk_goDeep (w h : Nat) : List (Nat × mz_Op) := [(0, mz_lda 0 1), (1, mz_gf 5 0 4), (4, mz_ci 1 3 (C_Gr_firstCell w h) 7), (7, mz_sti 1 8), (8, mz_lda 0 9), (9, mz_ldi 1 10), (10, mz_cvo 2 5 (C_Mk_begin w h) 13), (13, mz_push (.int (0)) 14), (14, mz_sti 2 15), (15, mz_ldi 2 16), (16, mz_push (.int (2)) 17), (17, mz_lda 0 18), (18, mz_gf 5 4 21), (21, mz_al 22), (22, mz_bi (fun x y => x * y) 23), (23, mz_ic (fun x y => y ≤ x) 96 26), (26, mz_ldi 1 27), (27, mz_push (.int (-1)) 28), (28, mz_ic (fun x y => x = y) 96 31), (31, mz_lda 0 32), (32, mz_ldi 1 33), (33, mz_cvo 2 5 (C_Mk_offerUnreached w h) 36), (36, mz_lda 0 37), (37, mz_gf 5 3 40), (40, mz_ci 1 1 (C_Dr_draw w h) 43), (43, mz_sti 3 44), (44, mz_ldi 3 45), (45, mz_push (.int (-1)) 46), (46, mz_ic (fun x y => x = y) 49 58), (49, mz_lda 0 50), (50, mz_ldi 1 51), (51, mz_ci 2 5 (C_Mk_traceOf w h) 54), (54, mz_sti 1 55), (55, mz_go 90), (58, mz_lda 0 59), (59, mz_gf 5 0 62), (62, mz_ldi 3 63), (63, mz_ldi 1 64), (64, mz_ci 3 3 (C_Gr_otherCell w h) 67), (67, mz_sti 4 69), (69, mz_lda 0 70), (70, mz_ldi 3 71), (71, mz_cvo 2 5 (C_Mk_openDoor w h) 74), (74, mz_lda 0 75), (75, mz_ldi 4 77), (77, mz_cvo 2 5 (C_Mk_enter w h) 80), (80, mz_lda 0 81), (81, mz_ldi 4 83), (83, mz_ldi 1 84), (84, mz_cvo 3 5 (C_Mk_setTrace w h) 87), (87, mz_ldi 4 89), (89, mz_sti 1 90), (90, mz_inc 2 (1) 93), (93, mz_go 15), (96, mz_rv)]
def I_Mk_grow (w h : Nat) : List (Nat × mz_Op) := [(0, mz_lda 0 1), (1, mz_lda 0 2), (2, mz_gf 5 0 5), (5, mz_ci 1 3 (C_Gr_firstCell w h) 8), (8, mz_cvo 2 5 (C_Mk_begin w h) 11), (11, mz_push (.int (0)) 12), (12, mz_sti 1 13), (13, mz_ldi 1 14), (14, mz_lda 0 15), (15, mz_gf 5 4 18), (18, mz_al 19), (19, mz_ic (fun x y => y ≤ x) 75 22), (22, mz_lda 0 23), (23, mz_cvo 1 5 (C_Mk_offerRim w h) 26), (26, mz_lda 0 27), (27, mz_gf 5 3 30), (30, mz_ci 1 1 (C_Dr_draw w h) 33), (33, mz_sti 2 34), (34, mz_ldi 2 35), (35, mz_push (.int (-1)) 36), (36, mz_ic (fun x y => x = y) 39 40), (39, mz_rv), (40, mz_lda 0 41), (41, mz_ldi 2 42), (42, mz_cvo 2 5 (C_Mk_openDoor w h) 45), (45, mz_lda 0 46), (46, mz_lda 0 47), (47, mz_gf 5 0 50), (50, mz_ldi 2 51), (51, mz_ci 2 3 (C_Gr_lesserCell w h) 54), (54, mz_cvo 2 5 (C_Mk_enter w h) 57), (57, mz_lda 0 58), (58, mz_lda 0 59), (59, mz_gf 5 0 62), (62, mz_ldi 2 63), (63, mz_ci 2 3 (C_Gr_greaterCell w h) 66), (66, mz_cvo 2 5 (C_Mk_enter w h) 69), (69, mz_inc 1 (1) 72), (72, mz_go 13), (75, mz_rv)]
def I_Mk_walkToTree (w h : Nat) : List (Nat × mz_Op) := [(0, mz_ldi 1 1), (1, mz_sti 2 2), (2, mz_push (.int (0)) 3), (3, mz_sti 3 4), (4, mz_ldi 3 5), (5, mz_push (.int (1000000)) 7), (7, mz_ic (fun x y => y ≤ x) 61 10), (10, mz_ldi 2 11), (11, mz_push (.int (-1)) 12), (12, mz_ic (fun x y => x = y) 61 15), (15, mz_lda 0 16), (16, mz_ldi 2 17), (17, mz_ci 2 5 (C_Mk_isReached w h) 20), (20, mz_if (fun x => x = 0) 23 61), (23, mz_lda 0 24), (24, mz_ldi 2 25), (25, mz_cvo 2 5 (C_Mk_offerAll w h) 28), (28, mz_lda 0 29), (29, mz_gf 5 3 32), (32, mz_ci 1 1 (C_Dr_draw w h) 35), (35, mz_sti 4 37), (37, mz_lda 0 38), (38, mz_ldi 2 39), (39, mz_ldi 4 41), (41, mz_cvo 3 5 (C_Mk_setTrace w h) 44), (44, mz_lda 0 45), (45, mz_gf 5 0 48), (48, mz_ldi 4 50), (50, mz_ldi 2 51), (51, mz_ci 3 3 (C_Gr_otherCell w h) 54), (54, mz_sti 2 55), (55, mz_inc 3 (1) 58), (58, mz_go 4), (61, mz_lda 0 62), (62, mz_ldi 2 63), (63, mz_ci 2 5 (C_Mk_isReached w h) 66), (66, mz_rz)]
def I_Mk_joinWalk (w h : Nat) : List (Nat × mz_Op) := [(0, mz_ldi 1 1), (1, mz_sti 2 2), (2, mz_push (.int (0)) 3), (3, mz_sti 3 4), (4, mz_ldi 3 5), (5, mz_lda 0 6), (6, mz_gf 5 4 9), (9, mz_al 10), (10, mz_ic (fun x y => y ≤ x) 56 13), (13, mz_lda 0 14), (14, mz_ldi 2 15), (15, mz_ci 2 5 (C_Mk_isReached w h) 18), (18, mz_if (fun x => x = 0) 21 56), (21, mz_lda 0 22), (22, mz_ldi 2 23), (23, mz_ci 2 5 (C_Mk_traceOf w h) 26), (26, mz_sti 4 28), (28, mz_lda 0 29), (29, mz_ldi 2 30), (30, mz_cvo 2 5 (C_Mk_enter w h) 33), (33, mz_lda 0 34), (34, mz_ldi 4 36), (36, mz_cvo 2 5 (C_Mk_openDoor w h) 39), (39, mz_lda 0 40), (40, mz_gf 5 0 43), (43, mz_ldi 4 45), (45, mz_ldi 2 46), (46, mz_ci 3 3 (C_Gr_otherCell w h) 49), (49, mz_sti 2 50), (50, mz_inc 3 (1) 53), (53, mz_go 4), (56, mz_rv)]
def I_Mk_walkAll (w h : Nat) : List (Nat × mz_Op) := [(0, mz_lda 0 1), (1, mz_gf 5 0 4), (4, mz_ci 1 3 (C_Gr_firstCell w h) 7), (7, mz_sti 1 8), (8, mz_lda 0 9), (9, mz_ldi 1 10), (10, mz_cvo 2 5 (C_Mk_begin w h) 13), (13, mz_lda 0 14), (14, mz_gf 5 2 17), (17, mz_ldi 1 18), (18, mz_push (.int (1)) 19), (19, mz_cvo 3 2 (C_Fl_spread w h) 22), (22, mz_push (.int (0)) 23), (23, mz_sti 2 24), (24, mz_ldi 2 25), (25, mz_lda 0 26), (26, mz_gf 5 4 29), (29, mz_al 30), (30, mz_ic (fun x y => y ≤ x) 72 33), (33, mz_lda 0 34), (34, mz_gf 5 2 37), (37, mz_ldi 2 38), (38, mz_ci 2 2 (C_Fl_stepsTo w h) 41), (41, mz_push (.int (-1)) 42), (42, mz_ic (fun x y => x = y) 66 45), (45, mz_lda 0 46), (46, mz_ldi 2 47), (47, mz_ci 2 5 (C_Mk_isReached w h) 50), (50, mz_if (fun x => x = 0) 53 66), (53, mz_lda 0 54), (54, mz_ldi 2 55), (55, mz_ci 2 5 (C_Mk_walkToTree w h) 58), (58, mz_if (fun x => x = 0) 66 61), (61, mz_lda 0 62), (62, mz_ldi 2 63), (63, mz_cvo 2 5 (C_Mk_joinWalk w h) 66), (66, mz_inc 2 (1) 69), (69, mz_go 24), (72, mz_rv)]
def I_Mk_comb (w h : Nat) : List (Nat × mz_Op) := [(0, mz_push (.int (0)) 1), (1, mz_sti 1 2), (2, mz_ldi 1 3), (3, mz_lda 0 4), (4, mz_gf 5 4 7), (7, mz_al 8), (8, mz_ic (fun x y => y ≤ x) 67 11), (11, mz_lda 0 12), (12, mz_gf 5 3 15), (15, mz_cvo 1 1 (C_Dr_clear w h) 18), (18, mz_lda 0 19), (19, mz_gf 5 3 22), (22, mz_lda 0 23), (23, mz_gf 5 0 26), (26, mz_ldi 1 27), (27, mz_push (.int (0)) 28), (28, mz_ci 3 3 (C_Gr_doorOn w h) 31), (31, mz_cvo 2 1 (C_Dr_add w h) 34), (34, mz_lda 0 35), (35, mz_gf 5 3 38), (38, mz_lda 0 39), (39, mz_gf 5 0 42), (42, mz_ldi 1 43), (43, mz_push (.int (3)) 44), (44, mz_ci 3 3 (C_Gr_doorOn w h) 47), (47, mz_cvo 2 1 (C_Dr_add w h) 50), (50, mz_lda 0 51), (51, mz_lda 0 52), (52, mz_gf 5 3 55), (55, mz_ci 1 1 (C_Dr_draw w h) 58), (58, mz_cvo 2 5 (C_Mk_openDoor w h) 61), (61, mz_inc 1 (1) 64), (64, mz_go 2), (67, mz_rv)]
def I_Mk_openMore (w h : Nat) : List (Nat × mz_Op) := [(0, mz_lda 0 1), (1, mz_push (.int (0)) 2), (2, mz_pfi 5 6 5), (5, mz_push (.int (0)) 6), (6, mz_sti 2 7), (7, mz_ldi 2 8), (8, mz_ldi 1 9), (9, mz_ic (fun x y => y ≤ x) 89 12), (12, mz_lda 0 13), (13, mz_gf 5 3 16), (16, mz_cvo 1 1 (C_Dr_clear w h) 19), (19, mz_push (.int (0)) 20), (20, mz_sti 3 21), (21, mz_ldi 3 22), (22, mz_lda 0 23), (23, mz_gf 5 0 26), (26, mz_ci 1 3 (C_Gr_doorCount w h) 29), (29, mz_ic (fun x y => y ≤ x) 57 32), (32, mz_lda 0 33), (33, mz_gf 5 0 36), (36, mz_ldi 3 37), (37, mz_ci 2 3 (C_Gr_isOpen w h) 40), (40, mz_if (fun x => x = 0) 43 51), (43, mz_lda 0 44), (44, mz_gf 5 3 47), (47, mz_ldi 3 48), (48, mz_cvo 2 1 (C_Dr_add w h) 51), (51, mz_inc 3 (1) 54), (54, mz_go 21), (57, mz_lda 0 58), (58, mz_gf 5 3 61), (61, mz_ci 1 1 (C_Dr_count w h) 64), (64, mz_if (fun x => x = 0) 67 72), (67, mz_lda 0 68), (68, mz_gf 5 6 71), (71, mz_ri), (72, mz_lda 0 73), (73, mz_lda 0 74), (74, mz_gf 5 3 77), (77, mz_ci 1 1 (C_Dr_draw w h) 80), (80, mz_cvo 2 5 (C_Mk_openDoor w h) 83), (83, mz_inc 2 (1) 86), (86, mz_go 7), (89, mz_lda 0 90), (90, mz_gf 5 6 93), (93, mz_ri)]
theorem zg_setX_keep {p i : Nat} (h6 : p ≠ 6) (h1 : p ≠ 1 ∨ i ≠ 8) (X : mz_X) (d v : Int32) : (zg_setX X d v).1 p i = X.1 p i := by
  simp only [zg_setX, mz_up]
  rcases h1 with h1 | h1
  · rw [if_neg h1, if_neg h6]
  · by_cases hp : p = 1
    · rw [if_pos hp, if_neg h1, if_neg h6]
    · rw [if_neg hp, if_neg h6]
theorem zm_od_t {w h : Nat} {X : mz_X} {d : Int32} (e : zg_setB w h X d 1 = true) : zm_od w h X d = zm_odX X d := by
  unfold zm_od
  rw [e]
theorem zm_od_f {w h : Nat} {X : mz_X} {d : Int32} (e : zg_setB w h X d 1 = false) : zm_od w h X d = X := by
  unfold zm_od
  rw [e]
theorem zm_od_7 {w h : Nat} (X : mz_X) (d : Int32) : (zm_od w h X d).1 1 7 = X.1 1 7 := by
  cases e : zg_setB w h X d 1 with
  | true =>
    rw [zm_od_t e]
    show mz_up (zg_setX X d 1).1 12 6 ((zg_setX X d 1).1 12 6 + 1) 1 7 = X.1 1 7
    rw [mz_up_off (by decide), zg_setX_keep (by decide) (Or.inr (by decide))]
  | false => rw [zm_od_f e]
theorem zm_en_7 {w h p i : Nat} (hp : p ≠ 16) (X : mz_X) (c : Int32) : (zm_en w h X c).1 p i = X.1 p i := by
  unfold zm_en
  split
  · show mz_up X.1 16 _ _ p i = X.1 p i
    rw [mz_up_off hp]
  · rfl
theorem zm_stT_7 {w h p i : Nat} (hp : p ≠ 17) (X : mz_X) (c m : Int32) : (zm_stT w h X c m).1 p i = X.1 p i := by
  unfold zm_stT
  split
  · show mz_up X.1 17 _ _ p i = X.1 p i
    rw [mz_up_off hp]
  · rfl
theorem zm_beg_7 {w h p i : Nat} (hp : p ≠ 16) (hp2 : p ≠ 17) (X : mz_X) (c : Int32) : (zm_beg w h X c).1 p i = X.1 p i := by
  unfold zm_beg
  rw [zm_en_7 hp]
  simp only [zm_b0, mz_fil]
  rw [if_neg (fun q => hp2 q.1), if_neg (fun q => hp q.1)]
theorem zr_drX_1 (X : mz_X) : (zr_drX X).1 = X.1 := by
  unfold zr_drX
  split
  · rfl
  · unfold zc_X
    split <;> rfl
theorem zm_D_of {w h D : Nat} {X Y : mz_X} (hX : zm_D w h D X) (e : Y.1 1 7 = X.1 1 7) : zm_D w h D Y := ⟨hX.1, e.trans hX.2⟩
theorem zm_dS_t {w h : Nat} {X : mz_X} {c : Int32} (e : zm_dD w h X c = -1) : zm_dS w h X c = (zm_dX w h X c, zm_tr w h (zm_dX w h X c) c) := by
  unfold zm_dS
  rw [show decide (zm_dD w h X c = -1) = true from decide_eq_true e]
theorem zm_dS_f {w h : Nat} {X : mz_X} {c : Int32} (e : ¬ zm_dD w h X c = -1) : zm_dS w h X c = (zm_stT w h (zm_en w h (zm_od w h (zm_dX w h X c) (zm_dD w h X c)) (zm_dN w h X c)) (zm_dN w h X c) c, zm_dN w h X c) := by
  unfold zm_dS
  rw [show decide (zm_dD w h X c = -1) = false from decide_eq_false e]
theorem zm_dp_t {w h k : Nat} {X : mz_X} {c : Int32} (e : c = -1) : zm_dp w h X c (k + 1) = X := by
  show (match decide (c = -1) with | true => X | false => zm_dp w h (zm_dS w h X c).1 (zm_dS w h X c).2 k) = X
  rw [show decide (c = -1) = true from decide_eq_true e]
theorem zm_dp_f {w h k : Nat} {X : mz_X} {c : Int32} (e : ¬ c = -1) : zm_dp w h X c (k + 1) = zm_dp w h (zm_dS w h X c).1 (zm_dS w h X c).2 k := by
  show (match decide (c = -1) with | true => X | false => zm_dp w h (zm_dS w h X c).1 (zm_dS w h X c).2 k) = _
  rw [show decide (c = -1) = false from decide_eq_false e]
theorem zm_gr_t {w h D k : Nat} {X : mz_X} (e : zm_gD w h D X = -1) : zm_gr w h D X (k + 1) = zm_gX w h D X := by
  show (match decide (zm_gD w h D X = -1) with | true => zm_gX w h D X | false => zm_gr w h D (zm_gS w h D X) k) = _
  rw [show decide (zm_gD w h D X = -1) = true from decide_eq_true e]
theorem zm_gr_f {w h D k : Nat} {X : mz_X} (e : ¬ zm_gD w h D X = -1) : zm_gr w h D X (k + 1) = zm_gr w h D (zm_gS w h D X) k := by
  show (match decide (zm_gD w h D X = -1) with | true => zm_gX w h D X | false => zm_gr w h D (zm_gS w h D X) k) = _
  rw [show decide (zm_gD w h D X = -1) = false from decide_eq_false e]
theorem zm_gS_7 {w h D : Nat} (X : mz_X) : (zm_gS w h D X).1 1 7 = X.1 1 7 := by
  unfold zm_gS zm_gE zm_gO zm_gX
  rw [zm_en_7 (by decide), zm_en_7 (by decide), zm_od_7, zr_drX_1, zm_r_keep (by decide) (by decide)]
theorem zm_wk_t {w h k : Nat} {X : mz_X} {c : Int32} (e : (decide (c = -1) || zm_isR w h X c) = true) : zm_wk w h X c (k + 1) = (X, c) := by
  show (match decide (c = -1) || zm_isR w h X c with | true => (X, c) | false => zm_wk w h (zm_wT w h X c) (zg_oth w h (zm_wT w h X c) (zm_wD w h X c) c) k) = _
  rw [e]
theorem zm_wk_f {w h k : Nat} {X : mz_X} {c : Int32} (e : (decide (c = -1) || zm_isR w h X c) = false) : zm_wk w h X c (k + 1) = zm_wk w h (zm_wT w h X c) (zg_oth w h (zm_wT w h X c) (zm_wD w h X c) c) k := by
  show (match decide (c = -1) || zm_isR w h X c with | true => (X, c) | false => zm_wk w h (zm_wT w h X c) (zg_oth w h (zm_wT w h X c) (zm_wD w h X c) c) k) = _
  rw [e]
theorem zm_jw_t {w h k : Nat} {X : mz_X} {c : Int32} (e : zm_isR w h X c = true) : zm_jw w h X c (k + 1) = X := by
  show (match zm_isR w h X c with | true => X | false => zm_jw w h (zm_od w h (zm_en w h X c) (zm_tr w h X c)) (zg_oth w h (zm_od w h (zm_en w h X c) (zm_tr w h X c)) (zm_tr w h X c) c) k) = _
  rw [e]
theorem zm_jw_f {w h k : Nat} {X : mz_X} {c : Int32} (e : zm_isR w h X c = false) : zm_jw w h X c (k + 1) = zm_jw w h (zm_od w h (zm_en w h X c) (zm_tr w h X c)) (zg_oth w h (zm_od w h (zm_en w h X c) (zm_tr w h X c)) (zm_tr w h X c) c) k := by
  show (match zm_isR w h X c with | true => X | false => zm_jw w h (zm_od w h (zm_en w h X c) (zm_tr w h X c)) (zg_oth w h (zm_od w h (zm_en w h X c) (zm_tr w h X c)) (zm_tr w h X c) c) k) = _
  rw [e]
theorem zm_lo_t {w h D k : Nat} {X : mz_X} (e : (zm_c w h X D).1 14 2 = 0) : zm_lo w h D X (k + 1) = zm_c w h X D := by
  show (match decide ((zm_c w h X D).1 14 2 = 0) with | true => zm_c w h X D | false => zm_lo w h D (zm_lS w h D X) k) = _
  rw [show decide ((zm_c w h X D).1 14 2 = 0) = true from decide_eq_true e]
theorem zm_lo_f {w h D k : Nat} {X : mz_X} (e : ¬ (zm_c w h X D).1 14 2 = 0) : zm_lo w h D X (k + 1) = zm_lo w h D (zm_lS w h D X) k := by
  show (match decide ((zm_c w h X D).1 14 2 = 0) with | true => zm_c w h X D | false => zm_lo w h D (zm_lS w h D X) k) = _
  rw [show decide ((zm_c w h X D).1 14 2 = 0) = false from decide_eq_false e]
theorem zm_lS_7 {w h D : Nat} (X : mz_X) : (zm_lS w h D X).1 1 7 = X.1 1 7 := by
  unfold zm_lS
  rw [zm_od_7, zr_drX_1, zm_c_keep (by decide) (by decide)]
theorem len_Mk_goDeep (w h : Nat) (lay : List mz_E) (as : List Value) (X : mz_X) (Q : mz_X → Prop) (hC : C_Mk_goDeep w h lay as X Q) : (mz_l0 as).length ≤ 5 := by
  unfold C_Mk_goDeep at hC
  split at hC
  · exact Nat.le_of_ble_eq_true rfl
  · exact hC.elim
theorem ok_Mk_goDeep (w h : Nat) (lay : List mz_E) (as : List Value) (X : mz_X) (Q : mz_X → Prop) (hC : C_Mk_goDeep w h lay as X Q) (K : mz_K) (hK : mz_Cl (I_Mk_goDeep w h) (mz_qv lay Q) K) : K 0 (mz_ent 5 as) [] (lay, X) := by
  unfold C_Mk_goDeep at hC
  split at hC
  ·
    obtain ⟨rfl, g, hq⟩ := hC
    have hn := mz_geo_n g
    have loop : ∀ (k i : Nat) (Y : mz_X) (c : Int32), i + k = 2 * (w * h) → Q (zm_dp w h Y c k) → ∀ L3 L4 : Option Value, K 15 [some (.ref 12), some (.int c), some (.int (nI i)), L3, L4] [] (mz_lay w h, Y) := by
      intro k
      induction k with
      | zero =>
        intro i Y c hi hQ L3 L4
        iterate 6 refine hK _ _ _ _ ?_
        refine hK _ _ _ _ (And.intro (fun c1 => ?_) (fun c1 => ?_))
        · exact hK _ _ _ _ (And.intro rfl (hQ))
        · dsimp only at c1
          rw [show (2 : Int32) = nI 2 from rfl, pk_mul] at c1
          exact absurd (nI_le (a := 2 * (w * h)) (b := i) (by omega) (by omega)) c1
      | succ k ih =>
        intro i Y c hi hQ L3 L4
        iterate 6 refine hK _ _ _ _ ?_
        refine hK _ _ _ _ (And.intro (fun c1 => ?_) (fun c1 => ?_))
        · dsimp only at c1
          rw [show (2 : Int32) = nI 2 from rfl, pk_mul] at c1
          exact absurd c1 (nI_ge (by omega) (by omega))
        · iterate 2 refine hK _ _ _ _ ?_
          refine hK _ _ _ _ (And.intro (fun c2 => ?_) (fun c2 => ?_))
          · rw [zm_dp_t c2] at hQ
            exact hK _ _ _ _ (And.intro rfl (hQ))
          · rw [zm_dp_f c2] at hQ
            iterate 2 refine hK _ _ _ _ ?_
            refine hK _ _ _ _ (And.intro (rfl) (And.intro (g) ?_))
            iterate 2 refine hK _ _ _ _ ?_
            refine hK _ _ _ _ (And.intro (rfl) (And.intro (g) ?_))
            iterate 3 refine hK _ _ _ _ ?_
            refine hK _ _ _ _ (And.intro (fun c3 => ?_) (fun c3 => ?_))
            · rw [zm_dS_t c3] at hQ
              simp only [zm_dX] at hQ
              generalize zm_u w h Y c 4 = U at hQ ⊢
              iterate 2 refine hK _ _ _ _ ?_
              refine hK _ _ _ _ (And.intro (rfl) (And.intro (g) ?_))
              iterate 4 refine hK _ _ _ _ ?_
              have := fun L3 L4 => ih (i + 1) _ _ (by omega) hQ L3 L4
              rw [← nI_1] at this
              exact this _ _
            · rw [zm_dS_f c3] at hQ
              simp only [zm_dN, zm_dX, zm_dD] at hQ
              generalize zm_u w h Y c 4 = U at hQ ⊢
              iterate 4 refine hK _ _ _ _ ?_
              refine hK _ _ _ _ (And.intro (rfl) (And.intro (g) ?_))
              iterate 3 refine hK _ _ _ _ ?_
              refine hK _ _ _ _ (And.intro (rfl) (And.intro (g) ?_))
              iterate 2 refine hK _ _ _ _ ?_
              refine hK _ _ _ _ (And.intro (rfl) (And.intro (g) ?_))
              iterate 3 refine hK _ _ _ _ ?_
              refine hK _ _ _ _ (And.intro (rfl) (And.intro (g) ?_))
              iterate 4 refine hK _ _ _ _ ?_
              have := fun L3 L4 => ih (i + 1) _ _ (by omega) hQ L3 L4
              rw [← nI_1] at this
              exact this _ _
    iterate 2 refine hK _ _ _ _ ?_
    refine hK _ _ _ _ (And.intro (rfl) (And.intro (g) ?_))
    iterate 3 refine hK _ _ _ _ ?_
    refine hK _ _ _ _ (And.intro (rfl) (And.intro (g) ?_))
    iterate 2 refine hK _ _ _ _ ?_
    exact loop (2 * (w * h)) 0 _ _ (by omega) hq none none
  · exact hC.elim
theorem len_Mk_grow (w h : Nat) (lay : List mz_E) (as : List Value) (X : mz_X) (Q : mz_X → Prop) (hC : C_Mk_grow w h lay as X Q) : (mz_l0 as).length ≤ 3 := by
  unfold C_Mk_grow at hC
  split at hC
  · exact Nat.le_of_ble_eq_true rfl
  · exact hC.elim
theorem ok_Mk_grow (w h : Nat) (lay : List mz_E) (as : List Value) (X : mz_X) (Q : mz_X → Prop) (hC : C_Mk_grow w h lay as X Q) (K : mz_K) (hK : mz_Cl (I_Mk_grow w h) (mz_qv lay Q) K) : K 0 (mz_ent 3 as) [] (lay, X) := by
  unfold C_Mk_grow at hC
  split at hC
  ·
    obtain ⟨rfl, g, D, hD, hq⟩ := hC
    have hn := mz_geo_n g
    have loop : ∀ (k i : Nat) (Y : mz_X), i + k = w * h → zm_D w h D Y → Q (zm_gr w h D Y k) → ∀ L2 : Option Value, K 13 [some (.ref 12), some (.int (nI i)), L2] [] (mz_lay w h, Y) := by
      intro k
      induction k with
      | zero =>
        intro i Y hi hY hQ L2
        iterate 4 refine hK _ _ _ _ ?_
        refine hK _ _ _ _ (And.intro (fun c1 => ?_) (fun c1 => ?_))
        · exact hK _ _ _ _ (And.intro rfl (hQ))
        · exact absurd (nI_le (a := w * h) (b := i) (by omega) (by omega)) c1
      | succ k ih =>
        intro i Y hi hY hQ L2
        iterate 4 refine hK _ _ _ _ ?_
        refine hK _ _ _ _ (And.intro (fun c1 => ?_) (fun c1 => ?_))
        · exact absurd c1 (nI_ge (by omega) (by omega))
        · refine hK _ _ _ _ ?_
          refine hK _ _ _ _ (And.intro rfl (And.intro g (Exists.intro D (And.intro hY.1 (And.intro hY.2 ?_)))))
          iterate 2 refine hK _ _ _ _ ?_
          refine hK _ _ _ _ (And.intro (rfl) (And.intro (g) ?_))
          iterate 3 refine hK _ _ _ _ ?_
          refine hK _ _ _ _ (And.intro (fun c2 => ?_) (fun c2 => ?_))
          · rw [zm_gr_t c2] at hQ
            exact hK _ _ _ _ (And.intro rfl (hQ))
          · rw [zm_gr_f c2] at hQ
            iterate 2 refine hK _ _ _ _ ?_
            refine hK _ _ _ _ (And.intro (rfl) (And.intro (g) ?_))
            iterate 4 refine hK _ _ _ _ ?_
            refine hK _ _ _ _ (And.intro (rfl) (And.intro (g) ?_))
            refine hK _ _ _ _ (And.intro (rfl) (And.intro (g) ?_))
            iterate 4 refine hK _ _ _ _ ?_
            refine hK _ _ _ _ (And.intro (rfl) (And.intro (g) ?_))
            refine hK _ _ _ _ (And.intro (rfl) (And.intro (g) ?_))
            iterate 2 refine hK _ _ _ _ ?_
            have := fun L2 => ih (i + 1) _ (by omega) (zm_D_of hY (zm_gS_7 Y)) hQ L2
            rw [← nI_1] at this
            exact this _
    iterate 3 refine hK _ _ _ _ ?_
    refine hK _ _ _ _ (And.intro (rfl) (And.intro (g) ?_))
    refine hK _ _ _ _ (And.intro (rfl) (And.intro (g) ?_))
    iterate 2 refine hK _ _ _ _ ?_
    exact loop (w * h) 0 _ (by omega) (zm_D_of hD (zm_beg_7 (by decide) (by decide) _ _)) hq none
  · exact hC.elim
theorem len_Mk_walkToTree (w h : Nat) (lay : List mz_E) (as : List Value) (X : mz_X) (Q : Int32 → mz_X → Prop) (hC : C_Mk_walkToTree w h lay as X Q) : (mz_l0 as).length ≤ 5 := by
  unfold C_Mk_walkToTree at hC
  split at hC
  · exact Nat.le_of_ble_eq_true rfl
  · exact hC.elim
theorem ok_Mk_walkToTree (w h : Nat) (lay : List mz_E) (as : List Value) (X : mz_X) (Q : Int32 → mz_X → Prop) (hC : C_Mk_walkToTree w h lay as X Q) (K : mz_K) (hK : mz_Cl (I_Mk_walkToTree w h) (mz_qi lay Q) K) : K 0 (mz_ent 5 as) [] (lay, X) := by
  unfold C_Mk_walkToTree at hC
  split at hC
  · next c =>
    obtain ⟨rfl, g, N, hN, hq⟩ := hC
    have loop : ∀ (k i : Nat) (Y : mz_X) (x : Int32), i + k = N → Q (mz_b (zm_isR w h (zm_wk w h Y x k).1 (zm_wk w h Y x k).2)) (zm_wk w h Y x k).1 → ∀ L4 : Option Value, K 4 [some (.ref 12), some (.int c), some (.int x), some (.int (nI i)), L4] [] (mz_lay w h, Y) := by
      have hend : ∀ (Y : mz_X) (x : Int32) (L3 L4 : Option Value), Q (mz_b (zm_isR w h Y x)) Y → K 61 [some (.ref 12), some (.int c), some (.int x), L3, L4] [] (mz_lay w h, Y) := by
        intro Y x L3 L4 hQ
        iterate 2 refine hK _ _ _ _ ?_
        refine hK _ _ _ _ (And.intro (rfl) (And.intro (g) ?_))
        exact hK _ _ _ _ (And.intro (mz_b_01 _) (And.intro rfl hQ))
      intro k
      induction k with
      | zero =>
        intro i Y x hi hQ L4
        iterate 2 refine hK _ _ _ _ ?_
        refine hK _ _ _ _ (And.intro (fun c1 => ?_) (fun c1 => ?_))
        · exact hend _ _ _ _ hQ
        · exact absurd (nI_le (a := 1000000) (b := i) (by omega) (by omega)) c1
      | succ k ih =>
        intro i Y x hi hQ L4
        iterate 2 refine hK _ _ _ _ ?_
        refine hK _ _ _ _ (And.intro (fun c1 => ?_) (fun c1 => ?_))
        · exact absurd c1 (nI_ge (a := i) (b := 1000000) (by omega) (by omega))
        · iterate 2 refine hK _ _ _ _ ?_
          refine hK _ _ _ _ (And.intro (fun c2 => ?_) (fun c2 => ?_))
          · rw [zm_wk_t (by rw [show decide (x = -1) = true from decide_eq_true c2]; rfl)] at hQ
            exact hend _ _ _ _ hQ
          · iterate 2 refine hK _ _ _ _ ?_
            refine hK _ _ _ _ (And.intro (rfl) (And.intro (g) ?_))
            refine hK _ _ _ _ (And.intro (fun c3 => ?_) (fun c3 => ?_))
            · rw [zm_wk_f (by rw [show decide (x = -1) = false from decide_eq_false c2, show zm_isR w h Y x = false from mz_b0 c3]; rfl)] at hQ
              iterate 2 refine hK _ _ _ _ ?_
              refine hK _ _ _ _ (And.intro (rfl) (And.intro (g) ?_))
              iterate 2 refine hK _ _ _ _ ?_
              refine hK _ _ _ _ (And.intro (rfl) (And.intro (g) ?_))
              iterate 4 refine hK _ _ _ _ ?_
              refine hK _ _ _ _ (And.intro (rfl) (And.intro (g) ?_))
              iterate 4 refine hK _ _ _ _ ?_
              refine hK _ _ _ _ (And.intro (rfl) (And.intro (g) ?_))
              iterate 3 refine hK _ _ _ _ ?_
              have := fun L4 => ih (i + 1) _ _ (by omega) hQ L4
              rw [← nI_1] at this
              exact this _
            · rw [zm_wk_t (by rw [show zm_isR w h Y x = true from mz_b1 c3]; simp)] at hQ
              exact hend _ _ _ _ hQ
    iterate 4 refine hK _ _ _ _ ?_
    exact loop N 0 X c (by omega) hq none
  · exact hC.elim
theorem len_Mk_joinWalk (w h : Nat) (lay : List mz_E) (as : List Value) (X : mz_X) (Q : mz_X → Prop) (hC : C_Mk_joinWalk w h lay as X Q) : (mz_l0 as).length ≤ 5 := by
  unfold C_Mk_joinWalk at hC
  split at hC
  · exact Nat.le_of_ble_eq_true rfl
  · exact hC.elim
theorem ok_Mk_joinWalk (w h : Nat) (lay : List mz_E) (as : List Value) (X : mz_X) (Q : mz_X → Prop) (hC : C_Mk_joinWalk w h lay as X Q) (K : mz_K) (hK : mz_Cl (I_Mk_joinWalk w h) (mz_qv lay Q) K) : K 0 (mz_ent 5 as) [] (lay, X) := by
  unfold C_Mk_joinWalk at hC
  split at hC
  · next c =>
    obtain ⟨rfl, g, hq⟩ := hC
    have hn := mz_geo_n g
    have loop : ∀ (k i : Nat) (Y : mz_X) (x : Int32), i + k = w * h → Q (zm_jw w h Y x k) → ∀ L4 : Option Value, K 4 [some (.ref 12), some (.int c), some (.int x), some (.int (nI i)), L4] [] (mz_lay w h, Y) := by
      intro k
      induction k with
      | zero =>
        intro i Y x hi hQ L4
        iterate 4 refine hK _ _ _ _ ?_
        refine hK _ _ _ _ (And.intro (fun c1 => ?_) (fun c1 => ?_))
        · exact hK _ _ _ _ (And.intro rfl (hQ))
        · exact absurd (nI_le (a := w * h) (b := i) (by omega) (by omega)) c1
      | succ k ih =>
        intro i Y x hi hQ L4
        iterate 4 refine hK _ _ _ _ ?_
        refine hK _ _ _ _ (And.intro (fun c1 => ?_) (fun c1 => ?_))
        · exact absurd c1 (nI_ge (by omega) (by omega))
        · iterate 2 refine hK _ _ _ _ ?_
          refine hK _ _ _ _ (And.intro (rfl) (And.intro (g) ?_))
          refine hK _ _ _ _ (And.intro (fun c2 => ?_) (fun c2 => ?_))
          · rw [zm_jw_f (mz_b0 c2)] at hQ
            iterate 2 refine hK _ _ _ _ ?_
            refine hK _ _ _ _ (And.intro (rfl) (And.intro (g) ?_))
            iterate 3 refine hK _ _ _ _ ?_
            refine hK _ _ _ _ (And.intro (rfl) (And.intro (g) ?_))
            iterate 2 refine hK _ _ _ _ ?_
            refine hK _ _ _ _ (And.intro (rfl) (And.intro (g) ?_))
            iterate 4 refine hK _ _ _ _ ?_
            refine hK _ _ _ _ (And.intro (rfl) (And.intro (g) ?_))
            iterate 3 refine hK _ _ _ _ ?_
            have := fun L4 => ih (i + 1) _ _ (by omega) hQ L4
            rw [← nI_1] at this
            exact this _
          · rw [zm_jw_t (mz_b1 c2)] at hQ
            exact hK _ _ _ _ (And.intro rfl (hQ))
    iterate 4 refine hK _ _ _ _ ?_
    exact loop (w * h) 0 X c (by omega) hq none
  · exact hC.elim
theorem len_Mk_walkAll (w h : Nat) (lay : List mz_E) (as : List Value) (X : mz_X) (Q : mz_X → Prop) (hC : C_Mk_walkAll w h lay as X Q) : (mz_l0 as).length ≤ 3 := by
  unfold C_Mk_walkAll at hC
  split at hC
  · exact Nat.le_of_ble_eq_true rfl
  · exact hC.elim
theorem ok_Mk_walkAll (w h : Nat) (lay : List mz_E) (as : List Value) (X : mz_X) (Q : mz_X → Prop) (hC : C_Mk_walkAll w h lay as X Q) (K : mz_K) (hK : mz_Cl (I_Mk_walkAll w h) (mz_qv lay Q) K) : K 0 (mz_ent 3 as) [] (lay, X) := by
  unfold C_Mk_walkAll at hC
  split at hC
  ·
    obtain ⟨rfl, g, N, hN, hq⟩ := hC
    have hn := mz_geo_n g
    have loop : ∀ (Z : mz_X), Q (zm_ws w h N Z (w * h)) → ∀ (f : Int32) (k i : Nat), i + k = w * h → K 24 [some (.ref 12), some (.int f), some (.int (nI i))] [] (mz_lay w h, zm_ws w h N Z i) := by
      intro Z hZ f k
      induction k with
      | zero =>
        intro i hi
        iterate 4 refine hK _ _ _ _ ?_
        refine hK _ _ _ _ (And.intro (fun c1 => ?_) (fun c1 => ?_))
        · exact hK _ _ _ _ (And.intro rfl (by rw [show i = w * h by omega]; exact hZ))
        · exact absurd (nI_le (a := w * h) (b := i) (by omega) (by omega)) c1
      | succ k ih =>
        intro i hi
        have ih1 := ih (i + 1) (by omega)
        rw [show zm_ws w h N Z (i + 1) = zm_wS w h N (zm_ws w h N Z i) i from rfl, ← nI_1] at ih1
        generalize zm_ws w h N Z i = Y at ih1 ⊢
        have hf : zm_wB w h Y i = false → K 66 [some (.ref 12), some (.int f), some (.int (nI i))] [] (mz_lay w h, Y) := by
          intro e
          rw [show zm_wS w h N Y i = Y by unfold zm_wS; rw [e]] at ih1
          iterate 2 refine hK _ _ _ _ ?_
          exact ih1
        iterate 4 refine hK _ _ _ _ ?_
        refine hK _ _ _ _ (And.intro (fun c1 => ?_) (fun c1 => ?_))
        · exact absurd c1 (nI_ge (by omega) (by omega))
        · iterate 3 refine hK _ _ _ _ ?_
          refine hK _ _ _ _ (And.intro (rfl) (And.intro (g) ?_))
          refine hK _ _ _ _ ?_
          refine hK _ _ _ _ (And.intro (fun c2 => ?_) (fun c2 => ?_))
          · exact hf (by simp only [zm_wB]; rw [show zf_to w h Y (nI i) = -1 from c2]; rfl)
          · iterate 2 refine hK _ _ _ _ ?_
            refine hK _ _ _ _ (And.intro (rfl) (And.intro (g) ?_))
            refine hK _ _ _ _ (And.intro (fun c3 => ?_) (fun c3 => ?_))
            · have e : zm_wB w h Y i = true := by
                simp only [zm_wB]
                rw [show zm_isR w h Y (nI i) = false from mz_b0 c3, show decide (zf_to w h Y (nI i) = -1) = false from decide_eq_false c2]
                rfl
              iterate 2 refine hK _ _ _ _ ?_
              refine hK _ _ _ _ (And.intro rfl (And.intro g (Exists.intro N (And.intro hN ?_))))
              refine hK _ _ _ _ (And.intro (fun c4 => ?_) (fun c4 => ?_))
              · rw [show zm_wS w h N Y i = (zm_wk w h Y (nI i) N).1 by unfold zm_wS; rw [e, show zm_isR w h (zm_wk w h Y (nI i) N).1 (zm_wk w h Y (nI i) N).2 = false from mz_b0 c4]] at ih1
                iterate 2 refine hK _ _ _ _ ?_
                exact ih1
              · rw [show zm_wS w h N Y i = zm_jw w h (zm_wk w h Y (nI i) N).1 (nI i) (w * h) by unfold zm_wS; rw [e, show zm_isR w h (zm_wk w h Y (nI i) N).1 (zm_wk w h Y (nI i) N).2 = true from mz_b1 c4]] at ih1
                iterate 2 refine hK _ _ _ _ ?_
                refine hK _ _ _ _ (And.intro (rfl) (And.intro (g) ?_))
                iterate 2 refine hK _ _ _ _ ?_
                exact ih1
            · exact hf (by simp only [zm_wB]; rw [show zm_isR w h Y (nI i) = true from mz_b1 c3]; simp)
    iterate 2 refine hK _ _ _ _ ?_
    refine hK _ _ _ _ (And.intro (rfl) (And.intro (g) ?_))
    iterate 3 refine hK _ _ _ _ ?_
    refine hK _ _ _ _ (And.intro (rfl) (And.intro (g) ?_))
    iterate 4 refine hK _ _ _ _ ?_
    refine hK _ _ _ _ (And.intro (rfl) (And.intro (g) ?_))
    iterate 2 refine hK _ _ _ _ ?_
    exact loop _ hq _ (w * h) 0 (by omega)
  · exact hC.elim
theorem len_Mk_comb (w h : Nat) (lay : List mz_E) (as : List Value) (X : mz_X) (Q : mz_X → Prop) (hC : C_Mk_comb w h lay as X Q) : (mz_l0 as).length ≤ 2 := by
  unfold C_Mk_comb at hC
  split at hC
  · exact Nat.le_of_ble_eq_true rfl
  · exact hC.elim
theorem ok_Mk_comb (w h : Nat) (lay : List mz_E) (as : List Value) (X : mz_X) (Q : mz_X → Prop) (hC : C_Mk_comb w h lay as X Q) (K : mz_K) (hK : mz_Cl (I_Mk_comb w h) (mz_qv lay Q) K) : K 0 (mz_ent 2 as) [] (lay, X) := by
  unfold C_Mk_comb at hC
  split at hC
  ·
    obtain ⟨rfl, g, hq⟩ := hC
    have hn := mz_geo_n g
    have loop : ∀ (k i : Nat), i + k = w * h → K 2 [some (.ref 12), some (.int (nI i))] [] (mz_lay w h, zm_ks w h X i) := by
      intro k
      induction k with
      | zero =>
        intro i hi
        iterate 4 refine hK _ _ _ _ ?_
        refine hK _ _ _ _ (And.intro (fun c1 => ?_) (fun c1 => ?_))
        · exact hK _ _ _ _ (And.intro rfl (by rw [show i = w * h by omega]; exact hq))
        · exact absurd (nI_le (a := w * h) (b := i) (by omega) (by omega)) c1
      | succ k ih =>
        intro i hi
        have ih1 := ih (i + 1) (by omega)
        rw [show zm_ks w h X (i + 1) = zm_kS w h (zm_ks w h X i) i from rfl, ← nI_1] at ih1
        generalize zm_ks w h X i = Y at ih1 ⊢
        iterate 4 refine hK _ _ _ _ ?_
        refine hK _ _ _ _ (And.intro (fun c1 => ?_) (fun c1 => ?_))
        · exact absurd c1 (nI_ge (by omega) (by omega))
        · iterate 2 refine hK _ _ _ _ ?_
          refine hK _ _ _ _ (And.intro (rfl) (And.intro (g) ?_))
          iterate 6 refine hK _ _ _ _ ?_
          refine hK _ _ _ _ (And.intro (rfl) (And.intro (g) ?_))
          refine hK _ _ _ _ (And.intro (rfl) (And.intro (g) ?_))
          iterate 6 refine hK _ _ _ _ ?_
          refine hK _ _ _ _ (And.intro (rfl) (And.intro (g) ?_))
          refine hK _ _ _ _ (And.intro (rfl) (And.intro (g) ?_))
          iterate 3 refine hK _ _ _ _ ?_
          refine hK _ _ _ _ (And.intro (rfl) (And.intro (g) ?_))
          refine hK _ _ _ _ (And.intro (rfl) (And.intro (g) ?_))
          iterate 2 refine hK _ _ _ _ ?_
          exact ih1
    iterate 2 refine hK _ _ _ _ ?_
    exact loop (w * h) 0 (by omega)
  · exact hC.elim
theorem len_Mk_openMore (w h : Nat) (lay : List mz_E) (as : List Value) (X : mz_X) (Q : Int32 → mz_X → Prop) (hC : C_Mk_openMore w h lay as X Q) : (mz_l0 as).length ≤ 4 := by
  unfold C_Mk_openMore at hC
  split at hC
  · exact Nat.le_of_ble_eq_true rfl
  · exact hC.elim
theorem ok_Mk_openMore (w h : Nat) (lay : List mz_E) (as : List Value) (X : mz_X) (Q : Int32 → mz_X → Prop) (hC : C_Mk_openMore w h lay as X Q) (K : mz_K) (hK : mz_Cl (I_Mk_openMore w h) (mz_qi lay Q) K) : K 0 (mz_ent 4 as) [] (lay, X) := by
  unfold C_Mk_openMore at hC
  split at hC
  · next n =>
    obtain ⟨rfl, g, D, m, hD, hm, rfl, hq⟩ := hC
    have hd := mz_geo_d g
    have loop : ∀ (k i : Nat) (Y : mz_X), i + k = m → zm_D w h D Y → Q ((zm_lo w h D Y k).1 12 6) (zm_lo w h D Y k) → ∀ L3 : Option Value, K 7 [some (.ref 12), some (.int (nI m)), some (.int (nI i)), L3] [] (mz_lay w h, Y) := by
      intro k
      induction k with
      | zero =>
        intro i Y hi hY hQ L3
        iterate 2 refine hK _ _ _ _ ?_
        refine hK _ _ _ _ (And.intro (fun c1 => ?_) (fun c1 => ?_))
        · iterate 2 refine hK _ _ _ _ ?_
          exact hK _ _ _ _ (And.intro rfl (hQ))
        · exact absurd (nI_le (a := m) (b := i) (by omega) (by omega)) c1
      | succ k ih =>
        intro i Y hi hY hQ L3
        have inner : ∀ (kk j : Nat), j + kk = D → K 21 [some (.ref 12), some (.int (nI m)), some (.int (nI i)), some (.int (nI j))] [] (mz_lay w h, zm_c w h Y j) := by
          intro kk
          induction kk with
          | zero =>
            intro j hj
            have h7 : (zm_c w h Y j).1 1 7 = nI D := by rw [zm_c_keep (by decide) (by decide), hY.2]
            have ej : j = D := by omega
            subst ej
            iterate 3 refine hK _ _ _ _ ?_
            refine hK _ _ _ _ (And.intro (rfl) (And.intro (g) ?_))
            refine hK _ _ _ _ (And.intro (fun c2 => ?_) (fun c2 => ?_))
            · iterate 2 refine hK _ _ _ _ ?_
              refine hK _ _ _ _ (And.intro (rfl) (And.intro (g) ?_))
              refine hK _ _ _ _ (And.intro (fun c3 => ?_) (fun c3 => ?_))
              · rw [zm_lo_t c3] at hQ
                iterate 2 refine hK _ _ _ _ ?_
                exact hK _ _ _ _ (And.intro rfl (hQ))
              · rw [zm_lo_f c3] at hQ
                iterate 3 refine hK _ _ _ _ ?_
                refine hK _ _ _ _ (And.intro (rfl) (And.intro (g) ?_))
                refine hK _ _ _ _ (And.intro (rfl) (And.intro (g) ?_))
                iterate 2 refine hK _ _ _ _ ?_
                have := fun L3 => ih (i + 1) _ (by omega) (zm_D_of hY (zm_lS_7 Y)) hQ L3
                rw [← nI_1] at this
                exact this _
            · dsimp only at c2
              rw [h7] at c2
              exact absurd (nI_le (Nat.le_refl _) (by have := hY.1; omega)) c2
          | succ kk ihh =>
            intro j hj
            have h7 : (zm_c w h Y j).1 1 7 = nI D := by rw [zm_c_keep (by decide) (by decide), hY.2]
            have hDd := hY.1
            have ih1 := ihh (j + 1) (by omega)
            rw [show zm_c w h Y (j + 1) = zm_cS w h (zm_c w h Y j) j from rfl, ← nI_1] at ih1
            generalize zm_c w h Y j = Z at ih1 h7 ⊢
            iterate 3 refine hK _ _ _ _ ?_
            refine hK _ _ _ _ (And.intro (rfl) (And.intro (g) ?_))
            refine hK _ _ _ _ (And.intro (fun c2 => ?_) (fun c2 => ?_))
            · dsimp only at c2
              rw [h7] at c2
              exact absurd c2 (nI_ge (by omega) (by omega))
            · iterate 3 refine hK _ _ _ _ ?_
              refine hK _ _ _ _ (And.intro (rfl) (And.intro (g) ?_))
              refine hK _ _ _ _ (And.intro (fun c3 => ?_) (fun c3 => ?_))
              · rw [show zm_cS w h Z j = zr_add w h Z (nI j) by unfold zm_cS; rw [show zg_open w h Z (nI j) = false from mz_b0 c3]] at ih1
                iterate 3 refine hK _ _ _ _ ?_
                refine hK _ _ _ _ (And.intro (rfl) (And.intro (g) ?_))
                iterate 2 refine hK _ _ _ _ ?_
                exact ih1
              · rw [show zm_cS w h Z j = Z by unfold zm_cS; rw [show zg_open w h Z (nI j) = true from mz_b1 c3]] at ih1
                iterate 2 refine hK _ _ _ _ ?_
                exact ih1
        iterate 2 refine hK _ _ _ _ ?_
        refine hK _ _ _ _ (And.intro (fun c1 => ?_) (fun c1 => ?_))
        · exact absurd c1 (nI_ge (by omega) (by omega))
        · iterate 2 refine hK _ _ _ _ ?_
          refine hK _ _ _ _ (And.intro (rfl) (And.intro (g) ?_))
          iterate 2 refine hK _ _ _ _ ?_
          exact inner D 0 (by omega)
    iterate 5 refine hK _ _ _ _ ?_
    exact loop m 0 _ (by omega) (zm_D_of hD (by show mz_up X.1 12 6 0 1 7 = X.1 1 7; rw [mz_up_off (by decide)])) hq none
  · exact hC.elim
set_option maxRecDepth 20000 in
theorem snd_Mk_goDeep (w h : Nat) (l : Launch) (p : Program) (e : Env) (s : State) (m : MethodId) (args : Array Value) (below : List Frame) (meth : Method) (c : Code) (D : va_G) (ad0 : Nat → Nat) (cA0 : Nat → ClassId) (A : Nat → Prop) (lay : List mz_E) (Q : mz_X → Prop) (F : mz_F p s m args meth c prog_7_method_10_code 5 y_Mk_goDeep.cls none w_Mk_goDeep) (hA : ∀ q, s.heap.size ≤ q → A q) : mz_All (mz_V p l e (mz_rm 3 67) s m args below meth c 5 lay.length (mz_sz lay) D mz_cls (mz_G0 ad0 cA0) A (MQ below (va_Qv Q (mz_B D mz_cls ad0 cA0 lay A) A) args s 0 0 A)) (mz_qv lay Q) (I_Mk_goDeep w h) := by
  obtain ⟨hx, hb, hml, hown, hts, hr, hlk⟩ := F
  unfold I_Mk_goDeep
  refine mz_All.cons (sd_aload_n hx hb (mz_dg d_Mk_goDeep 0 0 (.aload_n 0) 1 rfl) rfl) ?_
  refine mz_All.cons (sd_get (k := 0) hx hb hts (mz_inC in_Mk) hown (T := T_Mk) (N := 7) rfl (by decide) (hts (.fieldLink "MazeForms$Maker" 9 "MazeForms$Maker" "grid" "LMazeForms$Grid;") (List.mem_cons_of_mem _ wm_229)) (fun _ h => h) (mz_dg d_Mk_goDeep 1 1 (.getfield 9) 3 rfl)) ?_
  refine mz_All.cons (sd_calli (T := T_Gr) ⟨hx, hb, hml, hown, hts⟩ (met_Gr_firstCell w h l) (cwV 0 hts (mz_gV wm_350 wm_351 wm_352 wm_67 wm_353) rfl rfl rfl (by decide) ⟨by decide, by decide⟩) rfl hA rfl (mz_dg d_Mk_goDeep 2 4 (.invokevirtual 104) 3 rfl)) ?_
  refine mz_All.cons (sd_istore_n hx hb (mz_dg d_Mk_goDeep 3 7 (.istore_n 1) 1 rfl) rfl (by decide)) ?_
  refine mz_All.cons (sd_aload_n hx hb (mz_dg d_Mk_goDeep 4 8 (.aload_n 0) 1 rfl) rfl) ?_
  refine mz_All.cons (sd_iload_n hx hb (mz_dg d_Mk_goDeep 5 9 (.iload_n 1) 1 rfl) rfl) ?_
  refine mz_All.cons (sd_callv (T := T_Mk) ⟨hx, hb, hml, hown, hts⟩ (met_Mk_begin w h l) (cwV 1 hts (mz_gV wm_354 wm_356 wm_3 wm_72 wm_357) rfl rfl rfl (by decide) ⟨by decide, by decide⟩) rfl hA rfl (mz_dg d_Mk_goDeep 6 10 (.invokevirtual 107) 3 rfl)) ?_
  refine mz_All.cons (sd_iconst hx hb (mz_dg d_Mk_goDeep 7 13 (.iconst (0)) 1 rfl) (by decide)) ?_
  refine mz_All.cons (sd_istore_n hx hb (mz_dg d_Mk_goDeep 8 14 (.istore_n 2) 1 rfl) rfl (by decide)) ?_
  refine mz_All.cons (sd_iload_n hx hb (mz_dg d_Mk_goDeep 9 15 (.iload_n 2) 1 rfl) rfl) ?_
  refine mz_All.cons (sd_iconst hx hb (mz_dg d_Mk_goDeep 10 16 (.iconst (2)) 1 rfl) (by decide)) ?_
  refine mz_All.cons (sd_aload_n hx hb (mz_dg d_Mk_goDeep 11 17 (.aload_n 0) 1 rfl) rfl) ?_
  refine mz_All.cons (sd_get (k := 4) hx hb hts (mz_inC in_Mk) hown (T := T_Mk) (N := 7) rfl (by decide) (hts (.fieldLink "MazeForms$Maker" 41 "MazeForms$Maker" "reached" "[Z") (List.mem_cons_of_mem _ wm_233)) (fun _ h => h) (mz_dg d_Mk_goDeep 12 18 (.getfield 41) 3 rfl)) ?_
  refine mz_All.cons (sd_alen hx hb (mz_dg d_Mk_goDeep 13 21 (.arraylength) 1 rfl)) ?_
  refine mz_All.cons (sd_imul hx hb (mz_dg d_Mk_goDeep 14 22 (.imul) 1 rfl)) ?_
  refine mz_All.cons (sd_icmp_ge hx hb (mz_dg d_Mk_goDeep 15 23 (.if_icmp .ge (73)) 3 rfl) (by decide)) ?_
  refine mz_All.cons (sd_iload_n hx hb (mz_dg d_Mk_goDeep 16 26 (.iload_n 1) 1 rfl) rfl) ?_
  refine mz_All.cons (sd_iconst hx hb (mz_dg d_Mk_goDeep 17 27 (.iconst (-1)) 1 rfl) (by decide)) ?_
  refine mz_All.cons (sd_icmp_eq hx hb (mz_dg d_Mk_goDeep 18 28 (.if_icmp .eq (68)) 3 rfl) (by decide)) ?_
  refine mz_All.cons (sd_aload_n hx hb (mz_dg d_Mk_goDeep 19 31 (.aload_n 0) 1 rfl) rfl) ?_
  refine mz_All.cons (sd_iload_n hx hb (mz_dg d_Mk_goDeep 20 32 (.iload_n 1) 1 rfl) rfl) ?_
  refine mz_All.cons (sd_callv (T := T_Mk) ⟨hx, hb, hml, hown, hts⟩ (met_Mk_offerUnreached w h l) (cwV 1 hts (mz_gV wm_363 wm_365 wm_5 wm_72 wm_366) rfl rfl rfl (by decide) ⟨by decide, by decide⟩) rfl hA rfl (mz_dg d_Mk_goDeep 21 33 (.invokevirtual 110) 3 rfl)) ?_
  refine mz_All.cons (sd_aload_n hx hb (mz_dg d_Mk_goDeep 22 36 (.aload_n 0) 1 rfl) rfl) ?_
  refine mz_All.cons (sd_get (k := 3) hx hb hts (mz_inC in_Mk) hown (T := T_Mk) (N := 7) rfl (by decide) (hts (.fieldLink "MazeForms$Maker" 34 "MazeForms$Maker" "choice" "LMazeForms$DoorRow;") (List.mem_cons_of_mem _ wm_232)) (fun _ h => h) (mz_dg d_Mk_goDeep 23 37 (.getfield 34) 3 rfl)) ?_
  refine mz_All.cons (sd_calli (T := T_Dr) ⟨hx, hb, hml, hown, hts⟩ (met_Dr_draw w h l) (cwV 0 hts (mz_gV wm_391 wm_392 wm_393 wm_74 wm_394) rfl rfl rfl (by decide) ⟨by decide, by decide⟩) rfl hA rfl (mz_dg d_Mk_goDeep 24 40 (.invokevirtual 88) 3 rfl)) ?_
  refine mz_All.cons (sd_istore_n hx hb (mz_dg d_Mk_goDeep 25 43 (.istore_n 3) 1 rfl) rfl (by decide)) ?_
  refine mz_All.cons (sd_iload_n hx hb (mz_dg d_Mk_goDeep 26 44 (.iload_n 3) 1 rfl) rfl) ?_
  refine mz_All.cons (sd_iconst hx hb (mz_dg d_Mk_goDeep 27 45 (.iconst (-1)) 1 rfl) (by decide)) ?_
  refine mz_All.cons (sd_icmp_ne hx hb (mz_dg d_Mk_goDeep 28 46 (.if_icmp .ne (12)) 3 rfl) (by decide)) ?_
  refine mz_All.cons (sd_aload_n hx hb (mz_dg d_Mk_goDeep 29 49 (.aload_n 0) 1 rfl) rfl) ?_
  refine mz_All.cons (sd_iload_n hx hb (mz_dg d_Mk_goDeep 30 50 (.iload_n 1) 1 rfl) rfl) ?_
  refine mz_All.cons (sd_calli (T := T_Mk) ⟨hx, hb, hml, hown, hts⟩ (met_Mk_traceOf w h l) (cwV 1 hts (mz_gV wm_405 wm_407 wm_7 wm_72 wm_408) rfl rfl rfl (by decide) ⟨by decide, by decide⟩) rfl hA rfl (mz_dg d_Mk_goDeep 31 51 (.invokevirtual 113) 3 rfl)) ?_
  refine mz_All.cons (sd_istore_n hx hb (mz_dg d_Mk_goDeep 32 54 (.istore_n 1) 1 rfl) rfl (by decide)) ?_
  refine mz_All.cons (sd_goto hx hb (mz_dg d_Mk_goDeep 33 55 (.goto (35)) 3 rfl) (by decide)) ?_
  refine mz_All.cons (sd_aload_n hx hb (mz_dg d_Mk_goDeep 34 58 (.aload_n 0) 1 rfl) rfl) ?_
  refine mz_All.cons (sd_get (k := 0) hx hb hts (mz_inC in_Mk) hown (T := T_Mk) (N := 7) rfl (by decide) (hts (.fieldLink "MazeForms$Maker" 9 "MazeForms$Maker" "grid" "LMazeForms$Grid;") (List.mem_cons_of_mem _ wm_229)) (fun _ h => h) (mz_dg d_Mk_goDeep 35 59 (.getfield 9) 3 rfl)) ?_
  refine mz_All.cons (sd_iload_n hx hb (mz_dg d_Mk_goDeep 36 62 (.iload_n 3) 1 rfl) rfl) ?_
  refine mz_All.cons (sd_iload_n hx hb (mz_dg d_Mk_goDeep 37 63 (.iload_n 1) 1 rfl) rfl) ?_
  refine mz_All.cons (sd_calli (T := T_Gr) ⟨hx, hb, hml, hown, hts⟩ (met_Gr_otherCell w h l) (cwV 2 hts (mz_gV wm_375 wm_376 wm_377 wm_67 wm_378) rfl rfl rfl (by decide) ⟨by decide, by decide⟩) rfl hA rfl (mz_dg d_Mk_goDeep 38 64 (.invokevirtual 117) 3 rfl)) ?_
  refine mz_All.cons (sd_istore hx hb (mz_dg d_Mk_goDeep 39 67 (.istore 4) 2 rfl) (by decide)) ?_
  refine mz_All.cons (sd_aload_n hx hb (mz_dg d_Mk_goDeep 40 69 (.aload_n 0) 1 rfl) rfl) ?_
  refine mz_All.cons (sd_iload_n hx hb (mz_dg d_Mk_goDeep 41 70 (.iload_n 3) 1 rfl) rfl) ?_
  refine mz_All.cons (sd_callv (T := T_Mk) ⟨hx, hb, hml, hown, hts⟩ (met_Mk_openDoor w h l) (cwV 1 hts (mz_gV wm_409 wm_411 wm_8 wm_72 wm_412) rfl rfl rfl (by decide) ⟨by decide, by decide⟩) rfl hA rfl (mz_dg d_Mk_goDeep 42 71 (.invokevirtual 91) 3 rfl)) ?_
  refine mz_All.cons (sd_aload_n hx hb (mz_dg d_Mk_goDeep 43 74 (.aload_n 0) 1 rfl) rfl) ?_
  refine mz_All.cons (sd_iload hx hb (mz_dg d_Mk_goDeep 44 75 (.iload 4) 2 rfl)) ?_
  refine mz_All.cons (sd_callv (T := T_Mk) ⟨hx, hb, hml, hown, hts⟩ (met_Mk_enter w h l) (cwV 1 hts (mz_gV wm_358 wm_360 wm_4 wm_72 wm_361) rfl rfl rfl (by decide) ⟨by decide, by decide⟩) rfl hA rfl (mz_dg d_Mk_goDeep 45 77 (.invokevirtual 98) 3 rfl)) ?_
  refine mz_All.cons (sd_aload_n hx hb (mz_dg d_Mk_goDeep 46 80 (.aload_n 0) 1 rfl) rfl) ?_
  refine mz_All.cons (sd_iload hx hb (mz_dg d_Mk_goDeep 47 81 (.iload 4) 2 rfl)) ?_
  refine mz_All.cons (sd_iload_n hx hb (mz_dg d_Mk_goDeep 48 83 (.iload_n 1) 1 rfl) rfl) ?_
  refine mz_All.cons (sd_callv (T := T_Mk) ⟨hx, hb, hml, hown, hts⟩ (met_Mk_setTrace w h l) (cwV 2 hts (mz_gV wm_417 wm_419 wm_9 wm_72 wm_420) rfl rfl rfl (by decide) ⟨by decide, by decide⟩) rfl hA rfl (mz_dg d_Mk_goDeep 49 84 (.invokevirtual 121) 3 rfl)) ?_
  refine mz_All.cons (sd_iload hx hb (mz_dg d_Mk_goDeep 50 87 (.iload 4) 2 rfl)) ?_
  refine mz_All.cons (sd_istore_n hx hb (mz_dg d_Mk_goDeep 51 89 (.istore_n 1) 1 rfl) rfl (by decide)) ?_
  refine mz_All.cons (sd_iinc hx hb (mz_dg d_Mk_goDeep 52 90 (.iinc 2 (1)) 3 rfl) (by decide) (by decide)) ?_
  refine mz_All.cons (sd_goto hx hb (mz_dg d_Mk_goDeep 53 93 (.goto (-78)) 3 rfl) (by decide)) ?_
  refine mz_All.cons (sd_rv hx hb hr hlk (mz_dg d_Mk_goDeep 54 96 (.return_) 1 rfl)) ?_
  exact trivial
theorem met_Mk_goDeep (w h : Nat) (l : Launch) : mz_MV l y_Mk_goDeep w_Mk_goDeep 3 67 mz_cls (C_Mk_goDeep w h) := mz_MV_of (I_Mk_goDeep w h) (by decide) rfl (len_Mk_goDeep w h) (ok_Mk_goDeep w h) (snd_Mk_goDeep w h l)
set_option maxRecDepth 20000 in
theorem snd_Mk_grow (w h : Nat) (l : Launch) (p : Program) (e : Env) (s : State) (m : MethodId) (args : Array Value) (below : List Frame) (meth : Method) (c : Code) (D : va_G) (ad0 : Nat → Nat) (cA0 : Nat → ClassId) (A : Nat → Prop) (lay : List mz_E) (Q : mz_X → Prop) (F : mz_F p s m args meth c prog_7_method_13_code 3 y_Mk_grow.cls none w_Mk_grow) (hA : ∀ q, s.heap.size ≤ q → A q) : mz_All (mz_V p l e (mz_rm 3 64) s m args below meth c 3 lay.length (mz_sz lay) D mz_cls (mz_G0 ad0 cA0) A (MQ below (va_Qv Q (mz_B D mz_cls ad0 cA0 lay A) A) args s 0 0 A)) (mz_qv lay Q) (I_Mk_grow w h) := by
  obtain ⟨hx, hb, hml, hown, hts, hr, hlk⟩ := F
  unfold I_Mk_grow
  refine mz_All.cons (sd_aload_n hx hb (mz_dg d_Mk_grow 0 0 (.aload_n 0) 1 rfl) rfl) ?_
  refine mz_All.cons (sd_aload_n hx hb (mz_dg d_Mk_grow 1 1 (.aload_n 0) 1 rfl) rfl) ?_
  refine mz_All.cons (sd_get (k := 0) hx hb hts (mz_inC in_Mk) hown (T := T_Mk) (N := 7) rfl (by decide) (hts (.fieldLink "MazeForms$Maker" 9 "MazeForms$Maker" "grid" "LMazeForms$Grid;") (List.mem_cons_of_mem _ wm_229)) (fun _ h => h) (mz_dg d_Mk_grow 2 2 (.getfield 9) 3 rfl)) ?_
  refine mz_All.cons (sd_calli (T := T_Gr) ⟨hx, hb, hml, hown, hts⟩ (met_Gr_firstCell w h l) (cwV 0 hts (mz_gV wm_350 wm_351 wm_352 wm_67 wm_353) rfl rfl rfl (by decide) ⟨by decide, by decide⟩) rfl hA rfl (mz_dg d_Mk_grow 3 5 (.invokevirtual 104) 3 rfl)) ?_
  refine mz_All.cons (sd_callv (T := T_Mk) ⟨hx, hb, hml, hown, hts⟩ (met_Mk_begin w h l) (cwV 1 hts (mz_gV wm_354 wm_356 wm_3 wm_72 wm_357) rfl rfl rfl (by decide) ⟨by decide, by decide⟩) rfl hA rfl (mz_dg d_Mk_grow 4 8 (.invokevirtual 107) 3 rfl)) ?_
  refine mz_All.cons (sd_iconst hx hb (mz_dg d_Mk_grow 5 11 (.iconst (0)) 1 rfl) (by decide)) ?_
  refine mz_All.cons (sd_istore_n hx hb (mz_dg d_Mk_grow 6 12 (.istore_n 1) 1 rfl) rfl (by decide)) ?_
  refine mz_All.cons (sd_iload_n hx hb (mz_dg d_Mk_grow 7 13 (.iload_n 1) 1 rfl) rfl) ?_
  refine mz_All.cons (sd_aload_n hx hb (mz_dg d_Mk_grow 8 14 (.aload_n 0) 1 rfl) rfl) ?_
  refine mz_All.cons (sd_get (k := 4) hx hb hts (mz_inC in_Mk) hown (T := T_Mk) (N := 7) rfl (by decide) (hts (.fieldLink "MazeForms$Maker" 41 "MazeForms$Maker" "reached" "[Z") (List.mem_cons_of_mem _ wm_233)) (fun _ h => h) (mz_dg d_Mk_grow 9 15 (.getfield 41) 3 rfl)) ?_
  refine mz_All.cons (sd_alen hx hb (mz_dg d_Mk_grow 10 18 (.arraylength) 1 rfl)) ?_
  refine mz_All.cons (sd_icmp_ge hx hb (mz_dg d_Mk_grow 11 19 (.if_icmp .ge (56)) 3 rfl) (by decide)) ?_
  refine mz_All.cons (sd_aload_n hx hb (mz_dg d_Mk_grow 12 22 (.aload_n 0) 1 rfl) rfl) ?_
  refine mz_All.cons (sd_callv (T := T_Mk) ⟨hx, hb, hml, hown, hts⟩ (met_Mk_offerRim w h l) (cwV 0 hts (mz_gV wm_467 wm_469 wm_14 wm_72 wm_470) rfl rfl rfl (by decide) ⟨by decide, by decide⟩) rfl hA rfl (mz_dg d_Mk_grow 13 23 (.invokevirtual 145) 3 rfl)) ?_
  refine mz_All.cons (sd_aload_n hx hb (mz_dg d_Mk_grow 14 26 (.aload_n 0) 1 rfl) rfl) ?_
  refine mz_All.cons (sd_get (k := 3) hx hb hts (mz_inC in_Mk) hown (T := T_Mk) (N := 7) rfl (by decide) (hts (.fieldLink "MazeForms$Maker" 34 "MazeForms$Maker" "choice" "LMazeForms$DoorRow;") (List.mem_cons_of_mem _ wm_232)) (fun _ h => h) (mz_dg d_Mk_grow 15 27 (.getfield 34) 3 rfl)) ?_
  refine mz_All.cons (sd_calli (T := T_Dr) ⟨hx, hb, hml, hown, hts⟩ (met_Dr_draw w h l) (cwV 0 hts (mz_gV wm_391 wm_392 wm_393 wm_74 wm_394) rfl rfl rfl (by decide) ⟨by decide, by decide⟩) rfl hA rfl (mz_dg d_Mk_grow 16 30 (.invokevirtual 88) 3 rfl)) ?_
  refine mz_All.cons (sd_istore_n hx hb (mz_dg d_Mk_grow 17 33 (.istore_n 2) 1 rfl) rfl (by decide)) ?_
  refine mz_All.cons (sd_iload_n hx hb (mz_dg d_Mk_grow 18 34 (.iload_n 2) 1 rfl) rfl) ?_
  refine mz_All.cons (sd_iconst hx hb (mz_dg d_Mk_grow 19 35 (.iconst (-1)) 1 rfl) (by decide)) ?_
  refine mz_All.cons (sd_icmp_ne hx hb (mz_dg d_Mk_grow 20 36 (.if_icmp .ne (4)) 3 rfl) (by decide)) ?_
  refine mz_All.cons (sd_rv hx hb hr hlk (mz_dg d_Mk_grow 21 39 (.return_) 1 rfl)) ?_
  refine mz_All.cons (sd_aload_n hx hb (mz_dg d_Mk_grow 22 40 (.aload_n 0) 1 rfl) rfl) ?_
  refine mz_All.cons (sd_iload_n hx hb (mz_dg d_Mk_grow 23 41 (.iload_n 2) 1 rfl) rfl) ?_
  refine mz_All.cons (sd_callv (T := T_Mk) ⟨hx, hb, hml, hown, hts⟩ (met_Mk_openDoor w h l) (cwV 1 hts (mz_gV wm_409 wm_411 wm_8 wm_72 wm_412) rfl rfl rfl (by decide) ⟨by decide, by decide⟩) rfl hA rfl (mz_dg d_Mk_grow 24 42 (.invokevirtual 91) 3 rfl)) ?_
  refine mz_All.cons (sd_aload_n hx hb (mz_dg d_Mk_grow 25 45 (.aload_n 0) 1 rfl) rfl) ?_
  refine mz_All.cons (sd_aload_n hx hb (mz_dg d_Mk_grow 26 46 (.aload_n 0) 1 rfl) rfl) ?_
  refine mz_All.cons (sd_get (k := 0) hx hb hts (mz_inC in_Mk) hown (T := T_Mk) (N := 7) rfl (by decide) (hts (.fieldLink "MazeForms$Maker" 9 "MazeForms$Maker" "grid" "LMazeForms$Grid;") (List.mem_cons_of_mem _ wm_229)) (fun _ h => h) (mz_dg d_Mk_grow 27 47 (.getfield 9) 3 rfl)) ?_
  refine mz_All.cons (sd_iload_n hx hb (mz_dg d_Mk_grow 28 50 (.iload_n 2) 1 rfl) rfl) ?_
  refine mz_All.cons (sd_calli (T := T_Gr) ⟨hx, hb, hml, hown, hts⟩ (met_Gr_lesserCell w h l) (cwV 1 hts (mz_gV wm_471 wm_451 wm_452 wm_67 wm_453) rfl rfl rfl (by decide) ⟨by decide, by decide⟩) rfl hA rfl (mz_dg d_Mk_grow 29 51 (.invokevirtual 148) 3 rfl)) ?_
  refine mz_All.cons (sd_callv (T := T_Mk) ⟨hx, hb, hml, hown, hts⟩ (met_Mk_enter w h l) (cwV 1 hts (mz_gV wm_358 wm_360 wm_4 wm_72 wm_361) rfl rfl rfl (by decide) ⟨by decide, by decide⟩) rfl hA rfl (mz_dg d_Mk_grow 30 54 (.invokevirtual 98) 3 rfl)) ?_
  refine mz_All.cons (sd_aload_n hx hb (mz_dg d_Mk_grow 31 57 (.aload_n 0) 1 rfl) rfl) ?_
  refine mz_All.cons (sd_aload_n hx hb (mz_dg d_Mk_grow 32 58 (.aload_n 0) 1 rfl) rfl) ?_
  refine mz_All.cons (sd_get (k := 0) hx hb hts (mz_inC in_Mk) hown (T := T_Mk) (N := 7) rfl (by decide) (hts (.fieldLink "MazeForms$Maker" 9 "MazeForms$Maker" "grid" "LMazeForms$Grid;") (List.mem_cons_of_mem _ wm_229)) (fun _ h => h) (mz_dg d_Mk_grow 33 59 (.getfield 9) 3 rfl)) ?_
  refine mz_All.cons (sd_iload_n hx hb (mz_dg d_Mk_grow 34 62 (.iload_n 2) 1 rfl) rfl) ?_
  refine mz_All.cons (sd_calli (T := T_Gr) ⟨hx, hb, hml, hown, hts⟩ (met_Gr_greaterCell w h l) (cwV 1 hts (mz_gV wm_472 wm_460 wm_461 wm_67 wm_462) rfl rfl rfl (by decide) ⟨by decide, by decide⟩) rfl hA rfl (mz_dg d_Mk_grow 35 63 (.invokevirtual 151) 3 rfl)) ?_
  refine mz_All.cons (sd_callv (T := T_Mk) ⟨hx, hb, hml, hown, hts⟩ (met_Mk_enter w h l) (cwV 1 hts (mz_gV wm_358 wm_360 wm_4 wm_72 wm_361) rfl rfl rfl (by decide) ⟨by decide, by decide⟩) rfl hA rfl (mz_dg d_Mk_grow 36 66 (.invokevirtual 98) 3 rfl)) ?_
  refine mz_All.cons (sd_iinc hx hb (mz_dg d_Mk_grow 37 69 (.iinc 1 (1)) 3 rfl) (by decide) (by decide)) ?_
  refine mz_All.cons (sd_goto hx hb (mz_dg d_Mk_grow 38 72 (.goto (-59)) 3 rfl) (by decide)) ?_
  refine mz_All.cons (sd_rv hx hb hr hlk (mz_dg d_Mk_grow 39 75 (.return_) 1 rfl)) ?_
  exact trivial
theorem met_Mk_grow (w h : Nat) (l : Launch) : mz_MV l y_Mk_grow w_Mk_grow 3 64 mz_cls (C_Mk_grow w h) := mz_MV_of (I_Mk_grow w h) (by decide) rfl (len_Mk_grow w h) (ok_Mk_grow w h) (snd_Mk_grow w h l)
set_option maxRecDepth 20000 in
theorem snd_Mk_walkToTree (w h : Nat) (l : Launch) (p : Program) (e : Env) (s : State) (m : MethodId) (args : Array Value) (below : List Frame) (meth : Method) (c : Code) (D : va_G) (ad0 : Nat → Nat) (cA0 : Nat → ClassId) (A : Nat → Prop) (lay : List mz_E) (Q : Int32 → mz_X → Prop) (F : mz_F p s m args meth c prog_7_method_16_code 5 y_Mk_walkToTree.cls (some .boolean) w_Mk_walkToTree) (hA : ∀ q, s.heap.size ≤ q → A q) : mz_All (mz_V p l e (mz_rm 3 66) s m args below meth c 5 lay.length (mz_sz lay) D mz_cls (mz_G0 ad0 cA0) A (MQ below (va_Qi Q (mz_B D mz_cls ad0 cA0 lay A) A) args s 0 0 A)) (mz_qi lay Q) (I_Mk_walkToTree w h) := by
  obtain ⟨hx, hb, hml, hown, hts, hr, hlk⟩ := F
  unfold I_Mk_walkToTree
  refine mz_All.cons (sd_iload_n hx hb (mz_dg d_Mk_walkToTree 0 0 (.iload_n 1) 1 rfl) rfl) ?_
  refine mz_All.cons (sd_istore_n hx hb (mz_dg d_Mk_walkToTree 1 1 (.istore_n 2) 1 rfl) rfl (by decide)) ?_
  refine mz_All.cons (sd_iconst hx hb (mz_dg d_Mk_walkToTree 2 2 (.iconst (0)) 1 rfl) (by decide)) ?_
  refine mz_All.cons (sd_istore_n hx hb (mz_dg d_Mk_walkToTree 3 3 (.istore_n 3) 1 rfl) rfl (by decide)) ?_
  refine mz_All.cons (sd_iload_n hx hb (mz_dg d_Mk_walkToTree 4 4 (.iload_n 3) 1 rfl) rfl) ?_
  refine mz_All.cons (sd_ldc hx hb hown (hts _ (List.mem_cons_of_mem _ wm_506)) (mz_dg d_Mk_walkToTree 5 5 (.ldc 169) 2 rfl)) ?_
  refine mz_All.cons (sd_icmp_ge hx hb (mz_dg d_Mk_walkToTree 6 7 (.if_icmp .ge (54)) 3 rfl) (by decide)) ?_
  refine mz_All.cons (sd_iload_n hx hb (mz_dg d_Mk_walkToTree 7 10 (.iload_n 2) 1 rfl) rfl) ?_
  refine mz_All.cons (sd_iconst hx hb (mz_dg d_Mk_walkToTree 8 11 (.iconst (-1)) 1 rfl) (by decide)) ?_
  refine mz_All.cons (sd_icmp_eq hx hb (mz_dg d_Mk_walkToTree 9 12 (.if_icmp .eq (49)) 3 rfl) (by decide)) ?_
  refine mz_All.cons (sd_aload_n hx hb (mz_dg d_Mk_walkToTree 10 15 (.aload_n 0) 1 rfl) rfl) ?_
  refine mz_All.cons (sd_iload_n hx hb (mz_dg d_Mk_walkToTree 11 16 (.iload_n 2) 1 rfl) rfl) ?_
  refine mz_All.cons (sd_calli (T := T_Mk) ⟨hx, hb, hml, hown, hts⟩ (met_Mk_isReached w h l) (cwV 1 hts (mz_gV wm_383 wm_385 wm_6 wm_72 wm_386) rfl rfl rfl (by decide) ⟨by decide, by decide⟩) rfl hA rfl (mz_dg d_Mk_walkToTree 12 17 (.invokevirtual 128) 3 rfl)) ?_
  refine mz_All.cons (sd_if_ne hx hb (mz_dg d_Mk_walkToTree 13 20 (.ifCond .ne (41)) 3 rfl) (by decide)) ?_
  refine mz_All.cons (sd_aload_n hx hb (mz_dg d_Mk_walkToTree 14 23 (.aload_n 0) 1 rfl) rfl) ?_
  refine mz_All.cons (sd_iload_n hx hb (mz_dg d_Mk_walkToTree 15 24 (.iload_n 2) 1 rfl) rfl) ?_
  refine mz_All.cons (sd_callv (T := T_Mk) ⟨hx, hb, hml, hown, hts⟩ (met_Mk_offerAll w h l) (cwV 1 hts (mz_gV wm_507 wm_509 wm_19 wm_72 wm_510) rfl rfl rfl (by decide) ⟨by decide, by decide⟩) rfl hA rfl (mz_dg d_Mk_walkToTree 16 25 (.invokevirtual 170) 3 rfl)) ?_
  refine mz_All.cons (sd_aload_n hx hb (mz_dg d_Mk_walkToTree 17 28 (.aload_n 0) 1 rfl) rfl) ?_
  refine mz_All.cons (sd_get (k := 3) hx hb hts (mz_inC in_Mk) hown (T := T_Mk) (N := 7) rfl (by decide) (hts (.fieldLink "MazeForms$Maker" 34 "MazeForms$Maker" "choice" "LMazeForms$DoorRow;") (List.mem_cons_of_mem _ wm_232)) (fun _ h => h) (mz_dg d_Mk_walkToTree 18 29 (.getfield 34) 3 rfl)) ?_
  refine mz_All.cons (sd_calli (T := T_Dr) ⟨hx, hb, hml, hown, hts⟩ (met_Dr_draw w h l) (cwV 0 hts (mz_gV wm_391 wm_392 wm_393 wm_74 wm_394) rfl rfl rfl (by decide) ⟨by decide, by decide⟩) rfl hA rfl (mz_dg d_Mk_walkToTree 19 32 (.invokevirtual 88) 3 rfl)) ?_
  refine mz_All.cons (sd_istore hx hb (mz_dg d_Mk_walkToTree 20 35 (.istore 4) 2 rfl) (by decide)) ?_
  refine mz_All.cons (sd_aload_n hx hb (mz_dg d_Mk_walkToTree 21 37 (.aload_n 0) 1 rfl) rfl) ?_
  refine mz_All.cons (sd_iload_n hx hb (mz_dg d_Mk_walkToTree 22 38 (.iload_n 2) 1 rfl) rfl) ?_
  refine mz_All.cons (sd_iload hx hb (mz_dg d_Mk_walkToTree 23 39 (.iload 4) 2 rfl)) ?_
  refine mz_All.cons (sd_callv (T := T_Mk) ⟨hx, hb, hml, hown, hts⟩ (met_Mk_setTrace w h l) (cwV 2 hts (mz_gV wm_417 wm_419 wm_9 wm_72 wm_420) rfl rfl rfl (by decide) ⟨by decide, by decide⟩) rfl hA rfl (mz_dg d_Mk_walkToTree 24 41 (.invokevirtual 121) 3 rfl)) ?_
  refine mz_All.cons (sd_aload_n hx hb (mz_dg d_Mk_walkToTree 25 44 (.aload_n 0) 1 rfl) rfl) ?_
  refine mz_All.cons (sd_get (k := 0) hx hb hts (mz_inC in_Mk) hown (T := T_Mk) (N := 7) rfl (by decide) (hts (.fieldLink "MazeForms$Maker" 9 "MazeForms$Maker" "grid" "LMazeForms$Grid;") (List.mem_cons_of_mem _ wm_229)) (fun _ h => h) (mz_dg d_Mk_walkToTree 26 45 (.getfield 9) 3 rfl)) ?_
  refine mz_All.cons (sd_iload hx hb (mz_dg d_Mk_walkToTree 27 48 (.iload 4) 2 rfl)) ?_
  refine mz_All.cons (sd_iload_n hx hb (mz_dg d_Mk_walkToTree 28 50 (.iload_n 2) 1 rfl) rfl) ?_
  refine mz_All.cons (sd_calli (T := T_Gr) ⟨hx, hb, hml, hown, hts⟩ (met_Gr_otherCell w h l) (cwV 2 hts (mz_gV wm_375 wm_376 wm_377 wm_67 wm_378) rfl rfl rfl (by decide) ⟨by decide, by decide⟩) rfl hA rfl (mz_dg d_Mk_walkToTree 29 51 (.invokevirtual 117) 3 rfl)) ?_
  refine mz_All.cons (sd_istore_n hx hb (mz_dg d_Mk_walkToTree 30 54 (.istore_n 2) 1 rfl) rfl (by decide)) ?_
  refine mz_All.cons (sd_iinc hx hb (mz_dg d_Mk_walkToTree 31 55 (.iinc 3 (1)) 3 rfl) (by decide) (by decide)) ?_
  refine mz_All.cons (sd_goto hx hb (mz_dg d_Mk_walkToTree 32 58 (.goto (-54)) 3 rfl) (by decide)) ?_
  refine mz_All.cons (sd_aload_n hx hb (mz_dg d_Mk_walkToTree 33 61 (.aload_n 0) 1 rfl) rfl) ?_
  refine mz_All.cons (sd_iload_n hx hb (mz_dg d_Mk_walkToTree 34 62 (.iload_n 2) 1 rfl) rfl) ?_
  refine mz_All.cons (sd_calli (T := T_Mk) ⟨hx, hb, hml, hown, hts⟩ (met_Mk_isReached w h l) (cwV 1 hts (mz_gV wm_383 wm_385 wm_6 wm_72 wm_386) rfl rfl rfl (by decide) ⟨by decide, by decide⟩) rfl hA rfl (mz_dg d_Mk_walkToTree 35 63 (.invokevirtual 128) 3 rfl)) ?_
  refine mz_All.cons (sd_rz hx hb hr hlk (mz_dg d_Mk_walkToTree 36 66 (.ireturn) 1 rfl)) ?_
  exact trivial
theorem met_Mk_walkToTree (w h : Nat) (l : Launch) : mz_MI l y_Mk_walkToTree w_Mk_walkToTree 3 66 mz_cls (C_Mk_walkToTree w h) := mz_MI_of (I_Mk_walkToTree w h) (by decide) rfl (len_Mk_walkToTree w h) (ok_Mk_walkToTree w h) (snd_Mk_walkToTree w h l)
set_option maxRecDepth 20000 in
theorem snd_Mk_joinWalk (w h : Nat) (l : Launch) (p : Program) (e : Env) (s : State) (m : MethodId) (args : Array Value) (below : List Frame) (meth : Method) (c : Code) (D : va_G) (ad0 : Nat → Nat) (cA0 : Nat → ClassId) (A : Nat → Prop) (lay : List mz_E) (Q : mz_X → Prop) (F : mz_F p s m args meth c prog_7_method_18_code 5 y_Mk_joinWalk.cls none w_Mk_joinWalk) (hA : ∀ q, s.heap.size ≤ q → A q) : mz_All (mz_V p l e (mz_rm 3 64) s m args below meth c 5 lay.length (mz_sz lay) D mz_cls (mz_G0 ad0 cA0) A (MQ below (va_Qv Q (mz_B D mz_cls ad0 cA0 lay A) A) args s 0 0 A)) (mz_qv lay Q) (I_Mk_joinWalk w h) := by
  obtain ⟨hx, hb, hml, hown, hts, hr, hlk⟩ := F
  unfold I_Mk_joinWalk
  refine mz_All.cons (sd_iload_n hx hb (mz_dg d_Mk_joinWalk 0 0 (.iload_n 1) 1 rfl) rfl) ?_
  refine mz_All.cons (sd_istore_n hx hb (mz_dg d_Mk_joinWalk 1 1 (.istore_n 2) 1 rfl) rfl (by decide)) ?_
  refine mz_All.cons (sd_iconst hx hb (mz_dg d_Mk_joinWalk 2 2 (.iconst (0)) 1 rfl) (by decide)) ?_
  refine mz_All.cons (sd_istore_n hx hb (mz_dg d_Mk_joinWalk 3 3 (.istore_n 3) 1 rfl) rfl (by decide)) ?_
  refine mz_All.cons (sd_iload_n hx hb (mz_dg d_Mk_joinWalk 4 4 (.iload_n 3) 1 rfl) rfl) ?_
  refine mz_All.cons (sd_aload_n hx hb (mz_dg d_Mk_joinWalk 5 5 (.aload_n 0) 1 rfl) rfl) ?_
  refine mz_All.cons (sd_get (k := 4) hx hb hts (mz_inC in_Mk) hown (T := T_Mk) (N := 7) rfl (by decide) (hts (.fieldLink "MazeForms$Maker" 41 "MazeForms$Maker" "reached" "[Z") (List.mem_cons_of_mem _ wm_233)) (fun _ h => h) (mz_dg d_Mk_joinWalk 6 6 (.getfield 41) 3 rfl)) ?_
  refine mz_All.cons (sd_alen hx hb (mz_dg d_Mk_joinWalk 7 9 (.arraylength) 1 rfl)) ?_
  refine mz_All.cons (sd_icmp_ge hx hb (mz_dg d_Mk_joinWalk 8 10 (.if_icmp .ge (46)) 3 rfl) (by decide)) ?_
  refine mz_All.cons (sd_aload_n hx hb (mz_dg d_Mk_joinWalk 9 13 (.aload_n 0) 1 rfl) rfl) ?_
  refine mz_All.cons (sd_iload_n hx hb (mz_dg d_Mk_joinWalk 10 14 (.iload_n 2) 1 rfl) rfl) ?_
  refine mz_All.cons (sd_calli (T := T_Mk) ⟨hx, hb, hml, hown, hts⟩ (met_Mk_isReached w h l) (cwV 1 hts (mz_gV wm_383 wm_385 wm_6 wm_72 wm_386) rfl rfl rfl (by decide) ⟨by decide, by decide⟩) rfl hA rfl (mz_dg d_Mk_joinWalk 11 15 (.invokevirtual 128) 3 rfl)) ?_
  refine mz_All.cons (sd_if_ne hx hb (mz_dg d_Mk_joinWalk 12 18 (.ifCond .ne (38)) 3 rfl) (by decide)) ?_
  refine mz_All.cons (sd_aload_n hx hb (mz_dg d_Mk_joinWalk 13 21 (.aload_n 0) 1 rfl) rfl) ?_
  refine mz_All.cons (sd_iload_n hx hb (mz_dg d_Mk_joinWalk 14 22 (.iload_n 2) 1 rfl) rfl) ?_
  refine mz_All.cons (sd_calli (T := T_Mk) ⟨hx, hb, hml, hown, hts⟩ (met_Mk_traceOf w h l) (cwV 1 hts (mz_gV wm_405 wm_407 wm_7 wm_72 wm_408) rfl rfl rfl (by decide) ⟨by decide, by decide⟩) rfl hA rfl (mz_dg d_Mk_joinWalk 15 23 (.invokevirtual 113) 3 rfl)) ?_
  refine mz_All.cons (sd_istore hx hb (mz_dg d_Mk_joinWalk 16 26 (.istore 4) 2 rfl) (by decide)) ?_
  refine mz_All.cons (sd_aload_n hx hb (mz_dg d_Mk_joinWalk 17 28 (.aload_n 0) 1 rfl) rfl) ?_
  refine mz_All.cons (sd_iload_n hx hb (mz_dg d_Mk_joinWalk 18 29 (.iload_n 2) 1 rfl) rfl) ?_
  refine mz_All.cons (sd_callv (T := T_Mk) ⟨hx, hb, hml, hown, hts⟩ (met_Mk_enter w h l) (cwV 1 hts (mz_gV wm_358 wm_360 wm_4 wm_72 wm_361) rfl rfl rfl (by decide) ⟨by decide, by decide⟩) rfl hA rfl (mz_dg d_Mk_joinWalk 19 30 (.invokevirtual 98) 3 rfl)) ?_
  refine mz_All.cons (sd_aload_n hx hb (mz_dg d_Mk_joinWalk 20 33 (.aload_n 0) 1 rfl) rfl) ?_
  refine mz_All.cons (sd_iload hx hb (mz_dg d_Mk_joinWalk 21 34 (.iload 4) 2 rfl)) ?_
  refine mz_All.cons (sd_callv (T := T_Mk) ⟨hx, hb, hml, hown, hts⟩ (met_Mk_openDoor w h l) (cwV 1 hts (mz_gV wm_409 wm_411 wm_8 wm_72 wm_412) rfl rfl rfl (by decide) ⟨by decide, by decide⟩) rfl hA rfl (mz_dg d_Mk_joinWalk 22 36 (.invokevirtual 91) 3 rfl)) ?_
  refine mz_All.cons (sd_aload_n hx hb (mz_dg d_Mk_joinWalk 23 39 (.aload_n 0) 1 rfl) rfl) ?_
  refine mz_All.cons (sd_get (k := 0) hx hb hts (mz_inC in_Mk) hown (T := T_Mk) (N := 7) rfl (by decide) (hts (.fieldLink "MazeForms$Maker" 9 "MazeForms$Maker" "grid" "LMazeForms$Grid;") (List.mem_cons_of_mem _ wm_229)) (fun _ h => h) (mz_dg d_Mk_joinWalk 24 40 (.getfield 9) 3 rfl)) ?_
  refine mz_All.cons (sd_iload hx hb (mz_dg d_Mk_joinWalk 25 43 (.iload 4) 2 rfl)) ?_
  refine mz_All.cons (sd_iload_n hx hb (mz_dg d_Mk_joinWalk 26 45 (.iload_n 2) 1 rfl) rfl) ?_
  refine mz_All.cons (sd_calli (T := T_Gr) ⟨hx, hb, hml, hown, hts⟩ (met_Gr_otherCell w h l) (cwV 2 hts (mz_gV wm_375 wm_376 wm_377 wm_67 wm_378) rfl rfl rfl (by decide) ⟨by decide, by decide⟩) rfl hA rfl (mz_dg d_Mk_joinWalk 27 46 (.invokevirtual 117) 3 rfl)) ?_
  refine mz_All.cons (sd_istore_n hx hb (mz_dg d_Mk_joinWalk 28 49 (.istore_n 2) 1 rfl) rfl (by decide)) ?_
  refine mz_All.cons (sd_iinc hx hb (mz_dg d_Mk_joinWalk 29 50 (.iinc 3 (1)) 3 rfl) (by decide) (by decide)) ?_
  refine mz_All.cons (sd_goto hx hb (mz_dg d_Mk_joinWalk 30 53 (.goto (-49)) 3 rfl) (by decide)) ?_
  refine mz_All.cons (sd_rv hx hb hr hlk (mz_dg d_Mk_joinWalk 31 56 (.return_) 1 rfl)) ?_
  exact trivial
theorem met_Mk_joinWalk (w h : Nat) (l : Launch) : mz_MV l y_Mk_joinWalk w_Mk_joinWalk 3 64 mz_cls (C_Mk_joinWalk w h) := mz_MV_of (I_Mk_joinWalk w h) (by decide) rfl (len_Mk_joinWalk w h) (ok_Mk_joinWalk w h) (snd_Mk_joinWalk w h l)
set_option maxRecDepth 20000 in
theorem snd_Mk_walkAll (w h : Nat) (l : Launch) (p : Program) (e : Env) (s : State) (m : MethodId) (args : Array Value) (below : List Frame) (meth : Method) (c : Code) (D : va_G) (ad0 : Nat → Nat) (cA0 : Nat → ClassId) (A : Nat → Prop) (lay : List mz_E) (Q : mz_X → Prop) (F : mz_F p s m args meth c prog_7_method_15_code 3 y_Mk_walkAll.cls none w_Mk_walkAll) (hA : ∀ q, s.heap.size ≤ q → A q) : mz_All (mz_V p l e (mz_rm 4 92) s m args below meth c 3 lay.length (mz_sz lay) D mz_cls (mz_G0 ad0 cA0) A (MQ below (va_Qv Q (mz_B D mz_cls ad0 cA0 lay A) A) args s 0 0 A)) (mz_qv lay Q) (I_Mk_walkAll w h) := by
  obtain ⟨hx, hb, hml, hown, hts, hr, hlk⟩ := F
  unfold I_Mk_walkAll
  refine mz_All.cons (sd_aload_n hx hb (mz_dg d_Mk_walkAll 0 0 (.aload_n 0) 1 rfl) rfl) ?_
  refine mz_All.cons (sd_get (k := 0) hx hb hts (mz_inC in_Mk) hown (T := T_Mk) (N := 7) rfl (by decide) (hts (.fieldLink "MazeForms$Maker" 9 "MazeForms$Maker" "grid" "LMazeForms$Grid;") (List.mem_cons_of_mem _ wm_229)) (fun _ h => h) (mz_dg d_Mk_walkAll 1 1 (.getfield 9) 3 rfl)) ?_
  refine mz_All.cons (sd_calli (T := T_Gr) ⟨hx, hb, hml, hown, hts⟩ (met_Gr_firstCell w h l) (cwV 0 hts (mz_gV wm_350 wm_351 wm_352 wm_67 wm_353) rfl rfl rfl (by decide) ⟨by decide, by decide⟩) rfl hA rfl (mz_dg d_Mk_walkAll 2 4 (.invokevirtual 104) 3 rfl)) ?_
  refine mz_All.cons (sd_istore_n hx hb (mz_dg d_Mk_walkAll 3 7 (.istore_n 1) 1 rfl) rfl (by decide)) ?_
  refine mz_All.cons (sd_aload_n hx hb (mz_dg d_Mk_walkAll 4 8 (.aload_n 0) 1 rfl) rfl) ?_
  refine mz_All.cons (sd_iload_n hx hb (mz_dg d_Mk_walkAll 5 9 (.iload_n 1) 1 rfl) rfl) ?_
  refine mz_All.cons (sd_callv (T := T_Mk) ⟨hx, hb, hml, hown, hts⟩ (met_Mk_begin w h l) (cwV 1 hts (mz_gV wm_354 wm_356 wm_3 wm_72 wm_357) rfl rfl rfl (by decide) ⟨by decide, by decide⟩) rfl hA rfl (mz_dg d_Mk_walkAll 6 10 (.invokevirtual 107) 3 rfl)) ?_
  refine mz_All.cons (sd_aload_n hx hb (mz_dg d_Mk_walkAll 7 13 (.aload_n 0) 1 rfl) rfl) ?_
  refine mz_All.cons (sd_get (k := 2) hx hb hts (mz_inC in_Mk) hown (T := T_Mk) (N := 7) rfl (by decide) (hts (.fieldLink "MazeForms$Maker" 19 "MazeForms$Maker" "flood" "LMazeForms$Flood;") (List.mem_cons_of_mem _ wm_231)) (fun _ h => h) (mz_dg d_Mk_walkAll 8 14 (.getfield 19) 3 rfl)) ?_
  refine mz_All.cons (sd_iload_n hx hb (mz_dg d_Mk_walkAll 9 17 (.iload_n 1) 1 rfl) rfl) ?_
  refine mz_All.cons (sd_iconst hx hb (mz_dg d_Mk_walkAll 10 18 (.iconst (1)) 1 rfl) (by decide)) ?_
  refine mz_All.cons (sd_callv (T := T_Fl) ⟨hx, hb, hml, hown, hts⟩ (met_Fl_spread w h l) (cwV 2 hts (mz_gV wm_477 wm_478 wm_479 wm_71 wm_480) rfl rfl rfl (by decide) ⟨by decide, by decide⟩) rfl hA rfl (mz_dg d_Mk_walkAll 11 19 (.invokevirtual 154) 3 rfl)) ?_
  refine mz_All.cons (sd_iconst hx hb (mz_dg d_Mk_walkAll 12 22 (.iconst (0)) 1 rfl) (by decide)) ?_
  refine mz_All.cons (sd_istore_n hx hb (mz_dg d_Mk_walkAll 13 23 (.istore_n 2) 1 rfl) rfl (by decide)) ?_
  refine mz_All.cons (sd_iload_n hx hb (mz_dg d_Mk_walkAll 14 24 (.iload_n 2) 1 rfl) rfl) ?_
  refine mz_All.cons (sd_aload_n hx hb (mz_dg d_Mk_walkAll 15 25 (.aload_n 0) 1 rfl) rfl) ?_
  refine mz_All.cons (sd_get (k := 4) hx hb hts (mz_inC in_Mk) hown (T := T_Mk) (N := 7) rfl (by decide) (hts (.fieldLink "MazeForms$Maker" 41 "MazeForms$Maker" "reached" "[Z") (List.mem_cons_of_mem _ wm_233)) (fun _ h => h) (mz_dg d_Mk_walkAll 16 26 (.getfield 41) 3 rfl)) ?_
  refine mz_All.cons (sd_alen hx hb (mz_dg d_Mk_walkAll 17 29 (.arraylength) 1 rfl)) ?_
  refine mz_All.cons (sd_icmp_ge hx hb (mz_dg d_Mk_walkAll 18 30 (.if_icmp .ge (42)) 3 rfl) (by decide)) ?_
  refine mz_All.cons (sd_aload_n hx hb (mz_dg d_Mk_walkAll 19 33 (.aload_n 0) 1 rfl) rfl) ?_
  refine mz_All.cons (sd_get (k := 2) hx hb hts (mz_inC in_Mk) hown (T := T_Mk) (N := 7) rfl (by decide) (hts (.fieldLink "MazeForms$Maker" 19 "MazeForms$Maker" "flood" "LMazeForms$Flood;") (List.mem_cons_of_mem _ wm_231)) (fun _ h => h) (mz_dg d_Mk_walkAll 20 34 (.getfield 19) 3 rfl)) ?_
  refine mz_All.cons (sd_iload_n hx hb (mz_dg d_Mk_walkAll 21 37 (.iload_n 2) 1 rfl) rfl) ?_
  refine mz_All.cons (sd_calli (T := T_Fl) ⟨hx, hb, hml, hown, hts⟩ (met_Fl_stepsTo w h l) (cwV 1 hts (mz_gV wm_501 wm_492 wm_493 wm_71 wm_494) rfl rfl rfl (by decide) ⟨by decide, by decide⟩) rfl hA rfl (mz_dg d_Mk_walkAll 22 38 (.invokevirtual 160) 3 rfl)) ?_
  refine mz_All.cons (sd_iconst hx hb (mz_dg d_Mk_walkAll 23 41 (.iconst (-1)) 1 rfl) (by decide)) ?_
  refine mz_All.cons (sd_icmp_eq hx hb (mz_dg d_Mk_walkAll 24 42 (.if_icmp .eq (24)) 3 rfl) (by decide)) ?_
  refine mz_All.cons (sd_aload_n hx hb (mz_dg d_Mk_walkAll 25 45 (.aload_n 0) 1 rfl) rfl) ?_
  refine mz_All.cons (sd_iload_n hx hb (mz_dg d_Mk_walkAll 26 46 (.iload_n 2) 1 rfl) rfl) ?_
  refine mz_All.cons (sd_calli (T := T_Mk) ⟨hx, hb, hml, hown, hts⟩ (met_Mk_isReached w h l) (cwV 1 hts (mz_gV wm_383 wm_385 wm_6 wm_72 wm_386) rfl rfl rfl (by decide) ⟨by decide, by decide⟩) rfl hA rfl (mz_dg d_Mk_walkAll 27 47 (.invokevirtual 128) 3 rfl)) ?_
  refine mz_All.cons (sd_if_ne hx hb (mz_dg d_Mk_walkAll 28 50 (.ifCond .ne (16)) 3 rfl) (by decide)) ?_
  refine mz_All.cons (sd_aload_n hx hb (mz_dg d_Mk_walkAll 29 53 (.aload_n 0) 1 rfl) rfl) ?_
  refine mz_All.cons (sd_iload_n hx hb (mz_dg d_Mk_walkAll 30 54 (.iload_n 2) 1 rfl) rfl) ?_
  refine mz_All.cons (sd_calli (T := T_Mk) ⟨hx, hb, hml, hown, hts⟩ (met_Mk_walkToTree w h l) (cwV 1 hts (mz_gV wm_502 wm_504 wm_18 wm_72 wm_505) rfl rfl rfl (by decide) ⟨by decide, by decide⟩) rfl hA rfl (mz_dg d_Mk_walkAll 31 55 (.invokevirtual 163) 3 rfl)) ?_
  refine mz_All.cons (sd_if_eq hx hb (mz_dg d_Mk_walkAll 32 58 (.ifCond .eq (8)) 3 rfl) (by decide)) ?_
  refine mz_All.cons (sd_aload_n hx hb (mz_dg d_Mk_walkAll 33 61 (.aload_n 0) 1 rfl) rfl) ?_
  refine mz_All.cons (sd_iload_n hx hb (mz_dg d_Mk_walkAll 34 62 (.iload_n 2) 1 rfl) rfl) ?_
  refine mz_All.cons (sd_callv (T := T_Mk) ⟨hx, hb, hml, hown, hts⟩ (met_Mk_joinWalk w h l) (cwV 1 hts (mz_gV wm_511 wm_513 wm_20 wm_72 wm_514) rfl rfl rfl (by decide) ⟨by decide, by decide⟩) rfl hA rfl (mz_dg d_Mk_walkAll 35 63 (.invokevirtual 166) 3 rfl)) ?_
  refine mz_All.cons (sd_iinc hx hb (mz_dg d_Mk_walkAll 36 66 (.iinc 2 (1)) 3 rfl) (by decide) (by decide)) ?_
  refine mz_All.cons (sd_goto hx hb (mz_dg d_Mk_walkAll 37 69 (.goto (-45)) 3 rfl) (by decide)) ?_
  refine mz_All.cons (sd_rv hx hb hr hlk (mz_dg d_Mk_walkAll 38 72 (.return_) 1 rfl)) ?_
  exact trivial
theorem met_Mk_walkAll (w h : Nat) (l : Launch) : mz_MV l y_Mk_walkAll w_Mk_walkAll 4 92 mz_cls (C_Mk_walkAll w h) := mz_MV_of (I_Mk_walkAll w h) (by decide) rfl (len_Mk_walkAll w h) (ok_Mk_walkAll w h) (snd_Mk_walkAll w h l)
set_option maxRecDepth 20000 in
theorem snd_Mk_comb (w h : Nat) (l : Launch) (p : Program) (e : Env) (s : State) (m : MethodId) (args : Array Value) (below : List Frame) (meth : Method) (c : Code) (D : va_G) (ad0 : Nat → Nat) (cA0 : Nat → ClassId) (A : Nat → Prop) (lay : List mz_E) (Q : mz_X → Prop) (F : mz_F p s m args meth c prog_7_method_19_code 2 y_Mk_comb.cls none w_Mk_comb) (hA : ∀ q, s.heap.size ≤ q → A q) : mz_All (mz_V p l e (mz_rm 3 64) s m args below meth c 2 lay.length (mz_sz lay) D mz_cls (mz_G0 ad0 cA0) A (MQ below (va_Qv Q (mz_B D mz_cls ad0 cA0 lay A) A) args s 0 0 A)) (mz_qv lay Q) (I_Mk_comb w h) := by
  obtain ⟨hx, hb, hml, hown, hts, hr, hlk⟩ := F
  unfold I_Mk_comb
  refine mz_All.cons (sd_iconst hx hb (mz_dg d_Mk_comb 0 0 (.iconst (0)) 1 rfl) (by decide)) ?_
  refine mz_All.cons (sd_istore_n hx hb (mz_dg d_Mk_comb 1 1 (.istore_n 1) 1 rfl) rfl (by decide)) ?_
  refine mz_All.cons (sd_iload_n hx hb (mz_dg d_Mk_comb 2 2 (.iload_n 1) 1 rfl) rfl) ?_
  refine mz_All.cons (sd_aload_n hx hb (mz_dg d_Mk_comb 3 3 (.aload_n 0) 1 rfl) rfl) ?_
  refine mz_All.cons (sd_get (k := 4) hx hb hts (mz_inC in_Mk) hown (T := T_Mk) (N := 7) rfl (by decide) (hts (.fieldLink "MazeForms$Maker" 41 "MazeForms$Maker" "reached" "[Z") (List.mem_cons_of_mem _ wm_233)) (fun _ h => h) (mz_dg d_Mk_comb 4 4 (.getfield 41) 3 rfl)) ?_
  refine mz_All.cons (sd_alen hx hb (mz_dg d_Mk_comb 5 7 (.arraylength) 1 rfl)) ?_
  refine mz_All.cons (sd_icmp_ge hx hb (mz_dg d_Mk_comb 6 8 (.if_icmp .ge (59)) 3 rfl) (by decide)) ?_
  refine mz_All.cons (sd_aload_n hx hb (mz_dg d_Mk_comb 7 11 (.aload_n 0) 1 rfl) rfl) ?_
  refine mz_All.cons (sd_get (k := 3) hx hb hts (mz_inC in_Mk) hown (T := T_Mk) (N := 7) rfl (by decide) (hts (.fieldLink "MazeForms$Maker" 34 "MazeForms$Maker" "choice" "LMazeForms$DoorRow;") (List.mem_cons_of_mem _ wm_232)) (fun _ h => h) (mz_dg d_Mk_comb 8 12 (.getfield 34) 3 rfl)) ?_
  refine mz_All.cons (sd_callv (T := T_Dr) ⟨hx, hb, hml, hown, hts⟩ (met_Dr_clear w h l) (cwV 0 hts (mz_gV wm_367 wm_368 wm_369 wm_74 wm_370) rfl rfl rfl (by decide) ⟨by decide, by decide⟩) rfl hA rfl (mz_dg d_Mk_comb 9 15 (.invokevirtual 71) 3 rfl)) ?_
  refine mz_All.cons (sd_aload_n hx hb (mz_dg d_Mk_comb 10 18 (.aload_n 0) 1 rfl) rfl) ?_
  refine mz_All.cons (sd_get (k := 3) hx hb hts (mz_inC in_Mk) hown (T := T_Mk) (N := 7) rfl (by decide) (hts (.fieldLink "MazeForms$Maker" 34 "MazeForms$Maker" "choice" "LMazeForms$DoorRow;") (List.mem_cons_of_mem _ wm_232)) (fun _ h => h) (mz_dg d_Mk_comb 11 19 (.getfield 34) 3 rfl)) ?_
  refine mz_All.cons (sd_aload_n hx hb (mz_dg d_Mk_comb 12 22 (.aload_n 0) 1 rfl) rfl) ?_
  refine mz_All.cons (sd_get (k := 0) hx hb hts (mz_inC in_Mk) hown (T := T_Mk) (N := 7) rfl (by decide) (hts (.fieldLink "MazeForms$Maker" 9 "MazeForms$Maker" "grid" "LMazeForms$Grid;") (List.mem_cons_of_mem _ wm_229)) (fun _ h => h) (mz_dg d_Mk_comb 13 23 (.getfield 9) 3 rfl)) ?_
  refine mz_All.cons (sd_iload_n hx hb (mz_dg d_Mk_comb 14 26 (.iload_n 1) 1 rfl) rfl) ?_
  refine mz_All.cons (sd_iconst hx hb (mz_dg d_Mk_comb 15 27 (.iconst (0)) 1 rfl) (by decide)) ?_
  refine mz_All.cons (sd_calli (T := T_Gr) ⟨hx, hb, hml, hown, hts⟩ (met_Gr_doorOn w h l) (cwV 2 hts (mz_gV wm_371 wm_372 wm_373 wm_67 wm_374) rfl rfl rfl (by decide) ⟨by decide, by decide⟩) rfl hA rfl (mz_dg d_Mk_comb 16 28 (.invokevirtual 125) 3 rfl)) ?_
  refine mz_All.cons (sd_callv (T := T_Dr) ⟨hx, hb, hml, hown, hts⟩ (met_Dr_add w h l) (cwV 1 hts (mz_gV wm_387 wm_388 wm_389 wm_74 wm_390) rfl rfl rfl (by decide) ⟨by decide, by decide⟩) rfl hA rfl (mz_dg d_Mk_comb 17 31 (.invokevirtual 81) 3 rfl)) ?_
  refine mz_All.cons (sd_aload_n hx hb (mz_dg d_Mk_comb 18 34 (.aload_n 0) 1 rfl) rfl) ?_
  refine mz_All.cons (sd_get (k := 3) hx hb hts (mz_inC in_Mk) hown (T := T_Mk) (N := 7) rfl (by decide) (hts (.fieldLink "MazeForms$Maker" 34 "MazeForms$Maker" "choice" "LMazeForms$DoorRow;") (List.mem_cons_of_mem _ wm_232)) (fun _ h => h) (mz_dg d_Mk_comb 19 35 (.getfield 34) 3 rfl)) ?_
  refine mz_All.cons (sd_aload_n hx hb (mz_dg d_Mk_comb 20 38 (.aload_n 0) 1 rfl) rfl) ?_
  refine mz_All.cons (sd_get (k := 0) hx hb hts (mz_inC in_Mk) hown (T := T_Mk) (N := 7) rfl (by decide) (hts (.fieldLink "MazeForms$Maker" 9 "MazeForms$Maker" "grid" "LMazeForms$Grid;") (List.mem_cons_of_mem _ wm_229)) (fun _ h => h) (mz_dg d_Mk_comb 21 39 (.getfield 9) 3 rfl)) ?_
  refine mz_All.cons (sd_iload_n hx hb (mz_dg d_Mk_comb 22 42 (.iload_n 1) 1 rfl) rfl) ?_
  refine mz_All.cons (sd_iconst hx hb (mz_dg d_Mk_comb 23 43 (.iconst (3)) 1 rfl) (by decide)) ?_
  refine mz_All.cons (sd_calli (T := T_Gr) ⟨hx, hb, hml, hown, hts⟩ (met_Gr_doorOn w h l) (cwV 2 hts (mz_gV wm_371 wm_372 wm_373 wm_67 wm_374) rfl rfl rfl (by decide) ⟨by decide, by decide⟩) rfl hA rfl (mz_dg d_Mk_comb 24 44 (.invokevirtual 125) 3 rfl)) ?_
  refine mz_All.cons (sd_callv (T := T_Dr) ⟨hx, hb, hml, hown, hts⟩ (met_Dr_add w h l) (cwV 1 hts (mz_gV wm_387 wm_388 wm_389 wm_74 wm_390) rfl rfl rfl (by decide) ⟨by decide, by decide⟩) rfl hA rfl (mz_dg d_Mk_comb 25 47 (.invokevirtual 81) 3 rfl)) ?_
  refine mz_All.cons (sd_aload_n hx hb (mz_dg d_Mk_comb 26 50 (.aload_n 0) 1 rfl) rfl) ?_
  refine mz_All.cons (sd_aload_n hx hb (mz_dg d_Mk_comb 27 51 (.aload_n 0) 1 rfl) rfl) ?_
  refine mz_All.cons (sd_get (k := 3) hx hb hts (mz_inC in_Mk) hown (T := T_Mk) (N := 7) rfl (by decide) (hts (.fieldLink "MazeForms$Maker" 34 "MazeForms$Maker" "choice" "LMazeForms$DoorRow;") (List.mem_cons_of_mem _ wm_232)) (fun _ h => h) (mz_dg d_Mk_comb 28 52 (.getfield 34) 3 rfl)) ?_
  refine mz_All.cons (sd_calli (T := T_Dr) ⟨hx, hb, hml, hown, hts⟩ (met_Dr_draw w h l) (cwV 0 hts (mz_gV wm_391 wm_392 wm_393 wm_74 wm_394) rfl rfl rfl (by decide) ⟨by decide, by decide⟩) rfl hA rfl (mz_dg d_Mk_comb 29 55 (.invokevirtual 88) 3 rfl)) ?_
  refine mz_All.cons (sd_callv (T := T_Mk) ⟨hx, hb, hml, hown, hts⟩ (met_Mk_openDoor w h l) (cwV 1 hts (mz_gV wm_409 wm_411 wm_8 wm_72 wm_412) rfl rfl rfl (by decide) ⟨by decide, by decide⟩) rfl hA rfl (mz_dg d_Mk_comb 30 58 (.invokevirtual 91) 3 rfl)) ?_
  refine mz_All.cons (sd_iinc hx hb (mz_dg d_Mk_comb 31 61 (.iinc 1 (1)) 3 rfl) (by decide) (by decide)) ?_
  refine mz_All.cons (sd_goto hx hb (mz_dg d_Mk_comb 32 64 (.goto (-62)) 3 rfl) (by decide)) ?_
  refine mz_All.cons (sd_rv hx hb hr hlk (mz_dg d_Mk_comb 33 67 (.return_) 1 rfl)) ?_
  exact trivial
theorem met_Mk_comb (w h : Nat) (l : Launch) : mz_MV l y_Mk_comb w_Mk_comb 3 64 mz_cls (C_Mk_comb w h) := mz_MV_of (I_Mk_comb w h) (by decide) rfl (len_Mk_comb w h) (ok_Mk_comb w h) (snd_Mk_comb w h l)
set_option maxRecDepth 20000 in
theorem snd_Mk_openMore (w h : Nat) (l : Launch) (p : Program) (e : Env) (s : State) (m : MethodId) (args : Array Value) (below : List Frame) (meth : Method) (c : Code) (D : va_G) (ad0 : Nat → Nat) (cA0 : Nat → ClassId) (A : Nat → Prop) (lay : List mz_E) (Q : Int32 → mz_X → Prop) (F : mz_F p s m args meth c prog_7_method_3_code 4 y_Mk_openMore.cls (some .int) w_Mk_openMore) (hA : ∀ q, s.heap.size ≤ q → A q) : mz_All (mz_V p l e (mz_rm 3 64) s m args below meth c 4 lay.length (mz_sz lay) D mz_cls (mz_G0 ad0 cA0) A (MQ below (va_Qi Q (mz_B D mz_cls ad0 cA0 lay A) A) args s 0 0 A)) (mz_qi lay Q) (I_Mk_openMore w h) := by
  obtain ⟨hx, hb, hml, hown, hts, hr, hlk⟩ := F
  unfold I_Mk_openMore
  refine mz_All.cons (sd_aload_n hx hb (mz_dg d_Mk_openMore 0 0 (.aload_n 0) 1 rfl) rfl) ?_
  refine mz_All.cons (sd_iconst hx hb (mz_dg d_Mk_openMore 1 1 (.iconst (0)) 1 rfl) (by decide)) ?_
  refine mz_All.cons (sd_puti (k := 6) hx hb hts (mz_inC in_Mk) ty_Mk ty_Mk_ok nm_Mk hown (T := T_Mk) (N := 7) rfl (by decide) (hts (.fieldLink "MazeForms$Maker" 52 "MazeForms$Maker" "opened" "I") (List.mem_cons_of_mem _ wm_235)) (fun _ h => h) rfl rfl (mz_dg d_Mk_openMore 2 2 (.putfield 52) 3 rfl)) ?_
  refine mz_All.cons (sd_iconst hx hb (mz_dg d_Mk_openMore 3 5 (.iconst (0)) 1 rfl) (by decide)) ?_
  refine mz_All.cons (sd_istore_n hx hb (mz_dg d_Mk_openMore 4 6 (.istore_n 2) 1 rfl) rfl (by decide)) ?_
  refine mz_All.cons (sd_iload_n hx hb (mz_dg d_Mk_openMore 5 7 (.iload_n 2) 1 rfl) rfl) ?_
  refine mz_All.cons (sd_iload_n hx hb (mz_dg d_Mk_openMore 6 8 (.iload_n 1) 1 rfl) rfl) ?_
  refine mz_All.cons (sd_icmp_ge hx hb (mz_dg d_Mk_openMore 7 9 (.if_icmp .ge (80)) 3 rfl) (by decide)) ?_
  refine mz_All.cons (sd_aload_n hx hb (mz_dg d_Mk_openMore 8 12 (.aload_n 0) 1 rfl) rfl) ?_
  refine mz_All.cons (sd_get (k := 3) hx hb hts (mz_inC in_Mk) hown (T := T_Mk) (N := 7) rfl (by decide) (hts (.fieldLink "MazeForms$Maker" 34 "MazeForms$Maker" "choice" "LMazeForms$DoorRow;") (List.mem_cons_of_mem _ wm_232)) (fun _ h => h) (mz_dg d_Mk_openMore 9 13 (.getfield 34) 3 rfl)) ?_
  refine mz_All.cons (sd_callv (T := T_Dr) ⟨hx, hb, hml, hown, hts⟩ (met_Dr_clear w h l) (cwV 0 hts (mz_gV wm_367 wm_368 wm_369 wm_74 wm_370) rfl rfl rfl (by decide) ⟨by decide, by decide⟩) rfl hA rfl (mz_dg d_Mk_openMore 10 16 (.invokevirtual 71) 3 rfl)) ?_
  refine mz_All.cons (sd_iconst hx hb (mz_dg d_Mk_openMore 11 19 (.iconst (0)) 1 rfl) (by decide)) ?_
  refine mz_All.cons (sd_istore_n hx hb (mz_dg d_Mk_openMore 12 20 (.istore_n 3) 1 rfl) rfl (by decide)) ?_
  refine mz_All.cons (sd_iload_n hx hb (mz_dg d_Mk_openMore 13 21 (.iload_n 3) 1 rfl) rfl) ?_
  refine mz_All.cons (sd_aload_n hx hb (mz_dg d_Mk_openMore 14 22 (.aload_n 0) 1 rfl) rfl) ?_
  refine mz_All.cons (sd_get (k := 0) hx hb hts (mz_inC in_Mk) hown (T := T_Mk) (N := 7) rfl (by decide) (hts (.fieldLink "MazeForms$Maker" 9 "MazeForms$Maker" "grid" "LMazeForms$Grid;") (List.mem_cons_of_mem _ wm_229)) (fun _ h => h) (mz_dg d_Mk_openMore 15 23 (.getfield 9) 3 rfl)) ?_
  refine mz_All.cons (sd_calli (T := T_Gr) ⟨hx, hb, hml, hown, hts⟩ (met_Gr_doorCount w h l) (cwV 0 hts (mz_gV wm_425 wm_426 wm_427 wm_67 wm_428) rfl rfl rfl (by decide) ⟨by decide, by decide⟩) rfl hA rfl (mz_dg d_Mk_openMore 16 26 (.invokevirtual 74) 3 rfl)) ?_
  refine mz_All.cons (sd_icmp_ge hx hb (mz_dg d_Mk_openMore 17 29 (.if_icmp .ge (28)) 3 rfl) (by decide)) ?_
  refine mz_All.cons (sd_aload_n hx hb (mz_dg d_Mk_openMore 18 32 (.aload_n 0) 1 rfl) rfl) ?_
  refine mz_All.cons (sd_get (k := 0) hx hb hts (mz_inC in_Mk) hown (T := T_Mk) (N := 7) rfl (by decide) (hts (.fieldLink "MazeForms$Maker" 9 "MazeForms$Maker" "grid" "LMazeForms$Grid;") (List.mem_cons_of_mem _ wm_229)) (fun _ h => h) (mz_dg d_Mk_openMore 19 33 (.getfield 9) 3 rfl)) ?_
  refine mz_All.cons (sd_iload_n hx hb (mz_dg d_Mk_openMore 20 36 (.iload_n 3) 1 rfl) rfl) ?_
  refine mz_All.cons (sd_calli (T := T_Gr) ⟨hx, hb, hml, hown, hts⟩ (met_Gr_isOpen w h l) (cwV 1 hts (mz_gV wm_543 wm_497 wm_498 wm_67 wm_499) rfl rfl rfl (by decide) ⟨by decide, by decide⟩) rfl hA rfl (mz_dg d_Mk_openMore 21 37 (.invokevirtual 77) 3 rfl)) ?_
  refine mz_All.cons (sd_if_ne hx hb (mz_dg d_Mk_openMore 22 40 (.ifCond .ne (11)) 3 rfl) (by decide)) ?_
  refine mz_All.cons (sd_aload_n hx hb (mz_dg d_Mk_openMore 23 43 (.aload_n 0) 1 rfl) rfl) ?_
  refine mz_All.cons (sd_get (k := 3) hx hb hts (mz_inC in_Mk) hown (T := T_Mk) (N := 7) rfl (by decide) (hts (.fieldLink "MazeForms$Maker" 34 "MazeForms$Maker" "choice" "LMazeForms$DoorRow;") (List.mem_cons_of_mem _ wm_232)) (fun _ h => h) (mz_dg d_Mk_openMore 24 44 (.getfield 34) 3 rfl)) ?_
  refine mz_All.cons (sd_iload_n hx hb (mz_dg d_Mk_openMore 25 47 (.iload_n 3) 1 rfl) rfl) ?_
  refine mz_All.cons (sd_callv (T := T_Dr) ⟨hx, hb, hml, hown, hts⟩ (met_Dr_add w h l) (cwV 1 hts (mz_gV wm_387 wm_388 wm_389 wm_74 wm_390) rfl rfl rfl (by decide) ⟨by decide, by decide⟩) rfl hA rfl (mz_dg d_Mk_openMore 26 48 (.invokevirtual 81) 3 rfl)) ?_
  refine mz_All.cons (sd_iinc hx hb (mz_dg d_Mk_openMore 27 51 (.iinc 3 (1)) 3 rfl) (by decide) (by decide)) ?_
  refine mz_All.cons (sd_goto hx hb (mz_dg d_Mk_openMore 28 54 (.goto (-33)) 3 rfl) (by decide)) ?_
  refine mz_All.cons (sd_aload_n hx hb (mz_dg d_Mk_openMore 29 57 (.aload_n 0) 1 rfl) rfl) ?_
  refine mz_All.cons (sd_get (k := 3) hx hb hts (mz_inC in_Mk) hown (T := T_Mk) (N := 7) rfl (by decide) (hts (.fieldLink "MazeForms$Maker" 34 "MazeForms$Maker" "choice" "LMazeForms$DoorRow;") (List.mem_cons_of_mem _ wm_232)) (fun _ h => h) (mz_dg d_Mk_openMore 30 58 (.getfield 34) 3 rfl)) ?_
  refine mz_All.cons (sd_calli (T := T_Dr) ⟨hx, hb, hml, hown, hts⟩ (met_Dr_count w h l) (cwV 0 hts (mz_gV wm_441 wm_442 wm_443 wm_74 wm_444) rfl rfl rfl (by decide) ⟨by decide, by decide⟩) rfl hA rfl (mz_dg d_Mk_openMore 31 61 (.invokevirtual 85) 3 rfl)) ?_
  refine mz_All.cons (sd_if_ne hx hb (mz_dg d_Mk_openMore 32 64 (.ifCond .ne (8)) 3 rfl) (by decide)) ?_
  refine mz_All.cons (sd_aload_n hx hb (mz_dg d_Mk_openMore 33 67 (.aload_n 0) 1 rfl) rfl) ?_
  refine mz_All.cons (sd_get (k := 6) hx hb hts (mz_inC in_Mk) hown (T := T_Mk) (N := 7) rfl (by decide) (hts (.fieldLink "MazeForms$Maker" 52 "MazeForms$Maker" "opened" "I") (List.mem_cons_of_mem _ wm_235)) (fun _ h => h) (mz_dg d_Mk_openMore 34 68 (.getfield 52) 3 rfl)) ?_
  refine mz_All.cons (sd_ri hx hb hr hlk (mz_dg d_Mk_openMore 35 71 (.ireturn) 1 rfl)) ?_
  refine mz_All.cons (sd_aload_n hx hb (mz_dg d_Mk_openMore 36 72 (.aload_n 0) 1 rfl) rfl) ?_
  refine mz_All.cons (sd_aload_n hx hb (mz_dg d_Mk_openMore 37 73 (.aload_n 0) 1 rfl) rfl) ?_
  refine mz_All.cons (sd_get (k := 3) hx hb hts (mz_inC in_Mk) hown (T := T_Mk) (N := 7) rfl (by decide) (hts (.fieldLink "MazeForms$Maker" 34 "MazeForms$Maker" "choice" "LMazeForms$DoorRow;") (List.mem_cons_of_mem _ wm_232)) (fun _ h => h) (mz_dg d_Mk_openMore 38 74 (.getfield 34) 3 rfl)) ?_
  refine mz_All.cons (sd_calli (T := T_Dr) ⟨hx, hb, hml, hown, hts⟩ (met_Dr_draw w h l) (cwV 0 hts (mz_gV wm_391 wm_392 wm_393 wm_74 wm_394) rfl rfl rfl (by decide) ⟨by decide, by decide⟩) rfl hA rfl (mz_dg d_Mk_openMore 39 77 (.invokevirtual 88) 3 rfl)) ?_
  refine mz_All.cons (sd_callv (T := T_Mk) ⟨hx, hb, hml, hown, hts⟩ (met_Mk_openDoor w h l) (cwV 1 hts (mz_gV wm_409 wm_411 wm_8 wm_72 wm_412) rfl rfl rfl (by decide) ⟨by decide, by decide⟩) rfl hA rfl (mz_dg d_Mk_openMore 40 80 (.invokevirtual 91) 3 rfl)) ?_
  refine mz_All.cons (sd_iinc hx hb (mz_dg d_Mk_openMore 41 83 (.iinc 2 (1)) 3 rfl) (by decide) (by decide)) ?_
  refine mz_All.cons (sd_goto hx hb (mz_dg d_Mk_openMore 42 86 (.goto (-79)) 3 rfl) (by decide)) ?_
  refine mz_All.cons (sd_aload_n hx hb (mz_dg d_Mk_openMore 43 89 (.aload_n 0) 1 rfl) rfl) ?_
  refine mz_All.cons (sd_get (k := 6) hx hb hts (mz_inC in_Mk) hown (T := T_Mk) (N := 7) rfl (by decide) (hts (.fieldLink "MazeForms$Maker" 52 "MazeForms$Maker" "opened" "I") (List.mem_cons_of_mem _ wm_235)) (fun _ h => h) (mz_dg d_Mk_openMore 44 90 (.getfield 52) 3 rfl)) ?_
  refine mz_All.cons (sd_ri hx hb hr hlk (mz_dg d_Mk_openMore 45 93 (.ireturn) 1 rfl)) ?_
  exact trivial
theorem met_Mk_openMore (w h : Nat) (l : Launch) : mz_MI l y_Mk_openMore w_Mk_openMore 3 64 mz_cls (C_Mk_openMore w h) := mz_MI_of (I_Mk_openMore w h) (by decide) rfl (len_Mk_openMore w h) (ok_Mk_openMore w h) (snd_Mk_openMore w h l)
end
section
/-! more operations: a table switch, Math.min and Math.max -/
def mz_tsw (lo : Int) (ts : List Nat) (d : Nat) : mz_Op := fun _ K L S M => match S with
  | .int x :: r => (∀ k t : Nat, ts[k]? = some t → x.toInt = lo + k → K t L r M) ∧ ((∀ k : Nat, k < ts.length → ¬ x.toInt = lo + k) → K d L r M)
  | _ => False
def mz_bin8 (f : Int32 → Int32 → Int32) (n : Nat) : mz_Op := fun _ K L S M => match S with
  | .int y :: .int x :: r => (r.map fun v => v.category).sum ≤ 8 ∧ K n L (.int (f x y) :: r) M
  | _ => False
section MZW
variable {p : Program} {l : Launch} {e : Env} {R : Room} {s : State} {m : MethodId} {args : Array Value} {below : List Frame} {meth : Method} {c : Code}
variable {cc : ByteArray} {nL n0 z0 : Nat} {D : va_G} {cl : List vw_C} {G : (Nat → Nat) → (Nat → ClassId) → Prop} {A : Nat → Prop} {Qw : State → Prop} {Qv : mz_Q} {pc : Nat}
theorem sd_tsw {lo : Int} {ts : List Nat} {d len : Nat} {dflt hi : Int} {offs : Array Int} (hx : p.tables.exec = Jvm.exec) (hb : c.code = cc) (hdg : decode cc pc = .ok (.tableswitch dflt lo hi offs, len)) (hd : (pc : Int) + dflt = (d : Int)) (hh : hi = lo + ts.length - 1) (ho : ∀ k : Nat, k < ts.length → Option.map (fun o : Int => (pc : Int) + o) offs[k]? = Option.map (fun t : Nat => Int.ofNat t) ts[k]?) : mz_Sd (mz_V p l e R s m args below meth c nL n0 z0 D cl G A Qw) Qv (mz_tsw lo ts d) pc := by
  intro L S M h ad cA H locs ls hw ha hn hK hP hD hS hl
  simp only [mz_tsw] at h
  split at h
  · next x r =>
    by_cases hr : lo ≤ x.toInt ∧ x.toInt ≤ hi
    · have hk : (x.toInt - lo).toNat < ts.length := by omega
      obtain ⟨t, ht⟩ : ∃ t, ts[(x.toInt - lo).toNat]? = some t := ⟨_, List.getElem?_eq_getElem hk⟩
      have h2 := ho _ hk
      rw [ht] at h2
      cases h3 : offs[(x.toInt - lo).toNat]? with
      | none => rw [h3] at h2; simp at h2
      | some off =>
        rw [h3] at h2
        simp only [Option.map_some, Option.some.injEq] at h2
        exact lv_tableIn hx hb hdg (by omega) (by omega) h3 h2 (h.1 _ t ht (by omega) ad cA H locs ls hw.tail ha hn hK hP hD hS hl)
    · exact lv_tableOut hx hb hdg (by omega) hd (h.2 (fun k hk q => hr (by omega)) ad cA H locs ls hw.tail ha hn hK hP hD hS hl)
  · exact h.elim
theorem sd_mmin (hx : p.tables.exec = Jvm.exec) (hb : c.code = cc) (hml : c.maxLocals = nL) {own : String} {index : Nat} (hown : s.vm.findClass own = some m.cls) (hlink : (Cond.methodLink own index Lib.Math.min.name).before args s = true) (hstat : (Cond.static Lib.Math.min.name).before args s = true) (hini : (Cond.initialized "java/lang/Math").before args s = true) (hcode : (Cond.code Lib.Math.min.name Lib.Math.min.code 2 (some .int)).before args s = true) (hfr : 1 ≤ R.frames) (hlo : 21 ≤ R.locals) (hdg : decode cc pc = .ok (.invokestatic index, 3)) : mz_Sd (mz_V p l e R s m args below meth c nL n0 z0 D cl G A Qw) Qv (mz_bin8 (fun x y => if y < x then y else x) (pc + 3)) pc := by
  intro L S M h ad cA H locs ls hw ha hn hK hP hD hS hl
  simp only [mz_bin8] at h
  split at h
  · next y x r =>
    exact va_mmin hx hb (hml.trans hl.1.symm) hown hlink hstat hini hcode hfr (by have := h.1; rw [← mz_cats ad] at this; omega) hn.2.1 hn.2.2 hdg (h.2 ad cA H locs ls (hw.tail.tail.push trivial) ha hn hK hP hD hS hl)
  · exact h.elim
theorem sd_mmax (hx : p.tables.exec = Jvm.exec) (hb : c.code = cc) (hml : c.maxLocals = nL) {own : String} {index : Nat} (hown : s.vm.findClass own = some m.cls) (hlink : (Cond.methodLink own index Lib.Math.max.name).before args s = true) (hstat : (Cond.static Lib.Math.max.name).before args s = true) (hini : (Cond.initialized "java/lang/Math").before args s = true) (hcode : (Cond.code Lib.Math.max.name Lib.Math.max.code 2 (some .int)).before args s = true) (hfr : 1 ≤ R.frames) (hlo : 21 ≤ R.locals) (hdg : decode cc pc = .ok (.invokestatic index, 3)) : mz_Sd (mz_V p l e R s m args below meth c nL n0 z0 D cl G A Qw) Qv (mz_bin8 (fun x y => if x < y then y else x) (pc + 3)) pc := by
  intro L S M h ad cA H locs ls hw ha hn hK hP hD hS hl
  simp only [mz_bin8] at h
  split at h
  · next y x r =>
    exact va_mmax hx hb (hml.trans hl.1.symm) hown hlink hstat hini hcode hfr (by have := h.1; rw [← mz_cats ad] at this; omega) hn.2.1 hn.2.2 hdg (h.2 ad cA H locs ls (hw.tail.tail.push trivial) ha hn hK hP hD hS hl)
  · exact h.elim
end MZW
end
section
/-- make by a way -/
def zm_way (w h D N : Nat) (X : mz_X) (way : Int32) : mz_X :=
  if way = 0 then zm_deep w h X else if way = 1 then zm_sets w h D X else if way = 2 then zm_grow w h D X else if way = 3 then zm_wal w h N X else zm_ks w h X (w * h)
def zm_bB (way : Int32) : Bool := !decide (way < 0) && decide (way ≤ 4)
def zm_bX (w h D N : Nat) (X : mz_X) (way : Int32) : mz_X := match zm_bB way with
  | true => zm_way w h D N (zm_o0 (zg_closeX w h X)) way
  | false => X
def zm_bV (w h D N : Nat) (X : mz_X) (way : Int32) : Int32 := match zm_bB way with
  | true => (zm_bX w h D N X way).1 12 6
  | false => -1
def C_Mk_build (w h : Nat) : mz_CI := fun lay as X Q => match as with
  | [.ref 12, .int way] => lay = mz_lay w h ∧ mz_geo w h ∧ ∃ D N : Nat, zm_D w h D X ∧ N = 1000000 ∧ Q (zm_bV w h D N X way) (zm_bX w h D N X way)
  | _ => False
def y_Mk_joinSets : MethodName := ⟨"MazeForms$Maker", "joinSets", "()V"⟩
abbrev w_Mk_joinSets : List Cond := .code y_Mk_joinSets prog_7_method_12_code 3 none :: mz_tb
def dl_Mk_joinSets : List (Nat × ClassFile.Instr × Nat) := [(0, .aload_n 0, 1), (1, .getfield 34, 3), (4, .invokevirtual 71, 3), (7, .iconst (0), 1), (8, .istore_n 1, 1), (9, .iload_n 1, 1), (10, .aload_n 0, 1), (11, .getfield 9, 3), (14, .invokevirtual 74, 3), (17, .if_icmp .ge (17), 3), (20, .aload_n 0, 1), (21, .getfield 34, 3), (24, .iload_n 1, 1), (25, .invokevirtual 81, 3), (28, .iinc 1 (1), 3), (31, .goto (-22), 3), (34, .aload_n 0, 1), (35, .getfield 34, 3), (38, .invokevirtual 131, 3), (41, .aload_n 0, 1), (42, .getfield 15, 3), (45, .invokevirtual 134, 3), (48, .iconst (0), 1), (49, .istore_n 1, 1), (50, .iload_n 1, 1), (51, .aload_n 0, 1), (52, .getfield 34, 3), (55, .invokevirtual 85, 3), (58, .if_icmp .ge (34), 3), (61, .aload_n 0, 1), (62, .getfield 34, 3), (65, .iload_n 1, 1), (66, .invokevirtual 139, 3), (69, .istore_n 2, 1), (70, .aload_n 0, 1), (71, .getfield 15, 3), (74, .iload_n 2, 1), (75, .invokevirtual 142, 3), (78, .ifCond .eq (8), 3), (81, .aload_n 0, 1), (82, .iload_n 2, 1), (83, .invokevirtual 91, 3), (86, .iinc 1 (1), 3), (89, .goto (-39), 3), (92, .return_, 1)]
theorem d_Mk_joinSets : mz_dec prog_7_method_12_code dl_Mk_joinSets = true := by decide +kernel
def y_Mk_build : MethodName := ⟨"MazeForms$Maker", "build", "(I)I"⟩
abbrev w_Mk_build : List Cond := .code y_Mk_build prog_7_method_2_code 2 (some .int) :: mz_tb
def dl_Mk_build : List (Nat × ClassFile.Instr × Nat) := [(0, .iload_n 1, 1), (1, .ifCond .lt (8), 3), (4, .iload_n 1, 1), (5, .iconst (4), 1), (6, .if_icmp .le (5), 3), (9, .iconst (-1), 1), (10, .ireturn, 1), (11, .aload_n 0, 1), (12, .getfield 9, 3), (15, .invokevirtual 49, 3), (18, .aload_n 0, 1), (19, .iconst (0), 1), (20, .putfield 52, 3), (23, .iload_n 1, 1), (24, .tableswitch (60) (0) (3) #[32, 39, 46, 53], 32), (56, .aload_n 0, 1), (57, .invokevirtual 56, 3), (60, .goto (28), 3), (63, .aload_n 0, 1), (64, .invokevirtual 59, 3), (67, .goto (21), 3), (70, .aload_n 0, 1), (71, .invokevirtual 62, 3), (74, .goto (14), 3), (77, .aload_n 0, 1), (78, .invokevirtual 65, 3), (81, .goto (7), 3), (84, .aload_n 0, 1), (85, .invokevirtual 68, 3), (88, .aload_n 0, 1), (89, .getfield 52, 3), (92, .ireturn, 1)]
theorem d_Mk_build : mz_dec prog_7_method_2_code dl_Mk_build = true := by decide +kernel
def I_Mk_joinSets (w h : Nat) : List (Nat × mz_Op) := [(0, mz_lda 0 1), (1, mz_gf 5 3 4), (4, mz_cvo 1 1 (C_Dr_clear w h) 7), (7, mz_push (.int (0)) 8), (8, mz_sti 1 9), (9, mz_ldi 1 10), (10, mz_lda 0 11), (11, mz_gf 5 0 14), (14, mz_ci 1 3 (C_Gr_doorCount w h) 17), (17, mz_ic (fun x y => y ≤ x) 34 20), (20, mz_lda 0 21), (21, mz_gf 5 3 24), (24, mz_ldi 1 25), (25, mz_cvo 2 1 (C_Dr_add w h) 28), (28, mz_inc 1 (1) 31), (31, mz_go 9), (34, mz_lda 0 35), (35, mz_gf 5 3 38), (38, mz_cvo 1 1 (C_Dr_shuffle w h) 41), (41, mz_lda 0 42), (42, mz_gf 5 1 45), (45, mz_cvo 1 4 (C_Jo_reset w h) 48), (48, mz_push (.int (0)) 49), (49, mz_sti 1 50), (50, mz_ldi 1 51), (51, mz_lda 0 52), (52, mz_gf 5 3 55), (55, mz_ci 1 1 (C_Dr_count w h) 58), (58, mz_ic (fun x y => y ≤ x) 92 61), (61, mz_lda 0 62), (62, mz_gf 5 3 65), (65, mz_ldi 1 66), (66, mz_ci 2 1 (C_Dr_doorAt w h) 69), (69, mz_sti 2 70), (70, mz_lda 0 71), (71, mz_gf 5 1 74), (74, mz_ldi 2 75), (75, mz_ci 2 4 (C_Jo_joinBy w h) 78), (78, mz_if (fun x => x = 0) 86 81), (81, mz_lda 0 82), (82, mz_ldi 2 83), (83, mz_cvo 2 5 (C_Mk_openDoor w h) 86), (86, mz_inc 1 (1) 89), (89, mz_go 50), (92, mz_rv)]
def I_Mk_build (w h : Nat) : List (Nat × mz_Op) := [(0, mz_ldi 1 1), (1, mz_if (fun x => x < 0) 9 4), (4, mz_ldi 1 5), (5, mz_push (.int (4)) 6), (6, mz_ic (fun x y => x ≤ y) 11 9), (9, mz_push (.int (-1)) 10), (10, mz_ri), (11, mz_lda 0 12), (12, mz_gf 5 0 15), (15, mz_cvo 1 3 (C_Gr_closeDoors w h) 18), (18, mz_lda 0 19), (19, mz_push (.int (0)) 20), (20, mz_pfi 5 6 23), (23, mz_ldi 1 24), (24, mz_tsw (0) [56, 63, 70, 77] 84), (56, mz_lda 0 57), (57, mz_cvo 1 5 (C_Mk_goDeep w h) 60), (60, mz_go 88), (63, mz_lda 0 64), (64, mz_cvo 1 5 (C_Mk_joinSets w h) 67), (67, mz_go 88), (70, mz_lda 0 71), (71, mz_cvo 1 5 (C_Mk_grow w h) 74), (74, mz_go 88), (77, mz_lda 0 78), (78, mz_cvo 1 5 (C_Mk_walkAll w h) 81), (81, mz_go 88), (84, mz_lda 0 85), (85, mz_cvo 1 5 (C_Mk_comb w h) 88), (88, mz_lda 0 89), (89, mz_gf 5 6 92), (92, mz_ri)]
theorem zr_add_cnt {w h k : Nat} {X : mz_X} {d : Int32} (hd : ¬ d = -1) (hk : k < mz_dn w h) (g : mz_geo w h) (hX : X.1 14 2 = nI k) : (zr_add w h X d).1 14 2 = nI (k + 1) := by
  have hg := mz_geo_d g
  have e : zr_addB w h X d = true := by
    simp only [zr_addB, Bool.and_eq_true, Bool.not_eq_true', decide_eq_false_iff_not, hX]
    exact ⟨⟨hd, nI_pos (by omega)⟩, nI_ge hk (by omega)⟩
  unfold zr_add
  rw [e]
  show mz_up (mz_up X.1 15 (X.1 14 2).toNatClampNeg d) 14 2 (X.1 14 2 + 1) 14 2 = nI (k + 1)
  rw [mz_up_row]
  dsimp only
  rw [if_pos rfl, hX, nI_1]
theorem mz_nI_m1 {i : Nat} (h : i < 2 ^ 31) : ¬ nI i = -1 := by
  intro q
  have h1 := nI_toInt h
  rw [q] at h1
  have h2 : (-1 : Int32).toInt = -1 := by decide
  omega
theorem zm_ro_keep {w h p i : Nat} (hp : p ≠ 14) (hp2 : p ≠ 15) (X : mz_X) : ∀ k, (zm_ro w h X k).1 p i = X.1 p i
  | 0 => zr_clr_keep hp X
  | k + 1 => (zr_add_keep hp hp2 _ _).trans (zm_ro_keep hp hp2 X k)
theorem zm_ro_cnt {w h : Nat} (g : mz_geo w h) (X : mz_X) : ∀ k, k ≤ mz_dn w h → (zm_ro w h X k).1 14 2 = nI k
  | 0, _ => by
    show mz_up X.1 14 2 0 14 2 = nI 0
    rw [mz_up_row]
    dsimp only
    rw [if_pos rfl, nI_0]
  | k + 1, hk => zr_add_cnt (mz_nI_m1 (by have := mz_geo_d g; omega)) (by omega) g (zm_ro_cnt g X k (by omega))
theorem zc_X_1 (X : mz_X) (n : Int32) : (zc_X X n).1 = X.1 := by
  unfold zc_X
  split <;> rfl
theorem zr_exc_keep {w h p i : Nat} (hp2 : p ≠ 15) (X : mz_X) (a b : Int32) : (zr_exc w h X a b).1 p i = X.1 p i := by
  unfold zr_exc
  split
  · rfl
  · show mz_up (mz_up X.1 15 _ _) 15 _ _ p i = X.1 p i
    rw [mz_up_off hp2, mz_up_off hp2]
theorem zr_shu_keep {w h p i : Nat} (hp2 : p ≠ 15) : ∀ (k : Nat) (X : mz_X), (zr_shu w h X k).1 p i = X.1 p i
  | 0, X => rfl
  | k + 1, X => by
    show (zr_shu w h _ k).1 p i = X.1 p i
    rw [zr_shu_keep hp2 k, zr_exc_keep hp2, zc_X_1]
theorem zm_od_keep {w h p i : Nat} (h6 : p ≠ 6) (h12 : p ≠ 12) (h1 : p ≠ 1 ∨ i ≠ 8) (X : mz_X) (d : Int32) : (zm_od w h X d).1 p i = X.1 p i := by
  cases e : zg_setB w h X d 1 with
  | true =>
    rw [zm_od_t e]
    show mz_up (zg_setX X d 1).1 12 6 ((zg_setX X d 1).1 12 6 + 1) p i = X.1 p i
    rw [mz_up_off h12, zg_setX_keep h6 h1]
  | false => rw [zm_od_f e]
theorem zm_jS_t {w h i : Nat} {X : mz_X} (e : zj_joB w h X (zr_at w h X (nI i)) = true) : zm_jS w h X i = zm_od w h (zj_joX w h X (zr_at w h X (nI i))) (zr_at w h X (nI i)) := by
  unfold zm_jS
  rw [e]
theorem zm_jS_f {w h i : Nat} {X : mz_X} (e : zj_joB w h X (zr_at w h X (nI i)) = false) : zm_jS w h X i = zj_joX w h X (zr_at w h X (nI i)) := by
  unfold zm_jS
  rw [e]
theorem zm_jS_keep {w h j p i : Nat} (h6 : p ≠ 6) (h12 : p ≠ 12) (h8 : p ≠ 8) (h1 : p ≠ 1 ∨ i ≠ 8) (X : mz_X) : (zm_jS w h X j).1 p i = X.1 p i := by
  cases e : zj_joB w h X (zr_at w h X (nI j)) with
  | true => rw [zm_jS_t e, zm_od_keep h6 h12 h1, zj_jo_keep h8]
  | false => rw [zm_jS_f e, zj_jo_keep h8]
theorem zm_js_keep {w h p i : Nat} (h6 : p ≠ 6) (h12 : p ≠ 12) (h8 : p ≠ 8) (h1 : p ≠ 1 ∨ i ≠ 8) (X : mz_X) : ∀ k, (zm_js w h X k).1 p i = X.1 p i
  | 0 => rfl
  | k + 1 => (zm_jS_keep h6 h12 h8 h1 _).trans (zm_js_keep h6 h12 h8 h1 X k)
theorem zj_ok_of {w h : Nat} {X Y : mz_X} (hX : zj_ok w h X) (e : ∀ i, Y.1 8 i = X.1 8 i) : zj_ok w h Y := fun i hi => by
  rw [e i]
  exact hX i hi
theorem zm_jS_ok {w h j : Nat} (g : mz_geo w h) {X : mz_X} (hX : zj_ok w h X) : zj_ok w h (zm_jS w h X j) := by
  cases e : zj_joB w h X (zr_at w h X (nI j)) with
  | true =>
    rw [zm_jS_t e]
    exact zj_ok_of (zj_joX_ok g _ hX) (fun i => zm_od_keep (by decide) (by decide) (Or.inl (by decide)) _ _)
  | false =>
    rw [zm_jS_f e]
    exact zj_joX_ok g _ hX
theorem zm_js_ok {w h : Nat} (g : mz_geo w h) {X : mz_X} (hX : zj_ok w h X) : ∀ k, zj_ok w h (zm_js w h X k)
  | 0 => hX
  | k + 1 => zm_jS_ok g (zm_js_ok g hX k)
theorem zj_idn_keep {k p i : Nat} (hp : p ≠ 8) (X : mz_X) : (zj_idn X k).1 p i = X.1 p i := by
  simp only [zj_idn]
  rw [if_neg (fun q => hp q.1)]
theorem zg_closeX_keep {w h p i : Nat} (h6 : p ≠ 6) (h1 : p ≠ 1 ∨ i ≠ 8) (X : mz_X) : (zg_closeX w h X).1 p i = X.1 p i := by
  simp only [zg_closeX, mz_up, mz_fil]
  rcases h1 with h1 | h1
  · rw [if_neg h1, if_neg (fun q => h6 q.1)]
  · by_cases hp : p = 1
    · rw [if_pos hp, if_neg h1, if_neg (fun q => h6 q.1)]
    · rw [if_neg hp, if_neg (fun q => h6 q.1)]
theorem zm_bX_t {w h D N : Nat} {X : mz_X} {way : Int32} (e : zm_bB way = true) : zm_bX w h D N X way = zm_way w h D N (zm_o0 (zg_closeX w h X)) way := by
  unfold zm_bX
  rw [e]
theorem zm_bX_f {w h D N : Nat} {X : mz_X} {way : Int32} (e : zm_bB way = false) : zm_bX w h D N X way = X := by
  unfold zm_bX
  rw [e]
theorem zm_bV_t {w h D N : Nat} {X : mz_X} {way : Int32} (e : zm_bB way = true) : zm_bV w h D N X way = (zm_bX w h D N X way).1 12 6 := by
  unfold zm_bV
  rw [e]
theorem zm_bV_f {w h D N : Nat} {X : mz_X} {way : Int32} (e : zm_bB way = false) : zm_bV w h D N X way = -1 := by
  unfold zm_bV
  rw [e]
theorem len_Mk_joinSets (w h : Nat) (lay : List mz_E) (as : List Value) (X : mz_X) (Q : mz_X → Prop) (hC : C_Mk_joinSets w h lay as X Q) : (mz_l0 as).length ≤ 3 := by
  unfold C_Mk_joinSets at hC
  split at hC
  · exact Nat.le_of_ble_eq_true rfl
  · exact hC.elim
theorem ok_Mk_joinSets (w h : Nat) (lay : List mz_E) (as : List Value) (X : mz_X) (Q : mz_X → Prop) (hC : C_Mk_joinSets w h lay as X Q) (K : mz_K) (hK : mz_Cl (I_Mk_joinSets w h) (mz_qv lay Q) K) : K 0 (mz_ent 3 as) [] (lay, X) := by
  unfold C_Mk_joinSets at hC
  split at hC
  ·
    obtain ⟨rfl, g, D, hD, hq⟩ := hC
    have hd := mz_geo_d g
    have hDd := hD.1
    have l2 : ∀ (Z : mz_X), zj_ok w h Z → Z.1 14 2 = nI D → Q (zm_js w h Z D) → ∀ (k i : Nat), i + k = D → ∀ L2 : Option Value, K 50 [some (.ref 12), some (.int (nI i)), L2] [] (mz_lay w h, zm_js w h Z i) := by
      intro Z hZ hZ2 hZQ k
      induction k with
      | zero =>
        intro i hi L2
        have hc : (zm_js w h Z i).1 14 2 = nI D := by rw [zm_js_keep (by decide) (by decide) (by decide) (Or.inl (by decide)), hZ2]
        iterate 3 refine hK _ _ _ _ ?_
        refine hK _ _ _ _ (And.intro (rfl) (And.intro (g) ?_))
        refine hK _ _ _ _ (And.intro (fun c1 => ?_) (fun c1 => ?_))
        · exact hK _ _ _ _ (And.intro rfl (by rw [show i = D by omega]; exact hZQ))
        · dsimp only at c1
          rw [hc] at c1
          exact absurd (nI_le (a := D) (b := i) (by omega) (by omega)) c1
      | succ k ih =>
        intro i hi L2
        have hc : (zm_js w h Z i).1 14 2 = nI D := by rw [zm_js_keep (by decide) (by decide) (by decide) (Or.inl (by decide)), hZ2]
        have hok := zm_js_ok g hZ i
        have ih1 := ih (i + 1) (by omega)
        rw [show zm_js w h Z (i + 1) = zm_jS w h (zm_js w h Z i) i from rfl, ← nI_1] at ih1
        generalize zm_js w h Z i = Y at ih1 hc hok ⊢
        iterate 3 refine hK _ _ _ _ ?_
        refine hK _ _ _ _ (And.intro (rfl) (And.intro (g) ?_))
        refine hK _ _ _ _ (And.intro (fun c1 => ?_) (fun c1 => ?_))
        · dsimp only at c1
          rw [hc] at c1
          exact absurd c1 (nI_ge (by omega) (by omega))
        · iterate 3 refine hK _ _ _ _ ?_
          refine hK _ _ _ _ (And.intro (rfl) (And.intro (g) ?_))
          iterate 4 refine hK _ _ _ _ ?_
          refine hK _ _ _ _ (And.intro (rfl) (And.intro (g) (And.intro (hok) ?_)))
          refine hK _ _ _ _ (And.intro (fun c2 => ?_) (fun c2 => ?_))
          · rw [zm_jS_f (mz_b0 c2)] at ih1
            iterate 2 refine hK _ _ _ _ ?_
            exact ih1 _
          · rw [zm_jS_t (mz_b1 c2)] at ih1
            iterate 2 refine hK _ _ _ _ ?_
            refine hK _ _ _ _ (And.intro (rfl) (And.intro (g) ?_))
            iterate 2 refine hK _ _ _ _ ?_
            exact ih1 _
    have l1 : ∀ (k i : Nat), i + k = D → K 9 [some (.ref 12), some (.int (nI i)), none] [] (mz_lay w h, zm_ro w h X i) := by
      intro k
      induction k with
      | zero =>
        intro i hi
        have ei : i = D := by omega
        have h7 : (zm_ro w h X i).1 1 7 = nI D := by rw [zm_ro_keep (by decide) (by decide), hD.2]
        have hcn := zm_ro_cnt g X i (by omega)
        rw [ei] at hcn
        iterate 3 refine hK _ _ _ _ ?_
        refine hK _ _ _ _ (And.intro (rfl) (And.intro (g) ?_))
        refine hK _ _ _ _ (And.intro (fun c1 => ?_) (fun c1 => ?_))
        · iterate 2 refine hK _ _ _ _ ?_
          refine hK _ _ _ _ (And.intro rfl (And.intro g (Exists.intro D (And.intro hDd (And.intro (by rw [ei]; exact hcn) ?_)))))
          iterate 2 refine hK _ _ _ _ ?_
          refine hK _ _ _ _ (And.intro (rfl) (And.intro (g) ?_))
          iterate 2 refine hK _ _ _ _ ?_
          rw [ei]
          refine l2 _ (zj_idn_ok g _) ?_ hq D 0 (by omega) none
          rw [zj_idn_keep (by decide), zr_shu_keep (by decide)]
          exact hcn
        · dsimp only at c1
          rw [h7] at c1
          exact absurd (nI_le (a := D) (b := i) (by omega) (by omega)) c1
      | succ k ih =>
        intro i hi
        have h7 : (zm_ro w h X i).1 1 7 = nI D := by rw [zm_ro_keep (by decide) (by decide), hD.2]
        have ih1 := ih (i + 1) (by omega)
        rw [show zm_ro w h X (i + 1) = zr_add w h (zm_ro w h X i) (nI i) from rfl, ← nI_1] at ih1
        generalize zm_ro w h X i = Y at ih1 h7 ⊢
        iterate 3 refine hK _ _ _ _ ?_
        refine hK _ _ _ _ (And.intro (rfl) (And.intro (g) ?_))
        refine hK _ _ _ _ (And.intro (fun c1 => ?_) (fun c1 => ?_))
        · dsimp only at c1
          rw [h7] at c1
          exact absurd c1 (nI_ge (by omega) (by omega))
        · iterate 3 refine hK _ _ _ _ ?_
          refine hK _ _ _ _ (And.intro (rfl) (And.intro (g) ?_))
          iterate 2 refine hK _ _ _ _ ?_
          exact ih1
    iterate 2 refine hK _ _ _ _ ?_
    refine hK _ _ _ _ (And.intro (rfl) (And.intro (g) ?_))
    iterate 2 refine hK _ _ _ _ ?_
    exact l1 D 0 (by omega)
  · exact hC.elim
theorem len_Mk_build (w h : Nat) (lay : List mz_E) (as : List Value) (X : mz_X) (Q : Int32 → mz_X → Prop) (hC : C_Mk_build w h lay as X Q) : (mz_l0 as).length ≤ 2 := by
  unfold C_Mk_build at hC
  split at hC
  · exact Nat.le_of_ble_eq_true rfl
  · exact hC.elim
theorem ok_Mk_build (w h : Nat) (lay : List mz_E) (as : List Value) (X : mz_X) (Q : Int32 → mz_X → Prop) (hC : C_Mk_build w h lay as X Q) (K : mz_K) (hK : mz_Cl (I_Mk_build w h) (mz_qi lay Q) K) : K 0 (mz_ent 2 as) [] (lay, X) := by
  unfold C_Mk_build at hC
  split at hC
  · next way =>
    obtain ⟨rfl, g, D, N, hD, hN, hq⟩ := hC
    have h9 : zm_bB way = false → K 9 (mz_ent 2 [.ref 12, .int way]) [] (mz_lay w h, X) := by
      intro e
      rw [zm_bV_f e, zm_bX_f e] at hq
      refine hK _ _ _ _ ?_
      exact hK _ _ _ _ (And.intro rfl (hq))
    refine hK _ _ _ _ ?_
    refine hK _ _ _ _ (And.intro (fun c1 => ?_) (fun c1 => ?_))
    · exact h9 (by simp [zm_bB, c1])
    · iterate 2 refine hK _ _ _ _ ?_
      refine hK _ _ _ _ (And.intro (fun c2 => ?_) (fun c2 => ?_))
      · dsimp only at c2
        have e : zm_bB way = true := by simp [zm_bB, c1, c2]
        rw [zm_bV_t e, zm_bX_t e] at hq
        have hD1 : zm_D w h D (zm_o0 (zg_closeX w h X)) := by
          refine zm_D_of hD ?_
          show mz_up (zg_closeX w h X).1 12 6 0 1 7 = X.1 1 7
          rw [mz_up_off (by decide), zg_closeX_keep (by decide) (Or.inr (by decide))]
        have hend : ∀ Y : mz_X, Q (Y.1 12 6) Y → K 88 (mz_ent 2 [.ref 12, .int way]) [] (mz_lay w h, Y) := by
          intro Y hY
          iterate 2 refine hK _ _ _ _ ?_
          exact hK _ _ _ _ (And.intro rfl (hY))
        iterate 2 refine hK _ _ _ _ ?_
        refine hK _ _ _ _ (And.intro (rfl) (And.intro (g) ?_))
        iterate 4 refine hK _ _ _ _ ?_
        show K 24 (mz_ent 2 [.ref 12, .int way]) [.int way] (mz_lay w h, zm_o0 (zg_closeX w h X))
        generalize zm_o0 (zg_closeX w h X) = Z at hq hD1 ⊢
        refine hK _ _ _ _ (And.intro (fun k t ht hk => ?_) (fun hk => ?_))
        · match k, ht with
          | 0, ht =>
            cases ht
            have ew : way = 0 := Int32.toInt_inj.mp (by rw [hk]; rfl)
            rw [show zm_way w h D N Z way = zm_deep w h Z by simp only [zm_way, if_pos ew]] at hq
            refine hK _ _ _ _ ?_
            refine hK _ _ _ _ (And.intro (rfl) (And.intro (g) ?_))
            refine hK _ _ _ _ ?_
            exact hend _ hq
          | 1, ht =>
            cases ht
            have ew : way = 1 := Int32.toInt_inj.mp (by rw [hk]; rfl)
            rw [show zm_way w h D N Z way = zm_sets w h D Z by subst ew; rfl] at hq
            refine hK _ _ _ _ ?_
            refine hK _ _ _ _ (And.intro rfl (And.intro g (Exists.intro D (And.intro hD1 ?_))))
            refine hK _ _ _ _ ?_
            exact hend _ hq
          | 2, ht =>
            cases ht
            have ew : way = 2 := Int32.toInt_inj.mp (by rw [hk]; rfl)
            rw [show zm_way w h D N Z way = zm_grow w h D Z by subst ew; rfl] at hq
            refine hK _ _ _ _ ?_
            refine hK _ _ _ _ (And.intro rfl (And.intro g (Exists.intro D (And.intro hD1 ?_))))
            refine hK _ _ _ _ ?_
            exact hend _ hq
          | 3, ht =>
            cases ht
            have ew : way = 3 := Int32.toInt_inj.mp (by rw [hk]; rfl)
            rw [show zm_way w h D N Z way = zm_wal w h N Z by subst ew; rfl] at hq
            refine hK _ _ _ _ ?_
            refine hK _ _ _ _ (And.intro rfl (And.intro g (Exists.intro N (And.intro hN ?_))))
            refine hK _ _ _ _ ?_
            exact hend _ hq
          | k + 4, ht => simp at ht
        · have n0 : ¬ way = 0 := fun q => hk 0 (by decide) (by rw [q]; rfl)
          have n1 : ¬ way = 1 := fun q => hk 1 (by decide) (by rw [q]; rfl)
          have n2 : ¬ way = 2 := fun q => hk 2 (by decide) (by rw [q]; rfl)
          have n3 : ¬ way = 3 := fun q => hk 3 (by decide) (by rw [q]; rfl)
          rw [show zm_way w h D N Z way = zm_ks w h Z (w * h) by simp only [zm_way, if_neg n0, if_neg n1, if_neg n2, if_neg n3]] at hq
          refine hK _ _ _ _ ?_
          refine hK _ _ _ _ (And.intro (rfl) (And.intro (g) ?_))
          exact hend _ hq
      · dsimp only at c2
        exact h9 (by simp [zm_bB, c2])
  · exact hC.elim
set_option maxRecDepth 20000 in
theorem snd_Mk_joinSets (w h : Nat) (l : Launch) (p : Program) (e : Env) (s : State) (m : MethodId) (args : Array Value) (below : List Frame) (meth : Method) (c : Code) (D : va_G) (ad0 : Nat → Nat) (cA0 : Nat → ClassId) (A : Nat → Prop) (lay : List mz_E) (Q : mz_X → Prop) (F : mz_F p s m args meth c prog_7_method_12_code 3 y_Mk_joinSets.cls none w_Mk_joinSets) (hA : ∀ q, s.heap.size ≤ q → A q) : mz_All (mz_V p l e (mz_rm 3 67) s m args below meth c 3 lay.length (mz_sz lay) D mz_cls (mz_G0 ad0 cA0) A (MQ below (va_Qv Q (mz_B D mz_cls ad0 cA0 lay A) A) args s 0 0 A)) (mz_qv lay Q) (I_Mk_joinSets w h) := by
  obtain ⟨hx, hb, hml, hown, hts, hr, hlk⟩ := F
  unfold I_Mk_joinSets
  refine mz_All.cons (sd_aload_n hx hb (mz_dg d_Mk_joinSets 0 0 (.aload_n 0) 1 rfl) rfl) ?_
  refine mz_All.cons (sd_get (k := 3) hx hb hts (mz_inC in_Mk) hown (T := T_Mk) (N := 7) rfl (by decide) (hts (.fieldLink "MazeForms$Maker" 34 "MazeForms$Maker" "choice" "LMazeForms$DoorRow;") (List.mem_cons_of_mem _ wm_232)) (fun _ h => h) (mz_dg d_Mk_joinSets 1 1 (.getfield 34) 3 rfl)) ?_
  refine mz_All.cons (sd_callv (T := T_Dr) ⟨hx, hb, hml, hown, hts⟩ (met_Dr_clear w h l) (cwV 0 hts (mz_gV wm_367 wm_368 wm_369 wm_74 wm_370) rfl rfl rfl (by decide) ⟨by decide, by decide⟩) rfl hA rfl (mz_dg d_Mk_joinSets 2 4 (.invokevirtual 71) 3 rfl)) ?_
  refine mz_All.cons (sd_iconst hx hb (mz_dg d_Mk_joinSets 3 7 (.iconst (0)) 1 rfl) (by decide)) ?_
  refine mz_All.cons (sd_istore_n hx hb (mz_dg d_Mk_joinSets 4 8 (.istore_n 1) 1 rfl) rfl (by decide)) ?_
  refine mz_All.cons (sd_iload_n hx hb (mz_dg d_Mk_joinSets 5 9 (.iload_n 1) 1 rfl) rfl) ?_
  refine mz_All.cons (sd_aload_n hx hb (mz_dg d_Mk_joinSets 6 10 (.aload_n 0) 1 rfl) rfl) ?_
  refine mz_All.cons (sd_get (k := 0) hx hb hts (mz_inC in_Mk) hown (T := T_Mk) (N := 7) rfl (by decide) (hts (.fieldLink "MazeForms$Maker" 9 "MazeForms$Maker" "grid" "LMazeForms$Grid;") (List.mem_cons_of_mem _ wm_229)) (fun _ h => h) (mz_dg d_Mk_joinSets 7 11 (.getfield 9) 3 rfl)) ?_
  refine mz_All.cons (sd_calli (T := T_Gr) ⟨hx, hb, hml, hown, hts⟩ (met_Gr_doorCount w h l) (cwV 0 hts (mz_gV wm_425 wm_426 wm_427 wm_67 wm_428) rfl rfl rfl (by decide) ⟨by decide, by decide⟩) rfl hA rfl (mz_dg d_Mk_joinSets 8 14 (.invokevirtual 74) 3 rfl)) ?_
  refine mz_All.cons (sd_icmp_ge hx hb (mz_dg d_Mk_joinSets 9 17 (.if_icmp .ge (17)) 3 rfl) (by decide)) ?_
  refine mz_All.cons (sd_aload_n hx hb (mz_dg d_Mk_joinSets 10 20 (.aload_n 0) 1 rfl) rfl) ?_
  refine mz_All.cons (sd_get (k := 3) hx hb hts (mz_inC in_Mk) hown (T := T_Mk) (N := 7) rfl (by decide) (hts (.fieldLink "MazeForms$Maker" 34 "MazeForms$Maker" "choice" "LMazeForms$DoorRow;") (List.mem_cons_of_mem _ wm_232)) (fun _ h => h) (mz_dg d_Mk_joinSets 11 21 (.getfield 34) 3 rfl)) ?_
  refine mz_All.cons (sd_iload_n hx hb (mz_dg d_Mk_joinSets 12 24 (.iload_n 1) 1 rfl) rfl) ?_
  refine mz_All.cons (sd_callv (T := T_Dr) ⟨hx, hb, hml, hown, hts⟩ (met_Dr_add w h l) (cwV 1 hts (mz_gV wm_387 wm_388 wm_389 wm_74 wm_390) rfl rfl rfl (by decide) ⟨by decide, by decide⟩) rfl hA rfl (mz_dg d_Mk_joinSets 13 25 (.invokevirtual 81) 3 rfl)) ?_
  refine mz_All.cons (sd_iinc hx hb (mz_dg d_Mk_joinSets 14 28 (.iinc 1 (1)) 3 rfl) (by decide) (by decide)) ?_
  refine mz_All.cons (sd_goto hx hb (mz_dg d_Mk_joinSets 15 31 (.goto (-22)) 3 rfl) (by decide)) ?_
  refine mz_All.cons (sd_aload_n hx hb (mz_dg d_Mk_joinSets 16 34 (.aload_n 0) 1 rfl) rfl) ?_
  refine mz_All.cons (sd_get (k := 3) hx hb hts (mz_inC in_Mk) hown (T := T_Mk) (N := 7) rfl (by decide) (hts (.fieldLink "MazeForms$Maker" 34 "MazeForms$Maker" "choice" "LMazeForms$DoorRow;") (List.mem_cons_of_mem _ wm_232)) (fun _ h => h) (mz_dg d_Mk_joinSets 17 35 (.getfield 34) 3 rfl)) ?_
  refine mz_All.cons (sd_callv (T := T_Dr) ⟨hx, hb, hml, hown, hts⟩ (met_Dr_shuffle w h l) (cwV 0 hts (mz_gV wm_429 wm_430 wm_431 wm_74 wm_432) rfl rfl rfl (by decide) ⟨by decide, by decide⟩) rfl hA rfl (mz_dg d_Mk_joinSets 18 38 (.invokevirtual 131) 3 rfl)) ?_
  refine mz_All.cons (sd_aload_n hx hb (mz_dg d_Mk_joinSets 19 41 (.aload_n 0) 1 rfl) rfl) ?_
  refine mz_All.cons (sd_get (k := 1) hx hb hts (mz_inC in_Mk) hown (T := T_Mk) (N := 7) rfl (by decide) (hts (.fieldLink "MazeForms$Maker" 15 "MazeForms$Maker" "joined" "LMazeForms$Joined;") (List.mem_cons_of_mem _ wm_230)) (fun _ h => h) (mz_dg d_Mk_joinSets 20 42 (.getfield 15) 3 rfl)) ?_
  refine mz_All.cons (sd_callv (T := T_Jo) ⟨hx, hb, hml, hown, hts⟩ (met_Jo_reset w h l) (cwV 0 hts (mz_gV wm_437 wm_438 wm_439 wm_70 wm_440) rfl rfl rfl (by decide) ⟨by decide, by decide⟩) rfl hA rfl (mz_dg d_Mk_joinSets 21 45 (.invokevirtual 134) 3 rfl)) ?_
  refine mz_All.cons (sd_iconst hx hb (mz_dg d_Mk_joinSets 22 48 (.iconst (0)) 1 rfl) (by decide)) ?_
  refine mz_All.cons (sd_istore_n hx hb (mz_dg d_Mk_joinSets 23 49 (.istore_n 1) 1 rfl) rfl (by decide)) ?_
  refine mz_All.cons (sd_iload_n hx hb (mz_dg d_Mk_joinSets 24 50 (.iload_n 1) 1 rfl) rfl) ?_
  refine mz_All.cons (sd_aload_n hx hb (mz_dg d_Mk_joinSets 25 51 (.aload_n 0) 1 rfl) rfl) ?_
  refine mz_All.cons (sd_get (k := 3) hx hb hts (mz_inC in_Mk) hown (T := T_Mk) (N := 7) rfl (by decide) (hts (.fieldLink "MazeForms$Maker" 34 "MazeForms$Maker" "choice" "LMazeForms$DoorRow;") (List.mem_cons_of_mem _ wm_232)) (fun _ h => h) (mz_dg d_Mk_joinSets 26 52 (.getfield 34) 3 rfl)) ?_
  refine mz_All.cons (sd_calli (T := T_Dr) ⟨hx, hb, hml, hown, hts⟩ (met_Dr_count w h l) (cwV 0 hts (mz_gV wm_441 wm_442 wm_443 wm_74 wm_444) rfl rfl rfl (by decide) ⟨by decide, by decide⟩) rfl hA rfl (mz_dg d_Mk_joinSets 27 55 (.invokevirtual 85) 3 rfl)) ?_
  refine mz_All.cons (sd_icmp_ge hx hb (mz_dg d_Mk_joinSets 28 58 (.if_icmp .ge (34)) 3 rfl) (by decide)) ?_
  refine mz_All.cons (sd_aload_n hx hb (mz_dg d_Mk_joinSets 29 61 (.aload_n 0) 1 rfl) rfl) ?_
  refine mz_All.cons (sd_get (k := 3) hx hb hts (mz_inC in_Mk) hown (T := T_Mk) (N := 7) rfl (by decide) (hts (.fieldLink "MazeForms$Maker" 34 "MazeForms$Maker" "choice" "LMazeForms$DoorRow;") (List.mem_cons_of_mem _ wm_232)) (fun _ h => h) (mz_dg d_Mk_joinSets 30 62 (.getfield 34) 3 rfl)) ?_
  refine mz_All.cons (sd_iload_n hx hb (mz_dg d_Mk_joinSets 31 65 (.iload_n 1) 1 rfl) rfl) ?_
  refine mz_All.cons (sd_calli (T := T_Dr) ⟨hx, hb, hml, hown, hts⟩ (met_Dr_doorAt w h l) (cwV 1 hts (mz_gV wm_445 wm_402 wm_403 wm_74 wm_404) rfl rfl rfl (by decide) ⟨by decide, by decide⟩) rfl hA rfl (mz_dg d_Mk_joinSets 32 66 (.invokevirtual 139) 3 rfl)) ?_
  refine mz_All.cons (sd_istore_n hx hb (mz_dg d_Mk_joinSets 33 69 (.istore_n 2) 1 rfl) rfl (by decide)) ?_
  refine mz_All.cons (sd_aload_n hx hb (mz_dg d_Mk_joinSets 34 70 (.aload_n 0) 1 rfl) rfl) ?_
  refine mz_All.cons (sd_get (k := 1) hx hb hts (mz_inC in_Mk) hown (T := T_Mk) (N := 7) rfl (by decide) (hts (.fieldLink "MazeForms$Maker" 15 "MazeForms$Maker" "joined" "LMazeForms$Joined;") (List.mem_cons_of_mem _ wm_230)) (fun _ h => h) (mz_dg d_Mk_joinSets 35 71 (.getfield 15) 3 rfl)) ?_
  refine mz_All.cons (sd_iload_n hx hb (mz_dg d_Mk_joinSets 36 74 (.iload_n 2) 1 rfl) rfl) ?_
  refine mz_All.cons (sd_calli (T := T_Jo) ⟨hx, hb, hml, hown, hts⟩ (met_Jo_joinBy w h l) (cwV 1 hts (mz_gV wm_446 wm_447 wm_448 wm_70 wm_449) rfl rfl rfl (by decide) ⟨by decide, by decide⟩) rfl hA rfl (mz_dg d_Mk_joinSets 37 75 (.invokevirtual 142) 3 rfl)) ?_
  refine mz_All.cons (sd_if_eq hx hb (mz_dg d_Mk_joinSets 38 78 (.ifCond .eq (8)) 3 rfl) (by decide)) ?_
  refine mz_All.cons (sd_aload_n hx hb (mz_dg d_Mk_joinSets 39 81 (.aload_n 0) 1 rfl) rfl) ?_
  refine mz_All.cons (sd_iload_n hx hb (mz_dg d_Mk_joinSets 40 82 (.iload_n 2) 1 rfl) rfl) ?_
  refine mz_All.cons (sd_callv (T := T_Mk) ⟨hx, hb, hml, hown, hts⟩ (met_Mk_openDoor w h l) (cwV 1 hts (mz_gV wm_409 wm_411 wm_8 wm_72 wm_412) rfl rfl rfl (by decide) ⟨by decide, by decide⟩) rfl hA rfl (mz_dg d_Mk_joinSets 41 83 (.invokevirtual 91) 3 rfl)) ?_
  refine mz_All.cons (sd_iinc hx hb (mz_dg d_Mk_joinSets 42 86 (.iinc 1 (1)) 3 rfl) (by decide) (by decide)) ?_
  refine mz_All.cons (sd_goto hx hb (mz_dg d_Mk_joinSets 43 89 (.goto (-39)) 3 rfl) (by decide)) ?_
  refine mz_All.cons (sd_rv hx hb hr hlk (mz_dg d_Mk_joinSets 44 92 (.return_) 1 rfl)) ?_
  exact trivial
theorem met_Mk_joinSets (w h : Nat) (l : Launch) : mz_MV l y_Mk_joinSets w_Mk_joinSets 3 67 mz_cls (C_Mk_joinSets w h) := mz_MV_of (I_Mk_joinSets w h) (by decide) rfl (len_Mk_joinSets w h) (ok_Mk_joinSets w h) (snd_Mk_joinSets w h l)
set_option maxRecDepth 20000 in
theorem snd_Mk_build (w h : Nat) (l : Launch) (p : Program) (e : Env) (s : State) (m : MethodId) (args : Array Value) (below : List Frame) (meth : Method) (c : Code) (D : va_G) (ad0 : Nat → Nat) (cA0 : Nat → ClassId) (A : Nat → Prop) (lay : List mz_E) (Q : Int32 → mz_X → Prop) (F : mz_F p s m args meth c prog_7_method_2_code 2 y_Mk_build.cls (some .int) w_Mk_build) (hA : ∀ q, s.heap.size ≤ q → A q) : mz_All (mz_V p l e (mz_rm 5 114) s m args below meth c 2 lay.length (mz_sz lay) D mz_cls (mz_G0 ad0 cA0) A (MQ below (va_Qi Q (mz_B D mz_cls ad0 cA0 lay A) A) args s 0 0 A)) (mz_qi lay Q) (I_Mk_build w h) := by
  obtain ⟨hx, hb, hml, hown, hts, hr, hlk⟩ := F
  unfold I_Mk_build
  refine mz_All.cons (sd_iload_n hx hb (mz_dg d_Mk_build 0 0 (.iload_n 1) 1 rfl) rfl) ?_
  refine mz_All.cons (sd_if_lt hx hb (mz_dg d_Mk_build 1 1 (.ifCond .lt (8)) 3 rfl) (by decide)) ?_
  refine mz_All.cons (sd_iload_n hx hb (mz_dg d_Mk_build 2 4 (.iload_n 1) 1 rfl) rfl) ?_
  refine mz_All.cons (sd_iconst hx hb (mz_dg d_Mk_build 3 5 (.iconst (4)) 1 rfl) (by decide)) ?_
  refine mz_All.cons (sd_icmp_le hx hb (mz_dg d_Mk_build 4 6 (.if_icmp .le (5)) 3 rfl) (by decide)) ?_
  refine mz_All.cons (sd_iconst hx hb (mz_dg d_Mk_build 5 9 (.iconst (-1)) 1 rfl) (by decide)) ?_
  refine mz_All.cons (sd_ri hx hb hr hlk (mz_dg d_Mk_build 6 10 (.ireturn) 1 rfl)) ?_
  refine mz_All.cons (sd_aload_n hx hb (mz_dg d_Mk_build 7 11 (.aload_n 0) 1 rfl) rfl) ?_
  refine mz_All.cons (sd_get (k := 0) hx hb hts (mz_inC in_Mk) hown (T := T_Mk) (N := 7) rfl (by decide) (hts (.fieldLink "MazeForms$Maker" 9 "MazeForms$Maker" "grid" "LMazeForms$Grid;") (List.mem_cons_of_mem _ wm_229)) (fun _ h => h) (mz_dg d_Mk_build 8 12 (.getfield 9) 3 rfl)) ?_
  refine mz_All.cons (sd_callv (T := T_Gr) ⟨hx, hb, hml, hown, hts⟩ (met_Gr_closeDoors w h l) (cwV 0 hts (mz_gV wm_345 wm_334 wm_335 wm_67 wm_336) rfl rfl rfl (by decide) ⟨by decide, by decide⟩) rfl hA rfl (mz_dg d_Mk_build 9 15 (.invokevirtual 49) 3 rfl)) ?_
  refine mz_All.cons (sd_aload_n hx hb (mz_dg d_Mk_build 10 18 (.aload_n 0) 1 rfl) rfl) ?_
  refine mz_All.cons (sd_iconst hx hb (mz_dg d_Mk_build 11 19 (.iconst (0)) 1 rfl) (by decide)) ?_
  refine mz_All.cons (sd_puti (k := 6) hx hb hts (mz_inC in_Mk) ty_Mk ty_Mk_ok nm_Mk hown (T := T_Mk) (N := 7) rfl (by decide) (hts (.fieldLink "MazeForms$Maker" 52 "MazeForms$Maker" "opened" "I") (List.mem_cons_of_mem _ wm_235)) (fun _ h => h) rfl rfl (mz_dg d_Mk_build 12 20 (.putfield 52) 3 rfl)) ?_
  refine mz_All.cons (sd_iload_n hx hb (mz_dg d_Mk_build 13 23 (.iload_n 1) 1 rfl) rfl) ?_
  refine mz_All.cons (sd_tsw hx hb (mz_dg d_Mk_build 14 24 (.tableswitch (60) (0) (3) #[32, 39, 46, 53]) 32 rfl) (by decide) (by decide) (by decide)) ?_
  refine mz_All.cons (sd_aload_n hx hb (mz_dg d_Mk_build 15 56 (.aload_n 0) 1 rfl) rfl) ?_
  refine mz_All.cons (sd_callv (T := T_Mk) ⟨hx, hb, hml, hown, hts⟩ (met_Mk_goDeep w h l) (cwV 0 hts (mz_gV wm_346 wm_348 wm_2 wm_72 wm_349) rfl rfl rfl (by decide) ⟨by decide, by decide⟩) rfl hA rfl (mz_dg d_Mk_build 16 57 (.invokevirtual 56) 3 rfl)) ?_
  refine mz_All.cons (sd_goto hx hb (mz_dg d_Mk_build 17 60 (.goto (28)) 3 rfl) (by decide)) ?_
  refine mz_All.cons (sd_aload_n hx hb (mz_dg d_Mk_build 18 63 (.aload_n 0) 1 rfl) rfl) ?_
  refine mz_All.cons (sd_callv (T := T_Mk) ⟨hx, hb, hml, hown, hts⟩ (met_Mk_joinSets w h l) (cwV 0 hts (mz_gV wm_421 wm_423 wm_10 wm_72 wm_424) rfl rfl rfl (by decide) ⟨by decide, by decide⟩) rfl hA rfl (mz_dg d_Mk_build 19 64 (.invokevirtual 59) 3 rfl)) ?_
  refine mz_All.cons (sd_goto hx hb (mz_dg d_Mk_build 20 67 (.goto (21)) 3 rfl) (by decide)) ?_
  refine mz_All.cons (sd_aload_n hx hb (mz_dg d_Mk_build 21 70 (.aload_n 0) 1 rfl) rfl) ?_
  refine mz_All.cons (sd_callv (T := T_Mk) ⟨hx, hb, hml, hown, hts⟩ (met_Mk_grow w h l) (cwV 0 hts (mz_gV wm_463 wm_465 wm_13 wm_72 wm_466) rfl rfl rfl (by decide) ⟨by decide, by decide⟩) rfl hA rfl (mz_dg d_Mk_build 22 71 (.invokevirtual 62) 3 rfl)) ?_
  refine mz_All.cons (sd_goto hx hb (mz_dg d_Mk_build 23 74 (.goto (14)) 3 rfl) (by decide)) ?_
  refine mz_All.cons (sd_aload_n hx hb (mz_dg d_Mk_build 24 77 (.aload_n 0) 1 rfl) rfl) ?_
  refine mz_All.cons (sd_callv (T := T_Mk) ⟨hx, hb, hml, hown, hts⟩ (met_Mk_walkAll w h l) (cwV 0 hts (mz_gV wm_473 wm_475 wm_15 wm_72 wm_476) rfl rfl rfl (by decide) ⟨by decide, by decide⟩) rfl hA rfl (mz_dg d_Mk_build 25 78 (.invokevirtual 65) 3 rfl)) ?_
  refine mz_All.cons (sd_goto hx hb (mz_dg d_Mk_build 26 81 (.goto (7)) 3 rfl) (by decide)) ?_
  refine mz_All.cons (sd_aload_n hx hb (mz_dg d_Mk_build 27 84 (.aload_n 0) 1 rfl) rfl) ?_
  refine mz_All.cons (sd_callv (T := T_Mk) ⟨hx, hb, hml, hown, hts⟩ (met_Mk_comb w h l) (cwV 0 hts (mz_gV wm_515 wm_517 wm_21 wm_72 wm_518) rfl rfl rfl (by decide) ⟨by decide, by decide⟩) rfl hA rfl (mz_dg d_Mk_build 28 85 (.invokevirtual 68) 3 rfl)) ?_
  refine mz_All.cons (sd_aload_n hx hb (mz_dg d_Mk_build 29 88 (.aload_n 0) 1 rfl) rfl) ?_
  refine mz_All.cons (sd_get (k := 6) hx hb hts (mz_inC in_Mk) hown (T := T_Mk) (N := 7) rfl (by decide) (hts (.fieldLink "MazeForms$Maker" 52 "MazeForms$Maker" "opened" "I") (List.mem_cons_of_mem _ wm_235)) (fun _ h => h) (mz_dg d_Mk_build 30 89 (.getfield 52) 3 rfl)) ?_
  refine mz_All.cons (sd_ri hx hb hr hlk (mz_dg d_Mk_build 31 92 (.ireturn) 1 rfl)) ?_
  exact trivial
theorem met_Mk_build (w h : Nat) (l : Launch) : mz_MI l y_Mk_build w_Mk_build 5 114 mz_cls (C_Mk_build w h) := mz_MI_of (I_Mk_build w h) (by decide) rfl (len_Mk_build w h) (ok_Mk_build w h) (snd_Mk_build w h l)
end
section
/-- Trail (place 18: length is its field 3, edition its field 4), its cells (place 19) -/
def zt_f (X : mz_X) : Bool := !decide (X.1 18 3 = -1) && decide (X.1 18 4 = X.1 1 8)
def zt_nN (w h : Nat) (X : mz_X) (c : Int32) (s : Nat) : Int32 := zg_oth w h X (zg_on w h X c (nI s)) c
def zt_nB (w h : Nat) (X : mz_X) (c : Int32) (s : Nat) : Bool := zg_open w h X (zg_on w h X c (nI s)) && decide (zf_to w h X (zt_nN w h X c s) = zf_to w h X c - 1)
def zt_nr (w h : Nat) (X : mz_X) (c : Int32) (i k : Nat) : Int32 := match k with
  | 0 => -1
  | j + 1 => match zt_nB w h X c i with
    | true => zt_nN w h X c i
    | false => zt_nr w h X c (i + 1) j
def zt_near (w h : Nat) (X : mz_X) (c : Int32) : Int32 := zt_nr w h X c 0 4
def zt_pS (X : mz_X) (c : Int32) (i : Nat) : mz_X := (mz_up X.1 19 i c, X.2)
def zt_p (w h : Nat) (X : mz_X) (c st : Int32) (i k : Nat) : mz_X := match k with
  | 0 => X
  | j + 1 => match decide (nI i ≤ st) with
    | true => zt_p w h (zt_pS X c i) (zt_near w h (zt_pS X c i) c) st (i + 1) j
    | false => X
def zt_0 (X : mz_X) : mz_X := (mz_up X.1 18 3 (-1), X.2)
def zt_e (X : mz_X) (st : Int32) : mz_X := (mz_up (mz_up X.1 18 3 st) 18 4 (X.1 1 8), X.2)
def zt_fB (w h : Nat) (X : mz_X) (a b : Int32) : Bool := zg_free w h (zt_0 X) a && zg_free w h (zt_0 X) b
def zt_1 (w h : Nat) (X : mz_X) (b : Int32) : mz_X := zf_spr w h (zt_0 X) b 0
def zt_fS (w h : Nat) (X : mz_X) (a b : Int32) : Int32 := zf_to w h (zt_1 w h X b) a
def zt_fi (w h : Nat) (X : mz_X) (a b : Int32) : Int32 × mz_X := match zt_fB w h X a b with
  | true => match decide (zt_fS w h X a b = -1) with
    | true => (-1, zt_1 w h X b)
    | false => (zt_fS w h X a b, zt_e (zt_p w h (zt_1 w h X b) a (zt_fS w h X a b) 0 (w * h)) (zt_fS w h X a b))
  | false => (-1, zt_0 X)
def zt_at (w h : Nat) (X : mz_X) (k : Int32) : Int32 := if (zt_f X && !decide (k < 0) && !decide (X.1 18 3 < k) && !decide (nI (w * h) ≤ k)) = true then X.1 19 k.toNatClampNeg else -1
def zt_g1 (w h : Nat) (X : mz_X) (j : Nat) : Int64 := (nI (mz_cnt (fun s => zg_open w h X (zg_on w h X (zt_at w h X (nI j)) (nI s))) 4) - (if nI j = 0 then 1 else 2)).toInt64 * (nI j + 1).toInt64
def zt_g (w h : Nat) (X : mz_X) (k : Nat) : Int64 := match k with
  | 0 => 0
  | j + 1 => zt_g w h X j + zt_g1 w h X j
def C_Tr_isFound (w h : Nat) : mz_CI := fun lay as X Q => match as with
  | [.ref 18] => lay = mz_lay w h ∧ mz_geo w h ∧ Q (mz_b (zt_f X)) X
  | _ => False
def C_Tr_nearerCell (w h : Nat) : mz_CI := fun lay as X Q => match as with
  | [.ref 18, .int c] => lay = mz_lay w h ∧ mz_geo w h ∧ Q (zt_near w h X c) X
  | _ => False
def C_Tr_find (w h : Nat) : mz_CI := fun lay as X Q => match as with
  | [.ref 18, .int a, .int b] => lay = mz_lay w h ∧ mz_geo w h ∧ Q (zt_fi w h X a b).1 (zt_fi w h X a b).2
  | _ => False
def C_Tr_cellAtStep (w h : Nat) : mz_CI := fun lay as X Q => match as with
  | [.ref 18, .int k] => lay = mz_lay w h ∧ mz_geo w h ∧ Q (zt_at w h X k) X
  | _ => False
def C_Tr_toll (w h : Nat) : mz_CL := fun lay as X Q => match as with
  | [.ref 18] => lay = mz_lay w h ∧ mz_geo w h ∧ (zt_f X = false → Q (-1) X) ∧ (zt_f X = true → ∃ q : Nat, q < 2 ^ 31 ∧ X.1 18 3 = nI q ∧ Q (zt_g w h X q) X)
  | _ => False
def y_Tr_isFound : MethodName := ⟨"MazeForms$Trail", "isFound", "()Z"⟩
abbrev w_Tr_isFound : List Cond := .code y_Tr_isFound prog_8_method_5_code 1 (some .boolean) :: mz_tb
def dl_Tr_isFound : List (Nat × ClassFile.Instr × Nat) := [(0, .aload_n 0, 1), (1, .getfield 29, 3), (4, .iconst (-1), 1), (5, .if_icmp .eq (21), 3), (8, .aload_n 0, 1), (9, .getfield 53, 3), (12, .aload_n 0, 1), (13, .getfield 9, 3), (16, .invokevirtual 50, 3), (19, .if_icmp .ne (7), 3), (22, .iconst (1), 1), (23, .goto (4), 3), (26, .iconst (0), 1), (27, .ireturn, 1)]
theorem d_Tr_isFound : mz_dec prog_8_method_5_code dl_Tr_isFound = true := by decide +kernel
def y_Tr_nearerCell : MethodName := ⟨"MazeForms$Trail", "nearerCell", "(I)I"⟩
abbrev w_Tr_nearerCell : List Cond := .code y_Tr_nearerCell prog_8_method_6_code 5 (some .int) :: mz_tb
def dl_Tr_nearerCell : List (Nat × ClassFile.Instr × Nat) := [(0, .iconst (0), 1), (1, .istore_n 2, 1), (2, .iload_n 2, 1), (3, .iconst (4), 1), (4, .if_icmp .ge (66), 3), (7, .aload_n 0, 1), (8, .getfield 9, 3), (11, .iload_n 1, 1), (12, .iload_n 2, 1), (13, .invokevirtual 67, 3), (16, .istore_n 3, 1), (17, .aload_n 0, 1), (18, .getfield 9, 3), (21, .iload_n 3, 1), (22, .iload_n 1, 1), (23, .invokevirtual 71, 3), (26, .istore 4, 2), (28, .aload_n 0, 1), (29, .getfield 9, 3), (32, .iload_n 3, 1), (33, .invokevirtual 74, 3), (36, .ifCond .eq (28), 3), (39, .aload_n 0, 1), (40, .getfield 15, 3), (43, .iload 4, 2), (45, .invokevirtual 43, 3), (48, .aload_n 0, 1), (49, .getfield 15, 3), (52, .iload_n 1, 1), (53, .invokevirtual 43, 3), (56, .iconst (1), 1), (57, .isub, 1), (58, .if_icmp .ne (6), 3), (61, .iload 4, 2), (63, .ireturn, 1), (64, .iinc 2 (1), 3), (67, .goto (-65), 3), (70, .iconst (-1), 1), (71, .ireturn, 1)]
theorem d_Tr_nearerCell : mz_dec prog_8_method_6_code dl_Tr_nearerCell = true := by decide +kernel
def y_Tr_cellAtStep : MethodName := ⟨"MazeForms$Trail", "cellAtStep", "(I)I"⟩
abbrev w_Tr_cellAtStep : List Cond := .code y_Tr_cellAtStep prog_8_method_3_code 3 (some .int) :: mz_tb
def dl_Tr_cellAtStep : List (Nat × ClassFile.Instr × Nat) := [(0, .aload_n 0, 1), (1, .invokevirtual 55, 3), (4, .ifCond .eq (28), 3), (7, .iload_n 1, 1), (8, .ifCond .lt (24), 3), (11, .iload_n 1, 1), (12, .aload_n 0, 1), (13, .getfield 29, 3), (16, .if_icmp .gt (16), 3), (19, .iload_n 1, 1), (20, .aload_n 0, 1), (21, .getfield 25, 3), (24, .arraylength, 1), (25, .if_icmp .ge (7), 3), (28, .iconst (1), 1), (29, .goto (4), 3), (32, .iconst (0), 1), (33, .istore_n 2, 1), (34, .iload_n 2, 1), (35, .ifCond .eq (12), 3), (38, .aload_n 0, 1), (39, .getfield 25, 3), (42, .iload_n 1, 1), (43, .iaload, 1), (44, .goto (4), 3), (47, .iconst (-1), 1), (48, .ireturn, 1)]
theorem d_Tr_cellAtStep : mz_dec prog_8_method_3_code dl_Tr_cellAtStep = true := by decide +kernel
def y_Tr_find : MethodName := ⟨"MazeForms$Trail", "find", "(II)I"⟩
abbrev w_Tr_find : List Cond := .code y_Tr_find prog_8_method_2_code 6 (some .int) :: mz_tb
def dl_Tr_find : List (Nat × ClassFile.Instr × Nat) := [(0, .aload_n 0, 1), (1, .iconst (-1), 1), (2, .putfield 29, 3), (5, .aload_n 0, 1), (6, .getfield 9, 3), (9, .iload_n 1, 1), (10, .invokevirtual 33, 3), (13, .ifCond .eq (14), 3), (16, .aload_n 0, 1), (17, .getfield 9, 3), (20, .iload_n 2, 1), (21, .invokevirtual 33, 3), (24, .ifCond .ne (5), 3), (27, .iconst (-1), 1), (28, .ireturn, 1), (29, .aload_n 0, 1), (30, .getfield 15, 3), (33, .iload_n 2, 1), (34, .iconst (0), 1), (35, .invokevirtual 37, 3), (38, .aload_n 0, 1), (39, .getfield 15, 3), (42, .iload_n 1, 1), (43, .invokevirtual 43, 3), (46, .istore_n 3, 1), (47, .iload_n 3, 1), (48, .iconst (-1), 1), (49, .if_icmp .ne (5), 3), (52, .iconst (-1), 1), (53, .ireturn, 1), (54, .iload_n 1, 1), (55, .istore 4, 2), (57, .iconst (0), 1), (58, .istore 5, 2), (60, .iload 5, 2), (62, .iload_n 3, 1), (63, .if_icmp .gt (36), 3), (66, .iload 5, 2), (68, .aload_n 0, 1), (69, .getfield 25, 3), (72, .arraylength, 1), (73, .if_icmp .ge (26), 3), (76, .aload_n 0, 1), (77, .getfield 25, 3), (80, .iload 5, 2), (82, .iload 4, 2), (84, .iastore, 1), (85, .aload_n 0, 1), (86, .iload 4, 2), (88, .invokevirtual 47, 3), (91, .istore 4, 2), (93, .iinc 5 (1), 3), (96, .goto (-36), 3), (99, .aload_n 0, 1), (100, .iload_n 3, 1), (101, .putfield 29, 3), (104, .aload_n 0, 1), (105, .aload_n 0, 1), (106, .getfield 9, 3), (109, .invokevirtual 50, 3), (112, .putfield 53, 3), (115, .iload_n 3, 1), (116, .ireturn, 1)]
theorem d_Tr_find : mz_dec prog_8_method_2_code dl_Tr_find = true := by decide +kernel
def y_Tr_toll : MethodName := ⟨"MazeForms$Trail", "toll", "()J"⟩
abbrev w_Tr_toll : List Cond := .code y_Tr_toll prog_8_method_4_code 7 (some .long) :: mz_tb
def dl_Tr_toll : List (Nat × ClassFile.Instr × Nat) := [(0, .aload_n 0, 1), (1, .invokevirtual 55, 3), (4, .ifCond .ne (7), 3), (7, .ldc2_w 59, 3), (10, .lreturn, 1), (11, .lconst 0, 1), (12, .lstore_n 1, 1), (13, .iconst (0), 1), (14, .istore_n 3, 1), (15, .iload_n 3, 1), (16, .aload_n 0, 1), (17, .getfield 29, 3), (20, .if_icmp .ge (48), 3), (23, .iload_n 3, 1), (24, .ifCond .ne (7), 3), (27, .iconst (1), 1), (28, .goto (4), 3), (31, .iconst (2), 1), (32, .istore 4, 2), (34, .aload_n 0, 1), (35, .getfield 9, 3), (38, .aload_n 0, 1), (39, .iload_n 3, 1), (40, .invokevirtual 61, 3), (43, .invokevirtual 64, 3), (46, .iload 4, 2), (48, .isub, 1), (49, .i2l, 1), (50, .lstore 5, 2), (52, .lload_n 1, 1), (53, .lload 5, 2), (55, .iload_n 3, 1), (56, .iconst (1), 1), (57, .iadd, 1), (58, .i2l, 1), (59, .lmul, 1), (60, .ladd, 1), (61, .lstore_n 1, 1), (62, .iinc 3 (1), 3), (65, .goto (-50), 3), (68, .lload_n 1, 1), (69, .lreturn, 1)]
theorem d_Tr_toll : mz_dec prog_8_method_4_code dl_Tr_toll = true := by decide +kernel
def I_Tr_isFound (w h : Nat) : List (Nat × mz_Op) := [(0, mz_lda 0 1), (1, mz_gf 6 3 4), (4, mz_push (.int (-1)) 5), (5, mz_ic (fun x y => x = y) 26 8), (8, mz_lda 0 9), (9, mz_gf 6 4 12), (12, mz_lda 0 13), (13, mz_gf 6 0 16), (16, mz_ci 1 3 (C_Gr_edition w h) 19), (19, mz_ic (fun x y => x = y) 22 26), (22, mz_push (.int (1)) 23), (23, mz_go 27), (26, mz_push (.int (0)) 27), (27, mz_rz)]
def I_Tr_nearerCell (w h : Nat) : List (Nat × mz_Op) := [(0, mz_push (.int (0)) 1), (1, mz_sti 2 2), (2, mz_ldi 2 3), (3, mz_push (.int (4)) 4), (4, mz_ic (fun x y => y ≤ x) 70 7), (7, mz_lda 0 8), (8, mz_gf 6 0 11), (11, mz_ldi 1 12), (12, mz_ldi 2 13), (13, mz_ci 3 3 (C_Gr_doorOn w h) 16), (16, mz_sti 3 17), (17, mz_lda 0 18), (18, mz_gf 6 0 21), (21, mz_ldi 3 22), (22, mz_ldi 1 23), (23, mz_ci 3 3 (C_Gr_otherCell w h) 26), (26, mz_sti 4 28), (28, mz_lda 0 29), (29, mz_gf 6 0 32), (32, mz_ldi 3 33), (33, mz_ci 2 3 (C_Gr_isOpen w h) 36), (36, mz_if (fun x => x = 0) 64 39), (39, mz_lda 0 40), (40, mz_gf 6 1 43), (43, mz_ldi 4 45), (45, mz_ci 2 2 (C_Fl_stepsTo w h) 48), (48, mz_lda 0 49), (49, mz_gf 6 1 52), (52, mz_ldi 1 53), (53, mz_ci 2 2 (C_Fl_stepsTo w h) 56), (56, mz_push (.int (1)) 57), (57, mz_bi (fun x y => x - y) 58), (58, mz_ic (fun x y => x = y) 61 64), (61, mz_ldi 4 63), (63, mz_ri), (64, mz_inc 2 (1) 67), (67, mz_go 2), (70, mz_push (.int (-1)) 71), (71, mz_ri)]
def I_Tr_cellAtStep (w h : Nat) : List (Nat × mz_Op) := [(0, mz_lda 0 1), (1, mz_ci 1 6 (C_Tr_isFound w h) 4), (4, mz_if (fun x => x = 0) 32 7), (7, mz_ldi 1 8), (8, mz_if (fun x => x < 0) 32 11), (11, mz_ldi 1 12), (12, mz_lda 0 13), (13, mz_gf 6 3 16), (16, mz_ic (fun x y => y < x) 32 19), (19, mz_ldi 1 20), (20, mz_lda 0 21), (21, mz_gf 6 2 24), (24, mz_al 25), (25, mz_ic (fun x y => y ≤ x) 32 28), (28, mz_push (.int (1)) 29), (29, mz_go 33), (32, mz_push (.int (0)) 33), (33, mz_sti 2 34), (34, mz_ldi 2 35), (35, mz_if (fun x => x = 0) 47 38), (38, mz_lda 0 39), (39, mz_gf 6 2 42), (42, mz_ldi 1 43), (43, mz_iald 0 44), (44, mz_go 48), (47, mz_push (.int (-1)) 48), (48, mz_ri)]
def I_Tr_find (w h : Nat) : List (Nat × mz_Op) := [(0, mz_lda 0 1), (1, mz_push (.int (-1)) 2), (2, mz_pfi 6 3 5), (5, mz_lda 0 6), (6, mz_gf 6 0 9), (9, mz_ldi 1 10), (10, mz_ci 2 3 (C_Gr_isFree w h) 13), (13, mz_if (fun x => x = 0) 27 16), (16, mz_lda 0 17), (17, mz_gf 6 0 20), (20, mz_ldi 2 21), (21, mz_ci 2 3 (C_Gr_isFree w h) 24), (24, mz_if (fun x => x = 0) 27 29), (27, mz_push (.int (-1)) 28), (28, mz_ri), (29, mz_lda 0 30), (30, mz_gf 6 1 33), (33, mz_ldi 2 34), (34, mz_push (.int (0)) 35), (35, mz_cvo 3 2 (C_Fl_spread w h) 38), (38, mz_lda 0 39), (39, mz_gf 6 1 42), (42, mz_ldi 1 43), (43, mz_ci 2 2 (C_Fl_stepsTo w h) 46), (46, mz_sti 3 47), (47, mz_ldi 3 48), (48, mz_push (.int (-1)) 49), (49, mz_ic (fun x y => x = y) 52 54), (52, mz_push (.int (-1)) 53), (53, mz_ri), (54, mz_ldi 1 55), (55, mz_sti 4 57), (57, mz_push (.int (0)) 58), (58, mz_sti 5 60), (60, mz_ldi 5 62), (62, mz_ldi 3 63), (63, mz_ic (fun x y => y < x) 99 66), (66, mz_ldi 5 68), (68, mz_lda 0 69), (69, mz_gf 6 2 72), (72, mz_al 73), (73, mz_ic (fun x y => y ≤ x) 99 76), (76, mz_lda 0 77), (77, mz_gf 6 2 80), (80, mz_ldi 5 82), (82, mz_ldi 4 84), (84, mz_iast 0 85), (85, mz_lda 0 86), (86, mz_ldi 4 88), (88, mz_ci 2 6 (C_Tr_nearerCell w h) 91), (91, mz_sti 4 93), (93, mz_inc 5 (1) 96), (96, mz_go 60), (99, mz_lda 0 100), (100, mz_ldi 3 101), (101, mz_pfi 6 3 104), (104, mz_lda 0 105), (105, mz_lda 0 106), (106, mz_gf 6 0 109), (109, mz_ci 1 3 (C_Gr_edition w h) 112), (112, mz_pfi 6 4 115), (115, mz_ldi 3 116), (116, mz_ri)]
def I_Tr_toll (w h : Nat) : List (Nat × mz_Op) := [(0, mz_lda 0 1), (1, mz_ci 1 6 (C_Tr_isFound w h) 4), (4, mz_if (fun x => x = 0) 7 11), (7, mz_push (.long (-1)) 10), (10, mz_rl), (11, mz_push (.long 0) 12), (12, mz_stl 1 13), (13, mz_push (.int (0)) 14), (14, mz_sti 3 15), (15, mz_ldi 3 16), (16, mz_lda 0 17), (17, mz_gf 6 3 20), (20, mz_ic (fun x y => y ≤ x) 68 23), (23, mz_ldi 3 24), (24, mz_if (fun x => x = 0) 27 31), (27, mz_push (.int (1)) 28), (28, mz_go 32), (31, mz_push (.int (2)) 32), (32, mz_sti 4 34), (34, mz_lda 0 35), (35, mz_gf 6 0 38), (38, mz_lda 0 39), (39, mz_ldi 3 40), (40, mz_ci 2 6 (C_Tr_cellAtStep w h) 43), (43, mz_ci 2 3 (C_Gr_openSides w h) 46), (46, mz_ldi 4 48), (48, mz_bi (fun x y => x - y) 49), (49, mz_i2l 50), (50, mz_stl 5 52), (52, mz_ldl 1 53), (53, mz_ldl 5 55), (55, mz_ldi 3 56), (56, mz_push (.int (1)) 57), (57, mz_bi (fun x y => x + y) 58), (58, mz_i2l 59), (59, mz_bl (fun x y => x * y) 60), (60, mz_bl (fun x y => x + y) 61), (61, mz_stl 1 62), (62, mz_inc 3 (1) 65), (65, mz_go 15), (68, mz_ldl 1 69), (69, mz_rl)]
theorem zt_nr_t {w h i k : Nat} {X : mz_X} {c : Int32} (e : zt_nB w h X c i = true) : zt_nr w h X c i (k + 1) = zt_nN w h X c i := by
  show (match zt_nB w h X c i with | true => zt_nN w h X c i | false => zt_nr w h X c (i + 1) k) = _
  rw [e]
theorem zt_nr_f {w h i k : Nat} {X : mz_X} {c : Int32} (e : zt_nB w h X c i = false) : zt_nr w h X c i (k + 1) = zt_nr w h X c (i + 1) k := by
  show (match zt_nB w h X c i with | true => zt_nN w h X c i | false => zt_nr w h X c (i + 1) k) = _
  rw [e]
theorem zt_p_t {w h i k : Nat} {X : mz_X} {c st : Int32} (e : nI i ≤ st) : zt_p w h X c st i (k + 1) = zt_p w h (zt_pS X c i) (zt_near w h (zt_pS X c i) c) st (i + 1) k := by
  show (match decide (nI i ≤ st) with | true => zt_p w h (zt_pS X c i) (zt_near w h (zt_pS X c i) c) st (i + 1) k | false => X) = _
  rw [show decide (nI i ≤ st) = true from decide_eq_true e]
theorem zt_p_f {w h i k : Nat} {X : mz_X} {c st : Int32} (e : ¬ nI i ≤ st) : zt_p w h X c st i (k + 1) = X := by
  show (match decide (nI i ≤ st) with | true => zt_p w h (zt_pS X c i) (zt_near w h (zt_pS X c i) c) st (i + 1) k | false => X) = _
  rw [show decide (nI i ≤ st) = false from decide_eq_false e]
theorem zt_fi_f {w h : Nat} {X : mz_X} {a b : Int32} (e : zt_fB w h X a b = false) : zt_fi w h X a b = (-1, zt_0 X) := by
  unfold zt_fi
  rw [e]
theorem zt_fi_tt {w h : Nat} {X : mz_X} {a b : Int32} (e : zt_fB w h X a b = true) (e2 : zt_fS w h X a b = -1) : zt_fi w h X a b = (-1, zt_1 w h X b) := by
  unfold zt_fi
  rw [e, show decide (zt_fS w h X a b = -1) = true from decide_eq_true e2]
theorem zt_fi_tf {w h : Nat} {X : mz_X} {a b : Int32} (e : zt_fB w h X a b = true) (e2 : ¬ zt_fS w h X a b = -1) : zt_fi w h X a b = (zt_fS w h X a b, zt_e (zt_p w h (zt_1 w h X b) a (zt_fS w h X a b) 0 (w * h)) (zt_fS w h X a b)) := by
  unfold zt_fi
  rw [e, show decide (zt_fS w h X a b = -1) = false from decide_eq_false e2]
theorem len_Tr_isFound (w h : Nat) (lay : List mz_E) (as : List Value) (X : mz_X) (Q : Int32 → mz_X → Prop) (hC : C_Tr_isFound w h lay as X Q) : (mz_l0 as).length ≤ 1 := by
  unfold C_Tr_isFound at hC
  split at hC
  · exact Nat.le_of_ble_eq_true rfl
  · exact hC.elim
theorem ok_Tr_isFound (w h : Nat) (lay : List mz_E) (as : List Value) (X : mz_X) (Q : Int32 → mz_X → Prop) (hC : C_Tr_isFound w h lay as X Q) (K : mz_K) (hK : mz_Cl (I_Tr_isFound w h) (mz_qi lay Q) K) : K 0 (mz_ent 1 as) [] (lay, X) := by
  unfold C_Tr_isFound at hC
  split at hC
  ·
    obtain ⟨rfl, g, hq⟩ := hC
    iterate 3 refine hK _ _ _ _ ?_
    refine hK _ _ _ _ (And.intro (fun c1 => ?_) (fun c1 => ?_))
    · dsimp only at c1
      refine hK _ _ _ _ ?_
      exact hK _ _ _ _ (And.intro (Or.inl rfl) (And.intro rfl (by simpa [zt_f, c1, mz_b] using hq)))
    · dsimp only at c1
      iterate 4 refine hK _ _ _ _ ?_
      refine hK _ _ _ _ (And.intro (rfl) (And.intro (g) ?_))
      refine hK _ _ _ _ (And.intro (fun c2 => ?_) (fun c2 => ?_))
      · dsimp only at c2
        iterate 2 refine hK _ _ _ _ ?_
        exact hK _ _ _ _ (And.intro (Or.inr rfl) (And.intro rfl (by simpa [zt_f, c1, c2, mz_b] using hq)))
      · dsimp only at c2
        refine hK _ _ _ _ ?_
        exact hK _ _ _ _ (And.intro (Or.inl rfl) (And.intro rfl (by simpa [zt_f, c2, mz_b] using hq)))
  · exact hC.elim
theorem len_Tr_nearerCell (w h : Nat) (lay : List mz_E) (as : List Value) (X : mz_X) (Q : Int32 → mz_X → Prop) (hC : C_Tr_nearerCell w h lay as X Q) : (mz_l0 as).length ≤ 5 := by
  unfold C_Tr_nearerCell at hC
  split at hC
  · exact Nat.le_of_ble_eq_true rfl
  · exact hC.elim
theorem ok_Tr_nearerCell (w h : Nat) (lay : List mz_E) (as : List Value) (X : mz_X) (Q : Int32 → mz_X → Prop) (hC : C_Tr_nearerCell w h lay as X Q) (K : mz_K) (hK : mz_Cl (I_Tr_nearerCell w h) (mz_qi lay Q) K) : K 0 (mz_ent 5 as) [] (lay, X) := by
  unfold C_Tr_nearerCell at hC
  split at hC
  · next c =>
    obtain ⟨rfl, g, hq⟩ := hC
    have loop : ∀ (k i : Nat), i + k = 4 → zt_near w h X c = zt_nr w h X c i k → ∀ L3 L4 : Option Value, K 2 [some (.ref 18), some (.int c), some (.int (nI i)), L3, L4] [] (mz_lay w h, X) := by
      intro k
      induction k with
      | zero =>
        intro i hi he L3 L4
        iterate 2 refine hK _ _ _ _ ?_
        refine hK _ _ _ _ (And.intro (fun c1 => ?_) (fun c1 => ?_))
        · rw [he] at hq
          refine hK _ _ _ _ ?_
          exact hK _ _ _ _ (And.intro rfl (hq))
        · exact absurd (nI_le (a := 4) (b := i) (by omega) (by omega)) c1
      | succ k ih =>
        intro i hi he L3 L4
        have hf : zt_nB w h X c i = false → ∀ L3 L4 : Option Value, K 64 [some (.ref 18), some (.int c), some (.int (nI i)), L3, L4] [] (mz_lay w h, X) := by
          intro e L3 L4
          rw [zt_nr_f e] at he
          iterate 2 refine hK _ _ _ _ ?_
          have := ih (i + 1) (by omega) he L3 L4
          rw [← nI_1] at this
          exact this
        iterate 2 refine hK _ _ _ _ ?_
        refine hK _ _ _ _ (And.intro (fun c1 => ?_) (fun c1 => ?_))
        · exact absurd c1 (nI_ge (a := i) (b := 4) (by omega) (by omega))
        · iterate 4 refine hK _ _ _ _ ?_
          refine hK _ _ _ _ (And.intro (rfl) (And.intro (g) ?_))
          iterate 5 refine hK _ _ _ _ ?_
          refine hK _ _ _ _ (And.intro (rfl) (And.intro (g) ?_))
          iterate 4 refine hK _ _ _ _ ?_
          refine hK _ _ _ _ (And.intro (rfl) (And.intro (g) ?_))
          refine hK _ _ _ _ (And.intro (fun c2 => ?_) (fun c2 => ?_))
          · exact hf (by simp only [zt_nB]; rw [show zg_open w h X (zg_on w h X c (nI i)) = false from mz_b0 c2]; rfl) _ _
          · iterate 3 refine hK _ _ _ _ ?_
            refine hK _ _ _ _ (And.intro (rfl) (And.intro (g) ?_))
            iterate 3 refine hK _ _ _ _ ?_
            refine hK _ _ _ _ (And.intro (rfl) (And.intro (g) ?_))
            iterate 2 refine hK _ _ _ _ ?_
            refine hK _ _ _ _ (And.intro (fun c3 => ?_) (fun c3 => ?_))
            · have e : zt_nB w h X c i = true := by
                simp only [zt_nB, Bool.and_eq_true, decide_eq_true_eq]
                exact ⟨mz_b1 c2, c3⟩
              rw [zt_nr_t e] at he
              rw [he] at hq
              refine hK _ _ _ _ ?_
              exact hK _ _ _ _ (And.intro rfl (hq))
            · exact hf (by simp only [zt_nB, Bool.and_eq_false_iff, decide_eq_false_iff_not]; exact Or.inr c3) _ _
    iterate 2 refine hK _ _ _ _ ?_
    exact loop 4 0 (by omega) rfl none none
  · exact hC.elim
theorem len_Tr_cellAtStep (w h : Nat) (lay : List mz_E) (as : List Value) (X : mz_X) (Q : Int32 → mz_X → Prop) (hC : C_Tr_cellAtStep w h lay as X Q) : (mz_l0 as).length ≤ 3 := by
  unfold C_Tr_cellAtStep at hC
  split at hC
  · exact Nat.le_of_ble_eq_true rfl
  · exact hC.elim
theorem ok_Tr_cellAtStep (w h : Nat) (lay : List mz_E) (as : List Value) (X : mz_X) (Q : Int32 → mz_X → Prop) (hC : C_Tr_cellAtStep w h lay as X Q) (K : mz_K) (hK : mz_Cl (I_Tr_cellAtStep w h) (mz_qi lay Q) K) : K 0 (mz_ent 3 as) [] (lay, X) := by
  unfold C_Tr_cellAtStep at hC
  split at hC
  · next k =>
    obtain ⟨rfl, g, hq⟩ := hC
    have hn := mz_geo_n g
    have h32 : zt_at w h X k = -1 → K 32 (mz_ent 3 [.ref 18, .int k]) [] (mz_lay w h, X) := by
      intro e
      rw [e] at hq
      iterate 3 refine hK _ _ _ _ ?_
      refine hK _ _ _ _ (And.intro (fun c9 => ?_) (fun c9 => ?_))
      · refine hK _ _ _ _ ?_
        exact hK _ _ _ _ (And.intro rfl (hq))
      · exact absurd rfl c9
    refine hK _ _ _ _ ?_
    refine hK _ _ _ _ (And.intro (rfl) (And.intro (g) ?_))
    refine hK _ _ _ _ (And.intro (fun c1 => ?_) (fun c1 => ?_))
    · exact h32 (by simp [zt_at, mz_b0 c1])
    · refine hK _ _ _ _ ?_
      refine hK _ _ _ _ (And.intro (fun c2 => ?_) (fun c2 => ?_))
      · exact h32 (by simp [zt_at, c2])
      · iterate 3 refine hK _ _ _ _ ?_
        refine hK _ _ _ _ (And.intro (fun c3 => ?_) (fun c3 => ?_))
        · dsimp only at c3
          exact h32 (by simp [zt_at, c3])
        · dsimp only at c3
          iterate 4 refine hK _ _ _ _ ?_
          refine hK _ _ _ _ (And.intro (fun c4 => ?_) (fun c4 => ?_))
          · exact h32 (by simp [zt_at, c4])
          · iterate 4 refine hK _ _ _ _ ?_
            refine hK _ _ _ _ (And.intro (fun c5 => ?_) (fun c5 => ?_))
            · exact absurd c5 (by decide)
            · iterate 3 refine hK _ _ _ _ ?_
              refine hK _ _ _ _ (And.intro (mz_in c2 c4 (by omega)) ?_)
              refine hK _ _ _ _ ?_
              exact hK _ _ _ _ (And.intro rfl (by simpa [zt_at, mz_b1 c1, c2, c3, c4] using hq))
  · exact hC.elim
theorem len_Tr_find (w h : Nat) (lay : List mz_E) (as : List Value) (X : mz_X) (Q : Int32 → mz_X → Prop) (hC : C_Tr_find w h lay as X Q) : (mz_l0 as).length ≤ 6 := by
  unfold C_Tr_find at hC
  split at hC
  · exact Nat.le_of_ble_eq_true rfl
  · exact hC.elim
theorem ok_Tr_find (w h : Nat) (lay : List mz_E) (as : List Value) (X : mz_X) (Q : Int32 → mz_X → Prop) (hC : C_Tr_find w h lay as X Q) (K : mz_K) (hK : mz_Cl (I_Tr_find w h) (mz_qi lay Q) K) : K 0 (mz_ent 6 as) [] (lay, X) := by
  unfold C_Tr_find at hC
  split at hC
  · next a b =>
    obtain ⟨rfl, g, hq⟩ := hC
    have hn := mz_geo_n g
    have h27 : zt_fB w h X a b = false → K 27 (mz_ent 6 [.ref 18, .int a, .int b]) [] (mz_lay w h, zt_0 X) := by
      intro e
      rw [zt_fi_f e] at hq
      refine hK _ _ _ _ ?_
      exact hK _ _ _ _ (And.intro rfl (hq))
    iterate 5 refine hK _ _ _ _ ?_
    show mz_at (I_Tr_find w h) 6 (mz_qi (mz_lay w h) Q) K (mz_ent 6 [.ref 18, .int a, .int b]) [.ref 18] (mz_lay w h, zt_0 X)
    refine hK _ _ _ _ ?_
    refine hK _ _ _ _ (And.intro (rfl) (And.intro (g) ?_))
    refine hK _ _ _ _ (And.intro (fun c1 => ?_) (fun c1 => ?_))
    · exact h27 (by simp only [zt_fB]; rw [show zg_free w h (zt_0 X) a = false from mz_b0 c1]; rfl)
    · iterate 3 refine hK _ _ _ _ ?_
      refine hK _ _ _ _ (And.intro (rfl) (And.intro (g) ?_))
      refine hK _ _ _ _ (And.intro (fun c2 => ?_) (fun c2 => ?_))
      · exact h27 (by simp only [zt_fB]; rw [show zg_free w h (zt_0 X) b = false from mz_b0 c2]; simp)
      · have e : zt_fB w h X a b = true := by
          simp only [zt_fB, Bool.and_eq_true]
          exact ⟨mz_b1 c1, mz_b1 c2⟩
        have l2 : ∀ (k i : Nat) (Y : mz_X) (x st : Int32), i + k = w * h → Q st (zt_e (zt_p w h Y x st i k) st) → K 60 [some (.ref 18), some (.int a), some (.int b), some (.int st), some (.int x), some (.int (nI i))] [] (mz_lay w h, Y) := by
          have hend : ∀ (Y : mz_X) (x st i : Int32), Q st (zt_e Y st) → K 99 [some (.ref 18), some (.int a), some (.int b), some (.int st), some (.int x), some (.int i)] [] (mz_lay w h, Y) := by
            intro Y x st i hQ
            iterate 6 refine hK _ _ _ _ ?_
            refine hK _ _ _ _ (And.intro (rfl) (And.intro (g) ?_))
            iterate 2 refine hK _ _ _ _ ?_
            exact hK _ _ _ _ (And.intro rfl (hQ))
          intro k
          induction k with
          | zero =>
            intro i Y x st hi hQ
            iterate 2 refine hK _ _ _ _ ?_
            refine hK _ _ _ _ (And.intro (fun c4 => ?_) (fun c4 => ?_))
            · exact hend _ _ _ _ hQ
            · iterate 4 refine hK _ _ _ _ ?_
              refine hK _ _ _ _ (And.intro (fun c5 => ?_) (fun c5 => ?_))
              · exact hend _ _ _ _ hQ
              · exact absurd (nI_le (a := w * h) (b := i) (by omega) (by omega)) c5
          | succ k ih =>
            intro i Y x st hi hQ
            iterate 2 refine hK _ _ _ _ ?_
            refine hK _ _ _ _ (And.intro (fun c4 => ?_) (fun c4 => ?_))
            · dsimp only at c4
              rw [zt_p_f (Int32.not_le.mpr c4)] at hQ
              exact hend _ _ _ _ hQ
            · dsimp only at c4
              rw [zt_p_t (Int32.not_lt.mp c4)] at hQ
              iterate 4 refine hK _ _ _ _ ?_
              refine hK _ _ _ _ (And.intro (fun c5 => ?_) (fun c5 => ?_))
              · exact absurd c5 (nI_ge (by omega) (by omega))
              · iterate 4 refine hK _ _ _ _ ?_
                refine hK _ _ _ _ (And.intro (vp_in_nI (by omega) (by omega)) ?_)
                rw [nI_clamp (by omega)]
                iterate 2 refine hK _ _ _ _ ?_
                refine hK _ _ _ _ (And.intro (rfl) (And.intro (g) ?_))
                iterate 3 refine hK _ _ _ _ ?_
                have := ih (i + 1) _ _ st (by omega) hQ
                rw [← nI_1] at this
                exact this
        iterate 4 refine hK _ _ _ _ ?_
        refine hK _ _ _ _ (And.intro (rfl) (And.intro (g) ?_))
        iterate 3 refine hK _ _ _ _ ?_
        refine hK _ _ _ _ (And.intro (rfl) (And.intro (g) ?_))
        iterate 3 refine hK _ _ _ _ ?_
        show mz_at (I_Tr_find w h) 48 (mz_qi (mz_lay w h) Q) K [some (.ref 18), some (.int a), some (.int b), some (.int (zt_fS w h X a b)), none, none] [.int (zt_fS w h X a b)] (mz_lay w h, zt_1 w h X b)
        by_cases c3 : zt_fS w h X a b = -1
        · rw [zt_fi_tt e c3] at hq
          refine hK _ _ _ _ (And.intro (fun c3 => ?_) (fun c9 => absurd c3 c9))
          refine hK _ _ _ _ ?_
          exact hK _ _ _ _ (And.intro rfl (hq))
        · rw [zt_fi_tf e c3] at hq
          generalize zt_fS w h X a b = st at hq c3 ⊢
          refine hK _ _ _ _ (And.intro (fun c9 => absurd c9 c3) (fun _ => ?_))
          iterate 4 refine hK _ _ _ _ ?_
          exact l2 (w * h) 0 _ _ _ (by omega) hq
  · exact hC.elim
theorem len_Tr_toll (w h : Nat) (lay : List mz_E) (as : List Value) (X : mz_X) (Q : Int64 → mz_X → Prop) (hC : C_Tr_toll w h lay as X Q) : (mz_l0 as).length ≤ 7 := by
  unfold C_Tr_toll at hC
  split at hC
  · exact Nat.le_of_ble_eq_true rfl
  · exact hC.elim
theorem ok_Tr_toll (w h : Nat) (lay : List mz_E) (as : List Value) (X : mz_X) (Q : Int64 → mz_X → Prop) (hC : C_Tr_toll w h lay as X Q) (K : mz_K) (hK : mz_Cl (I_Tr_toll w h) (mz_ql lay Q) K) : K 0 (mz_ent 7 as) [] (lay, X) := by
  unfold C_Tr_toll at hC
  split at hC
  ·
    obtain ⟨rfl, g, hq1, hq2⟩ := hC
    refine hK _ _ _ _ ?_
    refine hK _ _ _ _ (And.intro (rfl) (And.intro (g) ?_))
    refine hK _ _ _ _ (And.intro (fun c1 => ?_) (fun c1 => ?_))
    · refine hK _ _ _ _ ?_
      exact hK _ _ _ _ (And.intro rfl (hq1 (mz_b0 c1)))
    · obtain ⟨q, hq0, hq3, hq⟩ := hq2 (mz_b1 c1)
      have loop : ∀ (k i : Nat), i + k = q → ∀ L4 L5 : Option Value, K 15 [some (.ref 18), some (.long (zt_g w h X i)), none, some (.int (nI i)), L4, L5, none] [] (mz_lay w h, X) := by
        intro k
        induction k with
        | zero =>
          intro i hi L4 L5
          iterate 3 refine hK _ _ _ _ ?_
          refine hK _ _ _ _ (And.intro (fun c2 => ?_) (fun c2 => ?_))
          · refine hK _ _ _ _ ?_
            exact hK _ _ _ _ (And.intro rfl (by rw [show i = q by omega]; exact hq))
          · dsimp only at c2
            rw [hq3] at c2
            exact absurd (nI_le (a := q) (b := i) (by omega) (by omega)) c2
        | succ k ih =>
          intro i hi L4 L5
          have hend : ∀ (v : Int32) (L4 : Option Value), v = (if nI i = 0 then 1 else 2) → K 32 [some (.ref 18), some (.long (zt_g w h X i)), none, some (.int (nI i)), L4, L5, none] [.int v] (mz_lay w h, X) := by
            intro v L4 hv
            iterate 5 refine hK _ _ _ _ ?_
            refine hK _ _ _ _ (And.intro (rfl) (And.intro (g) ?_))
            refine hK _ _ _ _ (And.intro (rfl) (And.intro (g) ?_))
            iterate 15 refine hK _ _ _ _ ?_
            have := ih (i + 1) (by omega) (some (.int v)) (some (.long ((nI (mz_cnt (fun s => zg_open w h X (zg_on w h X (zt_at w h X (nI i)) (nI s))) 4) - v).toInt64)))
            rw [← nI_1, show zt_g w h X (i + 1) = zt_g w h X i + zt_g1 w h X i from rfl, zt_g1, ← hv] at this
            exact this
          iterate 3 refine hK _ _ _ _ ?_
          refine hK _ _ _ _ (And.intro (fun c2 => ?_) (fun c2 => ?_))
          · dsimp only at c2
            rw [hq3] at c2
            exact absurd c2 (nI_ge (by omega) (by omega))
          · refine hK _ _ _ _ ?_
            refine hK _ _ _ _ (And.intro (fun c3 => ?_) (fun c3 => ?_))
            · iterate 2 refine hK _ _ _ _ ?_
              exact hend 1 L4 (by rw [if_pos c3])
            · refine hK _ _ _ _ ?_
              exact hend 2 L4 (by rw [if_neg c3])
      iterate 4 refine hK _ _ _ _ ?_
      exact loop q 0 (by omega) none none
  · exact hC.elim
set_option maxRecDepth 20000 in
theorem snd_Tr_isFound (w h : Nat) (l : Launch) (p : Program) (e : Env) (s : State) (m : MethodId) (args : Array Value) (below : List Frame) (meth : Method) (c : Code) (D : va_G) (ad0 : Nat → Nat) (cA0 : Nat → ClassId) (A : Nat → Prop) (lay : List mz_E) (Q : Int32 → mz_X → Prop) (F : mz_F p s m args meth c prog_8_method_5_code 1 y_Tr_isFound.cls (some .boolean) w_Tr_isFound) (hA : ∀ q, s.heap.size ≤ q → A q) : mz_All (mz_V p l e (mz_rm 1 20) s m args below meth c 1 lay.length (mz_sz lay) D mz_cls (mz_G0 ad0 cA0) A (MQ below (va_Qi Q (mz_B D mz_cls ad0 cA0 lay A) A) args s 0 0 A)) (mz_qi lay Q) (I_Tr_isFound w h) := by
  obtain ⟨hx, hb, hml, hown, hts, hr, hlk⟩ := F
  unfold I_Tr_isFound
  refine mz_All.cons (sd_aload_n hx hb (mz_dg d_Tr_isFound 0 0 (.aload_n 0) 1 rfl) rfl) ?_
  refine mz_All.cons (sd_get (k := 3) hx hb hts (mz_inC in_Tr) hown (T := T_Tr) (N := 5) rfl (by decide) (hts (.fieldLink "MazeForms$Trail" 29 "MazeForms$Trail" "length" "I") (List.mem_cons_of_mem _ wm_261)) (fun _ h => h) (mz_dg d_Tr_isFound 1 1 (.getfield 29) 3 rfl)) ?_
  refine mz_All.cons (sd_iconst hx hb (mz_dg d_Tr_isFound 2 4 (.iconst (-1)) 1 rfl) (by decide)) ?_
  refine mz_All.cons (sd_icmp_eq hx hb (mz_dg d_Tr_isFound 3 5 (.if_icmp .eq (21)) 3 rfl) (by decide)) ?_
  refine mz_All.cons (sd_aload_n hx hb (mz_dg d_Tr_isFound 4 8 (.aload_n 0) 1 rfl) rfl) ?_
  refine mz_All.cons (sd_get (k := 4) hx hb hts (mz_inC in_Tr) hown (T := T_Tr) (N := 5) rfl (by decide) (hts (.fieldLink "MazeForms$Trail" 53 "MazeForms$Trail" "edition" "I") (List.mem_cons_of_mem _ wm_262)) (fun _ h => h) (mz_dg d_Tr_isFound 5 9 (.getfield 53) 3 rfl)) ?_
  refine mz_All.cons (sd_aload_n hx hb (mz_dg d_Tr_isFound 6 12 (.aload_n 0) 1 rfl) rfl) ?_
  refine mz_All.cons (sd_get (k := 0) hx hb hts (mz_inC in_Tr) hown (T := T_Tr) (N := 5) rfl (by decide) (hts (.fieldLink "MazeForms$Trail" 9 "MazeForms$Trail" "grid" "LMazeForms$Grid;") (List.mem_cons_of_mem _ wm_258)) (fun _ h => h) (mz_dg d_Tr_isFound 7 13 (.getfield 9) 3 rfl)) ?_
  refine mz_All.cons (sd_calli (T := T_Gr) ⟨hx, hb, hml, hown, hts⟩ (met_Gr_edition w h l) (cwV 0 hts (mz_gV wm_562 wm_563 wm_564 wm_67 wm_565) rfl rfl rfl (by decide) ⟨by decide, by decide⟩) rfl hA rfl (mz_dg d_Tr_isFound 8 16 (.invokevirtual 50) 3 rfl)) ?_
  refine mz_All.cons (sd_icmp_ne hx hb (mz_dg d_Tr_isFound 9 19 (.if_icmp .ne (7)) 3 rfl) (by decide)) ?_
  refine mz_All.cons (sd_iconst hx hb (mz_dg d_Tr_isFound 10 22 (.iconst (1)) 1 rfl) (by decide)) ?_
  refine mz_All.cons (sd_goto hx hb (mz_dg d_Tr_isFound 11 23 (.goto (4)) 3 rfl) (by decide)) ?_
  refine mz_All.cons (sd_iconst hx hb (mz_dg d_Tr_isFound 12 26 (.iconst (0)) 1 rfl) (by decide)) ?_
  refine mz_All.cons (sd_rz hx hb hr hlk (mz_dg d_Tr_isFound 13 27 (.ireturn) 1 rfl)) ?_
  exact trivial
theorem met_Tr_isFound (w h : Nat) (l : Launch) : mz_MI l y_Tr_isFound w_Tr_isFound 1 20 mz_cls (C_Tr_isFound w h) := mz_MI_of (I_Tr_isFound w h) (by decide) rfl (len_Tr_isFound w h) (ok_Tr_isFound w h) (snd_Tr_isFound w h l)
set_option maxRecDepth 20000 in
theorem snd_Tr_nearerCell (w h : Nat) (l : Launch) (p : Program) (e : Env) (s : State) (m : MethodId) (args : Array Value) (below : List Frame) (meth : Method) (c : Code) (D : va_G) (ad0 : Nat → Nat) (cA0 : Nat → ClassId) (A : Nat → Prop) (lay : List mz_E) (Q : Int32 → mz_X → Prop) (F : mz_F p s m args meth c prog_8_method_6_code 5 y_Tr_nearerCell.cls (some .int) w_Tr_nearerCell) (hA : ∀ q, s.heap.size ≤ q → A q) : mz_All (mz_V p l e (mz_rm 2 44) s m args below meth c 5 lay.length (mz_sz lay) D mz_cls (mz_G0 ad0 cA0) A (MQ below (va_Qi Q (mz_B D mz_cls ad0 cA0 lay A) A) args s 0 0 A)) (mz_qi lay Q) (I_Tr_nearerCell w h) := by
  obtain ⟨hx, hb, hml, hown, hts, hr, hlk⟩ := F
  unfold I_Tr_nearerCell
  refine mz_All.cons (sd_iconst hx hb (mz_dg d_Tr_nearerCell 0 0 (.iconst (0)) 1 rfl) (by decide)) ?_
  refine mz_All.cons (sd_istore_n hx hb (mz_dg d_Tr_nearerCell 1 1 (.istore_n 2) 1 rfl) rfl (by decide)) ?_
  refine mz_All.cons (sd_iload_n hx hb (mz_dg d_Tr_nearerCell 2 2 (.iload_n 2) 1 rfl) rfl) ?_
  refine mz_All.cons (sd_iconst hx hb (mz_dg d_Tr_nearerCell 3 3 (.iconst (4)) 1 rfl) (by decide)) ?_
  refine mz_All.cons (sd_icmp_ge hx hb (mz_dg d_Tr_nearerCell 4 4 (.if_icmp .ge (66)) 3 rfl) (by decide)) ?_
  refine mz_All.cons (sd_aload_n hx hb (mz_dg d_Tr_nearerCell 5 7 (.aload_n 0) 1 rfl) rfl) ?_
  refine mz_All.cons (sd_get (k := 0) hx hb hts (mz_inC in_Tr) hown (T := T_Tr) (N := 5) rfl (by decide) (hts (.fieldLink "MazeForms$Trail" 9 "MazeForms$Trail" "grid" "LMazeForms$Grid;") (List.mem_cons_of_mem _ wm_258)) (fun _ h => h) (mz_dg d_Tr_nearerCell 6 8 (.getfield 9) 3 rfl)) ?_
  refine mz_All.cons (sd_iload_n hx hb (mz_dg d_Tr_nearerCell 7 11 (.iload_n 1) 1 rfl) rfl) ?_
  refine mz_All.cons (sd_iload_n hx hb (mz_dg d_Tr_nearerCell 8 12 (.iload_n 2) 1 rfl) rfl) ?_
  refine mz_All.cons (sd_calli (T := T_Gr) ⟨hx, hb, hml, hown, hts⟩ (met_Gr_doorOn w h l) (cwV 2 hts (mz_gV wm_559 wm_372 wm_373 wm_67 wm_374) rfl rfl rfl (by decide) ⟨by decide, by decide⟩) rfl hA rfl (mz_dg d_Tr_nearerCell 9 13 (.invokevirtual 67) 3 rfl)) ?_
  refine mz_All.cons (sd_istore_n hx hb (mz_dg d_Tr_nearerCell 10 16 (.istore_n 3) 1 rfl) rfl (by decide)) ?_
  refine mz_All.cons (sd_aload_n hx hb (mz_dg d_Tr_nearerCell 11 17 (.aload_n 0) 1 rfl) rfl) ?_
  refine mz_All.cons (sd_get (k := 0) hx hb hts (mz_inC in_Tr) hown (T := T_Tr) (N := 5) rfl (by decide) (hts (.fieldLink "MazeForms$Trail" 9 "MazeForms$Trail" "grid" "LMazeForms$Grid;") (List.mem_cons_of_mem _ wm_258)) (fun _ h => h) (mz_dg d_Tr_nearerCell 12 18 (.getfield 9) 3 rfl)) ?_
  refine mz_All.cons (sd_iload_n hx hb (mz_dg d_Tr_nearerCell 13 21 (.iload_n 3) 1 rfl) rfl) ?_
  refine mz_All.cons (sd_iload_n hx hb (mz_dg d_Tr_nearerCell 14 22 (.iload_n 1) 1 rfl) rfl) ?_
  refine mz_All.cons (sd_calli (T := T_Gr) ⟨hx, hb, hml, hown, hts⟩ (met_Gr_otherCell w h l) (cwV 2 hts (mz_gV wm_560 wm_376 wm_377 wm_67 wm_378) rfl rfl rfl (by decide) ⟨by decide, by decide⟩) rfl hA rfl (mz_dg d_Tr_nearerCell 15 23 (.invokevirtual 71) 3 rfl)) ?_
  refine mz_All.cons (sd_istore hx hb (mz_dg d_Tr_nearerCell 16 26 (.istore 4) 2 rfl) (by decide)) ?_
  refine mz_All.cons (sd_aload_n hx hb (mz_dg d_Tr_nearerCell 17 28 (.aload_n 0) 1 rfl) rfl) ?_
  refine mz_All.cons (sd_get (k := 0) hx hb hts (mz_inC in_Tr) hown (T := T_Tr) (N := 5) rfl (by decide) (hts (.fieldLink "MazeForms$Trail" 9 "MazeForms$Trail" "grid" "LMazeForms$Grid;") (List.mem_cons_of_mem _ wm_258)) (fun _ h => h) (mz_dg d_Tr_nearerCell 18 29 (.getfield 9) 3 rfl)) ?_
  refine mz_All.cons (sd_iload_n hx hb (mz_dg d_Tr_nearerCell 19 32 (.iload_n 3) 1 rfl) rfl) ?_
  refine mz_All.cons (sd_calli (T := T_Gr) ⟨hx, hb, hml, hown, hts⟩ (met_Gr_isOpen w h l) (cwV 1 hts (mz_gV wm_561 wm_497 wm_498 wm_67 wm_499) rfl rfl rfl (by decide) ⟨by decide, by decide⟩) rfl hA rfl (mz_dg d_Tr_nearerCell 20 33 (.invokevirtual 74) 3 rfl)) ?_
  refine mz_All.cons (sd_if_eq hx hb (mz_dg d_Tr_nearerCell 21 36 (.ifCond .eq (28)) 3 rfl) (by decide)) ?_
  refine mz_All.cons (sd_aload_n hx hb (mz_dg d_Tr_nearerCell 22 39 (.aload_n 0) 1 rfl) rfl) ?_
  refine mz_All.cons (sd_get (k := 1) hx hb hts (mz_inC in_Tr) hown (T := T_Tr) (N := 5) rfl (by decide) (hts (.fieldLink "MazeForms$Trail" 15 "MazeForms$Trail" "flood" "LMazeForms$Flood;") (List.mem_cons_of_mem _ wm_259)) (fun _ h => h) (mz_dg d_Tr_nearerCell 23 40 (.getfield 15) 3 rfl)) ?_
  refine mz_All.cons (sd_iload hx hb (mz_dg d_Tr_nearerCell 24 43 (.iload 4) 2 rfl)) ?_
  refine mz_All.cons (sd_calli (T := T_Fl) ⟨hx, hb, hml, hown, hts⟩ (met_Fl_stepsTo w h l) (cwV 1 hts (mz_gV wm_554 wm_492 wm_493 wm_71 wm_494) rfl rfl rfl (by decide) ⟨by decide, by decide⟩) rfl hA rfl (mz_dg d_Tr_nearerCell 25 45 (.invokevirtual 43) 3 rfl)) ?_
  refine mz_All.cons (sd_aload_n hx hb (mz_dg d_Tr_nearerCell 26 48 (.aload_n 0) 1 rfl) rfl) ?_
  refine mz_All.cons (sd_get (k := 1) hx hb hts (mz_inC in_Tr) hown (T := T_Tr) (N := 5) rfl (by decide) (hts (.fieldLink "MazeForms$Trail" 15 "MazeForms$Trail" "flood" "LMazeForms$Flood;") (List.mem_cons_of_mem _ wm_259)) (fun _ h => h) (mz_dg d_Tr_nearerCell 27 49 (.getfield 15) 3 rfl)) ?_
  refine mz_All.cons (sd_iload_n hx hb (mz_dg d_Tr_nearerCell 28 52 (.iload_n 1) 1 rfl) rfl) ?_
  refine mz_All.cons (sd_calli (T := T_Fl) ⟨hx, hb, hml, hown, hts⟩ (met_Fl_stepsTo w h l) (cwV 1 hts (mz_gV wm_554 wm_492 wm_493 wm_71 wm_494) rfl rfl rfl (by decide) ⟨by decide, by decide⟩) rfl hA rfl (mz_dg d_Tr_nearerCell 29 53 (.invokevirtual 43) 3 rfl)) ?_
  refine mz_All.cons (sd_iconst hx hb (mz_dg d_Tr_nearerCell 30 56 (.iconst (1)) 1 rfl) (by decide)) ?_
  refine mz_All.cons (sd_isub hx hb (mz_dg d_Tr_nearerCell 31 57 (.isub) 1 rfl)) ?_
  refine mz_All.cons (sd_icmp_ne hx hb (mz_dg d_Tr_nearerCell 32 58 (.if_icmp .ne (6)) 3 rfl) (by decide)) ?_
  refine mz_All.cons (sd_iload hx hb (mz_dg d_Tr_nearerCell 33 61 (.iload 4) 2 rfl)) ?_
  refine mz_All.cons (sd_ri hx hb hr hlk (mz_dg d_Tr_nearerCell 34 63 (.ireturn) 1 rfl)) ?_
  refine mz_All.cons (sd_iinc hx hb (mz_dg d_Tr_nearerCell 35 64 (.iinc 2 (1)) 3 rfl) (by decide) (by decide)) ?_
  refine mz_All.cons (sd_goto hx hb (mz_dg d_Tr_nearerCell 36 67 (.goto (-65)) 3 rfl) (by decide)) ?_
  refine mz_All.cons (sd_iconst hx hb (mz_dg d_Tr_nearerCell 37 70 (.iconst (-1)) 1 rfl) (by decide)) ?_
  refine mz_All.cons (sd_ri hx hb hr hlk (mz_dg d_Tr_nearerCell 38 71 (.ireturn) 1 rfl)) ?_
  exact trivial
theorem met_Tr_nearerCell (w h : Nat) (l : Launch) : mz_MI l y_Tr_nearerCell w_Tr_nearerCell 2 44 mz_cls (C_Tr_nearerCell w h) := mz_MI_of (I_Tr_nearerCell w h) (by decide) rfl (len_Tr_nearerCell w h) (ok_Tr_nearerCell w h) (snd_Tr_nearerCell w h l)
set_option maxRecDepth 20000 in
theorem snd_Tr_cellAtStep (w h : Nat) (l : Launch) (p : Program) (e : Env) (s : State) (m : MethodId) (args : Array Value) (below : List Frame) (meth : Method) (c : Code) (D : va_G) (ad0 : Nat → Nat) (cA0 : Nat → ClassId) (A : Nat → Prop) (lay : List mz_E) (Q : Int32 → mz_X → Prop) (F : mz_F p s m args meth c prog_8_method_3_code 3 y_Tr_cellAtStep.cls (some .int) w_Tr_cellAtStep) (hA : ∀ q, s.heap.size ≤ q → A q) : mz_All (mz_V p l e (mz_rm 2 40) s m args below meth c 3 lay.length (mz_sz lay) D mz_cls (mz_G0 ad0 cA0) A (MQ below (va_Qi Q (mz_B D mz_cls ad0 cA0 lay A) A) args s 0 0 A)) (mz_qi lay Q) (I_Tr_cellAtStep w h) := by
  obtain ⟨hx, hb, hml, hown, hts, hr, hlk⟩ := F
  unfold I_Tr_cellAtStep
  refine mz_All.cons (sd_aload_n hx hb (mz_dg d_Tr_cellAtStep 0 0 (.aload_n 0) 1 rfl) rfl) ?_
  refine mz_All.cons (sd_calli (T := T_Tr) ⟨hx, hb, hml, hown, hts⟩ (met_Tr_isFound w h l) (cwV 0 hts (mz_gV wm_574 wm_576 wm_23 wm_75 wm_577) rfl rfl rfl (by decide) ⟨by decide, by decide⟩) rfl hA rfl (mz_dg d_Tr_cellAtStep 1 1 (.invokevirtual 55) 3 rfl)) ?_
  refine mz_All.cons (sd_if_eq hx hb (mz_dg d_Tr_cellAtStep 2 4 (.ifCond .eq (28)) 3 rfl) (by decide)) ?_
  refine mz_All.cons (sd_iload_n hx hb (mz_dg d_Tr_cellAtStep 3 7 (.iload_n 1) 1 rfl) rfl) ?_
  refine mz_All.cons (sd_if_lt hx hb (mz_dg d_Tr_cellAtStep 4 8 (.ifCond .lt (24)) 3 rfl) (by decide)) ?_
  refine mz_All.cons (sd_iload_n hx hb (mz_dg d_Tr_cellAtStep 5 11 (.iload_n 1) 1 rfl) rfl) ?_
  refine mz_All.cons (sd_aload_n hx hb (mz_dg d_Tr_cellAtStep 6 12 (.aload_n 0) 1 rfl) rfl) ?_
  refine mz_All.cons (sd_get (k := 3) hx hb hts (mz_inC in_Tr) hown (T := T_Tr) (N := 5) rfl (by decide) (hts (.fieldLink "MazeForms$Trail" 29 "MazeForms$Trail" "length" "I") (List.mem_cons_of_mem _ wm_261)) (fun _ h => h) (mz_dg d_Tr_cellAtStep 7 13 (.getfield 29) 3 rfl)) ?_
  refine mz_All.cons (sd_icmp_gt hx hb (mz_dg d_Tr_cellAtStep 8 16 (.if_icmp .gt (16)) 3 rfl) (by decide)) ?_
  refine mz_All.cons (sd_iload_n hx hb (mz_dg d_Tr_cellAtStep 9 19 (.iload_n 1) 1 rfl) rfl) ?_
  refine mz_All.cons (sd_aload_n hx hb (mz_dg d_Tr_cellAtStep 10 20 (.aload_n 0) 1 rfl) rfl) ?_
  refine mz_All.cons (sd_get (k := 2) hx hb hts (mz_inC in_Tr) hown (T := T_Tr) (N := 5) rfl (by decide) (hts (.fieldLink "MazeForms$Trail" 25 "MazeForms$Trail" "cells" "[I") (List.mem_cons_of_mem _ wm_260)) (fun _ h => h) (mz_dg d_Tr_cellAtStep 11 21 (.getfield 25) 3 rfl)) ?_
  refine mz_All.cons (sd_alen hx hb (mz_dg d_Tr_cellAtStep 12 24 (.arraylength) 1 rfl)) ?_
  refine mz_All.cons (sd_icmp_ge hx hb (mz_dg d_Tr_cellAtStep 13 25 (.if_icmp .ge (7)) 3 rfl) (by decide)) ?_
  refine mz_All.cons (sd_iconst hx hb (mz_dg d_Tr_cellAtStep 14 28 (.iconst (1)) 1 rfl) (by decide)) ?_
  refine mz_All.cons (sd_goto hx hb (mz_dg d_Tr_cellAtStep 15 29 (.goto (4)) 3 rfl) (by decide)) ?_
  refine mz_All.cons (sd_iconst hx hb (mz_dg d_Tr_cellAtStep 16 32 (.iconst (0)) 1 rfl) (by decide)) ?_
  refine mz_All.cons (sd_istore_n hx hb (mz_dg d_Tr_cellAtStep 17 33 (.istore_n 2) 1 rfl) rfl (by decide)) ?_
  refine mz_All.cons (sd_iload_n hx hb (mz_dg d_Tr_cellAtStep 18 34 (.iload_n 2) 1 rfl) rfl) ?_
  refine mz_All.cons (sd_if_eq hx hb (mz_dg d_Tr_cellAtStep 19 35 (.ifCond .eq (12)) 3 rfl) (by decide)) ?_
  refine mz_All.cons (sd_aload_n hx hb (mz_dg d_Tr_cellAtStep 20 38 (.aload_n 0) 1 rfl) rfl) ?_
  refine mz_All.cons (sd_get (k := 2) hx hb hts (mz_inC in_Tr) hown (T := T_Tr) (N := 5) rfl (by decide) (hts (.fieldLink "MazeForms$Trail" 25 "MazeForms$Trail" "cells" "[I") (List.mem_cons_of_mem _ wm_260)) (fun _ h => h) (mz_dg d_Tr_cellAtStep 21 39 (.getfield 25) 3 rfl)) ?_
  refine mz_All.cons (sd_iload_n hx hb (mz_dg d_Tr_cellAtStep 22 42 (.iload_n 1) 1 rfl) rfl) ?_
  refine mz_All.cons (sd_iald hx hb (mz_dg d_Tr_cellAtStep 23 43 (.iaload) 1 rfl)) ?_
  refine mz_All.cons (sd_goto hx hb (mz_dg d_Tr_cellAtStep 24 44 (.goto (4)) 3 rfl) (by decide)) ?_
  refine mz_All.cons (sd_iconst hx hb (mz_dg d_Tr_cellAtStep 25 47 (.iconst (-1)) 1 rfl) (by decide)) ?_
  refine mz_All.cons (sd_ri hx hb hr hlk (mz_dg d_Tr_cellAtStep 26 48 (.ireturn) 1 rfl)) ?_
  exact trivial
theorem met_Tr_cellAtStep (w h : Nat) (l : Launch) : mz_MI l y_Tr_cellAtStep w_Tr_cellAtStep 2 40 mz_cls (C_Tr_cellAtStep w h) := mz_MI_of (I_Tr_cellAtStep w h) (by decide) rfl (len_Tr_cellAtStep w h) (ok_Tr_cellAtStep w h) (snd_Tr_cellAtStep w h l)
set_option maxRecDepth 20000 in
theorem snd_Tr_find (w h : Nat) (l : Launch) (p : Program) (e : Env) (s : State) (m : MethodId) (args : Array Value) (below : List Frame) (meth : Method) (c : Code) (D : va_G) (ad0 : Nat → Nat) (cA0 : Nat → ClassId) (A : Nat → Prop) (lay : List mz_E) (Q : Int32 → mz_X → Prop) (F : mz_F p s m args meth c prog_8_method_2_code 6 y_Tr_find.cls (some .int) w_Tr_find) (hA : ∀ q, s.heap.size ≤ q → A q) : mz_All (mz_V p l e (mz_rm 4 92) s m args below meth c 6 lay.length (mz_sz lay) D mz_cls (mz_G0 ad0 cA0) A (MQ below (va_Qi Q (mz_B D mz_cls ad0 cA0 lay A) A) args s 0 0 A)) (mz_qi lay Q) (I_Tr_find w h) := by
  obtain ⟨hx, hb, hml, hown, hts, hr, hlk⟩ := F
  unfold I_Tr_find
  refine mz_All.cons (sd_aload_n hx hb (mz_dg d_Tr_find 0 0 (.aload_n 0) 1 rfl) rfl) ?_
  refine mz_All.cons (sd_iconst hx hb (mz_dg d_Tr_find 1 1 (.iconst (-1)) 1 rfl) (by decide)) ?_
  refine mz_All.cons (sd_puti (k := 3) hx hb hts (mz_inC in_Tr) ty_Tr ty_Tr_ok nm_Tr hown (T := T_Tr) (N := 5) rfl (by decide) (hts (.fieldLink "MazeForms$Trail" 29 "MazeForms$Trail" "length" "I") (List.mem_cons_of_mem _ wm_261)) (fun _ h => h) rfl rfl (mz_dg d_Tr_find 2 2 (.putfield 29) 3 rfl)) ?_
  refine mz_All.cons (sd_aload_n hx hb (mz_dg d_Tr_find 3 5 (.aload_n 0) 1 rfl) rfl) ?_
  refine mz_All.cons (sd_get (k := 0) hx hb hts (mz_inC in_Tr) hown (T := T_Tr) (N := 5) rfl (by decide) (hts (.fieldLink "MazeForms$Trail" 9 "MazeForms$Trail" "grid" "LMazeForms$Grid;") (List.mem_cons_of_mem _ wm_258)) (fun _ h => h) (mz_dg d_Tr_find 4 6 (.getfield 9) 3 rfl)) ?_
  refine mz_All.cons (sd_iload_n hx hb (mz_dg d_Tr_find 5 9 (.iload_n 1) 1 rfl) rfl) ?_
  refine mz_All.cons (sd_calli (T := T_Gr) ⟨hx, hb, hml, hown, hts⟩ (met_Gr_isFree w h l) (cwV 1 hts (mz_gV wm_552 wm_117 wm_118 wm_67 wm_119) rfl rfl rfl (by decide) ⟨by decide, by decide⟩) rfl hA rfl (mz_dg d_Tr_find 6 10 (.invokevirtual 33) 3 rfl)) ?_
  refine mz_All.cons (sd_if_eq hx hb (mz_dg d_Tr_find 7 13 (.ifCond .eq (14)) 3 rfl) (by decide)) ?_
  refine mz_All.cons (sd_aload_n hx hb (mz_dg d_Tr_find 8 16 (.aload_n 0) 1 rfl) rfl) ?_
  refine mz_All.cons (sd_get (k := 0) hx hb hts (mz_inC in_Tr) hown (T := T_Tr) (N := 5) rfl (by decide) (hts (.fieldLink "MazeForms$Trail" 9 "MazeForms$Trail" "grid" "LMazeForms$Grid;") (List.mem_cons_of_mem _ wm_258)) (fun _ h => h) (mz_dg d_Tr_find 9 17 (.getfield 9) 3 rfl)) ?_
  refine mz_All.cons (sd_iload_n hx hb (mz_dg d_Tr_find 10 20 (.iload_n 2) 1 rfl) rfl) ?_
  refine mz_All.cons (sd_calli (T := T_Gr) ⟨hx, hb, hml, hown, hts⟩ (met_Gr_isFree w h l) (cwV 1 hts (mz_gV wm_552 wm_117 wm_118 wm_67 wm_119) rfl rfl rfl (by decide) ⟨by decide, by decide⟩) rfl hA rfl (mz_dg d_Tr_find 11 21 (.invokevirtual 33) 3 rfl)) ?_
  refine mz_All.cons (sd_if_ne hx hb (mz_dg d_Tr_find 12 24 (.ifCond .ne (5)) 3 rfl) (by decide)) ?_
  refine mz_All.cons (sd_iconst hx hb (mz_dg d_Tr_find 13 27 (.iconst (-1)) 1 rfl) (by decide)) ?_
  refine mz_All.cons (sd_ri hx hb hr hlk (mz_dg d_Tr_find 14 28 (.ireturn) 1 rfl)) ?_
  refine mz_All.cons (sd_aload_n hx hb (mz_dg d_Tr_find 15 29 (.aload_n 0) 1 rfl) rfl) ?_
  refine mz_All.cons (sd_get (k := 1) hx hb hts (mz_inC in_Tr) hown (T := T_Tr) (N := 5) rfl (by decide) (hts (.fieldLink "MazeForms$Trail" 15 "MazeForms$Trail" "flood" "LMazeForms$Flood;") (List.mem_cons_of_mem _ wm_259)) (fun _ h => h) (mz_dg d_Tr_find 16 30 (.getfield 15) 3 rfl)) ?_
  refine mz_All.cons (sd_iload_n hx hb (mz_dg d_Tr_find 17 33 (.iload_n 2) 1 rfl) rfl) ?_
  refine mz_All.cons (sd_iconst hx hb (mz_dg d_Tr_find 18 34 (.iconst (0)) 1 rfl) (by decide)) ?_
  refine mz_All.cons (sd_callv (T := T_Fl) ⟨hx, hb, hml, hown, hts⟩ (met_Fl_spread w h l) (cwV 2 hts (mz_gV wm_553 wm_478 wm_479 wm_71 wm_480) rfl rfl rfl (by decide) ⟨by decide, by decide⟩) rfl hA rfl (mz_dg d_Tr_find 19 35 (.invokevirtual 37) 3 rfl)) ?_
  refine mz_All.cons (sd_aload_n hx hb (mz_dg d_Tr_find 20 38 (.aload_n 0) 1 rfl) rfl) ?_
  refine mz_All.cons (sd_get (k := 1) hx hb hts (mz_inC in_Tr) hown (T := T_Tr) (N := 5) rfl (by decide) (hts (.fieldLink "MazeForms$Trail" 15 "MazeForms$Trail" "flood" "LMazeForms$Flood;") (List.mem_cons_of_mem _ wm_259)) (fun _ h => h) (mz_dg d_Tr_find 21 39 (.getfield 15) 3 rfl)) ?_
  refine mz_All.cons (sd_iload_n hx hb (mz_dg d_Tr_find 22 42 (.iload_n 1) 1 rfl) rfl) ?_
  refine mz_All.cons (sd_calli (T := T_Fl) ⟨hx, hb, hml, hown, hts⟩ (met_Fl_stepsTo w h l) (cwV 1 hts (mz_gV wm_554 wm_492 wm_493 wm_71 wm_494) rfl rfl rfl (by decide) ⟨by decide, by decide⟩) rfl hA rfl (mz_dg d_Tr_find 23 43 (.invokevirtual 43) 3 rfl)) ?_
  refine mz_All.cons (sd_istore_n hx hb (mz_dg d_Tr_find 24 46 (.istore_n 3) 1 rfl) rfl (by decide)) ?_
  refine mz_All.cons (sd_iload_n hx hb (mz_dg d_Tr_find 25 47 (.iload_n 3) 1 rfl) rfl) ?_
  refine mz_All.cons (sd_iconst hx hb (mz_dg d_Tr_find 26 48 (.iconst (-1)) 1 rfl) (by decide)) ?_
  refine mz_All.cons (sd_icmp_ne hx hb (mz_dg d_Tr_find 27 49 (.if_icmp .ne (5)) 3 rfl) (by decide)) ?_
  refine mz_All.cons (sd_iconst hx hb (mz_dg d_Tr_find 28 52 (.iconst (-1)) 1 rfl) (by decide)) ?_
  refine mz_All.cons (sd_ri hx hb hr hlk (mz_dg d_Tr_find 29 53 (.ireturn) 1 rfl)) ?_
  refine mz_All.cons (sd_iload_n hx hb (mz_dg d_Tr_find 30 54 (.iload_n 1) 1 rfl) rfl) ?_
  refine mz_All.cons (sd_istore hx hb (mz_dg d_Tr_find 31 55 (.istore 4) 2 rfl) (by decide)) ?_
  refine mz_All.cons (sd_iconst hx hb (mz_dg d_Tr_find 32 57 (.iconst (0)) 1 rfl) (by decide)) ?_
  refine mz_All.cons (sd_istore hx hb (mz_dg d_Tr_find 33 58 (.istore 5) 2 rfl) (by decide)) ?_
  refine mz_All.cons (sd_iload hx hb (mz_dg d_Tr_find 34 60 (.iload 5) 2 rfl)) ?_
  refine mz_All.cons (sd_iload_n hx hb (mz_dg d_Tr_find 35 62 (.iload_n 3) 1 rfl) rfl) ?_
  refine mz_All.cons (sd_icmp_gt hx hb (mz_dg d_Tr_find 36 63 (.if_icmp .gt (36)) 3 rfl) (by decide)) ?_
  refine mz_All.cons (sd_iload hx hb (mz_dg d_Tr_find 37 66 (.iload 5) 2 rfl)) ?_
  refine mz_All.cons (sd_aload_n hx hb (mz_dg d_Tr_find 38 68 (.aload_n 0) 1 rfl) rfl) ?_
  refine mz_All.cons (sd_get (k := 2) hx hb hts (mz_inC in_Tr) hown (T := T_Tr) (N := 5) rfl (by decide) (hts (.fieldLink "MazeForms$Trail" 25 "MazeForms$Trail" "cells" "[I") (List.mem_cons_of_mem _ wm_260)) (fun _ h => h) (mz_dg d_Tr_find 39 69 (.getfield 25) 3 rfl)) ?_
  refine mz_All.cons (sd_alen hx hb (mz_dg d_Tr_find 40 72 (.arraylength) 1 rfl)) ?_
  refine mz_All.cons (sd_icmp_ge hx hb (mz_dg d_Tr_find 41 73 (.if_icmp .ge (26)) 3 rfl) (by decide)) ?_
  refine mz_All.cons (sd_aload_n hx hb (mz_dg d_Tr_find 42 76 (.aload_n 0) 1 rfl) rfl) ?_
  refine mz_All.cons (sd_get (k := 2) hx hb hts (mz_inC in_Tr) hown (T := T_Tr) (N := 5) rfl (by decide) (hts (.fieldLink "MazeForms$Trail" 25 "MazeForms$Trail" "cells" "[I") (List.mem_cons_of_mem _ wm_260)) (fun _ h => h) (mz_dg d_Tr_find 43 77 (.getfield 25) 3 rfl)) ?_
  refine mz_All.cons (sd_iload hx hb (mz_dg d_Tr_find 44 80 (.iload 5) 2 rfl)) ?_
  refine mz_All.cons (sd_iload hx hb (mz_dg d_Tr_find 45 82 (.iload 4) 2 rfl)) ?_
  refine mz_All.cons (sd_iast hx hb (mz_dg d_Tr_find 46 84 (.iastore) 1 rfl)) ?_
  refine mz_All.cons (sd_aload_n hx hb (mz_dg d_Tr_find 47 85 (.aload_n 0) 1 rfl) rfl) ?_
  refine mz_All.cons (sd_iload hx hb (mz_dg d_Tr_find 48 86 (.iload 4) 2 rfl)) ?_
  refine mz_All.cons (sd_calli (T := T_Tr) ⟨hx, hb, hml, hown, hts⟩ (met_Tr_nearerCell w h l) (cwV 1 hts (mz_gV wm_555 wm_557 wm_22 wm_75 wm_558) rfl rfl rfl (by decide) ⟨by decide, by decide⟩) rfl hA rfl (mz_dg d_Tr_find 49 88 (.invokevirtual 47) 3 rfl)) ?_
  refine mz_All.cons (sd_istore hx hb (mz_dg d_Tr_find 50 91 (.istore 4) 2 rfl) (by decide)) ?_
  refine mz_All.cons (sd_iinc hx hb (mz_dg d_Tr_find 51 93 (.iinc 5 (1)) 3 rfl) (by decide) (by decide)) ?_
  refine mz_All.cons (sd_goto hx hb (mz_dg d_Tr_find 52 96 (.goto (-36)) 3 rfl) (by decide)) ?_
  refine mz_All.cons (sd_aload_n hx hb (mz_dg d_Tr_find 53 99 (.aload_n 0) 1 rfl) rfl) ?_
  refine mz_All.cons (sd_iload_n hx hb (mz_dg d_Tr_find 54 100 (.iload_n 3) 1 rfl) rfl) ?_
  refine mz_All.cons (sd_puti (k := 3) hx hb hts (mz_inC in_Tr) ty_Tr ty_Tr_ok nm_Tr hown (T := T_Tr) (N := 5) rfl (by decide) (hts (.fieldLink "MazeForms$Trail" 29 "MazeForms$Trail" "length" "I") (List.mem_cons_of_mem _ wm_261)) (fun _ h => h) rfl rfl (mz_dg d_Tr_find 55 101 (.putfield 29) 3 rfl)) ?_
  refine mz_All.cons (sd_aload_n hx hb (mz_dg d_Tr_find 56 104 (.aload_n 0) 1 rfl) rfl) ?_
  refine mz_All.cons (sd_aload_n hx hb (mz_dg d_Tr_find 57 105 (.aload_n 0) 1 rfl) rfl) ?_
  refine mz_All.cons (sd_get (k := 0) hx hb hts (mz_inC in_Tr) hown (T := T_Tr) (N := 5) rfl (by decide) (hts (.fieldLink "MazeForms$Trail" 9 "MazeForms$Trail" "grid" "LMazeForms$Grid;") (List.mem_cons_of_mem _ wm_258)) (fun _ h => h) (mz_dg d_Tr_find 58 106 (.getfield 9) 3 rfl)) ?_
  refine mz_All.cons (sd_calli (T := T_Gr) ⟨hx, hb, hml, hown, hts⟩ (met_Gr_edition w h l) (cwV 0 hts (mz_gV wm_562 wm_563 wm_564 wm_67 wm_565) rfl rfl rfl (by decide) ⟨by decide, by decide⟩) rfl hA rfl (mz_dg d_Tr_find 59 109 (.invokevirtual 50) 3 rfl)) ?_
  refine mz_All.cons (sd_puti (k := 4) hx hb hts (mz_inC in_Tr) ty_Tr ty_Tr_ok nm_Tr hown (T := T_Tr) (N := 5) rfl (by decide) (hts (.fieldLink "MazeForms$Trail" 53 "MazeForms$Trail" "edition" "I") (List.mem_cons_of_mem _ wm_262)) (fun _ h => h) rfl rfl (mz_dg d_Tr_find 60 112 (.putfield 53) 3 rfl)) ?_
  refine mz_All.cons (sd_iload_n hx hb (mz_dg d_Tr_find 61 115 (.iload_n 3) 1 rfl) rfl) ?_
  refine mz_All.cons (sd_ri hx hb hr hlk (mz_dg d_Tr_find 62 116 (.ireturn) 1 rfl)) ?_
  exact trivial
theorem met_Tr_find (w h : Nat) (l : Launch) : mz_MI l y_Tr_find w_Tr_find 4 92 mz_cls (C_Tr_find w h) := mz_MI_of (I_Tr_find w h) (by decide) rfl (len_Tr_find w h) (ok_Tr_find w h) (snd_Tr_find w h l)
set_option maxRecDepth 20000 in
theorem snd_Tr_toll (w h : Nat) (l : Launch) (p : Program) (e : Env) (s : State) (m : MethodId) (args : Array Value) (below : List Frame) (meth : Method) (c : Code) (D : va_G) (ad0 : Nat → Nat) (cA0 : Nat → ClassId) (A : Nat → Prop) (lay : List mz_E) (Q : Int64 → mz_X → Prop) (F : mz_F p s m args meth c prog_8_method_4_code 7 y_Tr_toll.cls (some .long) w_Tr_toll) (hA : ∀ q, s.heap.size ≤ q → A q) : mz_All (mz_V p l e (mz_rm 3 67) s m args below meth c 7 lay.length (mz_sz lay) D mz_cls (mz_G0 ad0 cA0) A (MQ below (va_Ql Q (mz_B D mz_cls ad0 cA0 lay A) A) args s 0 0 A)) (mz_ql lay Q) (I_Tr_toll w h) := by
  obtain ⟨hx, hb, hml, hown, hts, hr, hlk⟩ := F
  unfold I_Tr_toll
  refine mz_All.cons (sd_aload_n hx hb (mz_dg d_Tr_toll 0 0 (.aload_n 0) 1 rfl) rfl) ?_
  refine mz_All.cons (sd_calli (T := T_Tr) ⟨hx, hb, hml, hown, hts⟩ (met_Tr_isFound w h l) (cwV 0 hts (mz_gV wm_574 wm_576 wm_23 wm_75 wm_577) rfl rfl rfl (by decide) ⟨by decide, by decide⟩) rfl hA rfl (mz_dg d_Tr_toll 1 1 (.invokevirtual 55) 3 rfl)) ?_
  refine mz_All.cons (sd_if_ne hx hb (mz_dg d_Tr_toll 2 4 (.ifCond .ne (7)) 3 rfl) (by decide)) ?_
  refine mz_All.cons (sd_ldc2 hx hb hown (hts _ (List.mem_cons_of_mem _ wm_622)) (mz_dg d_Tr_toll 3 7 (.ldc2_w 59) 3 rfl)) ?_
  refine mz_All.cons (sd_rl hx hb hr hlk (mz_dg d_Tr_toll 4 10 (.lreturn) 1 rfl)) ?_
  refine mz_All.cons (sd_lconst hx hb (mz_dg d_Tr_toll 5 11 (.lconst 0) 1 rfl) (by decide)) ?_
  refine mz_All.cons (sd_lstore_n hx hb (mz_dg d_Tr_toll 6 12 (.lstore_n 1) 1 rfl) rfl (by decide)) ?_
  refine mz_All.cons (sd_iconst hx hb (mz_dg d_Tr_toll 7 13 (.iconst (0)) 1 rfl) (by decide)) ?_
  refine mz_All.cons (sd_istore_n hx hb (mz_dg d_Tr_toll 8 14 (.istore_n 3) 1 rfl) rfl (by decide)) ?_
  refine mz_All.cons (sd_iload_n hx hb (mz_dg d_Tr_toll 9 15 (.iload_n 3) 1 rfl) rfl) ?_
  refine mz_All.cons (sd_aload_n hx hb (mz_dg d_Tr_toll 10 16 (.aload_n 0) 1 rfl) rfl) ?_
  refine mz_All.cons (sd_get (k := 3) hx hb hts (mz_inC in_Tr) hown (T := T_Tr) (N := 5) rfl (by decide) (hts (.fieldLink "MazeForms$Trail" 29 "MazeForms$Trail" "length" "I") (List.mem_cons_of_mem _ wm_261)) (fun _ h => h) (mz_dg d_Tr_toll 11 17 (.getfield 29) 3 rfl)) ?_
  refine mz_All.cons (sd_icmp_ge hx hb (mz_dg d_Tr_toll 12 20 (.if_icmp .ge (48)) 3 rfl) (by decide)) ?_
  refine mz_All.cons (sd_iload_n hx hb (mz_dg d_Tr_toll 13 23 (.iload_n 3) 1 rfl) rfl) ?_
  refine mz_All.cons (sd_if_ne hx hb (mz_dg d_Tr_toll 14 24 (.ifCond .ne (7)) 3 rfl) (by decide)) ?_
  refine mz_All.cons (sd_iconst hx hb (mz_dg d_Tr_toll 15 27 (.iconst (1)) 1 rfl) (by decide)) ?_
  refine mz_All.cons (sd_goto hx hb (mz_dg d_Tr_toll 16 28 (.goto (4)) 3 rfl) (by decide)) ?_
  refine mz_All.cons (sd_iconst hx hb (mz_dg d_Tr_toll 17 31 (.iconst (2)) 1 rfl) (by decide)) ?_
  refine mz_All.cons (sd_istore hx hb (mz_dg d_Tr_toll 18 32 (.istore 4) 2 rfl) (by decide)) ?_
  refine mz_All.cons (sd_aload_n hx hb (mz_dg d_Tr_toll 19 34 (.aload_n 0) 1 rfl) rfl) ?_
  refine mz_All.cons (sd_get (k := 0) hx hb hts (mz_inC in_Tr) hown (T := T_Tr) (N := 5) rfl (by decide) (hts (.fieldLink "MazeForms$Trail" 9 "MazeForms$Trail" "grid" "LMazeForms$Grid;") (List.mem_cons_of_mem _ wm_258)) (fun _ h => h) (mz_dg d_Tr_toll 20 35 (.getfield 9) 3 rfl)) ?_
  refine mz_All.cons (sd_aload_n hx hb (mz_dg d_Tr_toll 21 38 (.aload_n 0) 1 rfl) rfl) ?_
  refine mz_All.cons (sd_iload_n hx hb (mz_dg d_Tr_toll 22 39 (.iload_n 3) 1 rfl) rfl) ?_
  refine mz_All.cons (sd_calli (T := T_Tr) ⟨hx, hb, hml, hown, hts⟩ (met_Tr_cellAtStep w h l) (cwV 1 hts (mz_gV wm_623 wm_571 wm_572 wm_75 wm_573) rfl rfl rfl (by decide) ⟨by decide, by decide⟩) rfl hA rfl (mz_dg d_Tr_toll 23 40 (.invokevirtual 61) 3 rfl)) ?_
  refine mz_All.cons (sd_calli (T := T_Gr) ⟨hx, hb, hml, hown, hts⟩ (met_Gr_openSides w h l) (cwV 1 hts (mz_gV wm_624 wm_585 wm_586 wm_67 wm_587) rfl rfl rfl (by decide) ⟨by decide, by decide⟩) rfl hA rfl (mz_dg d_Tr_toll 24 43 (.invokevirtual 64) 3 rfl)) ?_
  refine mz_All.cons (sd_iload hx hb (mz_dg d_Tr_toll 25 46 (.iload 4) 2 rfl)) ?_
  refine mz_All.cons (sd_isub hx hb (mz_dg d_Tr_toll 26 48 (.isub) 1 rfl)) ?_
  refine mz_All.cons (sd_i2l hx hb (mz_dg d_Tr_toll 27 49 (.i2l) 1 rfl)) ?_
  refine mz_All.cons (sd_lstore hx hb (mz_dg d_Tr_toll 28 50 (.lstore 5) 2 rfl) (by decide)) ?_
  refine mz_All.cons (sd_lload_n hx hb (mz_dg d_Tr_toll 29 52 (.lload_n 1) 1 rfl) rfl) ?_
  refine mz_All.cons (sd_lload hx hb (mz_dg d_Tr_toll 30 53 (.lload 5) 2 rfl)) ?_
  refine mz_All.cons (sd_iload_n hx hb (mz_dg d_Tr_toll 31 55 (.iload_n 3) 1 rfl) rfl) ?_
  refine mz_All.cons (sd_iconst hx hb (mz_dg d_Tr_toll 32 56 (.iconst (1)) 1 rfl) (by decide)) ?_
  refine mz_All.cons (sd_iadd hx hb (mz_dg d_Tr_toll 33 57 (.iadd) 1 rfl)) ?_
  refine mz_All.cons (sd_i2l hx hb (mz_dg d_Tr_toll 34 58 (.i2l) 1 rfl)) ?_
  refine mz_All.cons (sd_lmul hx hb (mz_dg d_Tr_toll 35 59 (.lmul) 1 rfl)) ?_
  refine mz_All.cons (sd_ladd hx hb (mz_dg d_Tr_toll 36 60 (.ladd) 1 rfl)) ?_
  refine mz_All.cons (sd_lstore_n hx hb (mz_dg d_Tr_toll 37 61 (.lstore_n 1) 1 rfl) rfl (by decide)) ?_
  refine mz_All.cons (sd_iinc hx hb (mz_dg d_Tr_toll 38 62 (.iinc 3 (1)) 3 rfl) (by decide) (by decide)) ?_
  refine mz_All.cons (sd_goto hx hb (mz_dg d_Tr_toll 39 65 (.goto (-50)) 3 rfl) (by decide)) ?_
  refine mz_All.cons (sd_lload_n hx hb (mz_dg d_Tr_toll 40 68 (.lload_n 1) 1 rfl) rfl) ?_
  refine mz_All.cons (sd_rl hx hb hr hlk (mz_dg d_Tr_toll 41 69 (.lreturn) 1 rfl)) ?_
  exact trivial
theorem met_Tr_toll (w h : Nat) (l : Launch) : mz_ML l y_Tr_toll w_Tr_toll 3 67 mz_cls (C_Tr_toll w h) := mz_ML_of (I_Tr_toll w h) (by decide) rfl (len_Tr_toll w h) (ok_Tr_toll w h) (snd_Tr_toll w h l)
end
section
/-- the class's face, all but trees -/
def zx_lB (n : Int32) : Bool := !decide (n < 0) && decide (n ≤ 200)
def zx_endB (w h : Nat) (X : mz_X) (n : Int32) (c : Nat) : Bool := zg_free w h X (nI c) && decide (nI (mz_cnt (fun s => zg_open w h X (zg_on w h X (nI c) (nI s))) 4) = n)
def zx_opn (w h D : Nat) (X : mz_X) : Nat := mz_cnt (fun i => zg_open w h X (nI i)) D
def zx_fre (w h : Nat) (X : mz_X) : Nat := mz_cnt (zg_fre X) (w * h)
def zx_trB (w h D : Nat) (X : mz_X) : Bool := decide (nI (zj_all w h X D).2 = nI (zx_opn w h D (zj_all w h X D).1)) && decide (nI (zx_fre w h (zj_all w h X D).1) - nI (zj_all w h X D).2 ≤ 1)
def C_Mf_mask (w h : Nat) : mz_CI := fun lay as X Q => match as with
  | [.ref 0, .int x, .int y, .int v] => lay = mz_lay w h ∧ mz_geo w h ∧ X.1 1 0 = nI w ∧ X.1 1 1 = nI h ∧ (v = 0 ∨ v = 1) ∧ Q (mz_b (zg_maskB w h X (zg_at X x y) v)) (match zg_maskB w h X (zg_at X x y) v with
    | true => zg_maskX w h X (zg_at X x y) v
    | false => X)
  | _ => False
def C_Mf_make (w h : Nat) : mz_CI := fun lay as X Q => match as with
  | [.ref 0, .int way] => lay = mz_lay w h ∧ mz_geo w h ∧ ∃ D N : Nat, zm_D w h D X ∧ N = 1000000 ∧ Q (zm_bV w h D N X way) (zm_bX w h D N X way)
  | _ => False
def C_Mf_doors (w h : Nat) : mz_CI := fun lay as X Q => match as with
  | [.ref 0] => lay = mz_lay w h ∧ mz_geo w h ∧ Q (X.1 1 7) X
  | _ => False
def C_Mf_open (w h : Nat) : mz_CI := fun lay as X Q => match as with
  | [.ref 0, .int x, .int y, .int s] => lay = mz_lay w h ∧ mz_geo w h ∧ Q (mz_b (zg_open w h X (zg_on w h X (zg_at X x y) s))) X
  | _ => False
def C_Mf_set (w h : Nat) : mz_CI := fun lay as X Q => match as with
  | [.ref 0, .int d, .int v] => lay = mz_lay w h ∧ mz_geo w h ∧ (v = 0 ∨ v = 1) ∧ Q (mz_b (zg_setB w h X d v)) (match zg_setB w h X d v with
    | true => zg_setX X d v
    | false => X)
  | _ => False
def C_Mf_loops (w h : Nat) : mz_CI := fun lay as X Q => match as with
  | [.ref 0, .int n] => lay = mz_lay w h ∧ mz_geo w h ∧ (zx_lB n = false → Q (-1) X) ∧ (zx_lB n = true → ∃ D k : Nat, zm_D w h D X ∧ k < 2 ^ 31 ∧ n = nI k ∧ Q ((zm_lo w h D (zm_o0 X) k).1 12 6) (zm_lo w h D (zm_o0 X) k))
  | _ => False
def C_Mf_path (w h : Nat) : mz_CI := fun lay as X Q => match as with
  | [.ref 0, .int a, .int b] => lay = mz_lay w h ∧ mz_geo w h ∧ Q (zt_fi w h X a b).1 (zt_fi w h X a b).2
  | _ => False
def C_Mf_at (w h : Nat) : mz_CI := fun lay as X Q => match as with
  | [.ref 0, .int k] => lay = mz_lay w h ∧ mz_geo w h ∧ Q (zt_at w h X k) X
  | _ => False
def C_Mf_ends (w h : Nat) : mz_CI := fun lay as X Q => match as with
  | [.ref 0, .int n] => lay = mz_lay w h ∧ mz_geo w h ∧ Q (nI (mz_cnt (zx_endB w h X n) (w * h))) X
  | _ => False
def C_Mf_parts (w h : Nat) : mz_CI := fun lay as X Q => match as with
  | [.ref 0] => lay = mz_lay w h ∧ mz_geo w h ∧ ∃ D : Nat, zm_D w h D X ∧ Q (nI (zx_fre w h X) - nI (zj_all w h X D).2) (zj_all w h X D).1
  | _ => False
def C_Mf_isTree (w h : Nat) : mz_CI := fun lay as X Q => match as with
  | [.ref 0] => lay = mz_lay w h ∧ mz_geo w h ∧ ∃ D : Nat, zm_D w h D X ∧ Q (mz_b (zx_trB w h D X)) (zj_all w h X D).1
  | _ => False
def C_Mf_grade (w h : Nat) : mz_CL := fun lay as X Q => match as with
  | [.ref 0] => lay = mz_lay w h ∧ mz_geo w h ∧ (zt_f X = false → Q (-1) X) ∧ (zt_f X = true → ∃ q : Nat, q < 2 ^ 31 ∧ X.1 18 3 = nI q ∧ Q (zt_g w h X q) X)
  | _ => False
def y_Mf_mask : MethodName := ⟨"MazeForms", "mask", "(IIZ)Z"⟩
abbrev w_Mf_mask : List Cond := .code y_Mf_mask prog_1_method_2_code 4 (some .boolean) :: mz_tb
def dl_Mf_mask : List (Nat × ClassFile.Instr × Nat) := [(0, .aload_n 0, 1), (1, .getfield 12, 3), (4, .aload_n 0, 1), (5, .getfield 12, 3), (8, .iload_n 1, 1), (9, .iload_n 2, 1), (10, .invokevirtual 60, 3), (13, .iload_n 3, 1), (14, .invokevirtual 64, 3), (17, .ireturn, 1)]
theorem d_Mf_mask : mz_dec prog_1_method_2_code dl_Mf_mask = true := by decide +kernel
def y_Mf_make : MethodName := ⟨"MazeForms", "make", "(I)I"⟩
abbrev w_Mf_make : List Cond := .code y_Mf_make prog_1_method_3_code 2 (some .int) :: mz_tb
def dl_Mf_make : List (Nat × ClassFile.Instr × Nat) := [(0, .aload_n 0, 1), (1, .getfield 40, 3), (4, .iload_n 1, 1), (5, .invokevirtual 68, 3), (8, .ireturn, 1)]
theorem d_Mf_make : mz_dec prog_1_method_3_code dl_Mf_make = true := by decide +kernel
def y_Mf_doors : MethodName := ⟨"MazeForms", "doors", "()I"⟩
abbrev w_Mf_doors : List Cond := .code y_Mf_doors prog_1_method_4_code 1 (some .int) :: mz_tb
def dl_Mf_doors : List (Nat × ClassFile.Instr × Nat) := [(0, .aload_n 0, 1), (1, .getfield 12, 3), (4, .invokevirtual 72, 3), (7, .ireturn, 1)]
theorem d_Mf_doors : mz_dec prog_1_method_4_code dl_Mf_doors = true := by decide +kernel
def y_Mf_open : MethodName := ⟨"MazeForms", "open", "(III)Z"⟩
abbrev w_Mf_open : List Cond := .code y_Mf_open prog_1_method_5_code 4 (some .boolean) :: mz_tb
def dl_Mf_open : List (Nat × ClassFile.Instr × Nat) := [(0, .aload_n 0, 1), (1, .getfield 12, 3), (4, .aload_n 0, 1), (5, .getfield 12, 3), (8, .aload_n 0, 1), (9, .getfield 12, 3), (12, .iload_n 1, 1), (13, .iload_n 2, 1), (14, .invokevirtual 60, 3), (17, .iload_n 3, 1), (18, .invokevirtual 76, 3), (21, .invokevirtual 79, 3), (24, .ireturn, 1)]
theorem d_Mf_open : mz_dec prog_1_method_5_code dl_Mf_open = true := by decide +kernel
def y_Mf_set : MethodName := ⟨"MazeForms", "set", "(IZ)Z"⟩
abbrev w_Mf_set : List Cond := .code y_Mf_set prog_1_method_6_code 3 (some .boolean) :: mz_tb
def dl_Mf_set : List (Nat × ClassFile.Instr × Nat) := [(0, .aload_n 0, 1), (1, .getfield 12, 3), (4, .iload_n 1, 1), (5, .iload_n 2, 1), (6, .invokevirtual 83, 3), (9, .ireturn, 1)]
theorem d_Mf_set : mz_dec prog_1_method_6_code dl_Mf_set = true := by decide +kernel
def y_Mf_loops : MethodName := ⟨"MazeForms", "loops", "(I)I"⟩
abbrev w_Mf_loops : List Cond := .code y_Mf_loops prog_1_method_7_code 2 (some .int) :: mz_tb
def dl_Mf_loops : List (Nat × ClassFile.Instr × Nat) := [(0, .iload_n 1, 1), (1, .ifCond .lt (10), 3), (4, .iload_n 1, 1), (5, .sipush (200), 3), (8, .if_icmp .le (5), 3), (11, .iconst (-1), 1), (12, .ireturn, 1), (13, .aload_n 0, 1), (14, .getfield 40, 3), (17, .iload_n 1, 1), (18, .invokevirtual 86, 3), (21, .ireturn, 1)]
theorem d_Mf_loops : mz_dec prog_1_method_7_code dl_Mf_loops = true := by decide +kernel
def y_Mf_path : MethodName := ⟨"MazeForms", "path", "(II)I"⟩
abbrev w_Mf_path : List Cond := .code y_Mf_path prog_1_method_8_code 3 (some .int) :: mz_tb
def dl_Mf_path : List (Nat × ClassFile.Instr × Nat) := [(0, .aload_n 0, 1), (1, .getfield 49, 3), (4, .iload_n 1, 1), (5, .iload_n 2, 1), (6, .invokevirtual 89, 3), (9, .ireturn, 1)]
theorem d_Mf_path : mz_dec prog_1_method_8_code dl_Mf_path = true := by decide +kernel
def y_Mf_at : MethodName := ⟨"MazeForms", "at", "(I)I"⟩
abbrev w_Mf_at : List Cond := .code y_Mf_at prog_1_method_9_code 2 (some .int) :: mz_tb
def dl_Mf_at : List (Nat × ClassFile.Instr × Nat) := [(0, .aload_n 0, 1), (1, .getfield 49, 3), (4, .iload_n 1, 1), (5, .invokevirtual 92, 3), (8, .ireturn, 1)]
theorem d_Mf_at : mz_dec prog_1_method_9_code dl_Mf_at = true := by decide +kernel
def y_Mf_ends : MethodName := ⟨"MazeForms", "ends", "(I)I"⟩
abbrev w_Mf_ends : List Cond := .code y_Mf_ends prog_1_method_10_code 4 (some .int) :: mz_tb
def dl_Mf_ends : List (Nat × ClassFile.Instr × Nat) := [(0, .iconst (0), 1), (1, .istore_n 2, 1), (2, .iconst (0), 1), (3, .istore_n 3, 1), (4, .iload_n 3, 1), (5, .aload_n 0, 1), (6, .getfield 12, 3), (9, .invokevirtual 95, 3), (12, .if_icmp .ge (35), 3), (15, .aload_n 0, 1), (16, .getfield 12, 3), (19, .iload_n 3, 1), (20, .invokevirtual 98, 3), (23, .ifCond .eq (18), 3), (26, .aload_n 0, 1), (27, .getfield 12, 3), (30, .iload_n 3, 1), (31, .invokevirtual 101, 3), (34, .iload_n 1, 1), (35, .if_icmp .ne (6), 3), (38, .iinc 2 (1), 3), (41, .iinc 3 (1), 3), (44, .goto (-40), 3), (47, .iload_n 2, 1), (48, .ireturn, 1)]
theorem d_Mf_ends : mz_dec prog_1_method_10_code dl_Mf_ends = true := by decide +kernel
def y_Mf_parts : MethodName := ⟨"MazeForms", "parts", "()I"⟩
abbrev w_Mf_parts : List Cond := .code y_Mf_parts prog_1_method_11_code 1 (some .int) :: mz_tb
def dl_Mf_parts : List (Nat × ClassFile.Instr × Nat) := [(0, .aload_n 0, 1), (1, .getfield 12, 3), (4, .invokevirtual 104, 3), (7, .aload_n 0, 1), (8, .getfield 23, 3), (11, .invokevirtual 107, 3), (14, .isub, 1), (15, .ireturn, 1)]
theorem d_Mf_parts : mz_dec prog_1_method_11_code dl_Mf_parts = true := by decide +kernel
def y_Mf_isTree : MethodName := ⟨"MazeForms", "isTree", "()Z"⟩
abbrev w_Mf_isTree : List Cond := .code y_Mf_isTree prog_1_method_12_code 3 (some .boolean) :: mz_tb
def dl_Mf_isTree : List (Nat × ClassFile.Instr × Nat) := [(0, .aload_n 0, 1), (1, .getfield 23, 3), (4, .invokevirtual 107, 3), (7, .istore_n 1, 1), (8, .iload_n 1, 1), (9, .aload_n 0, 1), (10, .getfield 12, 3), (13, .invokevirtual 110, 3), (16, .if_icmp .ne (7), 3), (19, .iconst (1), 1), (20, .goto (4), 3), (23, .iconst (0), 1), (24, .istore_n 2, 1), (25, .iload_n 2, 1), (26, .ifCond .eq (20), 3), (29, .aload_n 0, 1), (30, .getfield 12, 3), (33, .invokevirtual 104, 3), (36, .iload_n 1, 1), (37, .isub, 1), (38, .iconst (1), 1), (39, .if_icmp .gt (7), 3), (42, .iconst (1), 1), (43, .goto (4), 3), (46, .iconst (0), 1), (47, .ireturn, 1)]
theorem d_Mf_isTree : mz_dec prog_1_method_12_code dl_Mf_isTree = true := by decide +kernel
def y_Mf_grade : MethodName := ⟨"MazeForms", "grade", "()J"⟩
abbrev w_Mf_grade : List Cond := .code y_Mf_grade prog_1_method_13_code 1 (some .long) :: mz_tb
def dl_Mf_grade : List (Nat × ClassFile.Instr × Nat) := [(0, .aload_n 0, 1), (1, .getfield 49, 3), (4, .invokevirtual 113, 3), (7, .lreturn, 1)]
theorem d_Mf_grade : mz_dec prog_1_method_13_code dl_Mf_grade = true := by decide +kernel
def I_Mf_mask (w h : Nat) : List (Nat × mz_Op) := [(0, mz_lda 0 1), (1, mz_gf 8 0 4), (4, mz_lda 0 5), (5, mz_gf 8 0 8), (8, mz_ldi 1 9), (9, mz_ldi 2 10), (10, mz_ci 3 3 (C_Gr_cellAt w h) 13), (13, mz_ldi 3 14), (14, mz_ci 3 3 (C_Gr_setMask w h) 17), (17, mz_rz)]
def I_Mf_make (w h : Nat) : List (Nat × mz_Op) := [(0, mz_lda 0 1), (1, mz_gf 8 2 4), (4, mz_ldi 1 5), (5, mz_ci 2 5 (C_Mk_build w h) 8), (8, mz_ri)]
def I_Mf_doors (w h : Nat) : List (Nat × mz_Op) := [(0, mz_lda 0 1), (1, mz_gf 8 0 4), (4, mz_ci 1 3 (C_Gr_doorCount w h) 7), (7, mz_ri)]
def I_Mf_open (w h : Nat) : List (Nat × mz_Op) := [(0, mz_lda 0 1), (1, mz_gf 8 0 4), (4, mz_lda 0 5), (5, mz_gf 8 0 8), (8, mz_lda 0 9), (9, mz_gf 8 0 12), (12, mz_ldi 1 13), (13, mz_ldi 2 14), (14, mz_ci 3 3 (C_Gr_cellAt w h) 17), (17, mz_ldi 3 18), (18, mz_ci 3 3 (C_Gr_doorOn w h) 21), (21, mz_ci 2 3 (C_Gr_isOpen w h) 24), (24, mz_rz)]
def I_Mf_set (w h : Nat) : List (Nat × mz_Op) := [(0, mz_lda 0 1), (1, mz_gf 8 0 4), (4, mz_ldi 1 5), (5, mz_ldi 2 6), (6, mz_ci 3 3 (C_Gr_setDoor w h) 9), (9, mz_rz)]
def I_Mf_loops (w h : Nat) : List (Nat × mz_Op) := [(0, mz_ldi 1 1), (1, mz_if (fun x => x < 0) 11 4), (4, mz_ldi 1 5), (5, mz_push (.int (200)) 8), (8, mz_ic (fun x y => x ≤ y) 13 11), (11, mz_push (.int (-1)) 12), (12, mz_ri), (13, mz_lda 0 14), (14, mz_gf 8 2 17), (17, mz_ldi 1 18), (18, mz_ci 2 5 (C_Mk_openMore w h) 21), (21, mz_ri)]
def I_Mf_path (w h : Nat) : List (Nat × mz_Op) := [(0, mz_lda 0 1), (1, mz_gf 8 3 4), (4, mz_ldi 1 5), (5, mz_ldi 2 6), (6, mz_ci 3 6 (C_Tr_find w h) 9), (9, mz_ri)]
def I_Mf_at (w h : Nat) : List (Nat × mz_Op) := [(0, mz_lda 0 1), (1, mz_gf 8 3 4), (4, mz_ldi 1 5), (5, mz_ci 2 6 (C_Tr_cellAtStep w h) 8), (8, mz_ri)]
def I_Mf_ends (w h : Nat) : List (Nat × mz_Op) := [(0, mz_push (.int (0)) 1), (1, mz_sti 2 2), (2, mz_push (.int (0)) 3), (3, mz_sti 3 4), (4, mz_ldi 3 5), (5, mz_lda 0 6), (6, mz_gf 8 0 9), (9, mz_ci 1 3 (C_Gr_cellCount w h) 12), (12, mz_ic (fun x y => y ≤ x) 47 15), (15, mz_lda 0 16), (16, mz_gf 8 0 19), (19, mz_ldi 3 20), (20, mz_ci 2 3 (C_Gr_isFree w h) 23), (23, mz_if (fun x => x = 0) 41 26), (26, mz_lda 0 27), (27, mz_gf 8 0 30), (30, mz_ldi 3 31), (31, mz_ci 2 3 (C_Gr_openSides w h) 34), (34, mz_ldi 1 35), (35, mz_ic (fun x y => x = y) 38 41), (38, mz_inc 2 (1) 41), (41, mz_inc 3 (1) 44), (44, mz_go 4), (47, mz_ldi 2 48), (48, mz_ri)]
def I_Mf_parts (w h : Nat) : List (Nat × mz_Op) := [(0, mz_lda 0 1), (1, mz_gf 8 0 4), (4, mz_ci 1 3 (C_Gr_freeCells w h) 7), (7, mz_lda 0 8), (8, mz_gf 8 1 11), (11, mz_ci 1 4 (C_Jo_joinOpenDoors w h) 14), (14, mz_bi (fun x y => x - y) 15), (15, mz_ri)]
def I_Mf_isTree (w h : Nat) : List (Nat × mz_Op) := [(0, mz_lda 0 1), (1, mz_gf 8 1 4), (4, mz_ci 1 4 (C_Jo_joinOpenDoors w h) 7), (7, mz_sti 1 8), (8, mz_ldi 1 9), (9, mz_lda 0 10), (10, mz_gf 8 0 13), (13, mz_ci 1 3 (C_Gr_openDoors w h) 16), (16, mz_ic (fun x y => x = y) 19 23), (19, mz_push (.int (1)) 20), (20, mz_go 24), (23, mz_push (.int (0)) 24), (24, mz_sti 2 25), (25, mz_ldi 2 26), (26, mz_if (fun x => x = 0) 46 29), (29, mz_lda 0 30), (30, mz_gf 8 0 33), (33, mz_ci 1 3 (C_Gr_freeCells w h) 36), (36, mz_ldi 1 37), (37, mz_bi (fun x y => x - y) 38), (38, mz_push (.int (1)) 39), (39, mz_ic (fun x y => y < x) 46 42), (42, mz_push (.int (1)) 43), (43, mz_go 47), (46, mz_push (.int (0)) 47), (47, mz_rz)]
def I_Mf_grade (w h : Nat) : List (Nat × mz_Op) := [(0, mz_lda 0 1), (1, mz_gf 8 3 4), (4, mz_cl 1 6 (C_Tr_toll w h) 7), (7, mz_rl)]
theorem len_Mf_mask (w h : Nat) (lay : List mz_E) (as : List Value) (X : mz_X) (Q : Int32 → mz_X → Prop) (hC : C_Mf_mask w h lay as X Q) : (mz_l0 as).length ≤ 4 := by
  unfold C_Mf_mask at hC
  split at hC
  · exact Nat.le_of_ble_eq_true rfl
  · exact hC.elim
theorem ok_Mf_mask (w h : Nat) (lay : List mz_E) (as : List Value) (X : mz_X) (Q : Int32 → mz_X → Prop) (hC : C_Mf_mask w h lay as X Q) (K : mz_K) (hK : mz_Cl (I_Mf_mask w h) (mz_qi lay Q) K) : K 0 (mz_ent 4 as) [] (lay, X) := by
  unfold C_Mf_mask at hC
  split at hC
  · next x y v =>
    obtain ⟨rfl, g, h0, h1, hv, hq⟩ := hC
    iterate 6 refine hK _ _ _ _ ?_
    refine hK _ _ _ _ (And.intro (rfl) (And.intro (g) ?_))
    refine hK _ _ _ _ ?_
    refine hK _ _ _ _ (And.intro (rfl) (And.intro (g) (And.intro (h0) (And.intro (h1) (And.intro (hv) ?_)))))
    exact hK _ _ _ _ (And.intro (mz_b_01 _) (And.intro rfl hq))
  · exact hC.elim
theorem len_Mf_make (w h : Nat) (lay : List mz_E) (as : List Value) (X : mz_X) (Q : Int32 → mz_X → Prop) (hC : C_Mf_make w h lay as X Q) : (mz_l0 as).length ≤ 2 := by
  unfold C_Mf_make at hC
  split at hC
  · exact Nat.le_of_ble_eq_true rfl
  · exact hC.elim
theorem ok_Mf_make (w h : Nat) (lay : List mz_E) (as : List Value) (X : mz_X) (Q : Int32 → mz_X → Prop) (hC : C_Mf_make w h lay as X Q) (K : mz_K) (hK : mz_Cl (I_Mf_make w h) (mz_qi lay Q) K) : K 0 (mz_ent 2 as) [] (lay, X) := by
  unfold C_Mf_make at hC
  split at hC
  · next way =>
    obtain ⟨rfl, g, D, N, hD, hN, hq⟩ := hC
    iterate 3 refine hK _ _ _ _ ?_
    refine hK _ _ _ _ (And.intro rfl (And.intro g (Exists.intro D (Exists.intro N (And.intro hD (And.intro hN ?_))))))
    exact hK _ _ _ _ (And.intro rfl (hq))
  · exact hC.elim
theorem len_Mf_doors (w h : Nat) (lay : List mz_E) (as : List Value) (X : mz_X) (Q : Int32 → mz_X → Prop) (hC : C_Mf_doors w h lay as X Q) : (mz_l0 as).length ≤ 1 := by
  unfold C_Mf_doors at hC
  split at hC
  · exact Nat.le_of_ble_eq_true rfl
  · exact hC.elim
theorem ok_Mf_doors (w h : Nat) (lay : List mz_E) (as : List Value) (X : mz_X) (Q : Int32 → mz_X → Prop) (hC : C_Mf_doors w h lay as X Q) (K : mz_K) (hK : mz_Cl (I_Mf_doors w h) (mz_qi lay Q) K) : K 0 (mz_ent 1 as) [] (lay, X) := by
  unfold C_Mf_doors at hC
  split at hC
  ·
    obtain ⟨rfl, g, hq⟩ := hC
    iterate 2 refine hK _ _ _ _ ?_
    refine hK _ _ _ _ (And.intro (rfl) (And.intro (g) ?_))
    exact hK _ _ _ _ (And.intro rfl (hq))
  · exact hC.elim
theorem len_Mf_open (w h : Nat) (lay : List mz_E) (as : List Value) (X : mz_X) (Q : Int32 → mz_X → Prop) (hC : C_Mf_open w h lay as X Q) : (mz_l0 as).length ≤ 4 := by
  unfold C_Mf_open at hC
  split at hC
  · exact Nat.le_of_ble_eq_true rfl
  · exact hC.elim
theorem ok_Mf_open (w h : Nat) (lay : List mz_E) (as : List Value) (X : mz_X) (Q : Int32 → mz_X → Prop) (hC : C_Mf_open w h lay as X Q) (K : mz_K) (hK : mz_Cl (I_Mf_open w h) (mz_qi lay Q) K) : K 0 (mz_ent 4 as) [] (lay, X) := by
  unfold C_Mf_open at hC
  split at hC
  · next x y s =>
    obtain ⟨rfl, g, hq⟩ := hC
    iterate 8 refine hK _ _ _ _ ?_
    refine hK _ _ _ _ (And.intro (rfl) (And.intro (g) ?_))
    refine hK _ _ _ _ ?_
    refine hK _ _ _ _ (And.intro (rfl) (And.intro (g) ?_))
    refine hK _ _ _ _ (And.intro (rfl) (And.intro (g) ?_))
    exact hK _ _ _ _ (And.intro (mz_b_01 _) (And.intro rfl hq))
  · exact hC.elim
theorem len_Mf_set (w h : Nat) (lay : List mz_E) (as : List Value) (X : mz_X) (Q : Int32 → mz_X → Prop) (hC : C_Mf_set w h lay as X Q) : (mz_l0 as).length ≤ 3 := by
  unfold C_Mf_set at hC
  split at hC
  · exact Nat.le_of_ble_eq_true rfl
  · exact hC.elim
theorem ok_Mf_set (w h : Nat) (lay : List mz_E) (as : List Value) (X : mz_X) (Q : Int32 → mz_X → Prop) (hC : C_Mf_set w h lay as X Q) (K : mz_K) (hK : mz_Cl (I_Mf_set w h) (mz_qi lay Q) K) : K 0 (mz_ent 3 as) [] (lay, X) := by
  unfold C_Mf_set at hC
  split at hC
  · next d v =>
    obtain ⟨rfl, g, hv, hq⟩ := hC
    iterate 4 refine hK _ _ _ _ ?_
    refine hK _ _ _ _ (And.intro (rfl) (And.intro (g) (And.intro (hv) ?_)))
    exact hK _ _ _ _ (And.intro (mz_b_01 _) (And.intro rfl hq))
  · exact hC.elim
theorem len_Mf_loops (w h : Nat) (lay : List mz_E) (as : List Value) (X : mz_X) (Q : Int32 → mz_X → Prop) (hC : C_Mf_loops w h lay as X Q) : (mz_l0 as).length ≤ 2 := by
  unfold C_Mf_loops at hC
  split at hC
  · exact Nat.le_of_ble_eq_true rfl
  · exact hC.elim
theorem ok_Mf_loops (w h : Nat) (lay : List mz_E) (as : List Value) (X : mz_X) (Q : Int32 → mz_X → Prop) (hC : C_Mf_loops w h lay as X Q) (K : mz_K) (hK : mz_Cl (I_Mf_loops w h) (mz_qi lay Q) K) : K 0 (mz_ent 2 as) [] (lay, X) := by
  unfold C_Mf_loops at hC
  split at hC
  · next n =>
    obtain ⟨rfl, g, hq1, hq2⟩ := hC
    refine hK _ _ _ _ ?_
    refine hK _ _ _ _ (And.intro (fun c1 => ?_) (fun c1 => ?_))
    · refine hK _ _ _ _ ?_
      exact hK _ _ _ _ (And.intro rfl (hq1 (by simp [zx_lB, c1])))
    · iterate 2 refine hK _ _ _ _ ?_
      refine hK _ _ _ _ (And.intro (fun c2 => ?_) (fun c2 => ?_))
      · dsimp only at c2
        obtain ⟨D, k, hD, hk, hn, hq⟩ := hq2 (by simp [zx_lB, c1, c2])
        iterate 3 refine hK _ _ _ _ ?_
        refine hK _ _ _ _ (And.intro rfl (And.intro g (Exists.intro D (Exists.intro k (And.intro hD (And.intro hk (And.intro hn ?_)))))))
        exact hK _ _ _ _ (And.intro rfl (hq))
      · dsimp only at c2
        refine hK _ _ _ _ ?_
        exact hK _ _ _ _ (And.intro rfl (hq1 (by simp [zx_lB, c2])))
  · exact hC.elim
theorem len_Mf_path (w h : Nat) (lay : List mz_E) (as : List Value) (X : mz_X) (Q : Int32 → mz_X → Prop) (hC : C_Mf_path w h lay as X Q) : (mz_l0 as).length ≤ 3 := by
  unfold C_Mf_path at hC
  split at hC
  · exact Nat.le_of_ble_eq_true rfl
  · exact hC.elim
theorem ok_Mf_path (w h : Nat) (lay : List mz_E) (as : List Value) (X : mz_X) (Q : Int32 → mz_X → Prop) (hC : C_Mf_path w h lay as X Q) (K : mz_K) (hK : mz_Cl (I_Mf_path w h) (mz_qi lay Q) K) : K 0 (mz_ent 3 as) [] (lay, X) := by
  unfold C_Mf_path at hC
  split at hC
  · next a b =>
    obtain ⟨rfl, g, hq⟩ := hC
    iterate 4 refine hK _ _ _ _ ?_
    refine hK _ _ _ _ (And.intro (rfl) (And.intro (g) ?_))
    exact hK _ _ _ _ (And.intro rfl (hq))
  · exact hC.elim
theorem len_Mf_at (w h : Nat) (lay : List mz_E) (as : List Value) (X : mz_X) (Q : Int32 → mz_X → Prop) (hC : C_Mf_at w h lay as X Q) : (mz_l0 as).length ≤ 2 := by
  unfold C_Mf_at at hC
  split at hC
  · exact Nat.le_of_ble_eq_true rfl
  · exact hC.elim
theorem ok_Mf_at (w h : Nat) (lay : List mz_E) (as : List Value) (X : mz_X) (Q : Int32 → mz_X → Prop) (hC : C_Mf_at w h lay as X Q) (K : mz_K) (hK : mz_Cl (I_Mf_at w h) (mz_qi lay Q) K) : K 0 (mz_ent 2 as) [] (lay, X) := by
  unfold C_Mf_at at hC
  split at hC
  · next k =>
    obtain ⟨rfl, g, hq⟩ := hC
    iterate 3 refine hK _ _ _ _ ?_
    refine hK _ _ _ _ (And.intro (rfl) (And.intro (g) ?_))
    exact hK _ _ _ _ (And.intro rfl (hq))
  · exact hC.elim
theorem len_Mf_ends (w h : Nat) (lay : List mz_E) (as : List Value) (X : mz_X) (Q : Int32 → mz_X → Prop) (hC : C_Mf_ends w h lay as X Q) : (mz_l0 as).length ≤ 4 := by
  unfold C_Mf_ends at hC
  split at hC
  · exact Nat.le_of_ble_eq_true rfl
  · exact hC.elim
theorem ok_Mf_ends (w h : Nat) (lay : List mz_E) (as : List Value) (X : mz_X) (Q : Int32 → mz_X → Prop) (hC : C_Mf_ends w h lay as X Q) (K : mz_K) (hK : mz_Cl (I_Mf_ends w h) (mz_qi lay Q) K) : K 0 (mz_ent 4 as) [] (lay, X) := by
  unfold C_Mf_ends at hC
  split at hC
  · next n =>
    obtain ⟨rfl, g, hq⟩ := hC
    have hn := mz_geo_n g
    have loop : ∀ (k i : Nat), i + k = w * h → K 4 [some (.ref 0), some (.int n), some (.int (nI (mz_cnt (zx_endB w h X n) i))), some (.int (nI i))] [] (mz_lay w h, X) := by
      intro k
      induction k with
      | zero =>
        intro i hi
        iterate 3 refine hK _ _ _ _ ?_
        refine hK _ _ _ _ (And.intro (rfl) (And.intro (g) ?_))
        refine hK _ _ _ _ (And.intro (fun c1 => ?_) (fun c1 => ?_))
        · refine hK _ _ _ _ ?_
          exact hK _ _ _ _ (And.intro rfl (by rw [show i = w * h by omega]; exact hq))
        · exact absurd (nI_le (a := w * h) (b := i) (by omega) (by omega)) c1
      | succ k ih =>
        intro i hi
        have ih1 := ih (i + 1) (by omega)
        rw [← nI_1] at ih1
        have hf : zx_endB w h X n i = false → K 41 [some (.ref 0), some (.int n), some (.int (nI (mz_cnt (zx_endB w h X n) i))), some (.int (nI i))] [] (mz_lay w h, X) := by
          intro e
          rw [mz_cnt_f e] at ih1
          iterate 2 refine hK _ _ _ _ ?_
          exact ih1
        iterate 3 refine hK _ _ _ _ ?_
        refine hK _ _ _ _ (And.intro (rfl) (And.intro (g) ?_))
        refine hK _ _ _ _ (And.intro (fun c1 => ?_) (fun c1 => ?_))
        · exact absurd c1 (nI_ge (by omega) (by omega))
        · iterate 3 refine hK _ _ _ _ ?_
          refine hK _ _ _ _ (And.intro (rfl) (And.intro (g) ?_))
          refine hK _ _ _ _ (And.intro (fun c2 => ?_) (fun c2 => ?_))
          · exact hf (by simp only [zx_endB]; rw [show zg_free w h X (nI i) = false from mz_b0 c2]; rfl)
          · iterate 3 refine hK _ _ _ _ ?_
            refine hK _ _ _ _ (And.intro (rfl) (And.intro (g) ?_))
            refine hK _ _ _ _ ?_
            refine hK _ _ _ _ (And.intro (fun c3 => ?_) (fun c3 => ?_))
            · have e : zx_endB w h X n i = true := by
                simp only [zx_endB, Bool.and_eq_true, decide_eq_true_eq]
                exact ⟨mz_b1 c2, c3⟩
              rw [← mz_cnt_t e] at ih1
              iterate 3 refine hK _ _ _ _ ?_
              exact ih1
            · exact hf (by simp only [zx_endB, Bool.and_eq_false_iff, decide_eq_false_iff_not]; exact Or.inr c3)
    iterate 4 refine hK _ _ _ _ ?_
    exact loop (w * h) 0 (by omega)
  · exact hC.elim
theorem len_Mf_parts (w h : Nat) (lay : List mz_E) (as : List Value) (X : mz_X) (Q : Int32 → mz_X → Prop) (hC : C_Mf_parts w h lay as X Q) : (mz_l0 as).length ≤ 1 := by
  unfold C_Mf_parts at hC
  split at hC
  · exact Nat.le_of_ble_eq_true rfl
  · exact hC.elim
theorem ok_Mf_parts (w h : Nat) (lay : List mz_E) (as : List Value) (X : mz_X) (Q : Int32 → mz_X → Prop) (hC : C_Mf_parts w h lay as X Q) (K : mz_K) (hK : mz_Cl (I_Mf_parts w h) (mz_qi lay Q) K) : K 0 (mz_ent 1 as) [] (lay, X) := by
  unfold C_Mf_parts at hC
  split at hC
  ·
    obtain ⟨rfl, g, D, hD, hq⟩ := hC
    iterate 2 refine hK _ _ _ _ ?_
    refine hK _ _ _ _ (And.intro (rfl) (And.intro (g) ?_))
    iterate 2 refine hK _ _ _ _ ?_
    refine hK _ _ _ _ (And.intro rfl (And.intro g (Exists.intro D (And.intro hD.1 (And.intro hD.2 ?_)))))
    refine hK _ _ _ _ ?_
    exact hK _ _ _ _ (And.intro rfl (hq))
  · exact hC.elim
theorem len_Mf_isTree (w h : Nat) (lay : List mz_E) (as : List Value) (X : mz_X) (Q : Int32 → mz_X → Prop) (hC : C_Mf_isTree w h lay as X Q) : (mz_l0 as).length ≤ 3 := by
  unfold C_Mf_isTree at hC
  split at hC
  · exact Nat.le_of_ble_eq_true rfl
  · exact hC.elim
theorem ok_Mf_isTree (w h : Nat) (lay : List mz_E) (as : List Value) (X : mz_X) (Q : Int32 → mz_X → Prop) (hC : C_Mf_isTree w h lay as X Q) (K : mz_K) (hK : mz_Cl (I_Mf_isTree w h) (mz_qi lay Q) K) : K 0 (mz_ent 3 as) [] (lay, X) := by
  unfold C_Mf_isTree at hC
  split at hC
  ·
    obtain ⟨rfl, g, D, hD, hq⟩ := hC
    have hd := mz_geo_d g
    have hDd := hD.1
    have h7 : (zj_all w h X D).1.1 1 7 = nI D := by rw [zj_all_keep (by decide), hD.2]
    have h46 : zx_trB w h D X = false → ∀ L2 : Option Value, K 46 [some (.ref 0), some (.int (nI (zj_all w h X D).2)), L2] [] (mz_lay w h, (zj_all w h X D).1) := by
      intro e L2
      rw [e] at hq
      refine hK _ _ _ _ ?_
      exact hK _ _ _ _ (And.intro (Or.inl rfl) (And.intro rfl (hq)))
    iterate 2 refine hK _ _ _ _ ?_
    refine hK _ _ _ _ (And.intro rfl (And.intro g (Exists.intro D (And.intro hD.1 (And.intro hD.2 ?_)))))
    iterate 4 refine hK _ _ _ _ ?_
    refine hK _ _ _ _ (And.intro rfl (And.intro g (Exists.intro D (And.intro (by omega) (And.intro h7 ?_)))))
    refine hK _ _ _ _ (And.intro (fun c1 => ?_) (fun c1 => ?_))
    · iterate 4 refine hK _ _ _ _ ?_
      refine hK _ _ _ _ (And.intro (fun c2 => ?_) (fun c2 => ?_))
      · exact absurd c2 (by decide)
      · iterate 2 refine hK _ _ _ _ ?_
        refine hK _ _ _ _ (And.intro (rfl) (And.intro (g) ?_))
        iterate 3 refine hK _ _ _ _ ?_
        refine hK _ _ _ _ (And.intro (fun c3 => ?_) (fun c3 => ?_))
        · exact h46 (by simp only [zx_trB, Bool.and_eq_false_iff, decide_eq_false_iff_not]; exact Or.inr (Int32.not_le.mpr c3)) _
        · have e : zx_trB w h D X = true := by
            simp only [zx_trB, Bool.and_eq_true, decide_eq_true_eq]
            exact ⟨c1, Int32.not_lt.mp c3⟩
          rw [e] at hq
          iterate 2 refine hK _ _ _ _ ?_
          exact hK _ _ _ _ (And.intro (Or.inr rfl) (And.intro rfl (hq)))
    · iterate 3 refine hK _ _ _ _ ?_
      refine hK _ _ _ _ (And.intro (fun c2 => ?_) (fun c2 => ?_))
      · exact h46 (by simp only [zx_trB, Bool.and_eq_false_iff, decide_eq_false_iff_not]; exact Or.inl c1) _
      · exact absurd rfl c2
  · exact hC.elim
theorem len_Mf_grade (w h : Nat) (lay : List mz_E) (as : List Value) (X : mz_X) (Q : Int64 → mz_X → Prop) (hC : C_Mf_grade w h lay as X Q) : (mz_l0 as).length ≤ 1 := by
  unfold C_Mf_grade at hC
  split at hC
  · exact Nat.le_of_ble_eq_true rfl
  · exact hC.elim
theorem ok_Mf_grade (w h : Nat) (lay : List mz_E) (as : List Value) (X : mz_X) (Q : Int64 → mz_X → Prop) (hC : C_Mf_grade w h lay as X Q) (K : mz_K) (hK : mz_Cl (I_Mf_grade w h) (mz_ql lay Q) K) : K 0 (mz_ent 1 as) [] (lay, X) := by
  unfold C_Mf_grade at hC
  split at hC
  ·
    obtain ⟨rfl, g, hq1, hq2⟩ := hC
    iterate 2 refine hK _ _ _ _ ?_
    refine hK _ _ _ _ (And.intro (rfl) (And.intro (g) ?_))
    refine And.intro (fun e => ?_) (fun e => ?_)
    · exact hK _ _ _ _ (And.intro rfl (hq1 e))
    · obtain ⟨q, hq0, hq3, hq⟩ := hq2 e
      refine ⟨q, hq0, hq3, ?_⟩
      exact hK _ _ _ _ (And.intro rfl (hq))
  · exact hC.elim
set_option maxRecDepth 20000 in
theorem snd_Mf_mask (w h : Nat) (l : Launch) (p : Program) (e : Env) (s : State) (m : MethodId) (args : Array Value) (below : List Frame) (meth : Method) (c : Code) (D : va_G) (ad0 : Nat → Nat) (cA0 : Nat → ClassId) (A : Nat → Prop) (lay : List mz_E) (Q : Int32 → mz_X → Prop) (F : mz_F p s m args meth c prog_1_method_2_code 4 y_Mf_mask.cls (some .boolean) w_Mf_mask) (hA : ∀ q, s.heap.size ≤ q → A q) : mz_All (mz_V p l e (mz_rm 5 111) s m args below meth c 4 lay.length (mz_sz lay) D mz_cls (mz_G0 ad0 cA0) A (MQ below (va_Qi Q (mz_B D mz_cls ad0 cA0 lay A) A) args s 0 0 A)) (mz_qi lay Q) (I_Mf_mask w h) := by
  obtain ⟨hx, hb, hml, hown, hts, hr, hlk⟩ := F
  unfold I_Mf_mask
  refine mz_All.cons (sd_aload_n hx hb (mz_dg d_Mf_mask 0 0 (.aload_n 0) 1 rfl) rfl) ?_
  refine mz_All.cons (sd_get (k := 0) hx hb hts (mz_inC in_Mf) hown (T := T_Mf) (N := 5) rfl (by decide) (hts (.fieldLink "MazeForms" 12 "MazeForms" "grid" "LMazeForms$Grid;") (List.mem_cons_of_mem _ wm_308)) (fun _ h => h) (mz_dg d_Mf_mask 1 1 (.getfield 12) 3 rfl)) ?_
  refine mz_All.cons (sd_aload_n hx hb (mz_dg d_Mf_mask 2 4 (.aload_n 0) 1 rfl) rfl) ?_
  refine mz_All.cons (sd_get (k := 0) hx hb hts (mz_inC in_Mf) hown (T := T_Mf) (N := 5) rfl (by decide) (hts (.fieldLink "MazeForms" 12 "MazeForms" "grid" "LMazeForms$Grid;") (List.mem_cons_of_mem _ wm_308)) (fun _ h => h) (mz_dg d_Mf_mask 3 5 (.getfield 12) 3 rfl)) ?_
  refine mz_All.cons (sd_iload_n hx hb (mz_dg d_Mf_mask 4 8 (.iload_n 1) 1 rfl) rfl) ?_
  refine mz_All.cons (sd_iload_n hx hb (mz_dg d_Mf_mask 5 9 (.iload_n 2) 1 rfl) rfl) ?_
  refine mz_All.cons (sd_calli (T := T_Gr) ⟨hx, hb, hml, hown, hts⟩ (met_Gr_cellAt w h l) (cwV 2 hts (mz_gV wm_328 wm_109 wm_110 wm_67 wm_111) rfl rfl rfl (by decide) ⟨by decide, by decide⟩) rfl hA rfl (mz_dg d_Mf_mask 6 10 (.invokevirtual 60) 3 rfl)) ?_
  refine mz_All.cons (sd_iload_n hx hb (mz_dg d_Mf_mask 7 13 (.iload_n 3) 1 rfl) rfl) ?_
  refine mz_All.cons (sd_calli (T := T_Gr) ⟨hx, hb, hml, hown, hts⟩ (met_Gr_setMask w h l) (cwV 2 hts (mz_gV wm_329 wm_330 wm_331 wm_67 wm_332) rfl rfl rfl (by decide) ⟨by decide, by decide⟩) rfl hA rfl (mz_dg d_Mf_mask 8 14 (.invokevirtual 64) 3 rfl)) ?_
  refine mz_All.cons (sd_rz hx hb hr hlk (mz_dg d_Mf_mask 9 17 (.ireturn) 1 rfl)) ?_
  exact trivial
theorem met_Mf_mask (w h : Nat) (l : Launch) : mz_MI l y_Mf_mask w_Mf_mask 5 111 mz_cls (C_Mf_mask w h) := mz_MI_of (I_Mf_mask w h) (by decide) rfl (len_Mf_mask w h) (ok_Mf_mask w h) (snd_Mf_mask w h l)
set_option maxRecDepth 20000 in
theorem snd_Mf_make (w h : Nat) (l : Launch) (p : Program) (e : Env) (s : State) (m : MethodId) (args : Array Value) (below : List Frame) (meth : Method) (c : Code) (D : va_G) (ad0 : Nat → Nat) (cA0 : Nat → ClassId) (A : Nat → Prop) (lay : List mz_E) (Q : Int32 → mz_X → Prop) (F : mz_F p s m args meth c prog_1_method_3_code 2 y_Mf_make.cls (some .int) w_Mf_make) (hA : ∀ q, s.heap.size ≤ q → A q) : mz_All (mz_V p l e (mz_rm 6 135) s m args below meth c 2 lay.length (mz_sz lay) D mz_cls (mz_G0 ad0 cA0) A (MQ below (va_Qi Q (mz_B D mz_cls ad0 cA0 lay A) A) args s 0 0 A)) (mz_qi lay Q) (I_Mf_make w h) := by
  obtain ⟨hx, hb, hml, hown, hts, hr, hlk⟩ := F
  unfold I_Mf_make
  refine mz_All.cons (sd_aload_n hx hb (mz_dg d_Mf_make 0 0 (.aload_n 0) 1 rfl) rfl) ?_
  refine mz_All.cons (sd_get (k := 2) hx hb hts (mz_inC in_Mf) hown (T := T_Mf) (N := 5) rfl (by decide) (hts (.fieldLink "MazeForms" 40 "MazeForms" "maker" "LMazeForms$Maker;") (List.mem_cons_of_mem _ wm_310)) (fun _ h => h) (mz_dg d_Mf_make 1 1 (.getfield 40) 3 rfl)) ?_
  refine mz_All.cons (sd_iload_n hx hb (mz_dg d_Mf_make 2 4 (.iload_n 1) 1 rfl) rfl) ?_
  refine mz_All.cons (sd_calli (T := T_Mk) ⟨hx, hb, hml, hown, hts⟩ (met_Mk_build w h l) (cwV 1 hts (mz_gV wm_341 wm_342 wm_343 wm_72 wm_344) rfl rfl rfl (by decide) ⟨by decide, by decide⟩) rfl hA rfl (mz_dg d_Mf_make 3 5 (.invokevirtual 68) 3 rfl)) ?_
  refine mz_All.cons (sd_ri hx hb hr hlk (mz_dg d_Mf_make 4 8 (.ireturn) 1 rfl)) ?_
  exact trivial
theorem met_Mf_make (w h : Nat) (l : Launch) : mz_MI l y_Mf_make w_Mf_make 6 135 mz_cls (C_Mf_make w h) := mz_MI_of (I_Mf_make w h) (by decide) rfl (len_Mf_make w h) (ok_Mf_make w h) (snd_Mf_make w h l)
set_option maxRecDepth 20000 in
theorem snd_Mf_doors (w h : Nat) (l : Launch) (p : Program) (e : Env) (s : State) (m : MethodId) (args : Array Value) (below : List Frame) (meth : Method) (c : Code) (D : va_G) (ad0 : Nat → Nat) (cA0 : Nat → ClassId) (A : Nat → Prop) (lay : List mz_E) (Q : Int32 → mz_X → Prop) (F : mz_F p s m args meth c prog_1_method_4_code 1 y_Mf_doors.cls (some .int) w_Mf_doors) (hA : ∀ q, s.heap.size ≤ q → A q) : mz_All (mz_V p l e (mz_rm 1 20) s m args below meth c 1 lay.length (mz_sz lay) D mz_cls (mz_G0 ad0 cA0) A (MQ below (va_Qi Q (mz_B D mz_cls ad0 cA0 lay A) A) args s 0 0 A)) (mz_qi lay Q) (I_Mf_doors w h) := by
  obtain ⟨hx, hb, hml, hown, hts, hr, hlk⟩ := F
  unfold I_Mf_doors
  refine mz_All.cons (sd_aload_n hx hb (mz_dg d_Mf_doors 0 0 (.aload_n 0) 1 rfl) rfl) ?_
  refine mz_All.cons (sd_get (k := 0) hx hb hts (mz_inC in_Mf) hown (T := T_Mf) (N := 5) rfl (by decide) (hts (.fieldLink "MazeForms" 12 "MazeForms" "grid" "LMazeForms$Grid;") (List.mem_cons_of_mem _ wm_308)) (fun _ h => h) (mz_dg d_Mf_doors 1 1 (.getfield 12) 3 rfl)) ?_
  refine mz_All.cons (sd_calli (T := T_Gr) ⟨hx, hb, hml, hown, hts⟩ (met_Gr_doorCount w h l) (cwV 0 hts (mz_gV wm_523 wm_426 wm_427 wm_67 wm_428) rfl rfl rfl (by decide) ⟨by decide, by decide⟩) rfl hA rfl (mz_dg d_Mf_doors 2 4 (.invokevirtual 72) 3 rfl)) ?_
  refine mz_All.cons (sd_ri hx hb hr hlk (mz_dg d_Mf_doors 3 7 (.ireturn) 1 rfl)) ?_
  exact trivial
theorem met_Mf_doors (w h : Nat) (l : Launch) : mz_MI l y_Mf_doors w_Mf_doors 1 20 mz_cls (C_Mf_doors w h) := mz_MI_of (I_Mf_doors w h) (by decide) rfl (len_Mf_doors w h) (ok_Mf_doors w h) (snd_Mf_doors w h l)
set_option maxRecDepth 20000 in
theorem snd_Mf_open (w h : Nat) (l : Launch) (p : Program) (e : Env) (s : State) (m : MethodId) (args : Array Value) (below : List Frame) (meth : Method) (c : Code) (D : va_G) (ad0 : Nat → Nat) (cA0 : Nat → ClassId) (A : Nat → Prop) (lay : List mz_E) (Q : Int32 → mz_X → Prop) (F : mz_F p s m args meth c prog_1_method_5_code 4 y_Mf_open.cls (some .boolean) w_Mf_open) (hA : ∀ q, s.heap.size ≤ q → A q) : mz_All (mz_V p l e (mz_rm 2 44) s m args below meth c 4 lay.length (mz_sz lay) D mz_cls (mz_G0 ad0 cA0) A (MQ below (va_Qi Q (mz_B D mz_cls ad0 cA0 lay A) A) args s 0 0 A)) (mz_qi lay Q) (I_Mf_open w h) := by
  obtain ⟨hx, hb, hml, hown, hts, hr, hlk⟩ := F
  unfold I_Mf_open
  refine mz_All.cons (sd_aload_n hx hb (mz_dg d_Mf_open 0 0 (.aload_n 0) 1 rfl) rfl) ?_
  refine mz_All.cons (sd_get (k := 0) hx hb hts (mz_inC in_Mf) hown (T := T_Mf) (N := 5) rfl (by decide) (hts (.fieldLink "MazeForms" 12 "MazeForms" "grid" "LMazeForms$Grid;") (List.mem_cons_of_mem _ wm_308)) (fun _ h => h) (mz_dg d_Mf_open 1 1 (.getfield 12) 3 rfl)) ?_
  refine mz_All.cons (sd_aload_n hx hb (mz_dg d_Mf_open 2 4 (.aload_n 0) 1 rfl) rfl) ?_
  refine mz_All.cons (sd_get (k := 0) hx hb hts (mz_inC in_Mf) hown (T := T_Mf) (N := 5) rfl (by decide) (hts (.fieldLink "MazeForms" 12 "MazeForms" "grid" "LMazeForms$Grid;") (List.mem_cons_of_mem _ wm_308)) (fun _ h => h) (mz_dg d_Mf_open 3 5 (.getfield 12) 3 rfl)) ?_
  refine mz_All.cons (sd_aload_n hx hb (mz_dg d_Mf_open 4 8 (.aload_n 0) 1 rfl) rfl) ?_
  refine mz_All.cons (sd_get (k := 0) hx hb hts (mz_inC in_Mf) hown (T := T_Mf) (N := 5) rfl (by decide) (hts (.fieldLink "MazeForms" 12 "MazeForms" "grid" "LMazeForms$Grid;") (List.mem_cons_of_mem _ wm_308)) (fun _ h => h) (mz_dg d_Mf_open 5 9 (.getfield 12) 3 rfl)) ?_
  refine mz_All.cons (sd_iload_n hx hb (mz_dg d_Mf_open 6 12 (.iload_n 1) 1 rfl) rfl) ?_
  refine mz_All.cons (sd_iload_n hx hb (mz_dg d_Mf_open 7 13 (.iload_n 2) 1 rfl) rfl) ?_
  refine mz_All.cons (sd_calli (T := T_Gr) ⟨hx, hb, hml, hown, hts⟩ (met_Gr_cellAt w h l) (cwV 2 hts (mz_gV wm_328 wm_109 wm_110 wm_67 wm_111) rfl rfl rfl (by decide) ⟨by decide, by decide⟩) rfl hA rfl (mz_dg d_Mf_open 8 14 (.invokevirtual 60) 3 rfl)) ?_
  refine mz_All.cons (sd_iload_n hx hb (mz_dg d_Mf_open 9 17 (.iload_n 3) 1 rfl) rfl) ?_
  refine mz_All.cons (sd_calli (T := T_Gr) ⟨hx, hb, hml, hown, hts⟩ (met_Gr_doorOn w h l) (cwV 2 hts (mz_gV wm_528 wm_372 wm_373 wm_67 wm_374) rfl rfl rfl (by decide) ⟨by decide, by decide⟩) rfl hA rfl (mz_dg d_Mf_open 10 18 (.invokevirtual 76) 3 rfl)) ?_
  refine mz_All.cons (sd_calli (T := T_Gr) ⟨hx, hb, hml, hown, hts⟩ (met_Gr_isOpen w h l) (cwV 1 hts (mz_gV wm_529 wm_497 wm_498 wm_67 wm_499) rfl rfl rfl (by decide) ⟨by decide, by decide⟩) rfl hA rfl (mz_dg d_Mf_open 11 21 (.invokevirtual 79) 3 rfl)) ?_
  refine mz_All.cons (sd_rz hx hb hr hlk (mz_dg d_Mf_open 12 24 (.ireturn) 1 rfl)) ?_
  exact trivial
theorem met_Mf_open (w h : Nat) (l : Launch) : mz_MI l y_Mf_open w_Mf_open 2 44 mz_cls (C_Mf_open w h) := mz_MI_of (I_Mf_open w h) (by decide) rfl (len_Mf_open w h) (ok_Mf_open w h) (snd_Mf_open w h l)
set_option maxRecDepth 20000 in
theorem snd_Mf_set (w h : Nat) (l : Launch) (p : Program) (e : Env) (s : State) (m : MethodId) (args : Array Value) (below : List Frame) (meth : Method) (c : Code) (D : va_G) (ad0 : Nat → Nat) (cA0 : Nat → ClassId) (A : Nat → Prop) (lay : List mz_E) (Q : Int32 → mz_X → Prop) (F : mz_F p s m args meth c prog_1_method_6_code 3 y_Mf_set.cls (some .boolean) w_Mf_set) (hA : ∀ q, s.heap.size ≤ q → A q) : mz_All (mz_V p l e (mz_rm 2 43) s m args below meth c 3 lay.length (mz_sz lay) D mz_cls (mz_G0 ad0 cA0) A (MQ below (va_Qi Q (mz_B D mz_cls ad0 cA0 lay A) A) args s 0 0 A)) (mz_qi lay Q) (I_Mf_set w h) := by
  obtain ⟨hx, hb, hml, hown, hts, hr, hlk⟩ := F
  unfold I_Mf_set
  refine mz_All.cons (sd_aload_n hx hb (mz_dg d_Mf_set 0 0 (.aload_n 0) 1 rfl) rfl) ?_
  refine mz_All.cons (sd_get (k := 0) hx hb hts (mz_inC in_Mf) hown (T := T_Mf) (N := 5) rfl (by decide) (hts (.fieldLink "MazeForms" 12 "MazeForms" "grid" "LMazeForms$Grid;") (List.mem_cons_of_mem _ wm_308)) (fun _ h => h) (mz_dg d_Mf_set 1 1 (.getfield 12) 3 rfl)) ?_
  refine mz_All.cons (sd_iload_n hx hb (mz_dg d_Mf_set 2 4 (.iload_n 1) 1 rfl) rfl) ?_
  refine mz_All.cons (sd_iload_n hx hb (mz_dg d_Mf_set 3 5 (.iload_n 2) 1 rfl) rfl) ?_
  refine mz_All.cons (sd_calli (T := T_Gr) ⟨hx, hb, hml, hown, hts⟩ (met_Gr_setDoor w h l) (cwV 2 hts (mz_gV wm_534 wm_414 wm_415 wm_67 wm_416) rfl rfl rfl (by decide) ⟨by decide, by decide⟩) rfl hA rfl (mz_dg d_Mf_set 4 6 (.invokevirtual 83) 3 rfl)) ?_
  refine mz_All.cons (sd_rz hx hb hr hlk (mz_dg d_Mf_set 5 9 (.ireturn) 1 rfl)) ?_
  exact trivial
theorem met_Mf_set (w h : Nat) (l : Launch) : mz_MI l y_Mf_set w_Mf_set 2 43 mz_cls (C_Mf_set w h) := mz_MI_of (I_Mf_set w h) (by decide) rfl (len_Mf_set w h) (ok_Mf_set w h) (snd_Mf_set w h l)
set_option maxRecDepth 20000 in
theorem snd_Mf_loops (w h : Nat) (l : Launch) (p : Program) (e : Env) (s : State) (m : MethodId) (args : Array Value) (below : List Frame) (meth : Method) (c : Code) (D : va_G) (ad0 : Nat → Nat) (cA0 : Nat → ClassId) (A : Nat → Prop) (lay : List mz_E) (Q : Int32 → mz_X → Prop) (F : mz_F p s m args meth c prog_1_method_7_code 2 y_Mf_loops.cls (some .int) w_Mf_loops) (hA : ∀ q, s.heap.size ≤ q → A q) : mz_All (mz_V p l e (mz_rm 4 87) s m args below meth c 2 lay.length (mz_sz lay) D mz_cls (mz_G0 ad0 cA0) A (MQ below (va_Qi Q (mz_B D mz_cls ad0 cA0 lay A) A) args s 0 0 A)) (mz_qi lay Q) (I_Mf_loops w h) := by
  obtain ⟨hx, hb, hml, hown, hts, hr, hlk⟩ := F
  unfold I_Mf_loops
  refine mz_All.cons (sd_iload_n hx hb (mz_dg d_Mf_loops 0 0 (.iload_n 1) 1 rfl) rfl) ?_
  refine mz_All.cons (sd_if_lt hx hb (mz_dg d_Mf_loops 1 1 (.ifCond .lt (10)) 3 rfl) (by decide)) ?_
  refine mz_All.cons (sd_iload_n hx hb (mz_dg d_Mf_loops 2 4 (.iload_n 1) 1 rfl) rfl) ?_
  refine mz_All.cons (sd_sipush hx hb (mz_dg d_Mf_loops 3 5 (.sipush (200)) 3 rfl) (by decide)) ?_
  refine mz_All.cons (sd_icmp_le hx hb (mz_dg d_Mf_loops 4 8 (.if_icmp .le (5)) 3 rfl) (by decide)) ?_
  refine mz_All.cons (sd_iconst hx hb (mz_dg d_Mf_loops 5 11 (.iconst (-1)) 1 rfl) (by decide)) ?_
  refine mz_All.cons (sd_ri hx hb hr hlk (mz_dg d_Mf_loops 6 12 (.ireturn) 1 rfl)) ?_
  refine mz_All.cons (sd_aload_n hx hb (mz_dg d_Mf_loops 7 13 (.aload_n 0) 1 rfl) rfl) ?_
  refine mz_All.cons (sd_get (k := 2) hx hb hts (mz_inC in_Mf) hown (T := T_Mf) (N := 5) rfl (by decide) (hts (.fieldLink "MazeForms" 40 "MazeForms" "maker" "LMazeForms$Maker;") (List.mem_cons_of_mem _ wm_310)) (fun _ h => h) (mz_dg d_Mf_loops 8 14 (.getfield 40) 3 rfl)) ?_
  refine mz_All.cons (sd_iload_n hx hb (mz_dg d_Mf_loops 9 17 (.iload_n 1) 1 rfl) rfl) ?_
  refine mz_All.cons (sd_calli (T := T_Mk) ⟨hx, hb, hml, hown, hts⟩ (met_Mk_openMore w h l) (cwV 1 hts (mz_gV wm_539 wm_540 wm_541 wm_72 wm_542) rfl rfl rfl (by decide) ⟨by decide, by decide⟩) rfl hA rfl (mz_dg d_Mf_loops 10 18 (.invokevirtual 86) 3 rfl)) ?_
  refine mz_All.cons (sd_ri hx hb hr hlk (mz_dg d_Mf_loops 11 21 (.ireturn) 1 rfl)) ?_
  exact trivial
theorem met_Mf_loops (w h : Nat) (l : Launch) : mz_MI l y_Mf_loops w_Mf_loops 4 87 mz_cls (C_Mf_loops w h) := mz_MI_of (I_Mf_loops w h) (by decide) rfl (len_Mf_loops w h) (ok_Mf_loops w h) (snd_Mf_loops w h l)
set_option maxRecDepth 20000 in
theorem snd_Mf_path (w h : Nat) (l : Launch) (p : Program) (e : Env) (s : State) (m : MethodId) (args : Array Value) (below : List Frame) (meth : Method) (c : Code) (D : va_G) (ad0 : Nat → Nat) (cA0 : Nat → ClassId) (A : Nat → Prop) (lay : List mz_E) (Q : Int32 → mz_X → Prop) (F : mz_F p s m args meth c prog_1_method_8_code 3 y_Mf_path.cls (some .int) w_Mf_path) (hA : ∀ q, s.heap.size ≤ q → A q) : mz_All (mz_V p l e (mz_rm 5 117) s m args below meth c 3 lay.length (mz_sz lay) D mz_cls (mz_G0 ad0 cA0) A (MQ below (va_Qi Q (mz_B D mz_cls ad0 cA0 lay A) A) args s 0 0 A)) (mz_qi lay Q) (I_Mf_path w h) := by
  obtain ⟨hx, hb, hml, hown, hts, hr, hlk⟩ := F
  unfold I_Mf_path
  refine mz_All.cons (sd_aload_n hx hb (mz_dg d_Mf_path 0 0 (.aload_n 0) 1 rfl) rfl) ?_
  refine mz_All.cons (sd_get (k := 3) hx hb hts (mz_inC in_Mf) hown (T := T_Mf) (N := 5) rfl (by decide) (hts (.fieldLink "MazeForms" 49 "MazeForms" "trail" "LMazeForms$Trail;") (List.mem_cons_of_mem _ wm_311)) (fun _ h => h) (mz_dg d_Mf_path 1 1 (.getfield 49) 3 rfl)) ?_
  refine mz_All.cons (sd_iload_n hx hb (mz_dg d_Mf_path 2 4 (.iload_n 1) 1 rfl) rfl) ?_
  refine mz_All.cons (sd_iload_n hx hb (mz_dg d_Mf_path 3 5 (.iload_n 2) 1 rfl) rfl) ?_
  refine mz_All.cons (sd_calli (T := T_Tr) ⟨hx, hb, hml, hown, hts⟩ (met_Tr_find w h l) (cwV 2 hts (mz_gV wm_548 wm_549 wm_550 wm_75 wm_551) rfl rfl rfl (by decide) ⟨by decide, by decide⟩) rfl hA rfl (mz_dg d_Mf_path 4 6 (.invokevirtual 89) 3 rfl)) ?_
  refine mz_All.cons (sd_ri hx hb hr hlk (mz_dg d_Mf_path 5 9 (.ireturn) 1 rfl)) ?_
  exact trivial
theorem met_Mf_path (w h : Nat) (l : Launch) : mz_MI l y_Mf_path w_Mf_path 5 117 mz_cls (C_Mf_path w h) := mz_MI_of (I_Mf_path w h) (by decide) rfl (len_Mf_path w h) (ok_Mf_path w h) (snd_Mf_path w h l)
set_option maxRecDepth 20000 in
theorem snd_Mf_at (w h : Nat) (l : Launch) (p : Program) (e : Env) (s : State) (m : MethodId) (args : Array Value) (below : List Frame) (meth : Method) (c : Code) (D : va_G) (ad0 : Nat → Nat) (cA0 : Nat → ClassId) (A : Nat → Prop) (lay : List mz_E) (Q : Int32 → mz_X → Prop) (F : mz_F p s m args meth c prog_1_method_9_code 2 y_Mf_at.cls (some .int) w_Mf_at) (hA : ∀ q, s.heap.size ≤ q → A q) : mz_All (mz_V p l e (mz_rm 3 62) s m args below meth c 2 lay.length (mz_sz lay) D mz_cls (mz_G0 ad0 cA0) A (MQ below (va_Qi Q (mz_B D mz_cls ad0 cA0 lay A) A) args s 0 0 A)) (mz_qi lay Q) (I_Mf_at w h) := by
  obtain ⟨hx, hb, hml, hown, hts, hr, hlk⟩ := F
  unfold I_Mf_at
  refine mz_All.cons (sd_aload_n hx hb (mz_dg d_Mf_at 0 0 (.aload_n 0) 1 rfl) rfl) ?_
  refine mz_All.cons (sd_get (k := 3) hx hb hts (mz_inC in_Mf) hown (T := T_Mf) (N := 5) rfl (by decide) (hts (.fieldLink "MazeForms" 49 "MazeForms" "trail" "LMazeForms$Trail;") (List.mem_cons_of_mem _ wm_311)) (fun _ h => h) (mz_dg d_Mf_at 1 1 (.getfield 49) 3 rfl)) ?_
  refine mz_All.cons (sd_iload_n hx hb (mz_dg d_Mf_at 2 4 (.iload_n 1) 1 rfl) rfl) ?_
  refine mz_All.cons (sd_calli (T := T_Tr) ⟨hx, hb, hml, hown, hts⟩ (met_Tr_cellAtStep w h l) (cwV 1 hts (mz_gV wm_570 wm_571 wm_572 wm_75 wm_573) rfl rfl rfl (by decide) ⟨by decide, by decide⟩) rfl hA rfl (mz_dg d_Mf_at 3 5 (.invokevirtual 92) 3 rfl)) ?_
  refine mz_All.cons (sd_ri hx hb hr hlk (mz_dg d_Mf_at 4 8 (.ireturn) 1 rfl)) ?_
  exact trivial
theorem met_Mf_at (w h : Nat) (l : Launch) : mz_MI l y_Mf_at w_Mf_at 3 62 mz_cls (C_Mf_at w h) := mz_MI_of (I_Mf_at w h) (by decide) rfl (len_Mf_at w h) (ok_Mf_at w h) (snd_Mf_at w h l)
set_option maxRecDepth 20000 in
theorem snd_Mf_ends (w h : Nat) (l : Launch) (p : Program) (e : Env) (s : State) (m : MethodId) (args : Array Value) (below : List Frame) (meth : Method) (c : Code) (D : va_G) (ad0 : Nat → Nat) (cA0 : Nat → ClassId) (A : Nat → Prop) (lay : List mz_E) (Q : Int32 → mz_X → Prop) (F : mz_F p s m args meth c prog_1_method_10_code 4 y_Mf_ends.cls (some .int) w_Mf_ends) (hA : ∀ q, s.heap.size ≤ q → A q) : mz_All (mz_V p l e (mz_rm 3 67) s m args below meth c 4 lay.length (mz_sz lay) D mz_cls (mz_G0 ad0 cA0) A (MQ below (va_Qi Q (mz_B D mz_cls ad0 cA0 lay A) A) args s 0 0 A)) (mz_qi lay Q) (I_Mf_ends w h) := by
  obtain ⟨hx, hb, hml, hown, hts, hr, hlk⟩ := F
  unfold I_Mf_ends
  refine mz_All.cons (sd_iconst hx hb (mz_dg d_Mf_ends 0 0 (.iconst (0)) 1 rfl) (by decide)) ?_
  refine mz_All.cons (sd_istore_n hx hb (mz_dg d_Mf_ends 1 1 (.istore_n 2) 1 rfl) rfl (by decide)) ?_
  refine mz_All.cons (sd_iconst hx hb (mz_dg d_Mf_ends 2 2 (.iconst (0)) 1 rfl) (by decide)) ?_
  refine mz_All.cons (sd_istore_n hx hb (mz_dg d_Mf_ends 3 3 (.istore_n 3) 1 rfl) rfl (by decide)) ?_
  refine mz_All.cons (sd_iload_n hx hb (mz_dg d_Mf_ends 4 4 (.iload_n 3) 1 rfl) rfl) ?_
  refine mz_All.cons (sd_aload_n hx hb (mz_dg d_Mf_ends 5 5 (.aload_n 0) 1 rfl) rfl) ?_
  refine mz_All.cons (sd_get (k := 0) hx hb hts (mz_inC in_Mf) hown (T := T_Mf) (N := 5) rfl (by decide) (hts (.fieldLink "MazeForms" 12 "MazeForms" "grid" "LMazeForms$Grid;") (List.mem_cons_of_mem _ wm_308)) (fun _ h => h) (mz_dg d_Mf_ends 6 6 (.getfield 12) 3 rfl)) ?_
  refine mz_All.cons (sd_calli (T := T_Gr) ⟨hx, hb, hml, hown, hts⟩ (met_Gr_cellCount w h l) (cwV 0 hts (mz_gV wm_582 wm_161 wm_162 wm_67 wm_163) rfl rfl rfl (by decide) ⟨by decide, by decide⟩) rfl hA rfl (mz_dg d_Mf_ends 7 9 (.invokevirtual 95) 3 rfl)) ?_
  refine mz_All.cons (sd_icmp_ge hx hb (mz_dg d_Mf_ends 8 12 (.if_icmp .ge (35)) 3 rfl) (by decide)) ?_
  refine mz_All.cons (sd_aload_n hx hb (mz_dg d_Mf_ends 9 15 (.aload_n 0) 1 rfl) rfl) ?_
  refine mz_All.cons (sd_get (k := 0) hx hb hts (mz_inC in_Mf) hown (T := T_Mf) (N := 5) rfl (by decide) (hts (.fieldLink "MazeForms" 12 "MazeForms" "grid" "LMazeForms$Grid;") (List.mem_cons_of_mem _ wm_308)) (fun _ h => h) (mz_dg d_Mf_ends 10 16 (.getfield 12) 3 rfl)) ?_
  refine mz_All.cons (sd_iload_n hx hb (mz_dg d_Mf_ends 11 19 (.iload_n 3) 1 rfl) rfl) ?_
  refine mz_All.cons (sd_calli (T := T_Gr) ⟨hx, hb, hml, hown, hts⟩ (met_Gr_isFree w h l) (cwV 1 hts (mz_gV wm_583 wm_117 wm_118 wm_67 wm_119) rfl rfl rfl (by decide) ⟨by decide, by decide⟩) rfl hA rfl (mz_dg d_Mf_ends 12 20 (.invokevirtual 98) 3 rfl)) ?_
  refine mz_All.cons (sd_if_eq hx hb (mz_dg d_Mf_ends 13 23 (.ifCond .eq (18)) 3 rfl) (by decide)) ?_
  refine mz_All.cons (sd_aload_n hx hb (mz_dg d_Mf_ends 14 26 (.aload_n 0) 1 rfl) rfl) ?_
  refine mz_All.cons (sd_get (k := 0) hx hb hts (mz_inC in_Mf) hown (T := T_Mf) (N := 5) rfl (by decide) (hts (.fieldLink "MazeForms" 12 "MazeForms" "grid" "LMazeForms$Grid;") (List.mem_cons_of_mem _ wm_308)) (fun _ h => h) (mz_dg d_Mf_ends 15 27 (.getfield 12) 3 rfl)) ?_
  refine mz_All.cons (sd_iload_n hx hb (mz_dg d_Mf_ends 16 30 (.iload_n 3) 1 rfl) rfl) ?_
  refine mz_All.cons (sd_calli (T := T_Gr) ⟨hx, hb, hml, hown, hts⟩ (met_Gr_openSides w h l) (cwV 1 hts (mz_gV wm_584 wm_585 wm_586 wm_67 wm_587) rfl rfl rfl (by decide) ⟨by decide, by decide⟩) rfl hA rfl (mz_dg d_Mf_ends 17 31 (.invokevirtual 101) 3 rfl)) ?_
  refine mz_All.cons (sd_iload_n hx hb (mz_dg d_Mf_ends 18 34 (.iload_n 1) 1 rfl) rfl) ?_
  refine mz_All.cons (sd_icmp_ne hx hb (mz_dg d_Mf_ends 19 35 (.if_icmp .ne (6)) 3 rfl) (by decide)) ?_
  refine mz_All.cons (sd_iinc hx hb (mz_dg d_Mf_ends 20 38 (.iinc 2 (1)) 3 rfl) (by decide) (by decide)) ?_
  refine mz_All.cons (sd_iinc hx hb (mz_dg d_Mf_ends 21 41 (.iinc 3 (1)) 3 rfl) (by decide) (by decide)) ?_
  refine mz_All.cons (sd_goto hx hb (mz_dg d_Mf_ends 22 44 (.goto (-40)) 3 rfl) (by decide)) ?_
  refine mz_All.cons (sd_iload_n hx hb (mz_dg d_Mf_ends 23 47 (.iload_n 2) 1 rfl) rfl) ?_
  refine mz_All.cons (sd_ri hx hb hr hlk (mz_dg d_Mf_ends 24 48 (.ireturn) 1 rfl)) ?_
  exact trivial
theorem met_Mf_ends (w h : Nat) (l : Launch) : mz_MI l y_Mf_ends w_Mf_ends 3 67 mz_cls (C_Mf_ends w h) := mz_MI_of (I_Mf_ends w h) (by decide) rfl (len_Mf_ends w h) (ok_Mf_ends w h) (snd_Mf_ends w h l)
set_option maxRecDepth 20000 in
theorem snd_Mf_parts (w h : Nat) (l : Launch) (p : Program) (e : Env) (s : State) (m : MethodId) (args : Array Value) (below : List Frame) (meth : Method) (c : Code) (D : va_G) (ad0 : Nat → Nat) (cA0 : Nat → ClassId) (A : Nat → Prop) (lay : List mz_E) (Q : Int32 → mz_X → Prop) (F : mz_F p s m args meth c prog_1_method_11_code 1 y_Mf_parts.cls (some .int) w_Mf_parts) (hA : ∀ q, s.heap.size ≤ q → A q) : mz_All (mz_V p l e (mz_rm 4 89) s m args below meth c 1 lay.length (mz_sz lay) D mz_cls (mz_G0 ad0 cA0) A (MQ below (va_Qi Q (mz_B D mz_cls ad0 cA0 lay A) A) args s 0 0 A)) (mz_qi lay Q) (I_Mf_parts w h) := by
  obtain ⟨hx, hb, hml, hown, hts, hr, hlk⟩ := F
  unfold I_Mf_parts
  refine mz_All.cons (sd_aload_n hx hb (mz_dg d_Mf_parts 0 0 (.aload_n 0) 1 rfl) rfl) ?_
  refine mz_All.cons (sd_get (k := 0) hx hb hts (mz_inC in_Mf) hown (T := T_Mf) (N := 5) rfl (by decide) (hts (.fieldLink "MazeForms" 12 "MazeForms" "grid" "LMazeForms$Grid;") (List.mem_cons_of_mem _ wm_308)) (fun _ h => h) (mz_dg d_Mf_parts 1 1 (.getfield 12) 3 rfl)) ?_
  refine mz_All.cons (sd_calli (T := T_Gr) ⟨hx, hb, hml, hown, hts⟩ (met_Gr_freeCells w h l) (cwV 0 hts (mz_gV wm_594 wm_595 wm_596 wm_67 wm_597) rfl rfl rfl (by decide) ⟨by decide, by decide⟩) rfl hA rfl (mz_dg d_Mf_parts 2 4 (.invokevirtual 104) 3 rfl)) ?_
  refine mz_All.cons (sd_aload_n hx hb (mz_dg d_Mf_parts 3 7 (.aload_n 0) 1 rfl) rfl) ?_
  refine mz_All.cons (sd_get (k := 1) hx hb hts (mz_inC in_Mf) hown (T := T_Mf) (N := 5) rfl (by decide) (hts (.fieldLink "MazeForms" 23 "MazeForms" "joined" "LMazeForms$Joined;") (List.mem_cons_of_mem _ wm_309)) (fun _ h => h) (mz_dg d_Mf_parts 4 8 (.getfield 23) 3 rfl)) ?_
  refine mz_All.cons (sd_calli (T := T_Jo) ⟨hx, hb, hml, hown, hts⟩ (met_Jo_joinOpenDoors w h l) (cwV 0 hts (mz_gV wm_598 wm_599 wm_600 wm_70 wm_601) rfl rfl rfl (by decide) ⟨by decide, by decide⟩) rfl hA rfl (mz_dg d_Mf_parts 5 11 (.invokevirtual 107) 3 rfl)) ?_
  refine mz_All.cons (sd_isub hx hb (mz_dg d_Mf_parts 6 14 (.isub) 1 rfl)) ?_
  refine mz_All.cons (sd_ri hx hb hr hlk (mz_dg d_Mf_parts 7 15 (.ireturn) 1 rfl)) ?_
  exact trivial
theorem met_Mf_parts (w h : Nat) (l : Launch) : mz_MI l y_Mf_parts w_Mf_parts 4 89 mz_cls (C_Mf_parts w h) := mz_MI_of (I_Mf_parts w h) (by decide) rfl (len_Mf_parts w h) (ok_Mf_parts w h) (snd_Mf_parts w h l)
set_option maxRecDepth 20000 in
theorem snd_Mf_isTree (w h : Nat) (l : Launch) (p : Program) (e : Env) (s : State) (m : MethodId) (args : Array Value) (below : List Frame) (meth : Method) (c : Code) (D : va_G) (ad0 : Nat → Nat) (cA0 : Nat → ClassId) (A : Nat → Prop) (lay : List mz_E) (Q : Int32 → mz_X → Prop) (F : mz_F p s m args meth c prog_1_method_12_code 3 y_Mf_isTree.cls (some .boolean) w_Mf_isTree) (hA : ∀ q, s.heap.size ≤ q → A q) : mz_All (mz_V p l e (mz_rm 4 89) s m args below meth c 3 lay.length (mz_sz lay) D mz_cls (mz_G0 ad0 cA0) A (MQ below (va_Qi Q (mz_B D mz_cls ad0 cA0 lay A) A) args s 0 0 A)) (mz_qi lay Q) (I_Mf_isTree w h) := by
  obtain ⟨hx, hb, hml, hown, hts, hr, hlk⟩ := F
  unfold I_Mf_isTree
  refine mz_All.cons (sd_aload_n hx hb (mz_dg d_Mf_isTree 0 0 (.aload_n 0) 1 rfl) rfl) ?_
  refine mz_All.cons (sd_get (k := 1) hx hb hts (mz_inC in_Mf) hown (T := T_Mf) (N := 5) rfl (by decide) (hts (.fieldLink "MazeForms" 23 "MazeForms" "joined" "LMazeForms$Joined;") (List.mem_cons_of_mem _ wm_309)) (fun _ h => h) (mz_dg d_Mf_isTree 1 1 (.getfield 23) 3 rfl)) ?_
  refine mz_All.cons (sd_calli (T := T_Jo) ⟨hx, hb, hml, hown, hts⟩ (met_Jo_joinOpenDoors w h l) (cwV 0 hts (mz_gV wm_598 wm_599 wm_600 wm_70 wm_601) rfl rfl rfl (by decide) ⟨by decide, by decide⟩) rfl hA rfl (mz_dg d_Mf_isTree 2 4 (.invokevirtual 107) 3 rfl)) ?_
  refine mz_All.cons (sd_istore_n hx hb (mz_dg d_Mf_isTree 3 7 (.istore_n 1) 1 rfl) rfl (by decide)) ?_
  refine mz_All.cons (sd_iload_n hx hb (mz_dg d_Mf_isTree 4 8 (.iload_n 1) 1 rfl) rfl) ?_
  refine mz_All.cons (sd_aload_n hx hb (mz_dg d_Mf_isTree 5 9 (.aload_n 0) 1 rfl) rfl) ?_
  refine mz_All.cons (sd_get (k := 0) hx hb hts (mz_inC in_Mf) hown (T := T_Mf) (N := 5) rfl (by decide) (hts (.fieldLink "MazeForms" 12 "MazeForms" "grid" "LMazeForms$Grid;") (List.mem_cons_of_mem _ wm_308)) (fun _ h => h) (mz_dg d_Mf_isTree 6 10 (.getfield 12) 3 rfl)) ?_
  refine mz_All.cons (sd_calli (T := T_Gr) ⟨hx, hb, hml, hown, hts⟩ (met_Gr_openDoors w h l) (cwV 0 hts (mz_gV wm_610 wm_611 wm_612 wm_67 wm_613) rfl rfl rfl (by decide) ⟨by decide, by decide⟩) rfl hA rfl (mz_dg d_Mf_isTree 7 13 (.invokevirtual 110) 3 rfl)) ?_
  refine mz_All.cons (sd_icmp_ne hx hb (mz_dg d_Mf_isTree 8 16 (.if_icmp .ne (7)) 3 rfl) (by decide)) ?_
  refine mz_All.cons (sd_iconst hx hb (mz_dg d_Mf_isTree 9 19 (.iconst (1)) 1 rfl) (by decide)) ?_
  refine mz_All.cons (sd_goto hx hb (mz_dg d_Mf_isTree 10 20 (.goto (4)) 3 rfl) (by decide)) ?_
  refine mz_All.cons (sd_iconst hx hb (mz_dg d_Mf_isTree 11 23 (.iconst (0)) 1 rfl) (by decide)) ?_
  refine mz_All.cons (sd_istore_n hx hb (mz_dg d_Mf_isTree 12 24 (.istore_n 2) 1 rfl) rfl (by decide)) ?_
  refine mz_All.cons (sd_iload_n hx hb (mz_dg d_Mf_isTree 13 25 (.iload_n 2) 1 rfl) rfl) ?_
  refine mz_All.cons (sd_if_eq hx hb (mz_dg d_Mf_isTree 14 26 (.ifCond .eq (20)) 3 rfl) (by decide)) ?_
  refine mz_All.cons (sd_aload_n hx hb (mz_dg d_Mf_isTree 15 29 (.aload_n 0) 1 rfl) rfl) ?_
  refine mz_All.cons (sd_get (k := 0) hx hb hts (mz_inC in_Mf) hown (T := T_Mf) (N := 5) rfl (by decide) (hts (.fieldLink "MazeForms" 12 "MazeForms" "grid" "LMazeForms$Grid;") (List.mem_cons_of_mem _ wm_308)) (fun _ h => h) (mz_dg d_Mf_isTree 16 30 (.getfield 12) 3 rfl)) ?_
  refine mz_All.cons (sd_calli (T := T_Gr) ⟨hx, hb, hml, hown, hts⟩ (met_Gr_freeCells w h l) (cwV 0 hts (mz_gV wm_594 wm_595 wm_596 wm_67 wm_597) rfl rfl rfl (by decide) ⟨by decide, by decide⟩) rfl hA rfl (mz_dg d_Mf_isTree 17 33 (.invokevirtual 104) 3 rfl)) ?_
  refine mz_All.cons (sd_iload_n hx hb (mz_dg d_Mf_isTree 18 36 (.iload_n 1) 1 rfl) rfl) ?_
  refine mz_All.cons (sd_isub hx hb (mz_dg d_Mf_isTree 19 37 (.isub) 1 rfl)) ?_
  refine mz_All.cons (sd_iconst hx hb (mz_dg d_Mf_isTree 20 38 (.iconst (1)) 1 rfl) (by decide)) ?_
  refine mz_All.cons (sd_icmp_gt hx hb (mz_dg d_Mf_isTree 21 39 (.if_icmp .gt (7)) 3 rfl) (by decide)) ?_
  refine mz_All.cons (sd_iconst hx hb (mz_dg d_Mf_isTree 22 42 (.iconst (1)) 1 rfl) (by decide)) ?_
  refine mz_All.cons (sd_goto hx hb (mz_dg d_Mf_isTree 23 43 (.goto (4)) 3 rfl) (by decide)) ?_
  refine mz_All.cons (sd_iconst hx hb (mz_dg d_Mf_isTree 24 46 (.iconst (0)) 1 rfl) (by decide)) ?_
  refine mz_All.cons (sd_rz hx hb hr hlk (mz_dg d_Mf_isTree 25 47 (.ireturn) 1 rfl)) ?_
  exact trivial
theorem met_Mf_isTree (w h : Nat) (l : Launch) : mz_MI l y_Mf_isTree w_Mf_isTree 4 89 mz_cls (C_Mf_isTree w h) := mz_MI_of (I_Mf_isTree w h) (by decide) rfl (len_Mf_isTree w h) (ok_Mf_isTree w h) (snd_Mf_isTree w h l)
set_option maxRecDepth 20000 in
theorem snd_Mf_grade (w h : Nat) (l : Launch) (p : Program) (e : Env) (s : State) (m : MethodId) (args : Array Value) (below : List Frame) (meth : Method) (c : Code) (D : va_G) (ad0 : Nat → Nat) (cA0 : Nat → ClassId) (A : Nat → Prop) (lay : List mz_E) (Q : Int64 → mz_X → Prop) (F : mz_F p s m args meth c prog_1_method_13_code 1 y_Mf_grade.cls (some .long) w_Mf_grade) (hA : ∀ q, s.heap.size ≤ q → A q) : mz_All (mz_V p l e (mz_rm 4 93) s m args below meth c 1 lay.length (mz_sz lay) D mz_cls (mz_G0 ad0 cA0) A (MQ below (va_Ql Q (mz_B D mz_cls ad0 cA0 lay A) A) args s 0 0 A)) (mz_ql lay Q) (I_Mf_grade w h) := by
  obtain ⟨hx, hb, hml, hown, hts, hr, hlk⟩ := F
  unfold I_Mf_grade
  refine mz_All.cons (sd_aload_n hx hb (mz_dg d_Mf_grade 0 0 (.aload_n 0) 1 rfl) rfl) ?_
  refine mz_All.cons (sd_get (k := 3) hx hb hts (mz_inC in_Mf) hown (T := T_Mf) (N := 5) rfl (by decide) (hts (.fieldLink "MazeForms" 49 "MazeForms" "trail" "LMazeForms$Trail;") (List.mem_cons_of_mem _ wm_311)) (fun _ h => h) (mz_dg d_Mf_grade 1 1 (.getfield 49) 3 rfl)) ?_
  refine mz_All.cons (sd_calll (T := T_Tr) ⟨hx, hb, hml, hown, hts⟩ (met_Tr_toll w h l) (cwV 0 hts (mz_gV wm_618 wm_619 wm_620 wm_75 wm_621) rfl rfl rfl (by decide) ⟨by decide, by decide⟩) rfl hA rfl (mz_dg d_Mf_grade 2 4 (.invokevirtual 113) 3 rfl)) ?_
  refine mz_All.cons (sd_rl hx hb hr hlk (mz_dg d_Mf_grade 3 7 (.lreturn) 1 rfl)) ?_
  exact trivial
theorem met_Mf_grade (w h : Nat) (l : Launch) : mz_ML l y_Mf_grade w_Mf_grade 4 93 mz_cls (C_Mf_grade w h) := mz_ML_of (I_Mf_grade w h) (by decide) rfl (len_Mf_grade w h) (ok_Mf_grade w h) (snd_Mf_grade w h l)
end
section
/-- TreeCount (place 20: band 1, stride 2, size 5 are ints, prime 6 a long), placeOf (place 21), entries (place 22) -/
abbrev zq_E (w h : Nat) : Nat := w * h * (3 * w + 1)
def zq_lr (X : mz_X) (s : Int32) : Int32 := if s + X.1 20 1 < X.1 20 5 - 1 then s + X.1 20 1 else X.1 20 5 - 1
def zq_lc (X : mz_X) (s : Int32) : Int32 := if s + 2 * X.1 20 1 < X.1 20 5 - 1 then s + 2 * X.1 20 1 else X.1 20 5 - 1
def zq_in (X : mz_X) (r c : Int32) : Bool := !decide (r < 0) && !decide (X.1 20 5 ≤ r) && !decide (c < 0) && !decide (X.1 20 5 ≤ c)
def zq_he (X : mz_X) (r c : Int32) : Bool := !decide (c - r < -(X.1 20 1)) && !decide (2 * X.1 20 1 < c - r)
def zq_sl (X : mz_X) (r c : Int32) : Int32 := r * X.1 20 2 + c - r + X.1 20 1
def zq_sB (w h : Nat) (X : mz_X) (r c : Int32) : Bool := zq_in X r c && zq_he X r c && !decide (zq_sl X r c < 0) && !decide (nI (zq_E w h) ≤ zq_sl X r c)
def zq_slot (w h : Nat) (X : mz_X) (r c : Int32) : Int32 := match zq_sB w h X r c with
  | true => zq_sl X r c
  | false => -1
def zq_e (w h : Nat) (X : mz_X) (r c : Int32) : Int64 := match decide (zq_slot w h X r c = -1) with
  | true => 0
  | false => X.2 22 (zq_slot w h X r c).toNatClampNeg
def zq_add (w h : Nat) (X : mz_X) (r c : Int32) (v : Int64) : mz_X := match decide (zq_slot w h X r c = -1) with
  | true => X
  | false => (X.1, mz_up X.2 22 (zq_slot w h X r c).toNatClampNeg (X.2 22 (zq_slot w h X r c).toNatClampNeg + v))
def zq_pl (w h : Nat) (X : mz_X) (c : Int32) : Int32 := match mz_lt c (w * h) with
  | true => X.1 21 c.toNatClampNeg
  | false => -1
def zq_nm (w h : Nat) (X : mz_X) (k : Nat) : mz_X := (fun p j => if p = 21 ∧ j < k then nI (mz_cnt (fun c => zg_free w h X (nI c)) j) else X.1 p j, X.2)
def zq_tm (X : mz_X) (a b : Int64) : Int64 := match decide (2 ≤ X.2 20 6) with
  | true => a * b - a * b / X.2 20 6 * X.2 20 6
  | false => 0
/-- a door's four entries -/
def zq_fa (w h : Nat) (X : mz_X) (d : Nat) : Int32 := zq_pl w h X (zg_les w h X (nI d))
def zq_fb (w h : Nat) (X : mz_X) (d : Nat) : Int32 := zq_pl w h X (zg_gre w h X (nI d))
def zq_f1 (w h : Nat) (X : mz_X) (d : Nat) : mz_X := zq_add w h (zq_add w h X (zq_fa w h X d) (zq_fa w h X d) 1) (zq_fb w h X d) (zq_fb w h X d) 1
def zq_f2 (w h : Nat) (X : mz_X) (d : Nat) : mz_X := zq_add w h (zq_f1 w h X d) (zq_fa w h X d) (zq_fb w h X d) ((zq_f1 w h X d).2 20 6 - 1)
def zq_fS (w h : Nat) (X : mz_X) (d : Nat) : mz_X := zq_add w h (zq_f2 w h X d) (zq_fb w h X d) (zq_fa w h X d) ((zq_f2 w h X d).2 20 6 - 1)
def zq_f (w h : Nat) (X : mz_X) (k : Nat) : mz_X := match k with
  | 0 => (X.1, mz_fil X.2 22 (zq_E w h) 0)
  | j + 1 => zq_fS w h (zq_f w h X j) j
def C_Tc_lastRow (w h : Nat) : mz_CI := fun lay as X Q => match as with
  | [.ref 20, .int s] => lay = mz_lay w h ∧ mz_geo w h ∧ Q (zq_lr X s) X
  | _ => False
def C_Tc_lastColumn (w h : Nat) : mz_CI := fun lay as X Q => match as with
  | [.ref 20, .int s] => lay = mz_lay w h ∧ mz_geo w h ∧ Q (zq_lc X s) X
  | _ => False
def C_Tc_slotOf (w h : Nat) : mz_CI := fun lay as X Q => match as with
  | [.ref 20, .int r, .int c] => lay = mz_lay w h ∧ mz_geo w h ∧ Q (zq_slot w h X r c) X
  | _ => False
def C_Tc_entry (w h : Nat) : mz_CL := fun lay as X Q => match as with
  | [.ref 20, .int r, .int c] => lay = mz_lay w h ∧ mz_geo w h ∧ Q (zq_e w h X r c) X
  | _ => False
def C_Tc_addTo (w h : Nat) : mz_CV := fun lay as X Q => match as with
  | [.ref 20, .int r, .int c, .long v] => lay = mz_lay w h ∧ mz_geo w h ∧ Q (zq_add w h X r c v)
  | _ => False
def C_Tc_placeIn (w h : Nat) : mz_CI := fun lay as X Q => match as with
  | [.ref 20, .int c] => lay = mz_lay w h ∧ mz_geo w h ∧ Q (zq_pl w h X c) X
  | _ => False
def C_Tc_numberFreeCells (w h : Nat) : mz_CI := fun lay as X Q => match as with
  | [.ref 20] => lay = mz_lay w h ∧ mz_geo w h ∧ Q (nI (mz_cnt (fun c => zg_free w h X (nI c)) (w * h))) (zq_nm w h X (w * h))
  | _ => False
def C_Tc_times (w h : Nat) : mz_CL := fun lay as X Q => match as with
  | [.ref 20, .long a, .long b] => lay = mz_lay w h ∧ mz_geo w h ∧ Q (zq_tm X a b) X
  | _ => False
def C_Tc_fillIn (w h : Nat) : mz_CV := fun lay as X Q => match as with
  | [.ref 20] => lay = mz_lay w h ∧ mz_geo w h ∧ ∃ D : Nat, zm_D w h D X ∧ Q (zq_f w h X D)
  | _ => False
def y_Tc_lastRow : MethodName := ⟨"MazeForms$TreeCount", "lastRow", "(I)I"⟩
abbrev w_Tc_lastRow : List Cond := .code y_Tc_lastRow prog_9_method_11_code 2 (some .int) :: mz_tb
def dl_Tc_lastRow : List (Nat × ClassFile.Instr × Nat) := [(0, .aload_n 0, 1), (1, .getfield 50, 3), (4, .iconst (1), 1), (5, .isub, 1), (6, .iload_n 1, 1), (7, .aload_n 0, 1), (8, .getfield 21, 3), (11, .iadd, 1), (12, .invokestatic 116, 3), (15, .ireturn, 1)]
theorem d_Tc_lastRow : mz_dec prog_9_method_11_code dl_Tc_lastRow = true := by decide +kernel
def y_Tc_lastColumn : MethodName := ⟨"MazeForms$TreeCount", "lastColumn", "(I)I"⟩
abbrev w_Tc_lastColumn : List Cond := .code y_Tc_lastColumn prog_9_method_12_code 2 (some .int) :: mz_tb
def dl_Tc_lastColumn : List (Nat × ClassFile.Instr × Nat) := [(0, .aload_n 0, 1), (1, .getfield 50, 3), (4, .iconst (1), 1), (5, .isub, 1), (6, .iload_n 1, 1), (7, .iconst (2), 1), (8, .aload_n 0, 1), (9, .getfield 21, 3), (12, .imul, 1), (13, .iadd, 1), (14, .invokestatic 116, 3), (17, .ireturn, 1)]
theorem d_Tc_lastColumn : mz_dec prog_9_method_12_code dl_Tc_lastColumn = true := by decide +kernel
def y_Tc_slotOf : MethodName := ⟨"MazeForms$TreeCount", "slotOf", "(II)I"⟩
abbrev w_Tc_slotOf : List Cond := .code y_Tc_slotOf prog_9_method_7_code 6 (some .int) :: mz_tb
def dl_Tc_slotOf : List (Nat × ClassFile.Instr × Nat) := [(0, .iload_n 1, 1), (1, .ifCond .lt (27), 3), (4, .iload_n 1, 1), (5, .aload_n 0, 1), (6, .getfield 50, 3), (9, .if_icmp .ge (19), 3), (12, .iload_n 2, 1), (13, .ifCond .lt (15), 3), (16, .iload_n 2, 1), (17, .aload_n 0, 1), (18, .getfield 50, 3), (21, .if_icmp .ge (7), 3), (24, .iconst (1), 1), (25, .goto (4), 3), (28, .iconst (0), 1), (29, .istore_n 3, 1), (30, .iload_n 2, 1), (31, .iload_n 1, 1), (32, .isub, 1), (33, .aload_n 0, 1), (34, .getfield 21, 3), (37, .ineg, 1), (38, .if_icmp .lt (19), 3), (41, .iload_n 2, 1), (42, .iload_n 1, 1), (43, .isub, 1), (44, .iconst (2), 1), (45, .aload_n 0, 1), (46, .getfield 21, 3), (49, .imul, 1), (50, .if_icmp .gt (7), 3), (53, .iconst (1), 1), (54, .goto (4), 3), (57, .iconst (0), 1), (58, .istore 4, 2), (60, .iload_n 1, 1), (61, .aload_n 0, 1), (62, .getfield 25, 3), (65, .imul, 1), (66, .iload_n 2, 1), (67, .iadd, 1), (68, .iload_n 1, 1), (69, .isub, 1), (70, .aload_n 0, 1), (71, .getfield 21, 3), (74, .iadd, 1), (75, .istore 5, 2), (77, .iload_n 3, 1), (78, .ifCond .eq (28), 3), (81, .iload 4, 2), (83, .ifCond .eq (23), 3), (86, .iload 5, 2), (88, .ifCond .lt (18), 3), (91, .iload 5, 2), (93, .aload_n 0, 1), (94, .getfield 35, 3), (97, .arraylength, 1), (98, .if_icmp .ge (8), 3), (101, .iload 5, 2), (103, .goto (4), 3), (106, .iconst (-1), 1), (107, .ireturn, 1)]
theorem d_Tc_slotOf : mz_dec prog_9_method_7_code dl_Tc_slotOf = true := by decide +kernel
def y_Tc_entry : MethodName := ⟨"MazeForms$TreeCount", "entry", "(II)J"⟩
abbrev w_Tc_entry : List Cond := .code y_Tc_entry prog_9_method_8_code 4 (some .long) :: mz_tb
def dl_Tc_entry : List (Nat × ClassFile.Instr × Nat) := [(0, .aload_n 0, 1), (1, .iload_n 1, 1), (2, .iload_n 2, 1), (3, .invokevirtual 90, 3), (6, .istore_n 3, 1), (7, .iload_n 3, 1), (8, .iconst (-1), 1), (9, .if_icmp .ne (7), 3), (12, .lconst 0, 1), (13, .goto (9), 3), (16, .aload_n 0, 1), (17, .getfield 35, 3), (20, .iload_n 3, 1), (21, .laload, 1), (22, .lreturn, 1)]
theorem d_Tc_entry : mz_dec prog_9_method_8_code dl_Tc_entry = true := by decide +kernel
def y_Tc_addTo : MethodName := ⟨"MazeForms$TreeCount", "addTo", "(IIJ)V"⟩
abbrev w_Tc_addTo : List Cond := .code y_Tc_addTo prog_9_method_6_code 6 none :: mz_tb
def dl_Tc_addTo : List (Nat × ClassFile.Instr × Nat) := [(0, .aload_n 0, 1), (1, .iload_n 1, 1), (2, .iload_n 2, 1), (3, .invokevirtual 90, 3), (6, .istore 5, 2), (8, .iload 5, 2), (10, .iconst (-1), 1), (11, .if_icmp .eq (14), 3), (14, .aload_n 0, 1), (15, .getfield 35, 3), (18, .iload 5, 2), (20, .dup2, 1), (21, .laload, 1), (22, .lload_n 3, 1), (23, .ladd, 1), (24, .lastore, 1), (25, .return_, 1)]
theorem d_Tc_addTo : mz_dec prog_9_method_6_code dl_Tc_addTo = true := by decide +kernel
def y_Tc_placeIn : MethodName := ⟨"MazeForms$TreeCount", "placeIn", "(I)I"⟩
abbrev w_Tc_placeIn : List Cond := .code y_Tc_placeIn prog_9_method_5_code 2 (some .int) :: mz_tb
def dl_Tc_placeIn : List (Nat × ClassFile.Instr × Nat) := [(0, .aload_n 0, 1), (1, .getfield 9, 3), (4, .iload_n 1, 1), (5, .invokevirtual 87, 3), (8, .ifCond .eq (12), 3), (11, .aload_n 0, 1), (12, .getfield 31, 3), (15, .iload_n 1, 1), (16, .iaload, 1), (17, .goto (4), 3), (20, .iconst (-1), 1), (21, .ireturn, 1)]
theorem d_Tc_placeIn : mz_dec prog_9_method_5_code dl_Tc_placeIn = true := by decide +kernel
def y_Tc_numberFreeCells : MethodName := ⟨"MazeForms$TreeCount", "numberFreeCells", "()I"⟩
abbrev w_Tc_numberFreeCells : List Cond := .code y_Tc_numberFreeCells prog_9_method_3_code 3 (some .int) :: mz_tb
def dl_Tc_numberFreeCells : List (Nat × ClassFile.Instr × Nat) := [(0, .iconst (0), 1), (1, .istore_n 1, 1), (2, .iconst (0), 1), (3, .istore_n 2, 1), (4, .iload_n 2, 1), (5, .aload_n 0, 1), (6, .getfield 31, 3), (9, .arraylength, 1), (10, .if_icmp .ge (30), 3), (13, .aload_n 0, 1), (14, .getfield 31, 3), (17, .iload_n 2, 1), (18, .iload_n 1, 1), (19, .iastore, 1), (20, .aload_n 0, 1), (21, .getfield 9, 3), (24, .iload_n 2, 1), (25, .invokevirtual 60, 3), (28, .ifCond .eq (6), 3), (31, .iinc 1 (1), 3), (34, .iinc 2 (1), 3), (37, .goto (-33), 3), (40, .iload_n 1, 1), (41, .ireturn, 1)]
theorem d_Tc_numberFreeCells : mz_dec prog_9_method_3_code dl_Tc_numberFreeCells = true := by decide +kernel
def y_Tc_times : MethodName := ⟨"MazeForms$TreeCount", "times", "(JJ)J"⟩
abbrev w_Tc_times : List Cond := .code y_Tc_times prog_9_method_16_code 5 (some .long) :: mz_tb
def dl_Tc_times : List (Nat × ClassFile.Instr × Nat) := [(0, .aload_n 0, 1), (1, .getfield 43, 3), (4, .ldc2_w 39, 3), (7, .lcmp, 1), (8, .ifCond .ge (7), 3), (11, .lconst 0, 1), (12, .goto (11), 3), (15, .lload_n 1, 1), (16, .lload_n 3, 1), (17, .lmul, 1), (18, .aload_n 0, 1), (19, .getfield 43, 3), (22, .lrem, 1), (23, .lreturn, 1)]
theorem d_Tc_times : mz_dec prog_9_method_16_code dl_Tc_times = true := by decide +kernel
def y_Tc_fillIn : MethodName := ⟨"MazeForms$TreeCount", "fillIn", "()V"⟩
abbrev w_Tc_fillIn : List Cond := .code y_Tc_fillIn prog_9_method_4_code 4 none :: mz_tb
def dl_Tc_fillIn : List (Nat × ClassFile.Instr × Nat) := [(0, .aload_n 0, 1), (1, .getfield 35, 3), (4, .lconst 0, 1), (5, .invokestatic 64, 3), (8, .iconst (0), 1), (9, .istore_n 1, 1), (10, .iload_n 1, 1), (11, .aload_n 0, 1), (12, .getfield 9, 3), (15, .invokevirtual 70, 3), (18, .if_icmp .ge (73), 3), (21, .aload_n 0, 1), (22, .aload_n 0, 1), (23, .getfield 9, 3), (26, .iload_n 1, 1), (27, .invokevirtual 73, 3), (30, .invokevirtual 77, 3), (33, .istore_n 2, 1), (34, .aload_n 0, 1), (35, .aload_n 0, 1), (36, .getfield 9, 3), (39, .iload_n 1, 1), (40, .invokevirtual 80, 3), (43, .invokevirtual 77, 3), (46, .istore_n 3, 1), (47, .aload_n 0, 1), (48, .iload_n 2, 1), (49, .iload_n 2, 1), (50, .lconst 1, 1), (51, .invokevirtual 83, 3), (54, .aload_n 0, 1), (55, .iload_n 3, 1), (56, .iload_n 3, 1), (57, .lconst 1, 1), (58, .invokevirtual 83, 3), (61, .aload_n 0, 1), (62, .iload_n 2, 1), (63, .iload_n 3, 1), (64, .aload_n 0, 1), (65, .getfield 43, 3), (68, .lconst 1, 1), (69, .lsub, 1), (70, .invokevirtual 83, 3), (73, .aload_n 0, 1), (74, .iload_n 3, 1), (75, .iload_n 2, 1), (76, .aload_n 0, 1), (77, .getfield 43, 3), (80, .lconst 1, 1), (81, .lsub, 1), (82, .invokevirtual 83, 3), (85, .iinc 1 (1), 3), (88, .goto (-78), 3), (91, .return_, 1)]
theorem d_Tc_fillIn : mz_dec prog_9_method_4_code dl_Tc_fillIn = true := by decide +kernel
def I_Tc_lastRow (w h : Nat) : List (Nat × mz_Op) := [(0, mz_lda 0 1), (1, mz_gf 7 5 4), (4, mz_push (.int (1)) 5), (5, mz_bi (fun x y => x - y) 6), (6, mz_ldi 1 7), (7, mz_lda 0 8), (8, mz_gf 7 1 11), (11, mz_bi (fun x y => x + y) 12), (12, mz_bin8 (fun x y => if y < x then y else x) 15), (15, mz_ri)]
def I_Tc_lastColumn (w h : Nat) : List (Nat × mz_Op) := [(0, mz_lda 0 1), (1, mz_gf 7 5 4), (4, mz_push (.int (1)) 5), (5, mz_bi (fun x y => x - y) 6), (6, mz_ldi 1 7), (7, mz_push (.int (2)) 8), (8, mz_lda 0 9), (9, mz_gf 7 1 12), (12, mz_bi (fun x y => x * y) 13), (13, mz_bi (fun x y => x + y) 14), (14, mz_bin8 (fun x y => if y < x then y else x) 17), (17, mz_ri)]
def I_Tc_slotOf (w h : Nat) : List (Nat × mz_Op) := [(0, mz_ldi 1 1), (1, mz_if (fun x => x < 0) 28 4), (4, mz_ldi 1 5), (5, mz_lda 0 6), (6, mz_gf 7 5 9), (9, mz_ic (fun x y => y ≤ x) 28 12), (12, mz_ldi 2 13), (13, mz_if (fun x => x < 0) 28 16), (16, mz_ldi 2 17), (17, mz_lda 0 18), (18, mz_gf 7 5 21), (21, mz_ic (fun x y => y ≤ x) 28 24), (24, mz_push (.int (1)) 25), (25, mz_go 29), (28, mz_push (.int (0)) 29), (29, mz_sti 3 30), (30, mz_ldi 2 31), (31, mz_ldi 1 32), (32, mz_bi (fun x y => x - y) 33), (33, mz_lda 0 34), (34, mz_gf 7 1 37), (37, mz_i1 (fun x => -x) 38), (38, mz_ic (fun x y => x < y) 57 41), (41, mz_ldi 2 42), (42, mz_ldi 1 43), (43, mz_bi (fun x y => x - y) 44), (44, mz_push (.int (2)) 45), (45, mz_lda 0 46), (46, mz_gf 7 1 49), (49, mz_bi (fun x y => x * y) 50), (50, mz_ic (fun x y => y < x) 57 53), (53, mz_push (.int (1)) 54), (54, mz_go 58), (57, mz_push (.int (0)) 58), (58, mz_sti 4 60), (60, mz_ldi 1 61), (61, mz_lda 0 62), (62, mz_gf 7 2 65), (65, mz_bi (fun x y => x * y) 66), (66, mz_ldi 2 67), (67, mz_bi (fun x y => x + y) 68), (68, mz_ldi 1 69), (69, mz_bi (fun x y => x - y) 70), (70, mz_lda 0 71), (71, mz_gf 7 1 74), (74, mz_bi (fun x y => x + y) 75), (75, mz_sti 5 77), (77, mz_ldi 3 78), (78, mz_if (fun x => x = 0) 106 81), (81, mz_ldi 4 83), (83, mz_if (fun x => x = 0) 106 86), (86, mz_ldi 5 88), (88, mz_if (fun x => x < 0) 106 91), (91, mz_ldi 5 93), (93, mz_lda 0 94), (94, mz_gf 7 4 97), (97, mz_al 98), (98, mz_ic (fun x y => y ≤ x) 106 101), (101, mz_ldi 5 103), (103, mz_go 107), (106, mz_push (.int (-1)) 107), (107, mz_ri)]
def I_Tc_entry (w h : Nat) : List (Nat × mz_Op) := [(0, mz_lda 0 1), (1, mz_ldi 1 2), (2, mz_ldi 2 3), (3, mz_ci 3 7 (C_Tc_slotOf w h) 6), (6, mz_sti 3 7), (7, mz_ldi 3 8), (8, mz_push (.int (-1)) 9), (9, mz_ic (fun x y => x = y) 12 16), (12, mz_push (.long 0) 13), (13, mz_go 22), (16, mz_lda 0 17), (17, mz_gf 7 4 20), (20, mz_ldi 3 21), (21, mz_lald 22), (22, mz_rl)]
def I_Tc_addTo (w h : Nat) : List (Nat × mz_Op) := [(0, mz_lda 0 1), (1, mz_ldi 1 2), (2, mz_ldi 2 3), (3, mz_ci 3 7 (C_Tc_slotOf w h) 6), (6, mz_sti 5 8), (8, mz_ldi 5 10), (10, mz_push (.int (-1)) 11), (11, mz_ic (fun x y => x = y) 25 14), (14, mz_lda 0 15), (15, mz_gf 7 4 18), (18, mz_ldi 5 20), (20, mz_dup2 21), (21, mz_lald 22), (22, mz_ldl 3 23), (23, mz_bl (fun x y => x + y) 24), (24, mz_last 25), (25, mz_rv)]
def I_Tc_placeIn (w h : Nat) : List (Nat × mz_Op) := [(0, mz_lda 0 1), (1, mz_gf 7 0 4), (4, mz_ldi 1 5), (5, mz_ci 2 3 (C_Gr_isCell w h) 8), (8, mz_if (fun x => x = 0) 20 11), (11, mz_lda 0 12), (12, mz_gf 7 3 15), (15, mz_ldi 1 16), (16, mz_iald 0 17), (17, mz_go 21), (20, mz_push (.int (-1)) 21), (21, mz_ri)]
def I_Tc_numberFreeCells (w h : Nat) : List (Nat × mz_Op) := [(0, mz_push (.int (0)) 1), (1, mz_sti 1 2), (2, mz_push (.int (0)) 3), (3, mz_sti 2 4), (4, mz_ldi 2 5), (5, mz_lda 0 6), (6, mz_gf 7 3 9), (9, mz_al 10), (10, mz_ic (fun x y => y ≤ x) 40 13), (13, mz_lda 0 14), (14, mz_gf 7 3 17), (17, mz_ldi 2 18), (18, mz_ldi 1 19), (19, mz_iast 0 20), (20, mz_lda 0 21), (21, mz_gf 7 0 24), (24, mz_ldi 2 25), (25, mz_ci 2 3 (C_Gr_isFree w h) 28), (28, mz_if (fun x => x = 0) 34 31), (31, mz_inc 1 (1) 34), (34, mz_inc 2 (1) 37), (37, mz_go 4), (40, mz_ldi 1 41), (41, mz_ri)]
def I_Tc_times (w h : Nat) : List (Nat × mz_Op) := [(0, mz_lda 0 1), (1, mz_gf 7 6 4), (4, mz_push (.long (2)) 7), (7, mz_lcmp 8), (8, mz_if (fun x => 0 ≤ x) 15 11), (11, mz_push (.long 0) 12), (12, mz_go 23), (15, mz_ldl 1 16), (16, mz_ldl 3 17), (17, mz_bl (fun x y => x * y) 18), (18, mz_lda 0 19), (19, mz_gf 7 6 22), (22, mz_bld (fun x y => x - x / y * y) 23), (23, mz_rl)]
def I_Tc_fillIn (w h : Nat) : List (Nat × mz_Op) := [(0, mz_lda 0 1), (1, mz_gf 7 4 4), (4, mz_push (.long 0) 5), (5, mz_svo 2 (C_Ja_fillJ w h) 8), (8, mz_push (.int (0)) 9), (9, mz_sti 1 10), (10, mz_ldi 1 11), (11, mz_lda 0 12), (12, mz_gf 7 0 15), (15, mz_ci 1 3 (C_Gr_doorCount w h) 18), (18, mz_ic (fun x y => y ≤ x) 91 21), (21, mz_lda 0 22), (22, mz_lda 0 23), (23, mz_gf 7 0 26), (26, mz_ldi 1 27), (27, mz_ci 2 3 (C_Gr_lesserCell w h) 30), (30, mz_ci 2 7 (C_Tc_placeIn w h) 33), (33, mz_sti 2 34), (34, mz_lda 0 35), (35, mz_lda 0 36), (36, mz_gf 7 0 39), (39, mz_ldi 1 40), (40, mz_ci 2 3 (C_Gr_greaterCell w h) 43), (43, mz_ci 2 7 (C_Tc_placeIn w h) 46), (46, mz_sti 3 47), (47, mz_lda 0 48), (48, mz_ldi 2 49), (49, mz_ldi 2 50), (50, mz_push (.long 1) 51), (51, mz_cvo 4 7 (C_Tc_addTo w h) 54), (54, mz_lda 0 55), (55, mz_ldi 3 56), (56, mz_ldi 3 57), (57, mz_push (.long 1) 58), (58, mz_cvo 4 7 (C_Tc_addTo w h) 61), (61, mz_lda 0 62), (62, mz_ldi 2 63), (63, mz_ldi 3 64), (64, mz_lda 0 65), (65, mz_gf 7 6 68), (68, mz_push (.long 1) 69), (69, mz_bl (fun x y => x - y) 70), (70, mz_cvo 4 7 (C_Tc_addTo w h) 73), (73, mz_lda 0 74), (74, mz_ldi 3 75), (75, mz_ldi 2 76), (76, mz_lda 0 77), (77, mz_gf 7 6 80), (80, mz_push (.long 1) 81), (81, mz_bl (fun x y => x - y) 82), (82, mz_cvo 4 7 (C_Tc_addTo w h) 85), (85, mz_inc 1 (1) 88), (88, mz_go 10), (91, mz_rv)]
theorem zq_E_le {w h : Nat} (g : mz_geo w h) : zq_E w h ≤ 5328 := Nat.le_trans (Nat.mul_le_mul (mz_geo_n g) (by have := g.2.1; omega : 3 * w + 1 ≤ 37)) (by decide)
theorem zq_slot_t {w h : Nat} {X : mz_X} {r c : Int32} (e : zq_sB w h X r c = true) : zq_slot w h X r c = zq_sl X r c := by
  unfold zq_slot
  rw [e]
theorem zq_slot_f {w h : Nat} {X : mz_X} {r c : Int32} (e : zq_sB w h X r c = false) : zq_slot w h X r c = -1 := by
  unfold zq_slot
  rw [e]
theorem zq_slot_in {w h : Nat} {X : mz_X} {r c : Int32} (g : mz_geo w h) (e : ¬ zq_slot w h X r c = -1) : vp_in (zq_slot w h X r c) (zq_E w h) := by
  have hE := zq_E_le g
  cases hb : zq_sB w h X r c with
  | false => exact absurd (zq_slot_f hb) e
  | true =>
    rw [zq_slot_t hb]
    simp only [zq_sB, Bool.and_eq_true, Bool.not_eq_true', decide_eq_false_iff_not] at hb
    exact mz_in hb.1.2 hb.2 (by omega)
theorem zq_e_t {w h : Nat} {X : mz_X} {r c : Int32} (e : zq_slot w h X r c = -1) : zq_e w h X r c = 0 := by
  unfold zq_e
  rw [show decide (zq_slot w h X r c = -1) = true from decide_eq_true e]
theorem zq_e_f {w h : Nat} {X : mz_X} {r c : Int32} (e : ¬ zq_slot w h X r c = -1) : zq_e w h X r c = X.2 22 (zq_slot w h X r c).toNatClampNeg := by
  unfold zq_e
  rw [show decide (zq_slot w h X r c = -1) = false from decide_eq_false e]
theorem zq_add_t {w h : Nat} {X : mz_X} {r c : Int32} {v : Int64} (e : zq_slot w h X r c = -1) : zq_add w h X r c v = X := by
  unfold zq_add
  rw [show decide (zq_slot w h X r c = -1) = true from decide_eq_true e]
theorem zq_add_f {w h : Nat} {X : mz_X} {r c : Int32} {v : Int64} (e : ¬ zq_slot w h X r c = -1) : zq_add w h X r c v = (X.1, mz_up X.2 22 (zq_slot w h X r c).toNatClampNeg (X.2 22 (zq_slot w h X r c).toNatClampNeg + v)) := by
  unfold zq_add
  rw [show decide (zq_slot w h X r c = -1) = false from decide_eq_false e]
theorem zq_add_1 {w h : Nat} (X : mz_X) (r c : Int32) (v : Int64) : (zq_add w h X r c v).1 = X.1 := by
  by_cases e : zq_slot w h X r c = -1
  · rw [zq_add_t e]
  · rw [zq_add_f e]
theorem zq_add_2 {w h p i : Nat} (hp : p ≠ 22) (X : mz_X) (r c : Int32) (v : Int64) : (zq_add w h X r c v).2 p i = X.2 p i := by
  by_cases e : zq_slot w h X r c = -1
  · rw [zq_add_t e]
  · rw [zq_add_f e]
    show mz_up X.2 22 _ _ p i = X.2 p i
    rw [mz_up_off hp]
theorem zq_nm_s (w h : Nat) (X : mz_X) (k : Nat) : (mz_up (zq_nm w h X k).1 21 k (nI (mz_cnt (fun c => zg_free w h X (nI c)) k)), (zq_nm w h X k).2) = zq_nm w h X (k + 1) := by
  refine Prod.ext ?_ rfl
  funext a b
  simp only [mz_up, zq_nm]
  by_cases ha : a = 21
  · subst ha
    by_cases hb : b = k
    · subst hb
      simp
    · have : b < k ↔ b < k + 1 := by omega
      simp [hb, this]
  · simp [ha]
theorem zq_tm_t {X : mz_X} {a b : Int64} (e : 2 ≤ X.2 20 6) : zq_tm X a b = a * b - a * b / X.2 20 6 * X.2 20 6 := by
  unfold zq_tm
  rw [show decide (2 ≤ X.2 20 6) = true from decide_eq_true e]
theorem zq_tm_f {X : mz_X} {a b : Int64} (e : ¬ 2 ≤ X.2 20 6) : zq_tm X a b = 0 := by
  unfold zq_tm
  rw [show decide (2 ≤ X.2 20 6) = false from decide_eq_false e]
theorem zq_fS_1 {w h : Nat} (X : mz_X) (d : Nat) : (zq_fS w h X d).1 = X.1 := by
  unfold zq_fS zq_f2 zq_f1
  rw [zq_add_1, zq_add_1, zq_add_1, zq_add_1]
theorem zq_f_1 {w h : Nat} (X : mz_X) : ∀ k, (zq_f w h X k).1 = X.1
  | 0 => rfl
  | k + 1 => (zq_fS_1 _ _).trans (zq_f_1 X k)
theorem len_Tc_lastRow (w h : Nat) (lay : List mz_E) (as : List Value) (X : mz_X) (Q : Int32 → mz_X → Prop) (hC : C_Tc_lastRow w h lay as X Q) : (mz_l0 as).length ≤ 2 := by
  unfold C_Tc_lastRow at hC
  split at hC
  · exact Nat.le_of_ble_eq_true rfl
  · exact hC.elim
theorem ok_Tc_lastRow (w h : Nat) (lay : List mz_E) (as : List Value) (X : mz_X) (Q : Int32 → mz_X → Prop) (hC : C_Tc_lastRow w h lay as X Q) (K : mz_K) (hK : mz_Cl (I_Tc_lastRow w h) (mz_qi lay Q) K) : K 0 (mz_ent 2 as) [] (lay, X) := by
  unfold C_Tc_lastRow at hC
  split at hC
  · next s =>
    obtain ⟨rfl, g, hq⟩ := hC
    iterate 8 refine hK _ _ _ _ ?_
    refine hK _ _ _ _ (And.intro (by decide) ?_)
    exact hK _ _ _ _ (And.intro rfl (hq))
  · exact hC.elim
theorem len_Tc_lastColumn (w h : Nat) (lay : List mz_E) (as : List Value) (X : mz_X) (Q : Int32 → mz_X → Prop) (hC : C_Tc_lastColumn w h lay as X Q) : (mz_l0 as).length ≤ 2 := by
  unfold C_Tc_lastColumn at hC
  split at hC
  · exact Nat.le_of_ble_eq_true rfl
  · exact hC.elim
theorem ok_Tc_lastColumn (w h : Nat) (lay : List mz_E) (as : List Value) (X : mz_X) (Q : Int32 → mz_X → Prop) (hC : C_Tc_lastColumn w h lay as X Q) (K : mz_K) (hK : mz_Cl (I_Tc_lastColumn w h) (mz_qi lay Q) K) : K 0 (mz_ent 2 as) [] (lay, X) := by
  unfold C_Tc_lastColumn at hC
  split at hC
  · next s =>
    obtain ⟨rfl, g, hq⟩ := hC
    iterate 10 refine hK _ _ _ _ ?_
    refine hK _ _ _ _ (And.intro (by decide) ?_)
    exact hK _ _ _ _ (And.intro rfl (hq))
  · exact hC.elim
theorem len_Tc_slotOf (w h : Nat) (lay : List mz_E) (as : List Value) (X : mz_X) (Q : Int32 → mz_X → Prop) (hC : C_Tc_slotOf w h lay as X Q) : (mz_l0 as).length ≤ 6 := by
  unfold C_Tc_slotOf at hC
  split at hC
  · exact Nat.le_of_ble_eq_true rfl
  · exact hC.elim
theorem ok_Tc_slotOf (w h : Nat) (lay : List mz_E) (as : List Value) (X : mz_X) (Q : Int32 → mz_X → Prop) (hC : C_Tc_slotOf w h lay as X Q) (K : mz_K) (hK : mz_Cl (I_Tc_slotOf w h) (mz_qi lay Q) K) : K 0 (mz_ent 6 as) [] (lay, X) := by
  unfold C_Tc_slotOf at hC
  split at hC
  · next r c =>
    obtain ⟨rfl, g, hq⟩ := hC
    have e4 : ∀ (b1 b2 : Bool), b1 = zq_in X r c → b2 = zq_he X r c → K 58 [some (.ref 20), some (.int r), some (.int c), some (.int (mz_b b1)), none, none] [.int (mz_b b2)] (mz_lay w h, X) := by
      intro b1 b2 h1 h2
      have hF : zq_sB w h X r c = false → ∀ L5 : Option Value, K 106 [some (.ref 20), some (.int r), some (.int c), some (.int (mz_b b1)), some (.int (mz_b b2)), L5] [] (mz_lay w h, X) := by
        intro e L5
        rw [zq_slot_f e] at hq
        refine hK _ _ _ _ ?_
        exact hK _ _ _ _ (And.intro rfl (hq))
      iterate 14 refine hK _ _ _ _ ?_
      refine hK _ _ _ _ (And.intro (fun c1 => ?_) (fun c1 => ?_))
      · exact hF (by simp only [zq_sB, ← h1, mz_b0 c1]; rfl) _
      · refine hK _ _ _ _ ?_
        refine hK _ _ _ _ (And.intro (fun c2 => ?_) (fun c2 => ?_))
        · exact hF (by simp only [zq_sB, ← h2, mz_b0 c2]; simp) _
        · refine hK _ _ _ _ ?_
          refine hK _ _ _ _ (And.intro (fun c3 => ?_) (fun c3 => ?_))
          · exact hF (by simp only [zq_sB]; rw [show decide (zq_sl X r c < 0) = true from decide_eq_true c3]; simp) _
          · iterate 4 refine hK _ _ _ _ ?_
            refine hK _ _ _ _ (And.intro (fun c4 => ?_) (fun c4 => ?_))
            · exact hF (by simp only [zq_sB]; rw [show decide (nI (zq_E w h) ≤ zq_sl X r c) = true from decide_eq_true c4]; simp) _
            · have e : zq_sB w h X r c = true := by
                simp only [zq_sB, Bool.and_eq_true, Bool.not_eq_true', decide_eq_false_iff_not]
                exact ⟨⟨⟨h1.symm.trans (mz_b1 c1), h2.symm.trans (mz_b1 c2)⟩, c3⟩, c4⟩
              rw [zq_slot_t e] at hq
              iterate 2 refine hK _ _ _ _ ?_
              exact hK _ _ _ _ (And.intro rfl (hq))
    have e3 : ∀ (b1 : Bool), b1 = zq_in X r c → K 29 (mz_ent 6 [.ref 20, .int r, .int c]) [.int (mz_b b1)] (mz_lay w h, X) := by
      intro b1 h1
      have hT : zq_he X r c = false → K 57 [some (.ref 20), some (.int r), some (.int c), some (.int (mz_b b1)), none, none] [] (mz_lay w h, X) := by
        intro e
        refine hK _ _ _ _ ?_
        exact e4 b1 false h1 e.symm
      iterate 7 refine hK _ _ _ _ ?_
      refine hK _ _ _ _ (And.intro (fun c1 => ?_) (fun c1 => ?_))
      · dsimp only at c1
        exact hT (by simp only [zq_he]; rw [show decide (c - r < -(X.1 20 1)) = true from decide_eq_true c1]; rfl)
      · dsimp only at c1
        iterate 7 refine hK _ _ _ _ ?_
        refine hK _ _ _ _ (And.intro (fun c2 => ?_) (fun c2 => ?_))
        · dsimp only at c2
          exact hT (by simp only [zq_he]; rw [show decide (2 * X.1 20 1 < c - r) = true from decide_eq_true c2]; simp)
        · dsimp only at c2
          iterate 2 refine hK _ _ _ _ ?_
          exact e4 b1 true h1 (by simp only [zq_he]; rw [show decide (c - r < -(X.1 20 1)) = false from decide_eq_false c1, show decide (2 * X.1 20 1 < c - r) = false from decide_eq_false c2]; rfl)
    have h28 : zq_in X r c = false → K 28 (mz_ent 6 [.ref 20, .int r, .int c]) [] (mz_lay w h, X) := by
      intro e
      refine hK _ _ _ _ ?_
      exact e3 false e.symm
    refine hK _ _ _ _ ?_
    refine hK _ _ _ _ (And.intro (fun c1 => ?_) (fun c1 => ?_))
    · exact h28 (by simp [zq_in, c1])
    · iterate 3 refine hK _ _ _ _ ?_
      refine hK _ _ _ _ (And.intro (fun c2 => ?_) (fun c2 => ?_))
      · dsimp only at c2
        exact h28 (by simp [zq_in, c2])
      · dsimp only at c2
        refine hK _ _ _ _ ?_
        refine hK _ _ _ _ (And.intro (fun c3 => ?_) (fun c3 => ?_))
        · exact h28 (by simp [zq_in, c3])
        · iterate 3 refine hK _ _ _ _ ?_
          refine hK _ _ _ _ (And.intro (fun c4 => ?_) (fun c4 => ?_))
          · dsimp only at c4
            exact h28 (by simp [zq_in, c4])
          · dsimp only at c4
            iterate 2 refine hK _ _ _ _ ?_
            exact e3 true (by simp [zq_in, c1, c2, c3, c4])
  · exact hC.elim
theorem len_Tc_entry (w h : Nat) (lay : List mz_E) (as : List Value) (X : mz_X) (Q : Int64 → mz_X → Prop) (hC : C_Tc_entry w h lay as X Q) : (mz_l0 as).length ≤ 4 := by
  unfold C_Tc_entry at hC
  split at hC
  · exact Nat.le_of_ble_eq_true rfl
  · exact hC.elim
theorem ok_Tc_entry (w h : Nat) (lay : List mz_E) (as : List Value) (X : mz_X) (Q : Int64 → mz_X → Prop) (hC : C_Tc_entry w h lay as X Q) (K : mz_K) (hK : mz_Cl (I_Tc_entry w h) (mz_ql lay Q) K) : K 0 (mz_ent 4 as) [] (lay, X) := by
  unfold C_Tc_entry at hC
  split at hC
  · next r c =>
    obtain ⟨rfl, g, hq⟩ := hC
    iterate 3 refine hK _ _ _ _ ?_
    refine hK _ _ _ _ (And.intro (rfl) (And.intro (g) ?_))
    iterate 3 refine hK _ _ _ _ ?_
    refine hK _ _ _ _ (And.intro (fun c1 => ?_) (fun c1 => ?_))
    · rw [zq_e_t c1] at hq
      iterate 2 refine hK _ _ _ _ ?_
      exact hK _ _ _ _ (And.intro rfl (hq))
    · rw [zq_e_f c1] at hq
      iterate 3 refine hK _ _ _ _ ?_
      refine hK _ _ _ _ (And.intro (zq_slot_in g c1) ?_)
      exact hK _ _ _ _ (And.intro rfl (hq))
  · exact hC.elim
theorem len_Tc_addTo (w h : Nat) (lay : List mz_E) (as : List Value) (X : mz_X) (Q : mz_X → Prop) (hC : C_Tc_addTo w h lay as X Q) : (mz_l0 as).length ≤ 6 := by
  unfold C_Tc_addTo at hC
  split at hC
  · exact Nat.le_of_ble_eq_true rfl
  · exact hC.elim
theorem ok_Tc_addTo (w h : Nat) (lay : List mz_E) (as : List Value) (X : mz_X) (Q : mz_X → Prop) (hC : C_Tc_addTo w h lay as X Q) (K : mz_K) (hK : mz_Cl (I_Tc_addTo w h) (mz_qv lay Q) K) : K 0 (mz_ent 6 as) [] (lay, X) := by
  unfold C_Tc_addTo at hC
  split at hC
  · next r c v =>
    obtain ⟨rfl, g, hq⟩ := hC
    iterate 3 refine hK _ _ _ _ ?_
    refine hK _ _ _ _ (And.intro (rfl) (And.intro (g) ?_))
    iterate 3 refine hK _ _ _ _ ?_
    refine hK _ _ _ _ (And.intro (fun c1 => ?_) (fun c1 => ?_))
    · rw [zq_add_t c1] at hq
      exact hK _ _ _ _ (And.intro rfl (hq))
    · rw [zq_add_f c1] at hq
      iterate 4 refine hK _ _ _ _ ?_
      refine hK _ _ _ _ (And.intro (zq_slot_in g c1) ?_)
      iterate 2 refine hK _ _ _ _ ?_
      refine hK _ _ _ _ (And.intro (zq_slot_in g c1) ?_)
      exact hK _ _ _ _ (And.intro rfl (hq))
  · exact hC.elim
theorem len_Tc_placeIn (w h : Nat) (lay : List mz_E) (as : List Value) (X : mz_X) (Q : Int32 → mz_X → Prop) (hC : C_Tc_placeIn w h lay as X Q) : (mz_l0 as).length ≤ 2 := by
  unfold C_Tc_placeIn at hC
  split at hC
  · exact Nat.le_of_ble_eq_true rfl
  · exact hC.elim
theorem ok_Tc_placeIn (w h : Nat) (lay : List mz_E) (as : List Value) (X : mz_X) (Q : Int32 → mz_X → Prop) (hC : C_Tc_placeIn w h lay as X Q) (K : mz_K) (hK : mz_Cl (I_Tc_placeIn w h) (mz_qi lay Q) K) : K 0 (mz_ent 2 as) [] (lay, X) := by
  unfold C_Tc_placeIn at hC
  split at hC
  · next c =>
    obtain ⟨rfl, g, hq⟩ := hC
    have hn := mz_geo_n g
    iterate 3 refine hK _ _ _ _ ?_
    refine hK _ _ _ _ (And.intro (rfl) (And.intro (g) ?_))
    refine hK _ _ _ _ (And.intro (fun c1 => ?_) (fun c1 => ?_))
    · have e2 : zq_pl w h X c = -1 := by
        unfold zq_pl
        rw [mz_b0 c1]
      rw [e2] at hq
      refine hK _ _ _ _ ?_
      exact hK _ _ _ _ (And.intro rfl (hq))
    · have e2 : zq_pl w h X c = X.1 21 c.toNatClampNeg := by
        unfold zq_pl
        rw [mz_b1 c1]
      rw [e2] at hq
      iterate 3 refine hK _ _ _ _ ?_
      refine hK _ _ _ _ (And.intro (mz_lt_in (mz_b1 c1) (by omega)) ?_)
      refine hK _ _ _ _ ?_
      exact hK _ _ _ _ (And.intro rfl (hq))
  · exact hC.elim
theorem len_Tc_numberFreeCells (w h : Nat) (lay : List mz_E) (as : List Value) (X : mz_X) (Q : Int32 → mz_X → Prop) (hC : C_Tc_numberFreeCells w h lay as X Q) : (mz_l0 as).length ≤ 3 := by
  unfold C_Tc_numberFreeCells at hC
  split at hC
  · exact Nat.le_of_ble_eq_true rfl
  · exact hC.elim
theorem ok_Tc_numberFreeCells (w h : Nat) (lay : List mz_E) (as : List Value) (X : mz_X) (Q : Int32 → mz_X → Prop) (hC : C_Tc_numberFreeCells w h lay as X Q) (K : mz_K) (hK : mz_Cl (I_Tc_numberFreeCells w h) (mz_qi lay Q) K) : K 0 (mz_ent 3 as) [] (lay, X) := by
  unfold C_Tc_numberFreeCells at hC
  split at hC
  ·
    obtain ⟨rfl, g, hq⟩ := hC
    have hn := mz_geo_n g
    have loop : ∀ (k i : Nat), i + k = w * h → K 4 [some (.ref 20), some (.int (nI (mz_cnt (fun c => zg_free w h X (nI c)) i))), some (.int (nI i))] [] (mz_lay w h, zq_nm w h X i) := by
      intro k
      induction k with
      | zero =>
        intro i hi
        iterate 4 refine hK _ _ _ _ ?_
        refine hK _ _ _ _ (And.intro (fun c1 => ?_) (fun c1 => ?_))
        · refine hK _ _ _ _ ?_
          exact hK _ _ _ _ (And.intro rfl (by rw [show i = w * h by omega]; exact hq))
        · exact absurd (nI_le (a := w * h) (b := i) (by omega) (by omega)) c1
      | succ k ih =>
        intro i hi
        have ih1 := ih (i + 1) (by omega)
        rw [← nI_1, ← zq_nm_s] at ih1
        iterate 4 refine hK _ _ _ _ ?_
        refine hK _ _ _ _ (And.intro (fun c1 => ?_) (fun c1 => ?_))
        · exact absurd c1 (nI_ge (by omega) (by omega))
        · iterate 4 refine hK _ _ _ _ ?_
          refine hK _ _ _ _ (And.intro (vp_in_nI (by omega) (by omega)) ?_)
          rw [nI_clamp (by omega)]
          iterate 3 refine hK _ _ _ _ ?_
          refine hK _ _ _ _ (And.intro (rfl) (And.intro (g) ?_))
          refine hK _ _ _ _ (And.intro (fun c2 => ?_) (fun c2 => ?_))
          · have e : zg_free w h X (nI i) = false := mz_b0 c2
            rw [mz_cnt_f (f := fun c => zg_free w h X (nI c)) e] at ih1
            iterate 2 refine hK _ _ _ _ ?_
            exact ih1
          · have e : zg_free w h X (nI i) = true := mz_b1 c2
            rw [← mz_cnt_t (f := fun c => zg_free w h X (nI c)) e] at ih1
            iterate 3 refine hK _ _ _ _ ?_
            exact ih1
    iterate 4 refine hK _ _ _ _ ?_
    have := loop (w * h) 0 (by omega)
    rw [show zq_nm w h X 0 = X by simp [zq_nm]] at this
    exact this
  · exact hC.elim
theorem len_Tc_times (w h : Nat) (lay : List mz_E) (as : List Value) (X : mz_X) (Q : Int64 → mz_X → Prop) (hC : C_Tc_times w h lay as X Q) : (mz_l0 as).length ≤ 5 := by
  unfold C_Tc_times at hC
  split at hC
  · exact Nat.le_of_ble_eq_true rfl
  · exact hC.elim
theorem ok_Tc_times (w h : Nat) (lay : List mz_E) (as : List Value) (X : mz_X) (Q : Int64 → mz_X → Prop) (hC : C_Tc_times w h lay as X Q) (K : mz_K) (hK : mz_Cl (I_Tc_times w h) (mz_ql lay Q) K) : K 0 (mz_ent 5 as) [] (lay, X) := by
  unfold C_Tc_times at hC
  split at hC
  · next a b =>
    obtain ⟨rfl, g, hq⟩ := hC
    iterate 4 refine hK _ _ _ _ ?_
    refine hK _ _ _ _ (And.intro (fun c1 => ?_) (fun c1 => ?_))
    · dsimp only at c1
      rw [lg_cmp_ge] at c1
      rw [zq_tm_t c1] at hq
      iterate 5 refine hK _ _ _ _ ?_
      refine hK _ _ _ _ (And.intro (fun e => ?_) ?_)
      · rw [e] at c1
        exact absurd c1 (by decide)
      · exact hK _ _ _ _ (And.intro rfl (hq))
    · dsimp only at c1
      rw [lg_cmp_ge] at c1
      rw [zq_tm_f c1] at hq
      iterate 2 refine hK _ _ _ _ ?_
      exact hK _ _ _ _ (And.intro rfl (hq))
  · exact hC.elim
theorem len_Tc_fillIn (w h : Nat) (lay : List mz_E) (as : List Value) (X : mz_X) (Q : mz_X → Prop) (hC : C_Tc_fillIn w h lay as X Q) : (mz_l0 as).length ≤ 4 := by
  unfold C_Tc_fillIn at hC
  split at hC
  · exact Nat.le_of_ble_eq_true rfl
  · exact hC.elim
theorem ok_Tc_fillIn (w h : Nat) (lay : List mz_E) (as : List Value) (X : mz_X) (Q : mz_X → Prop) (hC : C_Tc_fillIn w h lay as X Q) (K : mz_K) (hK : mz_Cl (I_Tc_fillIn w h) (mz_qv lay Q) K) : K 0 (mz_ent 4 as) [] (lay, X) := by
  unfold C_Tc_fillIn at hC
  split at hC
  ·
    obtain ⟨rfl, g, D, hD, hq⟩ := hC
    have hd := mz_geo_d g
    have hDd := hD.1
    have hE := zq_E_le g
    have loop : ∀ (k i : Nat), i + k = D → ∀ L2 L3 : Option Value, K 10 [some (.ref 20), some (.int (nI i)), L2, L3] [] (mz_lay w h, zq_f w h X i) := by
      intro k
      induction k with
      | zero =>
        intro i hi L2 L3
        have h7 : (zq_f w h X i).1 1 7 = nI D := by rw [zq_f_1, hD.2]
        iterate 3 refine hK _ _ _ _ ?_
        refine hK _ _ _ _ (And.intro (rfl) (And.intro (g) ?_))
        refine hK _ _ _ _ (And.intro (fun c1 => ?_) (fun c1 => ?_))
        · exact hK _ _ _ _ (And.intro rfl (by rw [show i = D by omega]; exact hq))
        · dsimp only at c1
          rw [h7] at c1
          exact absurd (nI_le (a := D) (b := i) (by omega) (by omega)) c1
      | succ k ih =>
        intro i hi L2 L3
        have h7 : (zq_f w h X i).1 1 7 = nI D := by rw [zq_f_1, hD.2]
        have ih1 := ih (i + 1) (by omega)
        rw [show zq_f w h X (i + 1) = zq_fS w h (zq_f w h X i) i from rfl, ← nI_1] at ih1
        generalize zq_f w h X i = Y at ih1 h7 ⊢
        iterate 3 refine hK _ _ _ _ ?_
        refine hK _ _ _ _ (And.intro (rfl) (And.intro (g) ?_))
        refine hK _ _ _ _ (And.intro (fun c1 => ?_) (fun c1 => ?_))
        · dsimp only at c1
          rw [h7] at c1
          exact absurd c1 (nI_ge (by omega) (by omega))
        · iterate 4 refine hK _ _ _ _ ?_
          refine hK _ _ _ _ (And.intro (rfl) (And.intro (g) ?_))
          refine hK _ _ _ _ (And.intro (rfl) (And.intro (g) ?_))
          iterate 5 refine hK _ _ _ _ ?_
          refine hK _ _ _ _ (And.intro (rfl) (And.intro (g) ?_))
          refine hK _ _ _ _ (And.intro (rfl) (And.intro (g) ?_))
          refine hK _ _ _ _ ?_
          show K 47 [some (.ref 20), some (.int (nI i)), some (.int (zq_fa w h Y i)), some (.int (zq_fb w h Y i))] [] (mz_lay w h, Y)
          simp only [zq_fS, zq_f2, zq_f1] at ih1
          generalize zq_fa w h Y i = a9 at ih1 ⊢
          generalize zq_fb w h Y i = b9 at ih1 ⊢
          iterate 4 refine hK _ _ _ _ ?_
          refine hK _ _ _ _ (And.intro (rfl) (And.intro (g) ?_))
          show K 54 [some (.ref 20), some (.int (nI i)), some (.int a9), some (.int b9)] [] (mz_lay w h, zq_add w h Y a9 a9 1)
          generalize zq_add w h Y a9 a9 1 = Y1 at ih1 ⊢
          iterate 4 refine hK _ _ _ _ ?_
          refine hK _ _ _ _ (And.intro (rfl) (And.intro (g) ?_))
          show K 61 [some (.ref 20), some (.int (nI i)), some (.int a9), some (.int b9)] [] (mz_lay w h, zq_add w h Y1 b9 b9 1)
          generalize zq_add w h Y1 b9 b9 1 = Y2 at ih1 ⊢
          iterate 7 refine hK _ _ _ _ ?_
          refine hK _ _ _ _ (And.intro (rfl) (And.intro (g) ?_))
          show K 73 [some (.ref 20), some (.int (nI i)), some (.int a9), some (.int b9)] [] (mz_lay w h, zq_add w h Y2 a9 b9 (Y2.2 20 6 - 1))
          generalize zq_add w h Y2 a9 b9 (Y2.2 20 6 - 1) = Y3 at ih1 ⊢
          iterate 7 refine hK _ _ _ _ ?_
          refine hK _ _ _ _ (And.intro (rfl) (And.intro (g) ?_))
          iterate 2 refine hK _ _ _ _ ?_
          exact ih1 _ _
    iterate 3 refine hK _ _ _ _ ?_
    refine hK _ _ _ _ (Exists.intro 13 (Exists.intro (zq_E w h) (And.intro rfl (And.intro (by omega) ?_))))
    iterate 2 refine hK _ _ _ _ ?_
    exact loop D 0 (by omega) none none
  · exact hC.elim
set_option maxRecDepth 20000 in
theorem snd_Tc_lastRow (w h : Nat) (l : Launch) (p : Program) (e : Env) (s : State) (m : MethodId) (args : Array Value) (below : List Frame) (meth : Method) (c : Code) (D : va_G) (ad0 : Nat → Nat) (cA0 : Nat → ClassId) (A : Nat → Prop) (lay : List mz_E) (Q : Int32 → mz_X → Prop) (F : mz_F p s m args meth c prog_9_method_11_code 2 y_Tc_lastRow.cls (some .int) w_Tc_lastRow) (hA : ∀ q, s.heap.size ≤ q → A q) : mz_All (mz_V p l e (mz_rm 1 21) s m args below meth c 2 lay.length (mz_sz lay) D mz_cls (mz_G0 ad0 cA0) A (MQ below (va_Qi Q (mz_B D mz_cls ad0 cA0 lay A) A) args s 0 0 A)) (mz_qi lay Q) (I_Tc_lastRow w h) := by
  obtain ⟨hx, hb, hml, hown, hts, hr, hlk⟩ := F
  unfold I_Tc_lastRow
  refine mz_All.cons (sd_aload_n hx hb (mz_dg d_Tc_lastRow 0 0 (.aload_n 0) 1 rfl) rfl) ?_
  refine mz_All.cons (sd_get (k := 5) hx hb hts (mz_inC in_Tc) hown (T := T_Tc) (N := 7) rfl (by decide) (hts (.fieldLink "MazeForms$TreeCount" 50 "MazeForms$TreeCount" "size" "I") (List.mem_cons_of_mem _ wm_290)) (fun _ h => h) (mz_dg d_Tc_lastRow 1 1 (.getfield 50) 3 rfl)) ?_
  refine mz_All.cons (sd_iconst hx hb (mz_dg d_Tc_lastRow 2 4 (.iconst (1)) 1 rfl) (by decide)) ?_
  refine mz_All.cons (sd_isub hx hb (mz_dg d_Tc_lastRow 3 5 (.isub) 1 rfl)) ?_
  refine mz_All.cons (sd_iload_n hx hb (mz_dg d_Tc_lastRow 4 6 (.iload_n 1) 1 rfl) rfl) ?_
  refine mz_All.cons (sd_aload_n hx hb (mz_dg d_Tc_lastRow 5 7 (.aload_n 0) 1 rfl) rfl) ?_
  refine mz_All.cons (sd_get (k := 1) hx hb hts (mz_inC in_Tc) hown (T := T_Tc) (N := 7) rfl (by decide) (hts (.fieldLink "MazeForms$TreeCount" 21 "MazeForms$TreeCount" "band" "I") (List.mem_cons_of_mem _ wm_286)) (fun _ h => h) (mz_dg d_Tc_lastRow 6 8 (.getfield 21) 3 rfl)) ?_
  refine mz_All.cons (sd_iadd hx hb (mz_dg d_Tc_lastRow 7 11 (.iadd) 1 rfl)) ?_
  refine mz_All.cons (sd_mmin hx hb hml hown (hts _ (List.mem_cons_of_mem _ wm_678)) (hts _ (List.mem_cons_of_mem _ wm_96)) (hts _ (List.mem_cons_of_mem _ wm_68)) (hts _ (List.mem_cons_of_mem _ wm_97)) (by decide) (by decide) (mz_dg d_Tc_lastRow 8 12 (.invokestatic 116) 3 rfl)) ?_
  refine mz_All.cons (sd_ri hx hb hr hlk (mz_dg d_Tc_lastRow 9 15 (.ireturn) 1 rfl)) ?_
  exact trivial
theorem met_Tc_lastRow (w h : Nat) (l : Launch) : mz_MI l y_Tc_lastRow w_Tc_lastRow 1 21 mz_cls (C_Tc_lastRow w h) := mz_MI_of (I_Tc_lastRow w h) (by decide) rfl (len_Tc_lastRow w h) (ok_Tc_lastRow w h) (snd_Tc_lastRow w h l)
set_option maxRecDepth 20000 in
theorem snd_Tc_lastColumn (w h : Nat) (l : Launch) (p : Program) (e : Env) (s : State) (m : MethodId) (args : Array Value) (below : List Frame) (meth : Method) (c : Code) (D : va_G) (ad0 : Nat → Nat) (cA0 : Nat → ClassId) (A : Nat → Prop) (lay : List mz_E) (Q : Int32 → mz_X → Prop) (F : mz_F p s m args meth c prog_9_method_12_code 2 y_Tc_lastColumn.cls (some .int) w_Tc_lastColumn) (hA : ∀ q, s.heap.size ≤ q → A q) : mz_All (mz_V p l e (mz_rm 1 21) s m args below meth c 2 lay.length (mz_sz lay) D mz_cls (mz_G0 ad0 cA0) A (MQ below (va_Qi Q (mz_B D mz_cls ad0 cA0 lay A) A) args s 0 0 A)) (mz_qi lay Q) (I_Tc_lastColumn w h) := by
  obtain ⟨hx, hb, hml, hown, hts, hr, hlk⟩ := F
  unfold I_Tc_lastColumn
  refine mz_All.cons (sd_aload_n hx hb (mz_dg d_Tc_lastColumn 0 0 (.aload_n 0) 1 rfl) rfl) ?_
  refine mz_All.cons (sd_get (k := 5) hx hb hts (mz_inC in_Tc) hown (T := T_Tc) (N := 7) rfl (by decide) (hts (.fieldLink "MazeForms$TreeCount" 50 "MazeForms$TreeCount" "size" "I") (List.mem_cons_of_mem _ wm_290)) (fun _ h => h) (mz_dg d_Tc_lastColumn 1 1 (.getfield 50) 3 rfl)) ?_
  refine mz_All.cons (sd_iconst hx hb (mz_dg d_Tc_lastColumn 2 4 (.iconst (1)) 1 rfl) (by decide)) ?_
  refine mz_All.cons (sd_isub hx hb (mz_dg d_Tc_lastColumn 3 5 (.isub) 1 rfl)) ?_
  refine mz_All.cons (sd_iload_n hx hb (mz_dg d_Tc_lastColumn 4 6 (.iload_n 1) 1 rfl) rfl) ?_
  refine mz_All.cons (sd_iconst hx hb (mz_dg d_Tc_lastColumn 5 7 (.iconst (2)) 1 rfl) (by decide)) ?_
  refine mz_All.cons (sd_aload_n hx hb (mz_dg d_Tc_lastColumn 6 8 (.aload_n 0) 1 rfl) rfl) ?_
  refine mz_All.cons (sd_get (k := 1) hx hb hts (mz_inC in_Tc) hown (T := T_Tc) (N := 7) rfl (by decide) (hts (.fieldLink "MazeForms$TreeCount" 21 "MazeForms$TreeCount" "band" "I") (List.mem_cons_of_mem _ wm_286)) (fun _ h => h) (mz_dg d_Tc_lastColumn 7 9 (.getfield 21) 3 rfl)) ?_
  refine mz_All.cons (sd_imul hx hb (mz_dg d_Tc_lastColumn 8 12 (.imul) 1 rfl)) ?_
  refine mz_All.cons (sd_iadd hx hb (mz_dg d_Tc_lastColumn 9 13 (.iadd) 1 rfl)) ?_
  refine mz_All.cons (sd_mmin hx hb hml hown (hts _ (List.mem_cons_of_mem _ wm_678)) (hts _ (List.mem_cons_of_mem _ wm_96)) (hts _ (List.mem_cons_of_mem _ wm_68)) (hts _ (List.mem_cons_of_mem _ wm_97)) (by decide) (by decide) (mz_dg d_Tc_lastColumn 10 14 (.invokestatic 116) 3 rfl)) ?_
  refine mz_All.cons (sd_ri hx hb hr hlk (mz_dg d_Tc_lastColumn 11 17 (.ireturn) 1 rfl)) ?_
  exact trivial
theorem met_Tc_lastColumn (w h : Nat) (l : Launch) : mz_MI l y_Tc_lastColumn w_Tc_lastColumn 1 21 mz_cls (C_Tc_lastColumn w h) := mz_MI_of (I_Tc_lastColumn w h) (by decide) rfl (len_Tc_lastColumn w h) (ok_Tc_lastColumn w h) (snd_Tc_lastColumn w h l)
set_option maxRecDepth 20000 in
theorem snd_Tc_slotOf (w h : Nat) (l : Launch) (p : Program) (e : Env) (s : State) (m : MethodId) (args : Array Value) (below : List Frame) (meth : Method) (c : Code) (D : va_G) (ad0 : Nat → Nat) (cA0 : Nat → ClassId) (A : Nat → Prop) (lay : List mz_E) (Q : Int32 → mz_X → Prop) (F : mz_F p s m args meth c prog_9_method_7_code 6 y_Tc_slotOf.cls (some .int) w_Tc_slotOf) (hA : ∀ q, s.heap.size ≤ q → A q) : mz_All (mz_V p l e (mz_rm 0 0) s m args below meth c 6 lay.length (mz_sz lay) D mz_cls (mz_G0 ad0 cA0) A (MQ below (va_Qi Q (mz_B D mz_cls ad0 cA0 lay A) A) args s 0 0 A)) (mz_qi lay Q) (I_Tc_slotOf w h) := by
  obtain ⟨hx, hb, hml, hown, hts, hr, hlk⟩ := F
  unfold I_Tc_slotOf
  refine mz_All.cons (sd_iload_n hx hb (mz_dg d_Tc_slotOf 0 0 (.iload_n 1) 1 rfl) rfl) ?_
  refine mz_All.cons (sd_if_lt hx hb (mz_dg d_Tc_slotOf 1 1 (.ifCond .lt (27)) 3 rfl) (by decide)) ?_
  refine mz_All.cons (sd_iload_n hx hb (mz_dg d_Tc_slotOf 2 4 (.iload_n 1) 1 rfl) rfl) ?_
  refine mz_All.cons (sd_aload_n hx hb (mz_dg d_Tc_slotOf 3 5 (.aload_n 0) 1 rfl) rfl) ?_
  refine mz_All.cons (sd_get (k := 5) hx hb hts (mz_inC in_Tc) hown (T := T_Tc) (N := 7) rfl (by decide) (hts (.fieldLink "MazeForms$TreeCount" 50 "MazeForms$TreeCount" "size" "I") (List.mem_cons_of_mem _ wm_290)) (fun _ h => h) (mz_dg d_Tc_slotOf 4 6 (.getfield 50) 3 rfl)) ?_
  refine mz_All.cons (sd_icmp_ge hx hb (mz_dg d_Tc_slotOf 5 9 (.if_icmp .ge (19)) 3 rfl) (by decide)) ?_
  refine mz_All.cons (sd_iload_n hx hb (mz_dg d_Tc_slotOf 6 12 (.iload_n 2) 1 rfl) rfl) ?_
  refine mz_All.cons (sd_if_lt hx hb (mz_dg d_Tc_slotOf 7 13 (.ifCond .lt (15)) 3 rfl) (by decide)) ?_
  refine mz_All.cons (sd_iload_n hx hb (mz_dg d_Tc_slotOf 8 16 (.iload_n 2) 1 rfl) rfl) ?_
  refine mz_All.cons (sd_aload_n hx hb (mz_dg d_Tc_slotOf 9 17 (.aload_n 0) 1 rfl) rfl) ?_
  refine mz_All.cons (sd_get (k := 5) hx hb hts (mz_inC in_Tc) hown (T := T_Tc) (N := 7) rfl (by decide) (hts (.fieldLink "MazeForms$TreeCount" 50 "MazeForms$TreeCount" "size" "I") (List.mem_cons_of_mem _ wm_290)) (fun _ h => h) (mz_dg d_Tc_slotOf 10 18 (.getfield 50) 3 rfl)) ?_
  refine mz_All.cons (sd_icmp_ge hx hb (mz_dg d_Tc_slotOf 11 21 (.if_icmp .ge (7)) 3 rfl) (by decide)) ?_
  refine mz_All.cons (sd_iconst hx hb (mz_dg d_Tc_slotOf 12 24 (.iconst (1)) 1 rfl) (by decide)) ?_
  refine mz_All.cons (sd_goto hx hb (mz_dg d_Tc_slotOf 13 25 (.goto (4)) 3 rfl) (by decide)) ?_
  refine mz_All.cons (sd_iconst hx hb (mz_dg d_Tc_slotOf 14 28 (.iconst (0)) 1 rfl) (by decide)) ?_
  refine mz_All.cons (sd_istore_n hx hb (mz_dg d_Tc_slotOf 15 29 (.istore_n 3) 1 rfl) rfl (by decide)) ?_
  refine mz_All.cons (sd_iload_n hx hb (mz_dg d_Tc_slotOf 16 30 (.iload_n 2) 1 rfl) rfl) ?_
  refine mz_All.cons (sd_iload_n hx hb (mz_dg d_Tc_slotOf 17 31 (.iload_n 1) 1 rfl) rfl) ?_
  refine mz_All.cons (sd_isub hx hb (mz_dg d_Tc_slotOf 18 32 (.isub) 1 rfl)) ?_
  refine mz_All.cons (sd_aload_n hx hb (mz_dg d_Tc_slotOf 19 33 (.aload_n 0) 1 rfl) rfl) ?_
  refine mz_All.cons (sd_get (k := 1) hx hb hts (mz_inC in_Tc) hown (T := T_Tc) (N := 7) rfl (by decide) (hts (.fieldLink "MazeForms$TreeCount" 21 "MazeForms$TreeCount" "band" "I") (List.mem_cons_of_mem _ wm_286)) (fun _ h => h) (mz_dg d_Tc_slotOf 20 34 (.getfield 21) 3 rfl)) ?_
  refine mz_All.cons (sd_ineg hx hb (mz_dg d_Tc_slotOf 21 37 (.ineg) 1 rfl)) ?_
  refine mz_All.cons (sd_icmp_lt hx hb (mz_dg d_Tc_slotOf 22 38 (.if_icmp .lt (19)) 3 rfl) (by decide)) ?_
  refine mz_All.cons (sd_iload_n hx hb (mz_dg d_Tc_slotOf 23 41 (.iload_n 2) 1 rfl) rfl) ?_
  refine mz_All.cons (sd_iload_n hx hb (mz_dg d_Tc_slotOf 24 42 (.iload_n 1) 1 rfl) rfl) ?_
  refine mz_All.cons (sd_isub hx hb (mz_dg d_Tc_slotOf 25 43 (.isub) 1 rfl)) ?_
  refine mz_All.cons (sd_iconst hx hb (mz_dg d_Tc_slotOf 26 44 (.iconst (2)) 1 rfl) (by decide)) ?_
  refine mz_All.cons (sd_aload_n hx hb (mz_dg d_Tc_slotOf 27 45 (.aload_n 0) 1 rfl) rfl) ?_
  refine mz_All.cons (sd_get (k := 1) hx hb hts (mz_inC in_Tc) hown (T := T_Tc) (N := 7) rfl (by decide) (hts (.fieldLink "MazeForms$TreeCount" 21 "MazeForms$TreeCount" "band" "I") (List.mem_cons_of_mem _ wm_286)) (fun _ h => h) (mz_dg d_Tc_slotOf 28 46 (.getfield 21) 3 rfl)) ?_
  refine mz_All.cons (sd_imul hx hb (mz_dg d_Tc_slotOf 29 49 (.imul) 1 rfl)) ?_
  refine mz_All.cons (sd_icmp_gt hx hb (mz_dg d_Tc_slotOf 30 50 (.if_icmp .gt (7)) 3 rfl) (by decide)) ?_
  refine mz_All.cons (sd_iconst hx hb (mz_dg d_Tc_slotOf 31 53 (.iconst (1)) 1 rfl) (by decide)) ?_
  refine mz_All.cons (sd_goto hx hb (mz_dg d_Tc_slotOf 32 54 (.goto (4)) 3 rfl) (by decide)) ?_
  refine mz_All.cons (sd_iconst hx hb (mz_dg d_Tc_slotOf 33 57 (.iconst (0)) 1 rfl) (by decide)) ?_
  refine mz_All.cons (sd_istore hx hb (mz_dg d_Tc_slotOf 34 58 (.istore 4) 2 rfl) (by decide)) ?_
  refine mz_All.cons (sd_iload_n hx hb (mz_dg d_Tc_slotOf 35 60 (.iload_n 1) 1 rfl) rfl) ?_
  refine mz_All.cons (sd_aload_n hx hb (mz_dg d_Tc_slotOf 36 61 (.aload_n 0) 1 rfl) rfl) ?_
  refine mz_All.cons (sd_get (k := 2) hx hb hts (mz_inC in_Tc) hown (T := T_Tc) (N := 7) rfl (by decide) (hts (.fieldLink "MazeForms$TreeCount" 25 "MazeForms$TreeCount" "stride" "I") (List.mem_cons_of_mem _ wm_287)) (fun _ h => h) (mz_dg d_Tc_slotOf 37 62 (.getfield 25) 3 rfl)) ?_
  refine mz_All.cons (sd_imul hx hb (mz_dg d_Tc_slotOf 38 65 (.imul) 1 rfl)) ?_
  refine mz_All.cons (sd_iload_n hx hb (mz_dg d_Tc_slotOf 39 66 (.iload_n 2) 1 rfl) rfl) ?_
  refine mz_All.cons (sd_iadd hx hb (mz_dg d_Tc_slotOf 40 67 (.iadd) 1 rfl)) ?_
  refine mz_All.cons (sd_iload_n hx hb (mz_dg d_Tc_slotOf 41 68 (.iload_n 1) 1 rfl) rfl) ?_
  refine mz_All.cons (sd_isub hx hb (mz_dg d_Tc_slotOf 42 69 (.isub) 1 rfl)) ?_
  refine mz_All.cons (sd_aload_n hx hb (mz_dg d_Tc_slotOf 43 70 (.aload_n 0) 1 rfl) rfl) ?_
  refine mz_All.cons (sd_get (k := 1) hx hb hts (mz_inC in_Tc) hown (T := T_Tc) (N := 7) rfl (by decide) (hts (.fieldLink "MazeForms$TreeCount" 21 "MazeForms$TreeCount" "band" "I") (List.mem_cons_of_mem _ wm_286)) (fun _ h => h) (mz_dg d_Tc_slotOf 44 71 (.getfield 21) 3 rfl)) ?_
  refine mz_All.cons (sd_iadd hx hb (mz_dg d_Tc_slotOf 45 74 (.iadd) 1 rfl)) ?_
  refine mz_All.cons (sd_istore hx hb (mz_dg d_Tc_slotOf 46 75 (.istore 5) 2 rfl) (by decide)) ?_
  refine mz_All.cons (sd_iload_n hx hb (mz_dg d_Tc_slotOf 47 77 (.iload_n 3) 1 rfl) rfl) ?_
  refine mz_All.cons (sd_if_eq hx hb (mz_dg d_Tc_slotOf 48 78 (.ifCond .eq (28)) 3 rfl) (by decide)) ?_
  refine mz_All.cons (sd_iload hx hb (mz_dg d_Tc_slotOf 49 81 (.iload 4) 2 rfl)) ?_
  refine mz_All.cons (sd_if_eq hx hb (mz_dg d_Tc_slotOf 50 83 (.ifCond .eq (23)) 3 rfl) (by decide)) ?_
  refine mz_All.cons (sd_iload hx hb (mz_dg d_Tc_slotOf 51 86 (.iload 5) 2 rfl)) ?_
  refine mz_All.cons (sd_if_lt hx hb (mz_dg d_Tc_slotOf 52 88 (.ifCond .lt (18)) 3 rfl) (by decide)) ?_
  refine mz_All.cons (sd_iload hx hb (mz_dg d_Tc_slotOf 53 91 (.iload 5) 2 rfl)) ?_
  refine mz_All.cons (sd_aload_n hx hb (mz_dg d_Tc_slotOf 54 93 (.aload_n 0) 1 rfl) rfl) ?_
  refine mz_All.cons (sd_get (k := 4) hx hb hts (mz_inC in_Tc) hown (T := T_Tc) (N := 7) rfl (by decide) (hts (.fieldLink "MazeForms$TreeCount" 35 "MazeForms$TreeCount" "entries" "[J") (List.mem_cons_of_mem _ wm_289)) (fun _ h => h) (mz_dg d_Tc_slotOf 55 94 (.getfield 35) 3 rfl)) ?_
  refine mz_All.cons (sd_alen hx hb (mz_dg d_Tc_slotOf 56 97 (.arraylength) 1 rfl)) ?_
  refine mz_All.cons (sd_icmp_ge hx hb (mz_dg d_Tc_slotOf 57 98 (.if_icmp .ge (8)) 3 rfl) (by decide)) ?_
  refine mz_All.cons (sd_iload hx hb (mz_dg d_Tc_slotOf 58 101 (.iload 5) 2 rfl)) ?_
  refine mz_All.cons (sd_goto hx hb (mz_dg d_Tc_slotOf 59 103 (.goto (4)) 3 rfl) (by decide)) ?_
  refine mz_All.cons (sd_iconst hx hb (mz_dg d_Tc_slotOf 60 106 (.iconst (-1)) 1 rfl) (by decide)) ?_
  refine mz_All.cons (sd_ri hx hb hr hlk (mz_dg d_Tc_slotOf 61 107 (.ireturn) 1 rfl)) ?_
  exact trivial
theorem met_Tc_slotOf (w h : Nat) (l : Launch) : mz_MI l y_Tc_slotOf w_Tc_slotOf 0 0 mz_cls (C_Tc_slotOf w h) := mz_MI_of (I_Tc_slotOf w h) (by decide) rfl (len_Tc_slotOf w h) (ok_Tc_slotOf w h) (snd_Tc_slotOf w h l)
set_option maxRecDepth 20000 in
theorem snd_Tc_entry (w h : Nat) (l : Launch) (p : Program) (e : Env) (s : State) (m : MethodId) (args : Array Value) (below : List Frame) (meth : Method) (c : Code) (D : va_G) (ad0 : Nat → Nat) (cA0 : Nat → ClassId) (A : Nat → Prop) (lay : List mz_E) (Q : Int64 → mz_X → Prop) (F : mz_F p s m args meth c prog_9_method_8_code 4 y_Tc_entry.cls (some .long) w_Tc_entry) (hA : ∀ q, s.heap.size ≤ q → A q) : mz_All (mz_V p l e (mz_rm 1 25) s m args below meth c 4 lay.length (mz_sz lay) D mz_cls (mz_G0 ad0 cA0) A (MQ below (va_Ql Q (mz_B D mz_cls ad0 cA0 lay A) A) args s 0 0 A)) (mz_ql lay Q) (I_Tc_entry w h) := by
  obtain ⟨hx, hb, hml, hown, hts, hr, hlk⟩ := F
  unfold I_Tc_entry
  refine mz_All.cons (sd_aload_n hx hb (mz_dg d_Tc_entry 0 0 (.aload_n 0) 1 rfl) rfl) ?_
  refine mz_All.cons (sd_iload_n hx hb (mz_dg d_Tc_entry 1 1 (.iload_n 1) 1 rfl) rfl) ?_
  refine mz_All.cons (sd_iload_n hx hb (mz_dg d_Tc_entry 2 2 (.iload_n 2) 1 rfl) rfl) ?_
  refine mz_All.cons (sd_calli (T := T_Tc) ⟨hx, hb, hml, hown, hts⟩ (met_Tc_slotOf w h l) (cwV 2 hts (mz_gV wm_662 wm_664 wm_28 wm_76 wm_665) rfl rfl rfl (by decide) ⟨by decide, by decide⟩) rfl hA rfl (mz_dg d_Tc_entry 3 3 (.invokevirtual 90) 3 rfl)) ?_
  refine mz_All.cons (sd_istore_n hx hb (mz_dg d_Tc_entry 4 6 (.istore_n 3) 1 rfl) rfl (by decide)) ?_
  refine mz_All.cons (sd_iload_n hx hb (mz_dg d_Tc_entry 5 7 (.iload_n 3) 1 rfl) rfl) ?_
  refine mz_All.cons (sd_iconst hx hb (mz_dg d_Tc_entry 6 8 (.iconst (-1)) 1 rfl) (by decide)) ?_
  refine mz_All.cons (sd_icmp_ne hx hb (mz_dg d_Tc_entry 7 9 (.if_icmp .ne (7)) 3 rfl) (by decide)) ?_
  refine mz_All.cons (sd_lconst hx hb (mz_dg d_Tc_entry 8 12 (.lconst 0) 1 rfl) (by decide)) ?_
  refine mz_All.cons (sd_goto hx hb (mz_dg d_Tc_entry 9 13 (.goto (9)) 3 rfl) (by decide)) ?_
  refine mz_All.cons (sd_aload_n hx hb (mz_dg d_Tc_entry 10 16 (.aload_n 0) 1 rfl) rfl) ?_
  refine mz_All.cons (sd_get (k := 4) hx hb hts (mz_inC in_Tc) hown (T := T_Tc) (N := 7) rfl (by decide) (hts (.fieldLink "MazeForms$TreeCount" 35 "MazeForms$TreeCount" "entries" "[J") (List.mem_cons_of_mem _ wm_289)) (fun _ h => h) (mz_dg d_Tc_entry 11 17 (.getfield 35) 3 rfl)) ?_
  refine mz_All.cons (sd_iload_n hx hb (mz_dg d_Tc_entry 12 20 (.iload_n 3) 1 rfl) rfl) ?_
  refine mz_All.cons (sd_lald hx hb (mz_dg d_Tc_entry 13 21 (.laload) 1 rfl)) ?_
  refine mz_All.cons (sd_rl hx hb hr hlk (mz_dg d_Tc_entry 14 22 (.lreturn) 1 rfl)) ?_
  exact trivial
theorem met_Tc_entry (w h : Nat) (l : Launch) : mz_ML l y_Tc_entry w_Tc_entry 1 25 mz_cls (C_Tc_entry w h) := mz_ML_of (I_Tc_entry w h) (by decide) rfl (len_Tc_entry w h) (ok_Tc_entry w h) (snd_Tc_entry w h l)
set_option maxRecDepth 20000 in
theorem snd_Tc_addTo (w h : Nat) (l : Launch) (p : Program) (e : Env) (s : State) (m : MethodId) (args : Array Value) (below : List Frame) (meth : Method) (c : Code) (D : va_G) (ad0 : Nat → Nat) (cA0 : Nat → ClassId) (A : Nat → Prop) (lay : List mz_E) (Q : mz_X → Prop) (F : mz_F p s m args meth c prog_9_method_6_code 6 y_Tc_addTo.cls none w_Tc_addTo) (hA : ∀ q, s.heap.size ≤ q → A q) : mz_All (mz_V p l e (mz_rm 1 25) s m args below meth c 6 lay.length (mz_sz lay) D mz_cls (mz_G0 ad0 cA0) A (MQ below (va_Qv Q (mz_B D mz_cls ad0 cA0 lay A) A) args s 0 0 A)) (mz_qv lay Q) (I_Tc_addTo w h) := by
  obtain ⟨hx, hb, hml, hown, hts, hr, hlk⟩ := F
  unfold I_Tc_addTo
  refine mz_All.cons (sd_aload_n hx hb (mz_dg d_Tc_addTo 0 0 (.aload_n 0) 1 rfl) rfl) ?_
  refine mz_All.cons (sd_iload_n hx hb (mz_dg d_Tc_addTo 1 1 (.iload_n 1) 1 rfl) rfl) ?_
  refine mz_All.cons (sd_iload_n hx hb (mz_dg d_Tc_addTo 2 2 (.iload_n 2) 1 rfl) rfl) ?_
  refine mz_All.cons (sd_calli (T := T_Tc) ⟨hx, hb, hml, hown, hts⟩ (met_Tc_slotOf w h l) (cwV 2 hts (mz_gV wm_662 wm_664 wm_28 wm_76 wm_665) rfl rfl rfl (by decide) ⟨by decide, by decide⟩) rfl hA rfl (mz_dg d_Tc_addTo 3 3 (.invokevirtual 90) 3 rfl)) ?_
  refine mz_All.cons (sd_istore hx hb (mz_dg d_Tc_addTo 4 6 (.istore 5) 2 rfl) (by decide)) ?_
  refine mz_All.cons (sd_iload hx hb (mz_dg d_Tc_addTo 5 8 (.iload 5) 2 rfl)) ?_
  refine mz_All.cons (sd_iconst hx hb (mz_dg d_Tc_addTo 6 10 (.iconst (-1)) 1 rfl) (by decide)) ?_
  refine mz_All.cons (sd_icmp_eq hx hb (mz_dg d_Tc_addTo 7 11 (.if_icmp .eq (14)) 3 rfl) (by decide)) ?_
  refine mz_All.cons (sd_aload_n hx hb (mz_dg d_Tc_addTo 8 14 (.aload_n 0) 1 rfl) rfl) ?_
  refine mz_All.cons (sd_get (k := 4) hx hb hts (mz_inC in_Tc) hown (T := T_Tc) (N := 7) rfl (by decide) (hts (.fieldLink "MazeForms$TreeCount" 35 "MazeForms$TreeCount" "entries" "[J") (List.mem_cons_of_mem _ wm_289)) (fun _ h => h) (mz_dg d_Tc_addTo 9 15 (.getfield 35) 3 rfl)) ?_
  refine mz_All.cons (sd_iload hx hb (mz_dg d_Tc_addTo 10 18 (.iload 5) 2 rfl)) ?_
  refine mz_All.cons (sd_dup2 hx hb (mz_dg d_Tc_addTo 11 20 (.dup2) 1 rfl)) ?_
  refine mz_All.cons (sd_lald hx hb (mz_dg d_Tc_addTo 12 21 (.laload) 1 rfl)) ?_
  refine mz_All.cons (sd_lload_n hx hb (mz_dg d_Tc_addTo 13 22 (.lload_n 3) 1 rfl) rfl) ?_
  refine mz_All.cons (sd_ladd hx hb (mz_dg d_Tc_addTo 14 23 (.ladd) 1 rfl)) ?_
  refine mz_All.cons (sd_last hx hb (mz_dg d_Tc_addTo 15 24 (.lastore) 1 rfl)) ?_
  refine mz_All.cons (sd_rv hx hb hr hlk (mz_dg d_Tc_addTo 16 25 (.return_) 1 rfl)) ?_
  exact trivial
theorem met_Tc_addTo (w h : Nat) (l : Launch) : mz_MV l y_Tc_addTo w_Tc_addTo 1 25 mz_cls (C_Tc_addTo w h) := mz_MV_of (I_Tc_addTo w h) (by decide) rfl (len_Tc_addTo w h) (ok_Tc_addTo w h) (snd_Tc_addTo w h l)
set_option maxRecDepth 20000 in
theorem snd_Tc_placeIn (w h : Nat) (l : Launch) (p : Program) (e : Env) (s : State) (m : MethodId) (args : Array Value) (below : List Frame) (meth : Method) (c : Code) (D : va_G) (ad0 : Nat → Nat) (cA0 : Nat → ClassId) (A : Nat → Prop) (lay : List mz_E) (Q : Int32 → mz_X → Prop) (F : mz_F p s m args meth c prog_9_method_5_code 2 y_Tc_placeIn.cls (some .int) w_Tc_placeIn) (hA : ∀ q, s.heap.size ≤ q → A q) : mz_All (mz_V p l e (mz_rm 1 21) s m args below meth c 2 lay.length (mz_sz lay) D mz_cls (mz_G0 ad0 cA0) A (MQ below (va_Qi Q (mz_B D mz_cls ad0 cA0 lay A) A) args s 0 0 A)) (mz_qi lay Q) (I_Tc_placeIn w h) := by
  obtain ⟨hx, hb, hml, hown, hts, hr, hlk⟩ := F
  unfold I_Tc_placeIn
  refine mz_All.cons (sd_aload_n hx hb (mz_dg d_Tc_placeIn 0 0 (.aload_n 0) 1 rfl) rfl) ?_
  refine mz_All.cons (sd_get (k := 0) hx hb hts (mz_inC in_Tc) hown (T := T_Tc) (N := 7) rfl (by decide) (hts (.fieldLink "MazeForms$TreeCount" 9 "MazeForms$TreeCount" "grid" "LMazeForms$Grid;") (List.mem_cons_of_mem _ wm_285)) (fun _ h => h) (mz_dg d_Tc_placeIn 1 1 (.getfield 9) 3 rfl)) ?_
  refine mz_All.cons (sd_iload_n hx hb (mz_dg d_Tc_placeIn 2 4 (.iload_n 1) 1 rfl) rfl) ?_
  refine mz_All.cons (sd_calli (T := T_Gr) ⟨hx, hb, hml, hown, hts⟩ (met_Gr_isCell w h l) (cwV 1 hts (mz_gV wm_656 wm_121 wm_122 wm_67 wm_123) rfl rfl rfl (by decide) ⟨by decide, by decide⟩) rfl hA rfl (mz_dg d_Tc_placeIn 3 5 (.invokevirtual 87) 3 rfl)) ?_
  refine mz_All.cons (sd_if_eq hx hb (mz_dg d_Tc_placeIn 4 8 (.ifCond .eq (12)) 3 rfl) (by decide)) ?_
  refine mz_All.cons (sd_aload_n hx hb (mz_dg d_Tc_placeIn 5 11 (.aload_n 0) 1 rfl) rfl) ?_
  refine mz_All.cons (sd_get (k := 3) hx hb hts (mz_inC in_Tc) hown (T := T_Tc) (N := 7) rfl (by decide) (hts (.fieldLink "MazeForms$TreeCount" 31 "MazeForms$TreeCount" "placeOf" "[I") (List.mem_cons_of_mem _ wm_288)) (fun _ h => h) (mz_dg d_Tc_placeIn 6 12 (.getfield 31) 3 rfl)) ?_
  refine mz_All.cons (sd_iload_n hx hb (mz_dg d_Tc_placeIn 7 15 (.iload_n 1) 1 rfl) rfl) ?_
  refine mz_All.cons (sd_iald hx hb (mz_dg d_Tc_placeIn 8 16 (.iaload) 1 rfl)) ?_
  refine mz_All.cons (sd_goto hx hb (mz_dg d_Tc_placeIn 9 17 (.goto (4)) 3 rfl) (by decide)) ?_
  refine mz_All.cons (sd_iconst hx hb (mz_dg d_Tc_placeIn 10 20 (.iconst (-1)) 1 rfl) (by decide)) ?_
  refine mz_All.cons (sd_ri hx hb hr hlk (mz_dg d_Tc_placeIn 11 21 (.ireturn) 1 rfl)) ?_
  exact trivial
theorem met_Tc_placeIn (w h : Nat) (l : Launch) : mz_MI l y_Tc_placeIn w_Tc_placeIn 1 21 mz_cls (C_Tc_placeIn w h) := mz_MI_of (I_Tc_placeIn w h) (by decide) rfl (len_Tc_placeIn w h) (ok_Tc_placeIn w h) (snd_Tc_placeIn w h l)
set_option maxRecDepth 20000 in
theorem snd_Tc_numberFreeCells (w h : Nat) (l : Launch) (p : Program) (e : Env) (s : State) (m : MethodId) (args : Array Value) (below : List Frame) (meth : Method) (c : Code) (D : va_G) (ad0 : Nat → Nat) (cA0 : Nat → ClassId) (A : Nat → Prop) (lay : List mz_E) (Q : Int32 → mz_X → Prop) (F : mz_F p s m args meth c prog_9_method_3_code 3 y_Tc_numberFreeCells.cls (some .int) w_Tc_numberFreeCells) (hA : ∀ q, s.heap.size ≤ q → A q) : mz_All (mz_V p l e (mz_rm 2 42) s m args below meth c 3 lay.length (mz_sz lay) D mz_cls (mz_G0 ad0 cA0) A (MQ below (va_Qi Q (mz_B D mz_cls ad0 cA0 lay A) A) args s 0 0 A)) (mz_qi lay Q) (I_Tc_numberFreeCells w h) := by
  obtain ⟨hx, hb, hml, hown, hts, hr, hlk⟩ := F
  unfold I_Tc_numberFreeCells
  refine mz_All.cons (sd_iconst hx hb (mz_dg d_Tc_numberFreeCells 0 0 (.iconst (0)) 1 rfl) (by decide)) ?_
  refine mz_All.cons (sd_istore_n hx hb (mz_dg d_Tc_numberFreeCells 1 1 (.istore_n 1) 1 rfl) rfl (by decide)) ?_
  refine mz_All.cons (sd_iconst hx hb (mz_dg d_Tc_numberFreeCells 2 2 (.iconst (0)) 1 rfl) (by decide)) ?_
  refine mz_All.cons (sd_istore_n hx hb (mz_dg d_Tc_numberFreeCells 3 3 (.istore_n 2) 1 rfl) rfl (by decide)) ?_
  refine mz_All.cons (sd_iload_n hx hb (mz_dg d_Tc_numberFreeCells 4 4 (.iload_n 2) 1 rfl) rfl) ?_
  refine mz_All.cons (sd_aload_n hx hb (mz_dg d_Tc_numberFreeCells 5 5 (.aload_n 0) 1 rfl) rfl) ?_
  refine mz_All.cons (sd_get (k := 3) hx hb hts (mz_inC in_Tc) hown (T := T_Tc) (N := 7) rfl (by decide) (hts (.fieldLink "MazeForms$TreeCount" 31 "MazeForms$TreeCount" "placeOf" "[I") (List.mem_cons_of_mem _ wm_288)) (fun _ h => h) (mz_dg d_Tc_numberFreeCells 6 6 (.getfield 31) 3 rfl)) ?_
  refine mz_All.cons (sd_alen hx hb (mz_dg d_Tc_numberFreeCells 7 9 (.arraylength) 1 rfl)) ?_
  refine mz_All.cons (sd_icmp_ge hx hb (mz_dg d_Tc_numberFreeCells 8 10 (.if_icmp .ge (30)) 3 rfl) (by decide)) ?_
  refine mz_All.cons (sd_aload_n hx hb (mz_dg d_Tc_numberFreeCells 9 13 (.aload_n 0) 1 rfl) rfl) ?_
  refine mz_All.cons (sd_get (k := 3) hx hb hts (mz_inC in_Tc) hown (T := T_Tc) (N := 7) rfl (by decide) (hts (.fieldLink "MazeForms$TreeCount" 31 "MazeForms$TreeCount" "placeOf" "[I") (List.mem_cons_of_mem _ wm_288)) (fun _ h => h) (mz_dg d_Tc_numberFreeCells 10 14 (.getfield 31) 3 rfl)) ?_
  refine mz_All.cons (sd_iload_n hx hb (mz_dg d_Tc_numberFreeCells 11 17 (.iload_n 2) 1 rfl) rfl) ?_
  refine mz_All.cons (sd_iload_n hx hb (mz_dg d_Tc_numberFreeCells 12 18 (.iload_n 1) 1 rfl) rfl) ?_
  refine mz_All.cons (sd_iast hx hb (mz_dg d_Tc_numberFreeCells 13 19 (.iastore) 1 rfl)) ?_
  refine mz_All.cons (sd_aload_n hx hb (mz_dg d_Tc_numberFreeCells 14 20 (.aload_n 0) 1 rfl) rfl) ?_
  refine mz_All.cons (sd_get (k := 0) hx hb hts (mz_inC in_Tc) hown (T := T_Tc) (N := 7) rfl (by decide) (hts (.fieldLink "MazeForms$TreeCount" 9 "MazeForms$TreeCount" "grid" "LMazeForms$Grid;") (List.mem_cons_of_mem _ wm_285)) (fun _ h => h) (mz_dg d_Tc_numberFreeCells 15 21 (.getfield 9) 3 rfl)) ?_
  refine mz_All.cons (sd_iload_n hx hb (mz_dg d_Tc_numberFreeCells 16 24 (.iload_n 2) 1 rfl) rfl) ?_
  refine mz_All.cons (sd_calli (T := T_Gr) ⟨hx, hb, hml, hown, hts⟩ (met_Gr_isFree w h l) (cwV 1 hts (mz_gV wm_642 wm_117 wm_118 wm_67 wm_119) rfl rfl rfl (by decide) ⟨by decide, by decide⟩) rfl hA rfl (mz_dg d_Tc_numberFreeCells 17 25 (.invokevirtual 60) 3 rfl)) ?_
  refine mz_All.cons (sd_if_eq hx hb (mz_dg d_Tc_numberFreeCells 18 28 (.ifCond .eq (6)) 3 rfl) (by decide)) ?_
  refine mz_All.cons (sd_iinc hx hb (mz_dg d_Tc_numberFreeCells 19 31 (.iinc 1 (1)) 3 rfl) (by decide) (by decide)) ?_
  refine mz_All.cons (sd_iinc hx hb (mz_dg d_Tc_numberFreeCells 20 34 (.iinc 2 (1)) 3 rfl) (by decide) (by decide)) ?_
  refine mz_All.cons (sd_goto hx hb (mz_dg d_Tc_numberFreeCells 21 37 (.goto (-33)) 3 rfl) (by decide)) ?_
  refine mz_All.cons (sd_iload_n hx hb (mz_dg d_Tc_numberFreeCells 22 40 (.iload_n 1) 1 rfl) rfl) ?_
  refine mz_All.cons (sd_ri hx hb hr hlk (mz_dg d_Tc_numberFreeCells 23 41 (.ireturn) 1 rfl)) ?_
  exact trivial
theorem met_Tc_numberFreeCells (w h : Nat) (l : Launch) : mz_MI l y_Tc_numberFreeCells w_Tc_numberFreeCells 2 42 mz_cls (C_Tc_numberFreeCells w h) := mz_MI_of (I_Tc_numberFreeCells w h) (by decide) rfl (len_Tc_numberFreeCells w h) (ok_Tc_numberFreeCells w h) (snd_Tc_numberFreeCells w h l)
set_option maxRecDepth 20000 in
theorem snd_Tc_times (w h : Nat) (l : Launch) (p : Program) (e : Env) (s : State) (m : MethodId) (args : Array Value) (below : List Frame) (meth : Method) (c : Code) (D : va_G) (ad0 : Nat → Nat) (cA0 : Nat → ClassId) (A : Nat → Prop) (lay : List mz_E) (Q : Int64 → mz_X → Prop) (F : mz_F p s m args meth c prog_9_method_16_code 5 y_Tc_times.cls (some .long) w_Tc_times) (hA : ∀ q, s.heap.size ≤ q → A q) : mz_All (mz_V p l e (mz_rm 0 0) s m args below meth c 5 lay.length (mz_sz lay) D mz_cls (mz_G0 ad0 cA0) A (MQ below (va_Ql Q (mz_B D mz_cls ad0 cA0 lay A) A) args s 0 0 A)) (mz_ql lay Q) (I_Tc_times w h) := by
  obtain ⟨hx, hb, hml, hown, hts, hr, hlk⟩ := F
  unfold I_Tc_times
  refine mz_All.cons (sd_aload_n hx hb (mz_dg d_Tc_times 0 0 (.aload_n 0) 1 rfl) rfl) ?_
  refine mz_All.cons (sd_get (k := 6) hx hb hts (mz_inC in_Tc) hown (T := T_Tc) (N := 7) rfl (by decide) (hts (.fieldLink "MazeForms$TreeCount" 43 "MazeForms$TreeCount" "prime" "J") (List.mem_cons_of_mem _ wm_291)) (fun _ h => h) (mz_dg d_Tc_times 1 1 (.getfield 43) 3 rfl)) ?_
  refine mz_All.cons (sd_ldc2 hx hb hown (hts _ (List.mem_cons_of_mem _ wm_636)) (mz_dg d_Tc_times 2 4 (.ldc2_w 39) 3 rfl)) ?_
  refine mz_All.cons (sd_lcmp hx hb (mz_dg d_Tc_times 3 7 (.lcmp) 1 rfl)) ?_
  refine mz_All.cons (sd_if_ge hx hb (mz_dg d_Tc_times 4 8 (.ifCond .ge (7)) 3 rfl) (by decide)) ?_
  refine mz_All.cons (sd_lconst hx hb (mz_dg d_Tc_times 5 11 (.lconst 0) 1 rfl) (by decide)) ?_
  refine mz_All.cons (sd_goto hx hb (mz_dg d_Tc_times 6 12 (.goto (11)) 3 rfl) (by decide)) ?_
  refine mz_All.cons (sd_lload_n hx hb (mz_dg d_Tc_times 7 15 (.lload_n 1) 1 rfl) rfl) ?_
  refine mz_All.cons (sd_lload_n hx hb (mz_dg d_Tc_times 8 16 (.lload_n 3) 1 rfl) rfl) ?_
  refine mz_All.cons (sd_lmul hx hb (mz_dg d_Tc_times 9 17 (.lmul) 1 rfl)) ?_
  refine mz_All.cons (sd_aload_n hx hb (mz_dg d_Tc_times 10 18 (.aload_n 0) 1 rfl) rfl) ?_
  refine mz_All.cons (sd_get (k := 6) hx hb hts (mz_inC in_Tc) hown (T := T_Tc) (N := 7) rfl (by decide) (hts (.fieldLink "MazeForms$TreeCount" 43 "MazeForms$TreeCount" "prime" "J") (List.mem_cons_of_mem _ wm_291)) (fun _ h => h) (mz_dg d_Tc_times 11 19 (.getfield 43) 3 rfl)) ?_
  refine mz_All.cons (sd_lrem hx hb (mz_dg d_Tc_times 12 22 (.lrem) 1 rfl)) ?_
  refine mz_All.cons (sd_rl hx hb hr hlk (mz_dg d_Tc_times 13 23 (.lreturn) 1 rfl)) ?_
  exact trivial
theorem met_Tc_times (w h : Nat) (l : Launch) : mz_ML l y_Tc_times w_Tc_times 0 0 mz_cls (C_Tc_times w h) := mz_ML_of (I_Tc_times w h) (by decide) rfl (len_Tc_times w h) (ok_Tc_times w h) (snd_Tc_times w h l)
set_option maxRecDepth 20000 in
theorem snd_Tc_fillIn (w h : Nat) (l : Launch) (p : Program) (e : Env) (s : State) (m : MethodId) (args : Array Value) (below : List Frame) (meth : Method) (c : Code) (D : va_G) (ad0 : Nat → Nat) (cA0 : Nat → ClassId) (A : Nat → Prop) (lay : List mz_E) (Q : mz_X → Prop) (F : mz_F p s m args meth c prog_9_method_4_code 4 y_Tc_fillIn.cls none w_Tc_fillIn) (hA : ∀ q, s.heap.size ≤ q → A q) : mz_All (mz_V p l e (mz_rm 2 50) s m args below meth c 4 lay.length (mz_sz lay) D mz_cls (mz_G0 ad0 cA0) A (MQ below (va_Qv Q (mz_B D mz_cls ad0 cA0 lay A) A) args s 0 0 A)) (mz_qv lay Q) (I_Tc_fillIn w h) := by
  obtain ⟨hx, hb, hml, hown, hts, hr, hlk⟩ := F
  unfold I_Tc_fillIn
  refine mz_All.cons (sd_aload_n hx hb (mz_dg d_Tc_fillIn 0 0 (.aload_n 0) 1 rfl) rfl) ?_
  refine mz_All.cons (sd_get (k := 4) hx hb hts (mz_inC in_Tc) hown (T := T_Tc) (N := 7) rfl (by decide) (hts (.fieldLink "MazeForms$TreeCount" 35 "MazeForms$TreeCount" "entries" "[J") (List.mem_cons_of_mem _ wm_289)) (fun _ h => h) (mz_dg d_Tc_fillIn 1 1 (.getfield 35) 3 rfl)) ?_
  refine mz_All.cons (sd_lconst hx hb (mz_dg d_Tc_fillIn 2 4 (.lconst 0) 1 rfl) (by decide)) ?_
  refine mz_All.cons (sd_scallv ⟨hx, hb, hml, hown, hts⟩ (met_Ja_fillJ w h l) (va_cwS 2 hts (mz_gSo wm_647 wm_648 wm_69 wm_649) rfl rfl rfl (by decide) ⟨by decide, by decide⟩) hA rfl (mz_dg d_Tc_fillIn 3 5 (.invokestatic 64) 3 rfl)) ?_
  refine mz_All.cons (sd_iconst hx hb (mz_dg d_Tc_fillIn 4 8 (.iconst (0)) 1 rfl) (by decide)) ?_
  refine mz_All.cons (sd_istore_n hx hb (mz_dg d_Tc_fillIn 5 9 (.istore_n 1) 1 rfl) rfl (by decide)) ?_
  refine mz_All.cons (sd_iload_n hx hb (mz_dg d_Tc_fillIn 6 10 (.iload_n 1) 1 rfl) rfl) ?_
  refine mz_All.cons (sd_aload_n hx hb (mz_dg d_Tc_fillIn 7 11 (.aload_n 0) 1 rfl) rfl) ?_
  refine mz_All.cons (sd_get (k := 0) hx hb hts (mz_inC in_Tc) hown (T := T_Tc) (N := 7) rfl (by decide) (hts (.fieldLink "MazeForms$TreeCount" 9 "MazeForms$TreeCount" "grid" "LMazeForms$Grid;") (List.mem_cons_of_mem _ wm_285)) (fun _ h => h) (mz_dg d_Tc_fillIn 8 12 (.getfield 9) 3 rfl)) ?_
  refine mz_All.cons (sd_calli (T := T_Gr) ⟨hx, hb, hml, hown, hts⟩ (met_Gr_doorCount w h l) (cwV 0 hts (mz_gV wm_650 wm_426 wm_427 wm_67 wm_428) rfl rfl rfl (by decide) ⟨by decide, by decide⟩) rfl hA rfl (mz_dg d_Tc_fillIn 9 15 (.invokevirtual 70) 3 rfl)) ?_
  refine mz_All.cons (sd_icmp_ge hx hb (mz_dg d_Tc_fillIn 10 18 (.if_icmp .ge (73)) 3 rfl) (by decide)) ?_
  refine mz_All.cons (sd_aload_n hx hb (mz_dg d_Tc_fillIn 11 21 (.aload_n 0) 1 rfl) rfl) ?_
  refine mz_All.cons (sd_aload_n hx hb (mz_dg d_Tc_fillIn 12 22 (.aload_n 0) 1 rfl) rfl) ?_
  refine mz_All.cons (sd_get (k := 0) hx hb hts (mz_inC in_Tc) hown (T := T_Tc) (N := 7) rfl (by decide) (hts (.fieldLink "MazeForms$TreeCount" 9 "MazeForms$TreeCount" "grid" "LMazeForms$Grid;") (List.mem_cons_of_mem _ wm_285)) (fun _ h => h) (mz_dg d_Tc_fillIn 13 23 (.getfield 9) 3 rfl)) ?_
  refine mz_All.cons (sd_iload_n hx hb (mz_dg d_Tc_fillIn 14 26 (.iload_n 1) 1 rfl) rfl) ?_
  refine mz_All.cons (sd_calli (T := T_Gr) ⟨hx, hb, hml, hown, hts⟩ (met_Gr_lesserCell w h l) (cwV 1 hts (mz_gV wm_651 wm_451 wm_452 wm_67 wm_453) rfl rfl rfl (by decide) ⟨by decide, by decide⟩) rfl hA rfl (mz_dg d_Tc_fillIn 15 27 (.invokevirtual 73) 3 rfl)) ?_
  refine mz_All.cons (sd_calli (T := T_Tc) ⟨hx, hb, hml, hown, hts⟩ (met_Tc_placeIn w h l) (cwV 1 hts (mz_gV wm_652 wm_654 wm_26 wm_76 wm_655) rfl rfl rfl (by decide) ⟨by decide, by decide⟩) rfl hA rfl (mz_dg d_Tc_fillIn 16 30 (.invokevirtual 77) 3 rfl)) ?_
  refine mz_All.cons (sd_istore_n hx hb (mz_dg d_Tc_fillIn 17 33 (.istore_n 2) 1 rfl) rfl (by decide)) ?_
  refine mz_All.cons (sd_aload_n hx hb (mz_dg d_Tc_fillIn 18 34 (.aload_n 0) 1 rfl) rfl) ?_
  refine mz_All.cons (sd_aload_n hx hb (mz_dg d_Tc_fillIn 19 35 (.aload_n 0) 1 rfl) rfl) ?_
  refine mz_All.cons (sd_get (k := 0) hx hb hts (mz_inC in_Tc) hown (T := T_Tc) (N := 7) rfl (by decide) (hts (.fieldLink "MazeForms$TreeCount" 9 "MazeForms$TreeCount" "grid" "LMazeForms$Grid;") (List.mem_cons_of_mem _ wm_285)) (fun _ h => h) (mz_dg d_Tc_fillIn 20 36 (.getfield 9) 3 rfl)) ?_
  refine mz_All.cons (sd_iload_n hx hb (mz_dg d_Tc_fillIn 21 39 (.iload_n 1) 1 rfl) rfl) ?_
  refine mz_All.cons (sd_calli (T := T_Gr) ⟨hx, hb, hml, hown, hts⟩ (met_Gr_greaterCell w h l) (cwV 1 hts (mz_gV wm_657 wm_460 wm_461 wm_67 wm_462) rfl rfl rfl (by decide) ⟨by decide, by decide⟩) rfl hA rfl (mz_dg d_Tc_fillIn 22 40 (.invokevirtual 80) 3 rfl)) ?_
  refine mz_All.cons (sd_calli (T := T_Tc) ⟨hx, hb, hml, hown, hts⟩ (met_Tc_placeIn w h l) (cwV 1 hts (mz_gV wm_652 wm_654 wm_26 wm_76 wm_655) rfl rfl rfl (by decide) ⟨by decide, by decide⟩) rfl hA rfl (mz_dg d_Tc_fillIn 23 43 (.invokevirtual 77) 3 rfl)) ?_
  refine mz_All.cons (sd_istore_n hx hb (mz_dg d_Tc_fillIn 24 46 (.istore_n 3) 1 rfl) rfl (by decide)) ?_
  refine mz_All.cons (sd_aload_n hx hb (mz_dg d_Tc_fillIn 25 47 (.aload_n 0) 1 rfl) rfl) ?_
  refine mz_All.cons (sd_iload_n hx hb (mz_dg d_Tc_fillIn 26 48 (.iload_n 2) 1 rfl) rfl) ?_
  refine mz_All.cons (sd_iload_n hx hb (mz_dg d_Tc_fillIn 27 49 (.iload_n 2) 1 rfl) rfl) ?_
  refine mz_All.cons (sd_lconst hx hb (mz_dg d_Tc_fillIn 28 50 (.lconst 1) 1 rfl) (by decide)) ?_
  refine mz_All.cons (sd_callv (T := T_Tc) ⟨hx, hb, hml, hown, hts⟩ (met_Tc_addTo w h l) (cwV 3 hts (mz_gV wm_658 wm_660 wm_27 wm_76 wm_661) rfl rfl rfl (by decide) ⟨by decide, by decide⟩) rfl hA rfl (mz_dg d_Tc_fillIn 29 51 (.invokevirtual 83) 3 rfl)) ?_
  refine mz_All.cons (sd_aload_n hx hb (mz_dg d_Tc_fillIn 30 54 (.aload_n 0) 1 rfl) rfl) ?_
  refine mz_All.cons (sd_iload_n hx hb (mz_dg d_Tc_fillIn 31 55 (.iload_n 3) 1 rfl) rfl) ?_
  refine mz_All.cons (sd_iload_n hx hb (mz_dg d_Tc_fillIn 32 56 (.iload_n 3) 1 rfl) rfl) ?_
  refine mz_All.cons (sd_lconst hx hb (mz_dg d_Tc_fillIn 33 57 (.lconst 1) 1 rfl) (by decide)) ?_
  refine mz_All.cons (sd_callv (T := T_Tc) ⟨hx, hb, hml, hown, hts⟩ (met_Tc_addTo w h l) (cwV 3 hts (mz_gV wm_658 wm_660 wm_27 wm_76 wm_661) rfl rfl rfl (by decide) ⟨by decide, by decide⟩) rfl hA rfl (mz_dg d_Tc_fillIn 34 58 (.invokevirtual 83) 3 rfl)) ?_
  refine mz_All.cons (sd_aload_n hx hb (mz_dg d_Tc_fillIn 35 61 (.aload_n 0) 1 rfl) rfl) ?_
  refine mz_All.cons (sd_iload_n hx hb (mz_dg d_Tc_fillIn 36 62 (.iload_n 2) 1 rfl) rfl) ?_
  refine mz_All.cons (sd_iload_n hx hb (mz_dg d_Tc_fillIn 37 63 (.iload_n 3) 1 rfl) rfl) ?_
  refine mz_All.cons (sd_aload_n hx hb (mz_dg d_Tc_fillIn 38 64 (.aload_n 0) 1 rfl) rfl) ?_
  refine mz_All.cons (sd_get (k := 6) hx hb hts (mz_inC in_Tc) hown (T := T_Tc) (N := 7) rfl (by decide) (hts (.fieldLink "MazeForms$TreeCount" 43 "MazeForms$TreeCount" "prime" "J") (List.mem_cons_of_mem _ wm_291)) (fun _ h => h) (mz_dg d_Tc_fillIn 39 65 (.getfield 43) 3 rfl)) ?_
  refine mz_All.cons (sd_lconst hx hb (mz_dg d_Tc_fillIn 40 68 (.lconst 1) 1 rfl) (by decide)) ?_
  refine mz_All.cons (sd_lsub hx hb (mz_dg d_Tc_fillIn 41 69 (.lsub) 1 rfl)) ?_
  refine mz_All.cons (sd_callv (T := T_Tc) ⟨hx, hb, hml, hown, hts⟩ (met_Tc_addTo w h l) (cwV 3 hts (mz_gV wm_658 wm_660 wm_27 wm_76 wm_661) rfl rfl rfl (by decide) ⟨by decide, by decide⟩) rfl hA rfl (mz_dg d_Tc_fillIn 42 70 (.invokevirtual 83) 3 rfl)) ?_
  refine mz_All.cons (sd_aload_n hx hb (mz_dg d_Tc_fillIn 43 73 (.aload_n 0) 1 rfl) rfl) ?_
  refine mz_All.cons (sd_iload_n hx hb (mz_dg d_Tc_fillIn 44 74 (.iload_n 3) 1 rfl) rfl) ?_
  refine mz_All.cons (sd_iload_n hx hb (mz_dg d_Tc_fillIn 45 75 (.iload_n 2) 1 rfl) rfl) ?_
  refine mz_All.cons (sd_aload_n hx hb (mz_dg d_Tc_fillIn 46 76 (.aload_n 0) 1 rfl) rfl) ?_
  refine mz_All.cons (sd_get (k := 6) hx hb hts (mz_inC in_Tc) hown (T := T_Tc) (N := 7) rfl (by decide) (hts (.fieldLink "MazeForms$TreeCount" 43 "MazeForms$TreeCount" "prime" "J") (List.mem_cons_of_mem _ wm_291)) (fun _ h => h) (mz_dg d_Tc_fillIn 47 77 (.getfield 43) 3 rfl)) ?_
  refine mz_All.cons (sd_lconst hx hb (mz_dg d_Tc_fillIn 48 80 (.lconst 1) 1 rfl) (by decide)) ?_
  refine mz_All.cons (sd_lsub hx hb (mz_dg d_Tc_fillIn 49 81 (.lsub) 1 rfl)) ?_
  refine mz_All.cons (sd_callv (T := T_Tc) ⟨hx, hb, hml, hown, hts⟩ (met_Tc_addTo w h l) (cwV 3 hts (mz_gV wm_658 wm_660 wm_27 wm_76 wm_661) rfl rfl rfl (by decide) ⟨by decide, by decide⟩) rfl hA rfl (mz_dg d_Tc_fillIn 50 82 (.invokevirtual 83) 3 rfl)) ?_
  refine mz_All.cons (sd_iinc hx hb (mz_dg d_Tc_fillIn 51 85 (.iinc 1 (1)) 3 rfl) (by decide) (by decide)) ?_
  refine mz_All.cons (sd_goto hx hb (mz_dg d_Tc_fillIn 52 88 (.goto (-78)) 3 rfl) (by decide)) ?_
  refine mz_All.cons (sd_rv hx hb hr hlk (mz_dg d_Tc_fillIn 53 91 (.return_) 1 rfl)) ?_
  exact trivial
theorem met_Tc_fillIn (w h : Nat) (l : Launch) : mz_MV l y_Tc_fillIn w_Tc_fillIn 2 50 mz_cls (C_Tc_fillIn w h) := mz_MV_of (I_Tc_fillIn w h) (by decide) rfl (len_Tc_fillIn w h) (ok_Tc_fillIn w h) (snd_Tc_fillIn w h l)
end
