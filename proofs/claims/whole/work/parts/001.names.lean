-- ===== PART A: goes FIRST, ahead of the names: the tables' words, and 'selects' of the private methods out of them =====
/-- a private method of a class that the tables say can be made, by its rows of tables_1 -/
def lw_okq (q : MethodName × Nat) : Prop := (q.1.cls ≠ "java/lang/invoke/MethodHandle" ∧ q.1.cls ≠ "java/lang/invoke/VarHandle") ∧ Cond.instantiable q.1.cls q.2 ∈ tables_1 ∧ Cond.privateMethod q.1 ∈ tables_1 ∧ Cond.instanceMethod q.1 ∈ tables_1
theorem lw_p0 : lw_okq (⟨"TokenFrames$Matches", "chainBelow", "(I)V"⟩, 6) := ⟨⟨by decide +kernel, by decide +kernel⟩, List.mem_of_getElem? (i := 45) (by decide +kernel), List.mem_of_getElem? (i := 288) (by decide +kernel), List.mem_of_getElem? (i := 289) (by decide +kernel)⟩
theorem lw_p1 : lw_okq (⟨"TokenFrames$Matches", "latest", "(I)I"⟩, 6) := ⟨⟨by decide +kernel, by decide +kernel⟩, List.mem_of_getElem? (i := 45) (by decide +kernel), List.mem_of_getElem? (i := 300) (by decide +kernel), List.mem_of_getElem? (i := 301) (by decide +kernel)⟩
theorem lw_p2 : lw_okq (⟨"TokenFrames$Matches", "setLatest", "(II)V"⟩, 6) := ⟨⟨by decide +kernel, by decide +kernel⟩, List.mem_of_getElem? (i := 45) (by decide +kernel), List.mem_of_getElem? (i := 304) (by decide +kernel), List.mem_of_getElem? (i := 305) (by decide +kernel)⟩
theorem lw_p3 : lw_okq (⟨"TokenFrames$Matches", "find", "(III)V"⟩, 6) := ⟨⟨by decide +kernel, by decide +kernel⟩, List.mem_of_getElem? (i := 45) (by decide +kernel), List.mem_of_getElem? (i := 308) (by decide +kernel), List.mem_of_getElem? (i := 309) (by decide +kernel)⟩
theorem lw_p4 : lw_okq (⟨"TokenFrames$Matches", "hold", "(IIII)V"⟩, 6) := ⟨⟨by decide +kernel, by decide +kernel⟩, List.mem_of_getElem? (i := 45) (by decide +kernel), List.mem_of_getElem? (i := 323) (by decide +kernel), List.mem_of_getElem? (i := 324) (by decide +kernel)⟩
theorem lw_p5 : lw_okq (⟨"TokenFrames$BlockWriter", "addLiterals", "(IIILTokenFrames$Row;)Z"⟩, 3) := ⟨⟨by decide +kernel, by decide +kernel⟩, List.mem_of_getElem? (i := 39) (by decide +kernel), List.mem_of_getElem? (i := 327) (by decide +kernel), List.mem_of_getElem? (i := 328) (by decide +kernel)⟩
theorem lw_p6 : lw_okq (⟨"TokenFrames", "keepDraft", "()I"⟩, 9) := ⟨⟨by decide +kernel, by decide +kernel⟩, List.mem_of_getElem? (i := 14) (by decide +kernel), List.mem_of_getElem? (i := 344) (by decide +kernel), List.mem_of_getElem? (i := 345) (by decide +kernel)⟩
theorem lw_p7 : lw_okq (⟨"TokenFrames$BlockReader", "grown", "(I)I"⟩, 9) := ⟨⟨by decide +kernel, by decide +kernel⟩, List.mem_of_getElem? (i := 108) (by decide +kernel), List.mem_of_getElem? (i := 360) (by decide +kernel), List.mem_of_getElem? (i := 361) (by decide +kernel)⟩
theorem lw_p8 : lw_okq (⟨"TokenFrames$BlockReader", "takeLiterals", "(I)I"⟩, 9) := ⟨⟨by decide +kernel, by decide +kernel⟩, List.mem_of_getElem? (i := 108) (by decide +kernel), List.mem_of_getElem? (i := 364) (by decide +kernel), List.mem_of_getElem? (i := 365) (by decide +kernel)⟩
theorem lw_p9 : lw_okq (⟨"TokenFrames$BlockReader", "fault", "(II)I"⟩, 9) := ⟨⟨by decide +kernel, by decide +kernel⟩, List.mem_of_getElem? (i := 108) (by decide +kernel), List.mem_of_getElem? (i := 368) (by decide +kernel), List.mem_of_getElem? (i := 369) (by decide +kernel)⟩
theorem lw_p10 : lw_okq (⟨"TokenFrames$BlockReader", "takeDistance", "()I"⟩, 9) := ⟨⟨by decide +kernel, by decide +kernel⟩, List.mem_of_getElem? (i := 108) (by decide +kernel), List.mem_of_getElem? (i := 375) (by decide +kernel), List.mem_of_getElem? (i := 376) (by decide +kernel)⟩
theorem lw_p11 : lw_okq (⟨"TokenFrames$BlockReader", "takeCopy", "(II)I"⟩, 9) := ⟨⟨by decide +kernel, by decide +kernel⟩, List.mem_of_getElem? (i := 108) (by decide +kernel), List.mem_of_getElem? (i := 383) (by decide +kernel), List.mem_of_getElem? (i := 384) (by decide +kernel)⟩
theorem lw_p12 : lw_okq (⟨"TokenFrames$FrameWriter", "addHead", "(III)Z"⟩, 4) := ⟨⟨by decide +kernel, by decide +kernel⟩, List.mem_of_getElem? (i := 87) (by decide +kernel), List.mem_of_getElem? (i := 407) (by decide +kernel), List.mem_of_getElem? (i := 408) (by decide +kernel)⟩
theorem lw_p13 : lw_okq (⟨"TokenFrames$FrameWriter", "addRow", "(IIII)Z"⟩, 4) := ⟨⟨by decide +kernel, by decide +kernel⟩, List.mem_of_getElem? (i := 87) (by decide +kernel), List.mem_of_getElem? (i := 443) (by decide +kernel), List.mem_of_getElem? (i := 444) (by decide +kernel)⟩
theorem lw_p14 : lw_okq (⟨"TokenFrames$FrameWriter", "addTail", "(I)Z"⟩, 4) := ⟨⟨by decide +kernel, by decide +kernel⟩, List.mem_of_getElem? (i := 87) (by decide +kernel), List.mem_of_getElem? (i := 461) (by decide +kernel), List.mem_of_getElem? (i := 462) (by decide +kernel)⟩
theorem lw_p15 : lw_okq (⟨"TokenFrames$FrameReader", "left", "()I"⟩, 10) := ⟨⟨by decide +kernel, by decide +kernel⟩, List.mem_of_getElem? (i := 142) (by decide +kernel), List.mem_of_getElem? (i := 475) (by decide +kernel), List.mem_of_getElem? (i := 476) (by decide +kernel)⟩
def lw_privs_1 : List (MethodName × Nat) := [(⟨"TokenFrames$Matches", "chainBelow", "(I)V"⟩, 6), (⟨"TokenFrames$Matches", "latest", "(I)I"⟩, 6), (⟨"TokenFrames$Matches", "setLatest", "(II)V"⟩, 6), (⟨"TokenFrames$Matches", "find", "(III)V"⟩, 6), (⟨"TokenFrames$Matches", "hold", "(IIII)V"⟩, 6), (⟨"TokenFrames$BlockWriter", "addLiterals", "(IIILTokenFrames$Row;)Z"⟩, 3), (⟨"TokenFrames", "keepDraft", "()I"⟩, 9), (⟨"TokenFrames$BlockReader", "grown", "(I)I"⟩, 9), (⟨"TokenFrames$BlockReader", "takeLiterals", "(I)I"⟩, 9), (⟨"TokenFrames$BlockReader", "fault", "(II)I"⟩, 9), (⟨"TokenFrames$BlockReader", "takeDistance", "()I"⟩, 9), (⟨"TokenFrames$BlockReader", "takeCopy", "(II)I"⟩, 9), (⟨"TokenFrames$FrameWriter", "addHead", "(III)Z"⟩, 4), (⟨"TokenFrames$FrameWriter", "addRow", "(IIII)Z"⟩, 4), (⟨"TokenFrames$FrameWriter", "addTail", "(I)Z"⟩, 4), (⟨"TokenFrames$FrameReader", "left", "()I"⟩, 10)]
theorem lw_r1 : ∀ q ∈ lw_privs_1, lw_okq q := List.forall_mem_cons.mpr ⟨lw_p0, List.forall_mem_cons.mpr ⟨lw_p1, List.forall_mem_cons.mpr ⟨lw_p2, List.forall_mem_cons.mpr ⟨lw_p3, List.forall_mem_cons.mpr ⟨lw_p4, List.forall_mem_cons.mpr ⟨lw_p5, List.forall_mem_cons.mpr ⟨lw_p6, List.forall_mem_cons.mpr ⟨lw_p7, List.forall_mem_cons.mpr ⟨lw_p8, List.forall_mem_cons.mpr ⟨lw_p9, List.forall_mem_cons.mpr ⟨lw_p10, List.forall_mem_cons.mpr ⟨lw_p11, List.forall_mem_cons.mpr ⟨lw_p12, List.forall_mem_cons.mpr ⟨lw_p13, List.forall_mem_cons.mpr ⟨lw_p14, List.forall_mem_cons.mpr ⟨lw_p15, fun _ h => absurd h List.not_mem_nil⟩⟩⟩⟩⟩⟩⟩⟩⟩⟩⟩⟩⟩⟩⟩⟩
theorem lw_p16 : lw_okq (⟨"TokenFrames$FrameReader", "cut", "()I"⟩, 10) := ⟨⟨by decide +kernel, by decide +kernel⟩, List.mem_of_getElem? (i := 142) (by decide +kernel), List.mem_of_getElem? (i := 479) (by decide +kernel), List.mem_of_getElem? (i := 480) (by decide +kernel)⟩
theorem lw_p17 : lw_okq (⟨"TokenFrames$FrameReader", "fault", "(II)I"⟩, 10) := ⟨⟨by decide +kernel, by decide +kernel⟩, List.mem_of_getElem? (i := 142) (by decide +kernel), List.mem_of_getElem? (i := 483) (by decide +kernel), List.mem_of_getElem? (i := 484) (by decide +kernel)⟩
theorem lw_p18 : lw_okq (⟨"TokenFrames$FrameReader", "readFrame", "()I"⟩, 10) := ⟨⟨by decide +kernel, by decide +kernel⟩, List.mem_of_getElem? (i := 142) (by decide +kernel), List.mem_of_getElem? (i := 488) (by decide +kernel), List.mem_of_getElem? (i := 489) (by decide +kernel)⟩
theorem lw_p19 : lw_okq (⟨"TokenFrames$FrameReader", "readFlags", "()I"⟩, 10) := ⟨⟨by decide +kernel, by decide +kernel⟩, List.mem_of_getElem? (i := 142) (by decide +kernel), List.mem_of_getElem? (i := 492) (by decide +kernel), List.mem_of_getElem? (i := 493) (by decide +kernel)⟩
theorem lw_p20 : lw_okq (⟨"TokenFrames$FrameReader", "readHead", "(I)I"⟩, 10) := ⟨⟨by decide +kernel, by decide +kernel⟩, List.mem_of_getElem? (i := 142) (by decide +kernel), List.mem_of_getElem? (i := 499) (by decide +kernel), List.mem_of_getElem? (i := 500) (by decide +kernel)⟩
theorem lw_p21 : lw_okq (⟨"TokenFrames$FrameReader", "has", "(I)Z"⟩, 10) := ⟨⟨by decide +kernel, by decide +kernel⟩, List.mem_of_getElem? (i := 142) (by decide +kernel), List.mem_of_getElem? (i := 503) (by decide +kernel), List.mem_of_getElem? (i := 504) (by decide +kernel)⟩
theorem lw_p22 : lw_okq (⟨"TokenFrames$FrameReader", "readTail", "()I"⟩, 10) := ⟨⟨by decide +kernel, by decide +kernel⟩, List.mem_of_getElem? (i := 142) (by decide +kernel), List.mem_of_getElem? (i := 508) (by decide +kernel), List.mem_of_getElem? (i := 509) (by decide +kernel)⟩
theorem lw_p23 : lw_okq (⟨"TokenFrames$FrameReader", "sizeIs", "(I)Z"⟩, 10) := ⟨⟨by decide +kernel, by decide +kernel⟩, List.mem_of_getElem? (i := 142) (by decide +kernel), List.mem_of_getElem? (i := 512) (by decide +kernel), List.mem_of_getElem? (i := 513) (by decide +kernel)⟩
theorem lw_p24 : lw_okq (⟨"TokenFrames$FrameReader", "readBlock", "(I)I"⟩, 10) := ⟨⟨by decide +kernel, by decide +kernel⟩, List.mem_of_getElem? (i := 142) (by decide +kernel), List.mem_of_getElem? (i := 516) (by decide +kernel), List.mem_of_getElem? (i := 517) (by decide +kernel)⟩
theorem lw_p25 : lw_okq (⟨"TokenFrames$FrameReader", "takeBytes", "(II)I"⟩, 10) := ⟨⟨by decide +kernel, by decide +kernel⟩, List.mem_of_getElem? (i := 142) (by decide +kernel), List.mem_of_getElem? (i := 521) (by decide +kernel), List.mem_of_getElem? (i := 522) (by decide +kernel)⟩
theorem lw_p26 : lw_okq (⟨"TokenFrames$FrameReader", "passSpare", "()I"⟩, 10) := ⟨⟨by decide +kernel, by decide +kernel⟩, List.mem_of_getElem? (i := 142) (by decide +kernel), List.mem_of_getElem? (i := 529) (by decide +kernel), List.mem_of_getElem? (i := 530) (by decide +kernel)⟩
theorem lw_p27 : lw_okq (⟨"TokenFramesModel", "sumOf", "([III)J"⟩, 21) := ⟨⟨by decide +kernel, by decide +kernel⟩, List.mem_of_getElem? (i := 556) (by decide +kernel), List.mem_of_getElem? (i := 652) (by decide +kernel), List.mem_of_getElem? (i := 653) (by decide +kernel)⟩
theorem lw_p28 : lw_okq (⟨"TokenFramesModel", "begin", "()V"⟩, 21) := ⟨⟨by decide +kernel, by decide +kernel⟩, List.mem_of_getElem? (i := 556) (by decide +kernel), List.mem_of_getElem? (i := 675) (by decide +kernel), List.mem_of_getElem? (i := 676) (by decide +kernel)⟩
theorem lw_p29 : lw_okq (⟨"TokenFramesModel", "append", "(II)V"⟩, 21) := ⟨⟨by decide +kernel, by decide +kernel⟩, List.mem_of_getElem? (i := 556) (by decide +kernel), List.mem_of_getElem? (i := 679) (by decide +kernel), List.mem_of_getElem? (i := 680) (by decide +kernel)⟩
theorem lw_p30 : lw_okq (⟨"TokenFramesModel", "writeBlock", "(II)V"⟩, 21) := ⟨⟨by decide +kernel, by decide +kernel⟩, List.mem_of_getElem? (i := 556) (by decide +kernel), List.mem_of_getElem? (i := 683) (by decide +kernel), List.mem_of_getElem? (i := 684) (by decide +kernel)⟩
theorem lw_p31 : lw_okq (⟨"TokenFramesModel", "taken", "(II)I"⟩, 21) := ⟨⟨by decide +kernel, by decide +kernel⟩, List.mem_of_getElem? (i := 556) (by decide +kernel), List.mem_of_getElem? (i := 687) (by decide +kernel), List.mem_of_getElem? (i := 688) (by decide +kernel)⟩
def lw_privs_2 : List (MethodName × Nat) := [(⟨"TokenFrames$FrameReader", "cut", "()I"⟩, 10), (⟨"TokenFrames$FrameReader", "fault", "(II)I"⟩, 10), (⟨"TokenFrames$FrameReader", "readFrame", "()I"⟩, 10), (⟨"TokenFrames$FrameReader", "readFlags", "()I"⟩, 10), (⟨"TokenFrames$FrameReader", "readHead", "(I)I"⟩, 10), (⟨"TokenFrames$FrameReader", "has", "(I)Z"⟩, 10), (⟨"TokenFrames$FrameReader", "readTail", "()I"⟩, 10), (⟨"TokenFrames$FrameReader", "sizeIs", "(I)Z"⟩, 10), (⟨"TokenFrames$FrameReader", "readBlock", "(I)I"⟩, 10), (⟨"TokenFrames$FrameReader", "takeBytes", "(II)I"⟩, 10), (⟨"TokenFrames$FrameReader", "passSpare", "()I"⟩, 10), (⟨"TokenFramesModel", "sumOf", "([III)J"⟩, 21), (⟨"TokenFramesModel", "begin", "()V"⟩, 21), (⟨"TokenFramesModel", "append", "(II)V"⟩, 21), (⟨"TokenFramesModel", "writeBlock", "(II)V"⟩, 21), (⟨"TokenFramesModel", "taken", "(II)I"⟩, 21)]
theorem lw_r2 : ∀ q ∈ lw_privs_2, lw_okq q := List.forall_mem_cons.mpr ⟨lw_p16, List.forall_mem_cons.mpr ⟨lw_p17, List.forall_mem_cons.mpr ⟨lw_p18, List.forall_mem_cons.mpr ⟨lw_p19, List.forall_mem_cons.mpr ⟨lw_p20, List.forall_mem_cons.mpr ⟨lw_p21, List.forall_mem_cons.mpr ⟨lw_p22, List.forall_mem_cons.mpr ⟨lw_p23, List.forall_mem_cons.mpr ⟨lw_p24, List.forall_mem_cons.mpr ⟨lw_p25, List.forall_mem_cons.mpr ⟨lw_p26, List.forall_mem_cons.mpr ⟨lw_p27, List.forall_mem_cons.mpr ⟨lw_p28, List.forall_mem_cons.mpr ⟨lw_p29, List.forall_mem_cons.mpr ⟨lw_p30, List.forall_mem_cons.mpr ⟨lw_p31, fun _ h => absurd h List.not_mem_nil⟩⟩⟩⟩⟩⟩⟩⟩⟩⟩⟩⟩⟩⟩⟩⟩
theorem lw_p32 : lw_okq (⟨"TokenFramesModel", "match", "(II)I"⟩, 21) := ⟨⟨by decide +kernel, by decide +kernel⟩, List.mem_of_getElem? (i := 556) (by decide +kernel), List.mem_of_getElem? (i := 691) (by decide +kernel), List.mem_of_getElem? (i := 692) (by decide +kernel)⟩
theorem lw_p33 : lw_okq (⟨"TokenFramesModel", "alike", "(III)I"⟩, 21) := ⟨⟨by decide +kernel, by decide +kernel⟩, List.mem_of_getElem? (i := 556) (by decide +kernel), List.mem_of_getElem? (i := 696) (by decide +kernel), List.mem_of_getElem? (i := 697) (by decide +kernel)⟩
theorem lw_p34 : lw_okq (⟨"TokenFramesModel", "sequence", "(IIII)V"⟩, 21) := ⟨⟨by decide +kernel, by decide +kernel⟩, List.mem_of_getElem? (i := 556) (by decide +kernel), List.mem_of_getElem? (i := 700) (by decide +kernel), List.mem_of_getElem? (i := 701) (by decide +kernel)⟩
theorem lw_p35 : lw_okq (⟨"TokenFramesModel", "say", "(I)V"⟩, 21) := ⟨⟨by decide +kernel, by decide +kernel⟩, List.mem_of_getElem? (i := 556) (by decide +kernel), List.mem_of_getElem? (i := 704) (by decide +kernel), List.mem_of_getElem? (i := 705) (by decide +kernel)⟩
theorem lw_p36 : lw_okq (⟨"TokenFramesModel", "added", "(I)V"⟩, 21) := ⟨⟨by decide +kernel, by decide +kernel⟩, List.mem_of_getElem? (i := 556) (by decide +kernel), List.mem_of_getElem? (i := 708) (by decide +kernel), List.mem_of_getElem? (i := 709) (by decide +kernel)⟩
theorem lw_p37 : lw_okq (⟨"TokenFramesModel", "show", "([II)I"⟩, 21) := ⟨⟨by decide +kernel, by decide +kernel⟩, List.mem_of_getElem? (i := 556) (by decide +kernel), List.mem_of_getElem? (i := 712) (by decide +kernel), List.mem_of_getElem? (i := 713) (by decide +kernel)⟩
theorem lw_p38 : lw_okq (⟨"TokenFramesModel", "beginBack", "()V"⟩, 21) := ⟨⟨by decide +kernel, by decide +kernel⟩, List.mem_of_getElem? (i := 556) (by decide +kernel), List.mem_of_getElem? (i := 720) (by decide +kernel), List.mem_of_getElem? (i := 721) (by decide +kernel)⟩
theorem lw_p39 : lw_okq (⟨"TokenFramesModel", "readBlock", "(III)I"⟩, 21) := ⟨⟨by decide +kernel, by decide +kernel⟩, List.mem_of_getElem? (i := 556) (by decide +kernel), List.mem_of_getElem? (i := 724) (by decide +kernel), List.mem_of_getElem? (i := 725) (by decide +kernel)⟩
theorem lw_p40 : lw_okq (⟨"TokenFramesModel", "adds", "(II)Z"⟩, 21) := ⟨⟨by decide +kernel, by decide +kernel⟩, List.mem_of_getElem? (i := 556) (by decide +kernel), List.mem_of_getElem? (i := 728) (by decide +kernel), List.mem_of_getElem? (i := 729) (by decide +kernel)⟩
theorem lw_p41 : lw_okq (⟨"TokenFramesModel", "makeNumber", "(JI)V"⟩, 21) := ⟨⟨by decide +kernel, by decide +kernel⟩, List.mem_of_getElem? (i := 556) (by decide +kernel), List.mem_of_getElem? (i := 740) (by decide +kernel), List.mem_of_getElem? (i := 741) (by decide +kernel)⟩
theorem lw_p42 : lw_okq (⟨"TokenFramesModel", "make", "(I)V"⟩, 21) := ⟨⟨by decide +kernel, by decide +kernel⟩, List.mem_of_getElem? (i := 556) (by decide +kernel), List.mem_of_getElem? (i := 744) (by decide +kernel), List.mem_of_getElem? (i := 745) (by decide +kernel)⟩
theorem lw_p43 : lw_okq (⟨"TokenFramesModel", "readNext", "(I)I"⟩, 21) := ⟨⟨by decide +kernel, by decide +kernel⟩, List.mem_of_getElem? (i := 556) (by decide +kernel), List.mem_of_getElem? (i := 753) (by decide +kernel), List.mem_of_getElem? (i := 754) (by decide +kernel)⟩
theorem lw_p44 : lw_okq (⟨"TokenFramesModel", "has", "(I)Z"⟩, 21) := ⟨⟨by decide +kernel, by decide +kernel⟩, List.mem_of_getElem? (i := 556) (by decide +kernel), List.mem_of_getElem? (i := 757) (by decide +kernel), List.mem_of_getElem? (i := 758) (by decide +kernel)⟩
theorem lw_p45 : lw_okq (⟨"TokenFramesModel", "fault", "(II)I"⟩, 21) := ⟨⟨by decide +kernel, by decide +kernel⟩, List.mem_of_getElem? (i := 556) (by decide +kernel), List.mem_of_getElem? (i := 761) (by decide +kernel), List.mem_of_getElem? (i := 762) (by decide +kernel)⟩
theorem lw_p46 : lw_okq (⟨"TokenFramesModel", "numberAt", "(II)J"⟩, 21) := ⟨⟨by decide +kernel, by decide +kernel⟩, List.mem_of_getElem? (i := 556) (by decide +kernel), List.mem_of_getElem? (i := 765) (by decide +kernel), List.mem_of_getElem? (i := 766) (by decide +kernel)⟩
theorem lw_p47 : lw_okq (⟨"TokenFramesModel", "readFrame", "(I)I"⟩, 21) := ⟨⟨by decide +kernel, by decide +kernel⟩, List.mem_of_getElem? (i := 556) (by decide +kernel), List.mem_of_getElem? (i := 771) (by decide +kernel), List.mem_of_getElem? (i := 772) (by decide +kernel)⟩
def lw_privs_3 : List (MethodName × Nat) := [(⟨"TokenFramesModel", "match", "(II)I"⟩, 21), (⟨"TokenFramesModel", "alike", "(III)I"⟩, 21), (⟨"TokenFramesModel", "sequence", "(IIII)V"⟩, 21), (⟨"TokenFramesModel", "say", "(I)V"⟩, 21), (⟨"TokenFramesModel", "added", "(I)V"⟩, 21), (⟨"TokenFramesModel", "show", "([II)I"⟩, 21), (⟨"TokenFramesModel", "beginBack", "()V"⟩, 21), (⟨"TokenFramesModel", "readBlock", "(III)I"⟩, 21), (⟨"TokenFramesModel", "adds", "(II)Z"⟩, 21), (⟨"TokenFramesModel", "makeNumber", "(JI)V"⟩, 21), (⟨"TokenFramesModel", "make", "(I)V"⟩, 21), (⟨"TokenFramesModel", "readNext", "(I)I"⟩, 21), (⟨"TokenFramesModel", "has", "(I)Z"⟩, 21), (⟨"TokenFramesModel", "fault", "(II)I"⟩, 21), (⟨"TokenFramesModel", "numberAt", "(II)J"⟩, 21), (⟨"TokenFramesModel", "readFrame", "(I)I"⟩, 21)]
theorem lw_r3 : ∀ q ∈ lw_privs_3, lw_okq q := List.forall_mem_cons.mpr ⟨lw_p32, List.forall_mem_cons.mpr ⟨lw_p33, List.forall_mem_cons.mpr ⟨lw_p34, List.forall_mem_cons.mpr ⟨lw_p35, List.forall_mem_cons.mpr ⟨lw_p36, List.forall_mem_cons.mpr ⟨lw_p37, List.forall_mem_cons.mpr ⟨lw_p38, List.forall_mem_cons.mpr ⟨lw_p39, List.forall_mem_cons.mpr ⟨lw_p40, List.forall_mem_cons.mpr ⟨lw_p41, List.forall_mem_cons.mpr ⟨lw_p42, List.forall_mem_cons.mpr ⟨lw_p43, List.forall_mem_cons.mpr ⟨lw_p44, List.forall_mem_cons.mpr ⟨lw_p45, List.forall_mem_cons.mpr ⟨lw_p46, List.forall_mem_cons.mpr ⟨lw_p47, fun _ h => absurd h List.not_mem_nil⟩⟩⟩⟩⟩⟩⟩⟩⟩⟩⟩⟩⟩⟩⟩⟩
theorem lw_p48 : lw_okq (⟨"TokenFramesModel", "readPart", "(JIIII)I"⟩, 21) := ⟨⟨by decide +kernel, by decide +kernel⟩, List.mem_of_getElem? (i := 556) (by decide +kernel), List.mem_of_getElem? (i := 775) (by decide +kernel), List.mem_of_getElem? (i := 776) (by decide +kernel)⟩
def lw_privs_4 : List (MethodName × Nat) := [(⟨"TokenFramesModel", "readPart", "(JIIII)I"⟩, 21)]
theorem lw_r4 : ∀ q ∈ lw_privs_4, lw_okq q := List.forall_mem_cons.mpr ⟨lw_p48, fun _ h => absurd h List.not_mem_nil⟩
def lw_privs : List (MethodName × Nat) := lw_privs_1 ++ (lw_privs_2 ++ (lw_privs_3 ++ (lw_privs_4)))
def lw_tbl : List Cond := k2_sels lw_privs ++ tables_1
theorem lw_privs_ok : ∀ q ∈ lw_privs, lw_okq q := by
  show ∀ q ∈ lw_privs_1 ++ (lw_privs_2 ++ (lw_privs_3 ++ (lw_privs_4))), lw_okq q
  exact List.forall_mem_append.mpr ⟨lw_r1, List.forall_mem_append.mpr ⟨lw_r2, List.forall_mem_append.mpr ⟨lw_r3, lw_r4⟩⟩⟩
def R_BR : String := "TokenFrames$BlockReader"
def R_BW : String := "TokenFrames$BlockWriter"
def R_FR : String := "TokenFrames$FrameReader"
def R_FW : String := "TokenFrames$FrameWriter"
def R_Law : String := "TokenFramesLaw"
def R_Mat : String := "TokenFrames$Matches"
def R_Mo : String := "TokenFramesModel"
def R_Row : String := "TokenFrames$Row"
def R_Sum : String := "TokenFrames$NarrowSum"
def R_T : String := "TokenFrames"
def R_Arr : String := "java/util/Arrays"
def T_T : u_T := fun k => match k with
  | 0 => ("TokenFrames", "in", "LTokenFrames$Row;", true)
  | 1 => ("TokenFrames", "out", "LTokenFrames$Row;", true)
  | 2 => ("TokenFrames", "history", "LTokenFrames$Row;", true)
  | 3 => ("TokenFrames", "draft", "LTokenFrames$Row;", true)
  | 4 => ("TokenFrames", "blockWriter", "LTokenFrames$BlockWriter;", true)
  | 5 => ("TokenFrames", "frameWriter", "LTokenFrames$FrameWriter;", true)
  | 6 => ("TokenFrames", "blockReader", "LTokenFrames$BlockReader;", true)
  | 7 => ("TokenFrames", "frameReader", "LTokenFrames$FrameReader;", true)
  | _ => ("TokenFrames", "place", "I", false)
def ty_T : Nat → FieldType := fun k => match k with
  | 0 => .object "TokenFrames$Row"
  | 1 => .object "TokenFrames$Row"
  | 2 => .object "TokenFrames$Row"
  | 3 => .object "TokenFrames$Row"
  | 4 => .object "TokenFrames$BlockWriter"
  | 5 => .object "TokenFrames$FrameWriter"
  | 6 => .object "TokenFrames$BlockReader"
  | 7 => .object "TokenFrames$FrameReader"
  | _ => .int
theorem nm_T : ∀ a, a < 9 → ∀ b, b < 9 → a ≠ b → (T_T a).2.1 ≠ (T_T b).2.1 := by decide +kernel
theorem ty_T_ok : ∀ k, k < 9 → parseFieldDescriptor (T_T k).2.2.1 = some (ty_T k) := by decide +kernel
def T_Row : u_T := fun k => match k with
  | 0 => ("TokenFrames$Row", "bytes", "[B", true)
  | _ => ("TokenFrames$Row", "count", "I", false)
def ty_Row : Nat → FieldType := fun k => match k with
  | 0 => .array .byte
  | _ => .int
theorem nm_Row : ∀ a, a < 2 → ∀ b, b < 2 → a ≠ b → (T_Row a).2.1 ≠ (T_Row b).2.1 := by decide +kernel
theorem ty_Row_ok : ∀ k, k < 2 → parseFieldDescriptor (T_Row k).2.2.1 = some (ty_Row k) := by decide +kernel
def T_BW : u_T := fun k => match k with
  | 0 => ("TokenFrames$BlockWriter", "history", "LTokenFrames$Row;", true)
  | 1 => ("TokenFrames$BlockWriter", "matches", "LTokenFrames$Matches;", true)
  | _ => ("TokenFrames$BlockWriter", "data", "LTokenFrames$Row;", true)
def ty_BW : Nat → FieldType := fun k => match k with
  | 0 => .object "TokenFrames$Row"
  | 1 => .object "TokenFrames$Matches"
  | _ => .object "TokenFrames$Row"
theorem nm_BW : ∀ a, a < 3 → ∀ b, b < 3 → a ≠ b → (T_BW a).2.1 ≠ (T_BW b).2.1 := by decide +kernel
theorem ty_BW_ok : ∀ k, k < 3 → parseFieldDescriptor (T_BW k).2.2.1 = some (ty_BW k) := by decide +kernel
def T_Mat : u_T := fun k => match k with
  | 0 => ("TokenFrames$Matches", "data", "LTokenFrames$Row;", true)
  | 1 => ("TokenFrames$Matches", "latest", "[I", true)
  | 2 => ("TokenFrames$Matches", "earlier", "[I", true)
  | 3 => ("TokenFrames$Matches", "chained", "I", false)
  | 4 => ("TokenFrames$Matches", "source", "I", false)
  | _ => ("TokenFrames$Matches", "length", "I", false)
def ty_Mat : Nat → FieldType := fun k => match k with
  | 0 => .object "TokenFrames$Row"
  | 1 => .array .int
  | 2 => .array .int
  | 3 => .int
  | 4 => .int
  | _ => .int
theorem nm_Mat : ∀ a, a < 6 → ∀ b, b < 6 → a ≠ b → (T_Mat a).2.1 ≠ (T_Mat b).2.1 := by decide +kernel
theorem ty_Mat_ok : ∀ k, k < 6 → parseFieldDescriptor (T_Mat k).2.2.1 = some (ty_Mat k) := by decide +kernel
def T_FW : u_T := fun k => match k with
  | 0 => ("TokenFrames$FrameWriter", "in", "LTokenFrames$Row;", true)
  | 1 => ("TokenFrames$FrameWriter", "to", "LTokenFrames$Row;", true)
  | 2 => ("TokenFrames$FrameWriter", "blocks", "LTokenFrames$BlockWriter;", true)
  | _ => ("TokenFrames$FrameWriter", "packed", "LTokenFrames$Row;", true)
def ty_FW : Nat → FieldType := fun k => match k with
  | 0 => .object "TokenFrames$Row"
  | 1 => .object "TokenFrames$Row"
  | 2 => .object "TokenFrames$BlockWriter"
  | _ => .object "TokenFrames$Row"
theorem nm_FW : ∀ a, a < 4 → ∀ b, b < 4 → a ≠ b → (T_FW a).2.1 ≠ (T_FW b).2.1 := by decide +kernel
theorem ty_FW_ok : ∀ k, k < 4 → parseFieldDescriptor (T_FW k).2.2.1 = some (ty_FW k) := by decide +kernel
def T_BR : u_T := fun k => match k with
  | 0 => ("TokenFrames$BlockReader", "in", "LTokenFrames$Row;", true)
  | 1 => ("TokenFrames$BlockReader", "history", "LTokenFrames$Row;", true)
  | 2 => ("TokenFrames$BlockReader", "to", "LTokenFrames$Row;", true)
  | 3 => ("TokenFrames$BlockReader", "at", "I", false)
  | 4 => ("TokenFrames$BlockReader", "end", "I", false)
  | 5 => ("TokenFrames$BlockReader", "start", "I", false)
  | 6 => ("TokenFrames$BlockReader", "most", "I", false)
  | 7 => ("TokenFrames$BlockReader", "distance", "I", false)
  | _ => ("TokenFrames$BlockReader", "place", "I", false)
def ty_BR : Nat → FieldType := fun k => match k with
  | 0 => .object "TokenFrames$Row"
  | 1 => .object "TokenFrames$Row"
  | 2 => .object "TokenFrames$Row"
  | 3 => .int
  | 4 => .int
  | 5 => .int
  | 6 => .int
  | 7 => .int
  | _ => .int
theorem nm_BR : ∀ a, a < 9 → ∀ b, b < 9 → a ≠ b → (T_BR a).2.1 ≠ (T_BR b).2.1 := by decide +kernel
theorem ty_BR_ok : ∀ k, k < 9 → parseFieldDescriptor (T_BR k).2.2.1 = some (ty_BR k) := by decide +kernel
def T_FR : u_T := fun k => match k with
  | 0 => ("TokenFrames$FrameReader", "in", "LTokenFrames$Row;", true)
  | 1 => ("TokenFrames$FrameReader", "to", "LTokenFrames$Row;", true)
  | 2 => ("TokenFrames$FrameReader", "blocks", "LTokenFrames$BlockReader;", true)
  | 3 => ("TokenFrames$FrameReader", "at", "I", false)
  | 4 => ("TokenFrames$FrameReader", "most", "I", false)
  | 5 => ("TokenFrames$FrameReader", "flags", "I", false)
  | 6 => ("TokenFrames$FrameReader", "greatest", "I", false)
  | 7 => ("TokenFrames$FrameReader", "sizeAt", "I", false)
  | 8 => ("TokenFrames$FrameReader", "start", "I", false)
  | _ => ("TokenFrames$FrameReader", "place", "I", false)
def ty_FR : Nat → FieldType := fun k => match k with
  | 0 => .object "TokenFrames$Row"
  | 1 => .object "TokenFrames$Row"
  | 2 => .object "TokenFrames$BlockReader"
  | 3 => .int
  | 4 => .int
  | 5 => .int
  | 6 => .int
  | 7 => .int
  | 8 => .int
  | _ => .int
theorem nm_FR : ∀ a, a < 10 → ∀ b, b < 10 → a ≠ b → (T_FR a).2.1 ≠ (T_FR b).2.1 := by decide +kernel
theorem ty_FR_ok : ∀ k, k < 10 → parseFieldDescriptor (T_FR k).2.2.1 = some (ty_FR k) := by decide +kernel
def T_Mo : u_T := fun k => match k with
  | 0 => ("TokenFramesModel", "in", "[I", true)
  | 1 => ("TokenFramesModel", "out", "[I", true)
  | 2 => ("TokenFramesModel", "history", "[I", true)
  | 3 => ("TokenFramesModel", "inSize", "I", false)
  | 4 => ("TokenFramesModel", "outSize", "I", false)
  | 5 => ("TokenFramesModel", "historySize", "I", false)
  | 6 => ("TokenFramesModel", "place", "I", false)
  | 7 => ("TokenFramesModel", "data", "[I", true)
  | 8 => ("TokenFramesModel", "dataSize", "I", false)
  | 9 => ("TokenFramesModel", "found", "I", false)
  | 10 => ("TokenFramesModel", "made", "[I", true)
  | 11 => ("TokenFramesModel", "madeSize", "I", false)
  | 12 => ("TokenFramesModel", "part", "[I", true)
  | 13 => ("TokenFramesModel", "partSize", "I", false)
  | 14 => ("TokenFramesModel", "back", "[I", true)
  | 15 => ("TokenFramesModel", "backSize", "I", false)
  | 16 => ("TokenFramesModel", "content", "[I", true)
  | 17 => ("TokenFramesModel", "contentSize", "I", false)
  | 18 => ("TokenFramesModel", "lane", "[J", true)
  | 19 => ("TokenFramesModel", "at", "I", false)
  | _ => ("TokenFramesModel", "number", "I", false)
def ty_Mo : Nat → FieldType := fun k => match k with
  | 0 => .array .int
  | 1 => .array .int
  | 2 => .array .int
  | 3 => .int
  | 4 => .int
  | 5 => .int
  | 6 => .int
  | 7 => .array .int
  | 8 => .int
  | 9 => .int
  | 10 => .array .int
  | 11 => .int
  | 12 => .array .int
  | 13 => .int
  | 14 => .array .int
  | 15 => .int
  | 16 => .array .int
  | 17 => .int
  | 18 => .array .long
  | 19 => .int
  | _ => .int
theorem nm_Mo : ∀ a, a < 21 → ∀ b, b < 21 → a ≠ b → (T_Mo a).2.1 ≠ (T_Mo b).2.1 := by decide +kernel
theorem ty_Mo_ok : ∀ k, k < 21 → parseFieldDescriptor (T_Mo k).2.2.1 = some (ty_Mo k) := by decide +kernel
abbrev vwCl : List vw_C := [(R_T, T_T, 9), (R_Row, T_Row, 2), (R_BW, T_BW, 3), (R_Mat, T_Mat, 6), (R_FW, T_FW, 4), (R_BR, T_BR, 9), (R_FR, T_FR, 10), (R_Mo, T_Mo, 21)]
/-- the words that go on to callees -/
def lw_g : List Cond := lw_tbl.filter goodWord
theorem lw_gm {w : Cond} (h : w ∈ lw_tbl) (hg : goodWord w = true) : w ∈ lw_g := List.mem_filter.mpr ⟨h, hg⟩
theorem lw_gg {w : Cond} (h : w ∈ lw_g) : (w.onTables && w.keeps) = true ∨ ∃ ty, w = .arrayClass ty := good_of_word (List.mem_filter.mp h).2
theorem lw_t {w : Cond} (h : w ∈ tables_1) : w ∈ lw_tbl := List.mem_append_right _ h
theorem lw_t0 {w : Cond} (h : w ∈ tables_1_1) : w ∈ lw_tbl := lw_t (List.mem_append_left _ h)
theorem lw_t1 {w : Cond} (h : w ∈ tables_1_2) : w ∈ lw_tbl := lw_t (List.mem_append_right _ (List.mem_append_left _ h))
theorem lw_t2 {w : Cond} (h : w ∈ tables_1_3) : w ∈ lw_tbl := lw_t (List.mem_append_right _ (List.mem_append_right _ (List.mem_append_left _ h)))
theorem lw_t3 {w : Cond} (h : w ∈ tables_1_4) : w ∈ lw_tbl := lw_t (List.mem_append_right _ (List.mem_append_right _ (List.mem_append_right _ h)))
def y_T_init : MethodName := ⟨R_T, "<init>", "()V"⟩
abbrev cd_T_init : ByteArray := prog_1_method_1_code
abbrev ws_T_init : List Cond := .code y_T_init cd_T_init 1 none :: lw_g
def y_Row_init : MethodName := ⟨R_Row, "<init>", "(I)V"⟩
abbrev cd_Row_init : ByteArray := prog_8_method_1_code
abbrev ws_Row_init : List Cond := .code y_Row_init cd_Row_init 2 none :: lw_g
def y_BW_init : MethodName := ⟨R_BW, "<init>", "(LTokenFrames$Row;)V"⟩
abbrev cd_BW_init : ByteArray := prog_3_method_1_code
abbrev ws_BW_init : List Cond := .code y_BW_init cd_BW_init 2 none :: lw_g
def y_Mat_init : MethodName := ⟨R_Mat, "<init>", "()V"⟩
abbrev cd_Mat_init : ByteArray := prog_6_method_1_code
abbrev ws_Mat_init : List Cond := .code y_Mat_init cd_Mat_init 1 none :: lw_g
def y_Mat_data : MethodName := ⟨R_Mat, "data", "()LTokenFrames$Row;"⟩
abbrev cd_Mat_data : ByteArray := prog_6_method_2_code
abbrev ws_Mat_data : List Cond := .code y_Mat_data cd_Mat_data 1 (some (.object "TokenFrames$Row")) :: lw_g
def y_FW_init : MethodName := ⟨R_FW, "<init>", "(LTokenFrames$Row;LTokenFrames$Row;LTokenFrames$BlockWriter;)V"⟩
abbrev cd_FW_init : ByteArray := prog_5_method_1_code
abbrev ws_FW_init : List Cond := .code y_FW_init cd_FW_init 4 none :: lw_g
def y_BR_init : MethodName := ⟨R_BR, "<init>", "(LTokenFrames$Row;LTokenFrames$Row;LTokenFrames$Row;)V"⟩
abbrev cd_BR_init : ByteArray := prog_2_method_1_code
abbrev ws_BR_init : List Cond := .code y_BR_init cd_BR_init 4 none :: lw_g
def y_FR_init : MethodName := ⟨R_FR, "<init>", "(LTokenFrames$Row;LTokenFrames$Row;LTokenFrames$BlockReader;)V"⟩
abbrev cd_FR_init : ByteArray := prog_4_method_1_code
abbrev ws_FR_init : List Cond := .code y_FR_init cd_FR_init 4 none :: lw_g
def y_T_write : MethodName := ⟨R_T, "write", "(JI)Z"⟩
abbrev cd_T_write : ByteArray := prog_1_method_2_code
abbrev ws_T_write : List Cond := .code y_T_write cd_T_write 5 (some .boolean) :: lw_g
def y_Row_hasRoomFor : MethodName := ⟨R_Row, "hasRoomFor", "(J)Z"⟩
abbrev cd_Row_hasRoomFor : ByteArray := prog_8_method_3_code
abbrev ws_Row_hasRoomFor : List Cond := .code y_Row_hasRoomFor cd_Row_hasRoomFor 3 (some .boolean) :: lw_g
def y_Row_add : MethodName := ⟨R_Row, "add", "(I)Z"⟩
abbrev cd_Row_add : ByteArray := prog_8_method_8_code
abbrev ws_Row_add : List Cond := .code y_Row_add cd_Row_add 2 (some .boolean) :: lw_g
def y_T_again : MethodName := ⟨R_T, "again", "(II)Z"⟩
abbrev cd_T_again : ByteArray := prog_1_method_3_code
abbrev ws_T_again : List Cond := .code y_T_again cd_T_again 4 (some .boolean) :: lw_g
def y_Row_count : MethodName := ⟨R_Row, "count", "()I"⟩
abbrev cd_Row_count : ByteArray := prog_8_method_2_code
abbrev ws_Row_count : List Cond := .code y_Row_count cd_Row_count 1 (some .int) :: lw_g
def y_Row_addFrom : MethodName := ⟨R_Row, "addFrom", "(LTokenFrames$Row;II)Z"⟩
abbrev cd_Row_addFrom : ByteArray := prog_8_method_10_code
abbrev ws_Row_addFrom : List Cond := .code y_Row_addFrom cd_Row_addFrom 5 (some .boolean) :: lw_g
def y_T_clear : MethodName := ⟨R_T, "clear", "()V"⟩
abbrev cd_T_clear : ByteArray := prog_1_method_4_code
abbrev ws_T_clear : List Cond := .code y_T_clear cd_T_clear 1 none :: lw_g
def y_Row_cutTo : MethodName := ⟨R_Row, "cutTo", "(I)V"⟩
abbrev cd_Row_cutTo : ByteArray := prog_8_method_11_code
abbrev ws_Row_cutTo : List Cond := .code y_Row_cutTo cd_Row_cutTo 2 none :: lw_g
def y_T_turn : MethodName := ⟨R_T, "turn", "()V"⟩
abbrev cd_T_turn : ByteArray := prog_1_method_5_code
abbrev ws_T_turn : List Cond := .code y_T_turn cd_T_turn 1 none :: lw_g
def y_Row_become : MethodName := ⟨R_Row, "become", "(LTokenFrames$Row;)V"⟩
abbrev cd_Row_become : ByteArray := prog_8_method_12_code
abbrev ws_Row_become : List Cond := .code y_Row_become cd_Row_become 2 none :: lw_g
def y_T_remember : MethodName := ⟨R_T, "remember", "()V"⟩
abbrev cd_T_remember : ByteArray := prog_1_method_6_code
abbrev ws_T_remember : List Cond := .code y_T_remember cd_T_remember 1 none :: lw_g
def y_T_block : MethodName := ⟨R_T, "block", "(I)I"⟩
abbrev cd_T_block : ByteArray := prog_1_method_7_code
abbrev ws_T_block : List Cond := .code y_T_block cd_T_block 3 (some .int) :: lw_g
def y_T_isWay : MethodName := ⟨R_T, "isWay", "(I)Z"⟩
abbrev cd_T_isWay : ByteArray := prog_1_method_16_code
abbrev ws_T_isWay : List Cond := .code y_T_isWay cd_T_isWay 1 (some .boolean) :: lw_g
def y_BW_startOver : MethodName := ⟨R_BW, "startOver", "()V"⟩
abbrev cd_BW_startOver : ByteArray := prog_3_method_2_code
abbrev ws_BW_startOver : List Cond := .code y_BW_startOver cd_BW_startOver 1 none :: lw_g
def y_Mat_startOver : MethodName := ⟨R_Mat, "startOver", "(LTokenFrames$Row;)V"⟩
abbrev cd_Mat_startOver : ByteArray := prog_6_method_4_code
abbrev ws_Mat_startOver : List Cond := .code y_Mat_startOver cd_Mat_startOver 2 none :: lw_g
def y_Arr_fill : MethodName := ⟨R_Arr, "fill", "([II)V"⟩
abbrev cd_Arr_fill : ByteArray := prog_13_method_103_code
abbrev ws_Arr_fill : List Cond := .code y_Arr_fill cd_Arr_fill 4 none :: lw_g
def y_BW_pack : MethodName := ⟨R_BW, "pack", "(LTokenFrames$Row;IIILTokenFrames$Row;)Z"⟩
abbrev cd_BW_pack : ByteArray := prog_3_method_4_code
abbrev ws_BW_pack : List Cond := .code y_BW_pack cd_BW_pack 12 (some .boolean) :: lw_g
def y_Mat_look : MethodName := ⟨R_Mat, "look", "(IIII)I"⟩
abbrev cd_Mat_look : ByteArray := prog_6_method_6_code
abbrev ws_Mat_look : List Cond := .code y_Mat_look cd_Mat_look 7 (some .int) :: lw_g
def y_Mat_chainBelow : MethodName := ⟨R_Mat, "chainBelow", "(I)V"⟩
abbrev cd_Mat_chainBelow : ByteArray := prog_6_method_10_code
abbrev ws_Mat_chainBelow : List Cond := .code y_Mat_chainBelow cd_Mat_chainBelow 3 none :: lw_g
def y_Row_word : MethodName := ⟨R_Row, "word", "(I)I"⟩
abbrev cd_Row_word : ByteArray := prog_8_method_6_code
abbrev ws_Row_word : List Cond := .code y_Row_word cd_Row_word 2 (some .int) :: lw_g
def y_Mat_slot : MethodName := ⟨R_Mat, "slot", "(I)I"⟩
abbrev cd_Mat_slot : ByteArray := prog_6_method_13_code
abbrev ws_Mat_slot : List Cond := .code y_Mat_slot cd_Mat_slot 1 (some .int) :: lw_g
def y_Mat_latest : MethodName := ⟨R_Mat, "latest", "(I)I"⟩
abbrev cd_Mat_latest : ByteArray := prog_6_method_11_code
abbrev ws_Mat_latest : List Cond := .code y_Mat_latest cd_Mat_latest 2 (some .int) :: lw_g
def y_Mat_setLatest : MethodName := ⟨R_Mat, "setLatest", "(II)V"⟩
abbrev cd_Mat_setLatest : ByteArray := prog_6_method_12_code
abbrev ws_Mat_setLatest : List Cond := .code y_Mat_setLatest cd_Mat_setLatest 3 none :: lw_g
def y_Mat_find : MethodName := ⟨R_Mat, "find", "(III)V"⟩
abbrev cd_Mat_find : ByteArray := prog_6_method_7_code
abbrev ws_Mat_find : List Cond := .code y_Mat_find cd_Mat_find 7 none :: lw_g
def y_Mat_enough : MethodName := ⟨R_Mat, "enough", "(II)I"⟩
abbrev cd_Mat_enough : ByteArray := prog_6_method_8_code
abbrev ws_Mat_enough : List Cond := .code y_Mat_enough cd_Mat_enough 2 (some .int) :: lw_g
def y_Row_get : MethodName := ⟨R_Row, "get", "(I)I"⟩
abbrev cd_Row_get : ByteArray := prog_8_method_4_code
abbrev ws_Row_get : List Cond := .code y_Row_get cd_Row_get 2 (some .int) :: lw_g
def y_Row_same : MethodName := ⟨R_Row, "same", "(III)I"⟩
abbrev cd_Row_same : ByteArray := prog_8_method_7_code
abbrev ws_Row_same : List Cond := .code y_Row_same cd_Row_same 6 (some .int) :: lw_g
def y_Mat_hold : MethodName := ⟨R_Mat, "hold", "(IIII)V"⟩
abbrev cd_Mat_hold : ByteArray := prog_6_method_9_code
abbrev ws_Mat_hold : List Cond := .code y_Mat_hold cd_Mat_hold 6 none :: lw_g
def y_BW_addLiterals : MethodName := ⟨R_BW, "addLiterals", "(IIILTokenFrames$Row;)Z"⟩
abbrev cd_BW_addLiterals : ByteArray := prog_3_method_5_code
abbrev ws_BW_addLiterals : List Cond := .code y_BW_addLiterals cd_BW_addLiterals 7 (some .boolean) :: lw_g
def y_BW_addGrowth : MethodName := ⟨R_BW, "addGrowth", "(ILTokenFrames$Row;)Z"⟩
abbrev cd_BW_addGrowth : ByteArray := prog_3_method_7_code
abbrev ws_BW_addGrowth : List Cond := .code y_BW_addGrowth cd_BW_addGrowth 3 (some .boolean) :: lw_g
def y_Mat_source : MethodName := ⟨R_Mat, "source", "()I"⟩
abbrev cd_Mat_source : ByteArray := prog_6_method_3_code
abbrev ws_Mat_source : List Cond := .code y_Mat_source cd_Mat_source 1 (some .int) :: lw_g
def y_BW_addCopy : MethodName := ⟨R_BW, "addCopy", "(IILTokenFrames$Row;)Z"⟩
abbrev cd_BW_addCopy : ByteArray := prog_3_method_6_code
abbrev ws_BW_addCopy : List Cond := .code y_BW_addCopy cd_BW_addCopy 3 (some .boolean) :: lw_g
def y_T_keepDraft : MethodName := ⟨R_T, "keepDraft", "()I"⟩
abbrev cd_T_keepDraft : ByteArray := prog_1_method_15_code
abbrev ws_T_keepDraft : List Cond := .code y_T_keepDraft cd_T_keepDraft 1 (some .int) :: lw_g
def y_T_unblock : MethodName := ⟨R_T, "unblock", "(I)I"⟩
abbrev cd_T_unblock : ByteArray := prog_1_method_8_code
abbrev ws_T_unblock : List Cond := .code y_T_unblock cd_T_unblock 3 (some .int) :: lw_g
def y_T_isMost : MethodName := ⟨R_T, "isMost", "(I)Z"⟩
abbrev cd_T_isMost : ByteArray := prog_1_method_17_code
abbrev ws_T_isMost : List Cond := .code y_T_isMost cd_T_isMost 1 (some .boolean) :: lw_g
def y_BR_read : MethodName := ⟨R_BR, "read", "(IIII)I"⟩
abbrev cd_BR_read : ByteArray := prog_2_method_3_code
abbrev ws_BR_read : List Cond := .code y_BR_read cd_BR_read 9 (some .int) :: lw_g
def y_BR_grown : MethodName := ⟨R_BR, "grown", "(I)I"⟩
abbrev cd_BR_grown : ByteArray := prog_2_method_5_code
abbrev ws_BR_grown : List Cond := .code y_BR_grown cd_BR_grown 4 (some .int) :: lw_g
def y_BR_takeLiterals : MethodName := ⟨R_BR, "takeLiterals", "(I)I"⟩
abbrev cd_BR_takeLiterals : ByteArray := prog_2_method_6_code
abbrev ws_BR_takeLiterals : List Cond := .code y_BR_takeLiterals cd_BR_takeLiterals 3 (some .int) :: lw_g
def y_BR_fault : MethodName := ⟨R_BR, "fault", "(II)I"⟩
abbrev cd_BR_fault : ByteArray := prog_2_method_4_code
abbrev ws_BR_fault : List Cond := .code y_BR_fault cd_BR_fault 3 (some .int) :: lw_g
def y_BR_takeDistance : MethodName := ⟨R_BR, "takeDistance", "()I"⟩
abbrev cd_BR_takeDistance : ByteArray := prog_2_method_7_code
abbrev ws_BR_takeDistance : List Cond := .code y_BR_takeDistance cd_BR_takeDistance 1 (some .int) :: lw_g
def y_Row_pair : MethodName := ⟨R_Row, "pair", "(I)I"⟩
abbrev cd_Row_pair : ByteArray := prog_8_method_5_code
abbrev ws_Row_pair : List Cond := .code y_Row_pair cd_Row_pair 2 (some .int) :: lw_g
def y_BR_takeCopy : MethodName := ⟨R_BR, "takeCopy", "(II)I"⟩
abbrev cd_BR_takeCopy : ByteArray := prog_2_method_8_code
abbrev ws_BR_takeCopy : List Cond := .code y_BR_takeCopy cd_BR_takeCopy 6 (some .int) :: lw_g
def y_BR_where : MethodName := ⟨R_BR, "where", "()I"⟩
abbrev cd_BR_where : ByteArray := prog_2_method_2_code
abbrev ws_BR_where : List Cond := .code y_BR_where cd_BR_where 1 (some .int) :: lw_g
def y_T_frame : MethodName := ⟨R_T, "frame", "(IIIII)I"⟩
abbrev cd_T_frame : ByteArray := prog_1_method_9_code
abbrev ws_T_frame : List Cond := .code y_T_frame cd_T_frame 7 (some .int) :: lw_g
def y_T_areFlags : MethodName := ⟨R_T, "areFlags", "(I)Z"⟩
abbrev cd_T_areFlags : ByteArray := prog_1_method_18_code
abbrev ws_T_areFlags : List Cond := .code y_T_areFlags cd_T_areFlags 1 (some .boolean) :: lw_g
def y_T_isK : MethodName := ⟨R_T, "isK", "(I)Z"⟩
abbrev cd_T_isK : ByteArray := prog_1_method_19_code
abbrev ws_T_isK : List Cond := .code y_T_isK cd_T_isK 1 (some .boolean) :: lw_g
def y_FW_writeFrame : MethodName := ⟨R_FW, "writeFrame", "(IIIII)Z"⟩
abbrev cd_FW_writeFrame : ByteArray := prog_5_method_2_code
abbrev ws_FW_writeFrame : List Cond := .code y_FW_writeFrame cd_FW_writeFrame 9 (some .boolean) :: lw_g
def y_FW_addHead : MethodName := ⟨R_FW, "addHead", "(III)Z"⟩
abbrev cd_FW_addHead : ByteArray := prog_5_method_3_code
abbrev ws_FW_addHead : List Cond := .code y_FW_addHead cd_FW_addHead 6 (some .boolean) :: lw_g
def y_Row_addWord : MethodName := ⟨R_Row, "addWord", "(I)Z"⟩
abbrev cd_Row_addWord : ByteArray := prog_8_method_9_code
abbrev ws_Row_addWord : List Cond := .code y_Row_addWord cd_Row_addWord 2 (some .boolean) :: lw_g
def y_Sum_of : MethodName := ⟨R_Sum, "of", "(LTokenFrames$Row;II)I"⟩
abbrev cd_Sum_of : ByteArray := prog_7_method_2_code
abbrev ws_Sum_of : List Cond := .code y_Sum_of cd_Sum_of 6 (some .int) :: lw_g
def y_Sum_ofLanes : MethodName := ⟨R_Sum, "ofLanes", "(LTokenFrames$Row;II)I"⟩
abbrev cd_Sum_ofLanes : ByteArray := prog_7_method_3_code
abbrev ws_Sum_ofLanes : List Cond := .code y_Sum_ofLanes cd_Sum_ofLanes 8 (some .int) :: lw_g
def y_Sum_lane : MethodName := ⟨R_Sum, "lane", "(II)I"⟩
abbrev cd_Sum_lane : ByteArray := prog_7_method_4_code
abbrev ws_Sum_lane : List Cond := .code y_Sum_lane cd_Sum_lane 2 (some .int) :: lw_g
def y_Sum_rotated : MethodName := ⟨R_Sum, "rotated", "(II)I"⟩
abbrev cd_Sum_rotated : ByteArray := prog_7_method_5_code
abbrev ws_Sum_rotated : List Cond := .code y_Sum_rotated cd_Sum_rotated 2 (some .int) :: lw_g
def y_FW_addRow : MethodName := ⟨R_FW, "addRow", "(IIII)Z"⟩
abbrev cd_FW_addRow : ByteArray := prog_5_method_4_code
abbrev ws_FW_addRow : List Cond := .code y_FW_addRow cd_FW_addRow 9 (some .boolean) :: lw_g
def y_BW_dropContent : MethodName := ⟨R_BW, "dropContent", "()V"⟩
abbrev cd_BW_dropContent : ByteArray := prog_3_method_3_code
abbrev ws_BW_dropContent : List Cond := .code y_BW_dropContent cd_BW_dropContent 1 none :: lw_g
def y_Mat_cutTo : MethodName := ⟨R_Mat, "cutTo", "(I)V"⟩
abbrev cd_Mat_cutTo : ByteArray := prog_6_method_5_code
abbrev ws_Mat_cutTo : List Cond := .code y_Mat_cutTo cd_Mat_cutTo 4 none :: lw_g
def y_FW_addTail : MethodName := ⟨R_FW, "addTail", "(I)Z"⟩
abbrev cd_FW_addTail : ByteArray := prog_5_method_5_code
abbrev ws_FW_addTail : List Cond := .code y_FW_addTail cd_FW_addTail 3 (some .boolean) :: lw_g
def y_T_unframe : MethodName := ⟨R_T, "unframe", "(I)I"⟩
abbrev cd_T_unframe : ByteArray := prog_1_method_10_code
abbrev ws_T_unframe : List Cond := .code y_T_unframe cd_T_unframe 3 (some .int) :: lw_g
def y_FR_readFrames : MethodName := ⟨R_FR, "readFrames", "(I)I"⟩
abbrev cd_FR_readFrames : ByteArray := prog_4_method_3_code
abbrev ws_FR_readFrames : List Cond := .code y_FR_readFrames cd_FR_readFrames 5 (some .int) :: lw_g
def y_FR_left : MethodName := ⟨R_FR, "left", "()I"⟩
abbrev cd_FR_left : ByteArray := prog_4_method_4_code
abbrev ws_FR_left : List Cond := .code y_FR_left cd_FR_left 1 (some .int) :: lw_g
def y_FR_cut : MethodName := ⟨R_FR, "cut", "()I"⟩
abbrev cd_FR_cut : ByteArray := prog_4_method_6_code
abbrev ws_FR_cut : List Cond := .code y_FR_cut cd_FR_cut 1 (some .int) :: lw_g
def y_FR_fault : MethodName := ⟨R_FR, "fault", "(II)I"⟩
abbrev cd_FR_fault : ByteArray := prog_4_method_5_code
abbrev ws_FR_fault : List Cond := .code y_FR_fault cd_FR_fault 3 (some .int) :: lw_g
def y_FR_readFrame : MethodName := ⟨R_FR, "readFrame", "()I"⟩
abbrev cd_FR_readFrame : ByteArray := prog_4_method_9_code
abbrev ws_FR_readFrame : List Cond := .code y_FR_readFrame cd_FR_readFrame 5 (some .int) :: lw_g
def y_FR_readFlags : MethodName := ⟨R_FR, "readFlags", "()I"⟩
abbrev cd_FR_readFlags : ByteArray := prog_4_method_10_code
abbrev ws_FR_readFlags : List Cond := .code y_FR_readFlags cd_FR_readFlags 2 (some .int) :: lw_g
def y_FR_readHead : MethodName := ⟨R_FR, "readHead", "(I)I"⟩
abbrev cd_FR_readHead : ByteArray := prog_4_method_11_code
abbrev ws_FR_readHead : List Cond := .code y_FR_readHead cd_FR_readHead 3 (some .int) :: lw_g
def y_FR_has : MethodName := ⟨R_FR, "has", "(I)Z"⟩
abbrev cd_FR_has : ByteArray := prog_4_method_7_code
abbrev ws_FR_has : List Cond := .code y_FR_has cd_FR_has 2 (some .boolean) :: lw_g
def y_FR_readTail : MethodName := ⟨R_FR, "readTail", "()I"⟩
abbrev cd_FR_readTail : ByteArray := prog_4_method_14_code
abbrev ws_FR_readTail : List Cond := .code y_FR_readTail cd_FR_readTail 1 (some .int) :: lw_g
def y_FR_sizeIs : MethodName := ⟨R_FR, "sizeIs", "(I)Z"⟩
abbrev cd_FR_sizeIs : ByteArray := prog_4_method_15_code
abbrev ws_FR_sizeIs : List Cond := .code y_FR_sizeIs cd_FR_sizeIs 2 (some .boolean) :: lw_g
def y_FR_readBlock : MethodName := ⟨R_FR, "readBlock", "(I)I"⟩
abbrev cd_FR_readBlock : ByteArray := prog_4_method_12_code
abbrev ws_FR_readBlock : List Cond := .code y_FR_readBlock cd_FR_readBlock 7 (some .int) :: lw_g
def y_FR_takeBytes : MethodName := ⟨R_FR, "takeBytes", "(II)I"⟩
abbrev cd_FR_takeBytes : ByteArray := prog_4_method_13_code
abbrev ws_FR_takeBytes : List Cond := .code y_FR_takeBytes cd_FR_takeBytes 4 (some .int) :: lw_g
def y_FR_passSpare : MethodName := ⟨R_FR, "passSpare", "()I"⟩
abbrev cd_FR_passSpare : ByteArray := prog_4_method_8_code
abbrev ws_FR_passSpare : List Cond := .code y_FR_passSpare cd_FR_passSpare 3 (some .int) :: lw_g
def y_FR_where : MethodName := ⟨R_FR, "where", "()I"⟩
abbrev cd_FR_where : ByteArray := prog_4_method_2_code
abbrev ws_FR_where : List Cond := .code y_FR_where cd_FR_where 1 (some .int) :: lw_g
def y_T_place : MethodName := ⟨R_T, "place", "()I"⟩
abbrev cd_T_place : ByteArray := prog_1_method_11_code
abbrev ws_T_place : List Cond := .code y_T_place cd_T_place 1 (some .int) :: lw_g
def y_T_sum : MethodName := ⟨R_T, "sum", "()I"⟩
abbrev cd_T_sum : ByteArray := prog_1_method_12_code
abbrev ws_T_sum : List Cond := .code y_T_sum cd_T_sum 1 (some .int) :: lw_g
def y_T_size : MethodName := ⟨R_T, "size", "()I"⟩
abbrev cd_T_size : ByteArray := prog_1_method_13_code
abbrev ws_T_size : List Cond := .code y_T_size cd_T_size 1 (some .int) :: lw_g
def y_T_byteAt : MethodName := ⟨R_T, "byteAt", "(I)I"⟩
abbrev cd_T_byteAt : ByteArray := prog_1_method_14_code
abbrev ws_T_byteAt : List Cond := .code y_T_byteAt cd_T_byteAt 2 (some .int) :: lw_g
def y_Mo_init : MethodName := ⟨R_Mo, "<init>", "()V"⟩
abbrev cd_Mo_init : ByteArray := prog_10_method_1_code
abbrev ws_Mo_init : List Cond := .code y_Mo_init cd_Mo_init 1 none :: lw_g
def y_Mo_write : MethodName := ⟨R_Mo, "write", "(JI)Z"⟩
abbrev cd_Mo_write : ByteArray := prog_10_method_2_code
abbrev ws_Mo_write : List Cond := .code y_Mo_write cd_Mo_write 5 (some .boolean) :: lw_g
def y_Mo_again : MethodName := ⟨R_Mo, "again", "(II)Z"⟩
abbrev cd_Mo_again : ByteArray := prog_10_method_3_code
abbrev ws_Mo_again : List Cond := .code y_Mo_again cd_Mo_again 4 (some .boolean) :: lw_g
def y_Mo_clear : MethodName := ⟨R_Mo, "clear", "()V"⟩
abbrev cd_Mo_clear : ByteArray := prog_10_method_4_code
abbrev ws_Mo_clear : List Cond := .code y_Mo_clear cd_Mo_clear 1 none :: lw_g
def y_Mo_turn : MethodName := ⟨R_Mo, "turn", "()V"⟩
abbrev cd_Mo_turn : ByteArray := prog_10_method_5_code
abbrev ws_Mo_turn : List Cond := .code y_Mo_turn cd_Mo_turn 2 none :: lw_g
def y_Mo_remember : MethodName := ⟨R_Mo, "remember", "()V"⟩
abbrev cd_Mo_remember : ByteArray := prog_10_method_6_code
abbrev ws_Mo_remember : List Cond := .code y_Mo_remember cd_Mo_remember 2 none :: lw_g
def y_Mo_sum : MethodName := ⟨R_Mo, "sum", "()I"⟩
abbrev cd_Mo_sum : ByteArray := prog_10_method_11_code
abbrev ws_Mo_sum : List Cond := .code y_Mo_sum cd_Mo_sum 1 (some .int) :: lw_g
def y_Mo_sumOf : MethodName := ⟨R_Mo, "sumOf", "([III)J"⟩
abbrev cd_Mo_sumOf : ByteArray := prog_10_method_10_code
abbrev ws_Mo_sumOf : List Cond := .code y_Mo_sumOf cd_Mo_sumOf 19 (some .long) :: lw_g
def y_Mo_word : MethodName := ⟨R_Mo, "word", "([II)J"⟩
abbrev cd_Mo_word : ByteArray := prog_10_method_9_code
abbrev ws_Mo_word : List Cond := .code y_Mo_word cd_Mo_word 2 (some .long) :: lw_g
def y_Mo_times : MethodName := ⟨R_Mo, "times", "(JJ)J"⟩
abbrev cd_Mo_times : ByteArray := prog_10_method_8_code
abbrev ws_Mo_times : List Cond := .code y_Mo_times cd_Mo_times 4 (some .long) :: lw_g
def y_Mo_turned : MethodName := ⟨R_Mo, "turned", "(JI)J"⟩
abbrev cd_Mo_turned : ByteArray := prog_10_method_7_code
abbrev ws_Mo_turned : List Cond := .code y_Mo_turned cd_Mo_turned 3 (some .long) :: lw_g
def y_Mo_block : MethodName := ⟨R_Mo, "block", "(I)I"⟩
abbrev cd_Mo_block : ByteArray := prog_10_method_22_code
abbrev ws_Mo_block : List Cond := .code y_Mo_block cd_Mo_block 2 (some .int) :: lw_g
def y_Mo_begin : MethodName := ⟨R_Mo, "begin", "()V"⟩
abbrev cd_Mo_begin : ByteArray := prog_10_method_19_code
abbrev ws_Mo_begin : List Cond := .code y_Mo_begin cd_Mo_begin 2 none :: lw_g
def y_Mo_append : MethodName := ⟨R_Mo, "append", "(II)V"⟩
abbrev cd_Mo_append : ByteArray := prog_10_method_20_code
abbrev ws_Mo_append : List Cond := .code y_Mo_append cd_Mo_append 4 none :: lw_g
def y_Mo_writeBlock : MethodName := ⟨R_Mo, "writeBlock", "(II)V"⟩
abbrev cd_Mo_writeBlock : ByteArray := prog_10_method_18_code
abbrev ws_Mo_writeBlock : List Cond := .code y_Mo_writeBlock cd_Mo_writeBlock 6 none :: lw_g
def y_Mo_taken : MethodName := ⟨R_Mo, "taken", "(II)I"⟩
abbrev cd_Mo_taken : ByteArray := prog_10_method_14_code
abbrev ws_Mo_taken : List Cond := .code y_Mo_taken cd_Mo_taken 5 (some .int) :: lw_g
def y_Mo_match : MethodName := ⟨R_Mo, "match", "(II)I"⟩
abbrev cd_Mo_match : ByteArray := prog_10_method_13_code
abbrev ws_Mo_match : List Cond := .code y_Mo_match cd_Mo_match 8 (some .int) :: lw_g
def y_Mo_alike : MethodName := ⟨R_Mo, "alike", "(III)I"⟩
abbrev cd_Mo_alike : ByteArray := prog_10_method_12_code
abbrev ws_Mo_alike : List Cond := .code y_Mo_alike cd_Mo_alike 5 (some .int) :: lw_g
def y_Mo_sequence : MethodName := ⟨R_Mo, "sequence", "(IIII)V"⟩
abbrev cd_Mo_sequence : ByteArray := prog_10_method_17_code
abbrev ws_Mo_sequence : List Cond := .code y_Mo_sequence cd_Mo_sequence 8 none :: lw_g
def y_Mo_say : MethodName := ⟨R_Mo, "say", "(I)V"⟩
abbrev cd_Mo_say : ByteArray := prog_10_method_15_code
abbrev ws_Mo_say : List Cond := .code y_Mo_say cd_Mo_say 2 none :: lw_g
def y_Mo_added : MethodName := ⟨R_Mo, "added", "(I)V"⟩
abbrev cd_Mo_added : ByteArray := prog_10_method_16_code
abbrev ws_Mo_added : List Cond := .code y_Mo_added cd_Mo_added 3 none :: lw_g
def y_Mo_show : MethodName := ⟨R_Mo, "show", "([II)I"⟩
abbrev cd_Mo_show : ByteArray := prog_10_method_21_code
abbrev ws_Mo_show : List Cond := .code y_Mo_show cd_Mo_show 4 (some .int) :: lw_g
def y_Mo_unblock : MethodName := ⟨R_Mo, "unblock", "(I)I"⟩
abbrev cd_Mo_unblock : ByteArray := prog_10_method_26_code
abbrev ws_Mo_unblock : List Cond := .code y_Mo_unblock cd_Mo_unblock 4 (some .int) :: lw_g
def y_Mo_beginBack : MethodName := ⟨R_Mo, "beginBack", "()V"⟩
abbrev cd_Mo_beginBack : ByteArray := prog_10_method_25_code
abbrev ws_Mo_beginBack : List Cond := .code y_Mo_beginBack cd_Mo_beginBack 2 none :: lw_g
def y_Mo_readBlock : MethodName := ⟨R_Mo, "readBlock", "(III)I"⟩
abbrev cd_Mo_readBlock : ByteArray := prog_10_method_24_code
abbrev ws_Mo_readBlock : List Cond := .code y_Mo_readBlock cd_Mo_readBlock 9 (some .int) :: lw_g
def y_Mo_adds : MethodName := ⟨R_Mo, "adds", "(II)Z"⟩
abbrev cd_Mo_adds : ByteArray := prog_10_method_23_code
abbrev ws_Mo_adds : List Cond := .code y_Mo_adds cd_Mo_adds 4 (some .boolean) :: lw_g
def y_Mo_frame : MethodName := ⟨R_Mo, "frame", "(IIIII)I"⟩
abbrev cd_Mo_frame : ByteArray := prog_10_method_30_code
abbrev ws_Mo_frame : List Cond := .code y_Mo_frame cd_Mo_frame 12 (some .int) :: lw_g
def y_Mo_areFlags : MethodName := ⟨R_Mo, "areFlags", "(I)Z"⟩
abbrev cd_Mo_areFlags : ByteArray := prog_10_method_27_code
abbrev ws_Mo_areFlags : List Cond := .code y_Mo_areFlags cd_Mo_areFlags 1 (some .boolean) :: lw_g
def y_Mo_makeNumber : MethodName := ⟨R_Mo, "makeNumber", "(JI)V"⟩
abbrev cd_Mo_makeNumber : ByteArray := prog_10_method_29_code
abbrev ws_Mo_makeNumber : List Cond := .code y_Mo_makeNumber cd_Mo_makeNumber 5 none :: lw_g
def y_Mo_make : MethodName := ⟨R_Mo, "make", "(I)V"⟩
abbrev cd_Mo_make : ByteArray := prog_10_method_28_code
abbrev ws_Mo_make : List Cond := .code y_Mo_make cd_Mo_make 2 none :: lw_g
def y_Mo_unframe : MethodName := ⟨R_Mo, "unframe", "(I)I"⟩
abbrev cd_Mo_unframe : ByteArray := prog_10_method_37_code
abbrev ws_Mo_unframe : List Cond := .code y_Mo_unframe cd_Mo_unframe 3 (some .int) :: lw_g
def y_Mo_readNext : MethodName := ⟨R_Mo, "readNext", "(I)I"⟩
abbrev cd_Mo_readNext : ByteArray := prog_10_method_34_code
abbrev ws_Mo_readNext : List Cond := .code y_Mo_readNext cd_Mo_readNext 6 (some .int) :: lw_g
def y_Mo_has : MethodName := ⟨R_Mo, "has", "(I)Z"⟩
abbrev cd_Mo_has : ByteArray := prog_10_method_31_code
abbrev ws_Mo_has : List Cond := .code y_Mo_has cd_Mo_has 2 (some .boolean) :: lw_g
def y_Mo_fault : MethodName := ⟨R_Mo, "fault", "(II)I"⟩
abbrev cd_Mo_fault : ByteArray := prog_10_method_33_code
abbrev ws_Mo_fault : List Cond := .code y_Mo_fault cd_Mo_fault 3 (some .int) :: lw_g
def y_Mo_numberAt : MethodName := ⟨R_Mo, "numberAt", "(II)J"⟩
abbrev cd_Mo_numberAt : ByteArray := prog_10_method_32_code
abbrev ws_Mo_numberAt : List Cond := .code y_Mo_numberAt cd_Mo_numberAt 6 (some .long) :: lw_g
def y_Mo_readFrame : MethodName := ⟨R_Mo, "readFrame", "(I)I"⟩
abbrev cd_Mo_readFrame : ByteArray := prog_10_method_35_code
abbrev ws_Mo_readFrame : List Cond := .code y_Mo_readFrame cd_Mo_readFrame 11 (some .int) :: lw_g
def y_Mo_readPart : MethodName := ⟨R_Mo, "readPart", "(JIIII)I"⟩
abbrev cd_Mo_readPart : ByteArray := prog_10_method_36_code
abbrev ws_Mo_readPart : List Cond := .code y_Mo_readPart cd_Mo_readPart 17 (some .int) :: lw_g
def y_Mo_place : MethodName := ⟨R_Mo, "place", "()I"⟩
abbrev cd_Mo_place : ByteArray := prog_10_method_38_code
abbrev ws_Mo_place : List Cond := .code y_Mo_place cd_Mo_place 1 (some .int) :: lw_g
def y_Mo_size : MethodName := ⟨R_Mo, "size", "()I"⟩
abbrev cd_Mo_size : ByteArray := prog_10_method_39_code
abbrev ws_Mo_size : List Cond := .code y_Mo_size cd_Mo_size 1 (some .int) :: lw_g
def y_Mo_byteAt : MethodName := ⟨R_Mo, "byteAt", "(I)I"⟩
abbrev cd_Mo_byteAt : ByteArray := prog_10_method_40_code
abbrev ws_Mo_byteAt : List Cond := .code y_Mo_byteAt cd_Mo_byteAt 2 (some .int) :: lw_g
def y_Law_law : MethodName := ⟨R_Law, "law", "([I)Z"⟩
abbrev cd_Law_law : ByteArray := code
theorem gd_c {y : MethodName} {b : ByteArray} {n : Nat} {r : Option FieldType} (h : Cond.code y b n r ∈ lw_g) : GoodIn lw_g (Cond.code y b n r :: lw_g) := fun w hw => (List.mem_cons.mp hw).elim (fun e => e ▸ ⟨h, lw_gg h⟩) (fun hw => ⟨hw, lw_gg hw⟩)
theorem gd_l {ws : List Cond} (h : ∀ w ∈ ws, w ∈ lw_g) : GoodIn lw_g ws := fun w hw => ⟨h w hw, lw_gg (h w hw)⟩
theorem gd_app {a b : List Cond} (ha : GoodIn lw_g a) (hb : GoodIn lw_g b) : GoodIn lw_g (a ++ b) := fun w h => (List.mem_append.mp h).elim (ha w) (hb w)
theorem gd_V {own C : String} {idx : Nat} {y : MethodName} {b : ByteArray} {n : Nat} {r : Option FieldType} (h1 : Cond.methodLink own idx y ∈ lw_g) (h2 : Cond.instanceMethod y ∈ lw_g) (h3 : Cond.selects C y y ∈ lw_g) (h4 : Cond.initialized C ∈ lw_g) (h5 : Cond.code y b n r ∈ lw_g) : GoodIn lw_g (wsV own idx C y (Cond.code y b n r :: lw_g)) := gd_app (gd_l (fun w hw => by
  simp only [List.mem_cons, List.not_mem_nil, or_false] at hw
  rcases hw with rfl | rfl | rfl | rfl
  · exact h1
  · exact h2
  · exact h3
  · exact h4)) (gd_c h5)
theorem gd_S {own : String} {idx : Nat} {y : MethodName} {b : ByteArray} {n : Nat} {r : Option FieldType} (h1 : Cond.methodLink own idx y ∈ lw_g) (h2 : Cond.static y ∈ lw_g) (h4 : Cond.initialized y.cls ∈ lw_g) (h5 : Cond.code y b n r ∈ lw_g) : GoodIn lw_g (va_wsS own idx y (Cond.code y b n r :: lw_g)) := gd_app (gd_l (fun w hw => by
  simp only [List.mem_cons, List.not_mem_nil, or_false] at hw
  rcases hw with rfl | rfl | rfl
  · exact h1
  · exact h2
  · exact h4)) (gd_c h5)
def nwL : List Cond := [.methodLinkNest R_FR 83 y_T_areFlags R_T, .methodLinkNest R_FR 87 y_T_isK R_T]
def nwOK (U : State) : Prop := ∀ w ∈ nwL, va_Nw w U
theorem nw_0 : (.methodLinkNest R_FR 83 y_T_areFlags R_T : Cond) ∈ nwL := List.mem_of_getElem? (i := 0) rfl
theorem nw_1 : (.methodLinkNest R_FR 87 y_T_isK R_T : Cond) ∈ nwL := List.mem_of_getElem? (i := 1) rfl
theorem nw_same {u U : State} (h : u.vm = U.vm) (hZ : nwOK u) : nwOK U := by
  intro w hw
  have h2 := hZ w hw
  simp only [nwL, List.mem_cons, List.not_mem_nil, or_false] at hw
  rcases hw with rfl | rfl <;> exact va_Nw.same rfl h h2
theorem nw_warm {u U : State} (hW : u.WarmedH U.vm) (hZ : nwOK u) : nwOK U := by
  intro w hw
  have h := hZ w hw
  simp only [nwL, List.mem_cons, List.not_mem_nil, or_false] at hw
  rcases hw with rfl | rfl <;> exact va_Nw.warmM hW h
