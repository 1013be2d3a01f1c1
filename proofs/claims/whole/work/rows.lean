section
-- ===== PART A: goes FIRST, ahead of the names: the tables' words, and 'selects' of the private methods out of them =====
/-- a private method of a class that the tables say can be made, by its rows of tables_1 -/
def lw_okq (q : MethodName × Nat) : Prop := (q.1.cls ≠ "java/lang/invoke/MethodHandle" ∧ q.1.cls ≠ "java/lang/invoke/VarHandle") ∧ Cond.instantiable q.1.cls q.2 ∈ tables_1 ∧ Cond.privateMethod q.1 ∈ tables_1 ∧ Cond.instanceMethod q.1 ∈ tables_1
theorem lw_p0 : lw_okq (⟨"TokenFrames$Matches", "chainBelow", "(I)V"⟩, 6) := ⟨⟨by decide +kernel, by decide +kernel⟩, List.mem_of_getElem? (i := 45) (by decide +kernel), List.mem_of_getElem? (i := 288) (by decide +kernel), List.mem_of_getElem? (i := 289) (by decide +kernel)⟩
theorem lw_p1 : lw_okq (⟨"TokenFrames$Matches", "find", "(III)V"⟩, 6) := ⟨⟨by decide +kernel, by decide +kernel⟩, List.mem_of_getElem? (i := 45) (by decide +kernel), List.mem_of_getElem? (i := 300) (by decide +kernel), List.mem_of_getElem? (i := 301) (by decide +kernel)⟩
theorem lw_p2 : lw_okq (⟨"TokenFrames$Matches", "hold", "(IIII)V"⟩, 6) := ⟨⟨by decide +kernel, by decide +kernel⟩, List.mem_of_getElem? (i := 45) (by decide +kernel), List.mem_of_getElem? (i := 315) (by decide +kernel), List.mem_of_getElem? (i := 316) (by decide +kernel)⟩
theorem lw_p3 : lw_okq (⟨"TokenFrames$BlockWriter", "addLiterals", "(IIILTokenFrames$Row;)Z"⟩, 3) := ⟨⟨by decide +kernel, by decide +kernel⟩, List.mem_of_getElem? (i := 39) (by decide +kernel), List.mem_of_getElem? (i := 319) (by decide +kernel), List.mem_of_getElem? (i := 320) (by decide +kernel)⟩
theorem lw_p4 : lw_okq (⟨"TokenFrames", "keepDraft", "()I"⟩, 9) := ⟨⟨by decide +kernel, by decide +kernel⟩, List.mem_of_getElem? (i := 14) (by decide +kernel), List.mem_of_getElem? (i := 336) (by decide +kernel), List.mem_of_getElem? (i := 337) (by decide +kernel)⟩
theorem lw_p5 : lw_okq (⟨"TokenFrames$BlockReader", "grown", "(I)I"⟩, 9) := ⟨⟨by decide +kernel, by decide +kernel⟩, List.mem_of_getElem? (i := 108) (by decide +kernel), List.mem_of_getElem? (i := 352) (by decide +kernel), List.mem_of_getElem? (i := 353) (by decide +kernel)⟩
theorem lw_p6 : lw_okq (⟨"TokenFrames$BlockReader", "takeLiterals", "(I)I"⟩, 9) := ⟨⟨by decide +kernel, by decide +kernel⟩, List.mem_of_getElem? (i := 108) (by decide +kernel), List.mem_of_getElem? (i := 356) (by decide +kernel), List.mem_of_getElem? (i := 357) (by decide +kernel)⟩
theorem lw_p7 : lw_okq (⟨"TokenFrames$BlockReader", "fault", "(II)I"⟩, 9) := ⟨⟨by decide +kernel, by decide +kernel⟩, List.mem_of_getElem? (i := 108) (by decide +kernel), List.mem_of_getElem? (i := 360) (by decide +kernel), List.mem_of_getElem? (i := 361) (by decide +kernel)⟩
theorem lw_p8 : lw_okq (⟨"TokenFrames$BlockReader", "takeDistance", "()I"⟩, 9) := ⟨⟨by decide +kernel, by decide +kernel⟩, List.mem_of_getElem? (i := 108) (by decide +kernel), List.mem_of_getElem? (i := 367) (by decide +kernel), List.mem_of_getElem? (i := 368) (by decide +kernel)⟩
theorem lw_p9 : lw_okq (⟨"TokenFrames$BlockReader", "takeCopy", "(II)I"⟩, 9) := ⟨⟨by decide +kernel, by decide +kernel⟩, List.mem_of_getElem? (i := 108) (by decide +kernel), List.mem_of_getElem? (i := 375) (by decide +kernel), List.mem_of_getElem? (i := 376) (by decide +kernel)⟩
theorem lw_p10 : lw_okq (⟨"TokenFrames$FrameWriter", "addHead", "(III)Z"⟩, 4) := ⟨⟨by decide +kernel, by decide +kernel⟩, List.mem_of_getElem? (i := 87) (by decide +kernel), List.mem_of_getElem? (i := 399) (by decide +kernel), List.mem_of_getElem? (i := 400) (by decide +kernel)⟩
theorem lw_p11 : lw_okq (⟨"TokenFrames$FrameWriter", "addRow", "(IIII)Z"⟩, 4) := ⟨⟨by decide +kernel, by decide +kernel⟩, List.mem_of_getElem? (i := 87) (by decide +kernel), List.mem_of_getElem? (i := 435) (by decide +kernel), List.mem_of_getElem? (i := 436) (by decide +kernel)⟩
theorem lw_p12 : lw_okq (⟨"TokenFrames$FrameWriter", "addTail", "(I)Z"⟩, 4) := ⟨⟨by decide +kernel, by decide +kernel⟩, List.mem_of_getElem? (i := 87) (by decide +kernel), List.mem_of_getElem? (i := 453) (by decide +kernel), List.mem_of_getElem? (i := 454) (by decide +kernel)⟩
theorem lw_p13 : lw_okq (⟨"TokenFrames$FrameReader", "left", "()I"⟩, 10) := ⟨⟨by decide +kernel, by decide +kernel⟩, List.mem_of_getElem? (i := 142) (by decide +kernel), List.mem_of_getElem? (i := 467) (by decide +kernel), List.mem_of_getElem? (i := 468) (by decide +kernel)⟩
theorem lw_p14 : lw_okq (⟨"TokenFrames$FrameReader", "cut", "()I"⟩, 10) := ⟨⟨by decide +kernel, by decide +kernel⟩, List.mem_of_getElem? (i := 142) (by decide +kernel), List.mem_of_getElem? (i := 471) (by decide +kernel), List.mem_of_getElem? (i := 472) (by decide +kernel)⟩
theorem lw_p15 : lw_okq (⟨"TokenFrames$FrameReader", "fault", "(II)I"⟩, 10) := ⟨⟨by decide +kernel, by decide +kernel⟩, List.mem_of_getElem? (i := 142) (by decide +kernel), List.mem_of_getElem? (i := 475) (by decide +kernel), List.mem_of_getElem? (i := 476) (by decide +kernel)⟩
def lw_privs_1 : List (MethodName × Nat) := [(⟨"TokenFrames$Matches", "chainBelow", "(I)V"⟩, 6), (⟨"TokenFrames$Matches", "find", "(III)V"⟩, 6), (⟨"TokenFrames$Matches", "hold", "(IIII)V"⟩, 6), (⟨"TokenFrames$BlockWriter", "addLiterals", "(IIILTokenFrames$Row;)Z"⟩, 3), (⟨"TokenFrames", "keepDraft", "()I"⟩, 9), (⟨"TokenFrames$BlockReader", "grown", "(I)I"⟩, 9), (⟨"TokenFrames$BlockReader", "takeLiterals", "(I)I"⟩, 9), (⟨"TokenFrames$BlockReader", "fault", "(II)I"⟩, 9), (⟨"TokenFrames$BlockReader", "takeDistance", "()I"⟩, 9), (⟨"TokenFrames$BlockReader", "takeCopy", "(II)I"⟩, 9), (⟨"TokenFrames$FrameWriter", "addHead", "(III)Z"⟩, 4), (⟨"TokenFrames$FrameWriter", "addRow", "(IIII)Z"⟩, 4), (⟨"TokenFrames$FrameWriter", "addTail", "(I)Z"⟩, 4), (⟨"TokenFrames$FrameReader", "left", "()I"⟩, 10), (⟨"TokenFrames$FrameReader", "cut", "()I"⟩, 10), (⟨"TokenFrames$FrameReader", "fault", "(II)I"⟩, 10)]
theorem lw_r1 : ∀ q ∈ lw_privs_1, lw_okq q := List.forall_mem_cons.mpr ⟨lw_p0, List.forall_mem_cons.mpr ⟨lw_p1, List.forall_mem_cons.mpr ⟨lw_p2, List.forall_mem_cons.mpr ⟨lw_p3, List.forall_mem_cons.mpr ⟨lw_p4, List.forall_mem_cons.mpr ⟨lw_p5, List.forall_mem_cons.mpr ⟨lw_p6, List.forall_mem_cons.mpr ⟨lw_p7, List.forall_mem_cons.mpr ⟨lw_p8, List.forall_mem_cons.mpr ⟨lw_p9, List.forall_mem_cons.mpr ⟨lw_p10, List.forall_mem_cons.mpr ⟨lw_p11, List.forall_mem_cons.mpr ⟨lw_p12, List.forall_mem_cons.mpr ⟨lw_p13, List.forall_mem_cons.mpr ⟨lw_p14, List.forall_mem_cons.mpr ⟨lw_p15, fun _ h => absurd h List.not_mem_nil⟩⟩⟩⟩⟩⟩⟩⟩⟩⟩⟩⟩⟩⟩⟩⟩
theorem lw_p16 : lw_okq (⟨"TokenFrames$FrameReader", "readFrame", "()I"⟩, 10) := ⟨⟨by decide +kernel, by decide +kernel⟩, List.mem_of_getElem? (i := 142) (by decide +kernel), List.mem_of_getElem? (i := 480) (by decide +kernel), List.mem_of_getElem? (i := 481) (by decide +kernel)⟩
theorem lw_p17 : lw_okq (⟨"TokenFrames$FrameReader", "readFlags", "()I"⟩, 10) := ⟨⟨by decide +kernel, by decide +kernel⟩, List.mem_of_getElem? (i := 142) (by decide +kernel), List.mem_of_getElem? (i := 484) (by decide +kernel), List.mem_of_getElem? (i := 485) (by decide +kernel)⟩
theorem lw_p18 : lw_okq (⟨"TokenFrames$FrameReader", "readHead", "(I)I"⟩, 10) := ⟨⟨by decide +kernel, by decide +kernel⟩, List.mem_of_getElem? (i := 142) (by decide +kernel), List.mem_of_getElem? (i := 491) (by decide +kernel), List.mem_of_getElem? (i := 492) (by decide +kernel)⟩
theorem lw_p19 : lw_okq (⟨"TokenFrames$FrameReader", "has", "(I)Z"⟩, 10) := ⟨⟨by decide +kernel, by decide +kernel⟩, List.mem_of_getElem? (i := 142) (by decide +kernel), List.mem_of_getElem? (i := 495) (by decide +kernel), List.mem_of_getElem? (i := 496) (by decide +kernel)⟩
theorem lw_p20 : lw_okq (⟨"TokenFrames$FrameReader", "readTail", "()I"⟩, 10) := ⟨⟨by decide +kernel, by decide +kernel⟩, List.mem_of_getElem? (i := 142) (by decide +kernel), List.mem_of_getElem? (i := 500) (by decide +kernel), List.mem_of_getElem? (i := 501) (by decide +kernel)⟩
theorem lw_p21 : lw_okq (⟨"TokenFrames$FrameReader", "sizeIs", "(I)Z"⟩, 10) := ⟨⟨by decide +kernel, by decide +kernel⟩, List.mem_of_getElem? (i := 142) (by decide +kernel), List.mem_of_getElem? (i := 504) (by decide +kernel), List.mem_of_getElem? (i := 505) (by decide +kernel)⟩
theorem lw_p22 : lw_okq (⟨"TokenFrames$FrameReader", "readBlock", "(I)I"⟩, 10) := ⟨⟨by decide +kernel, by decide +kernel⟩, List.mem_of_getElem? (i := 142) (by decide +kernel), List.mem_of_getElem? (i := 508) (by decide +kernel), List.mem_of_getElem? (i := 509) (by decide +kernel)⟩
theorem lw_p23 : lw_okq (⟨"TokenFrames$FrameReader", "takeBytes", "(II)I"⟩, 10) := ⟨⟨by decide +kernel, by decide +kernel⟩, List.mem_of_getElem? (i := 142) (by decide +kernel), List.mem_of_getElem? (i := 513) (by decide +kernel), List.mem_of_getElem? (i := 514) (by decide +kernel)⟩
theorem lw_p24 : lw_okq (⟨"TokenFrames$FrameReader", "passSpare", "()I"⟩, 10) := ⟨⟨by decide +kernel, by decide +kernel⟩, List.mem_of_getElem? (i := 142) (by decide +kernel), List.mem_of_getElem? (i := 521) (by decide +kernel), List.mem_of_getElem? (i := 522) (by decide +kernel)⟩
theorem lw_p25 : lw_okq (⟨"TokenFramesModel", "sumOf", "([III)J"⟩, 21) := ⟨⟨by decide +kernel, by decide +kernel⟩, List.mem_of_getElem? (i := 548) (by decide +kernel), List.mem_of_getElem? (i := 644) (by decide +kernel), List.mem_of_getElem? (i := 645) (by decide +kernel)⟩
theorem lw_p26 : lw_okq (⟨"TokenFramesModel", "begin", "()V"⟩, 21) := ⟨⟨by decide +kernel, by decide +kernel⟩, List.mem_of_getElem? (i := 548) (by decide +kernel), List.mem_of_getElem? (i := 667) (by decide +kernel), List.mem_of_getElem? (i := 668) (by decide +kernel)⟩
theorem lw_p27 : lw_okq (⟨"TokenFramesModel", "append", "(II)V"⟩, 21) := ⟨⟨by decide +kernel, by decide +kernel⟩, List.mem_of_getElem? (i := 548) (by decide +kernel), List.mem_of_getElem? (i := 671) (by decide +kernel), List.mem_of_getElem? (i := 672) (by decide +kernel)⟩
theorem lw_p28 : lw_okq (⟨"TokenFramesModel", "writeBlock", "(II)V"⟩, 21) := ⟨⟨by decide +kernel, by decide +kernel⟩, List.mem_of_getElem? (i := 548) (by decide +kernel), List.mem_of_getElem? (i := 675) (by decide +kernel), List.mem_of_getElem? (i := 676) (by decide +kernel)⟩
theorem lw_p29 : lw_okq (⟨"TokenFramesModel", "taken", "(II)I"⟩, 21) := ⟨⟨by decide +kernel, by decide +kernel⟩, List.mem_of_getElem? (i := 548) (by decide +kernel), List.mem_of_getElem? (i := 679) (by decide +kernel), List.mem_of_getElem? (i := 680) (by decide +kernel)⟩
theorem lw_p30 : lw_okq (⟨"TokenFramesModel", "match", "(II)I"⟩, 21) := ⟨⟨by decide +kernel, by decide +kernel⟩, List.mem_of_getElem? (i := 548) (by decide +kernel), List.mem_of_getElem? (i := 683) (by decide +kernel), List.mem_of_getElem? (i := 684) (by decide +kernel)⟩
theorem lw_p31 : lw_okq (⟨"TokenFramesModel", "alike", "(III)I"⟩, 21) := ⟨⟨by decide +kernel, by decide +kernel⟩, List.mem_of_getElem? (i := 548) (by decide +kernel), List.mem_of_getElem? (i := 688) (by decide +kernel), List.mem_of_getElem? (i := 689) (by decide +kernel)⟩
def lw_privs_2 : List (MethodName × Nat) := [(⟨"TokenFrames$FrameReader", "readFrame", "()I"⟩, 10), (⟨"TokenFrames$FrameReader", "readFlags", "()I"⟩, 10), (⟨"TokenFrames$FrameReader", "readHead", "(I)I"⟩, 10), (⟨"TokenFrames$FrameReader", "has", "(I)Z"⟩, 10), (⟨"TokenFrames$FrameReader", "readTail", "()I"⟩, 10), (⟨"TokenFrames$FrameReader", "sizeIs", "(I)Z"⟩, 10), (⟨"TokenFrames$FrameReader", "readBlock", "(I)I"⟩, 10), (⟨"TokenFrames$FrameReader", "takeBytes", "(II)I"⟩, 10), (⟨"TokenFrames$FrameReader", "passSpare", "()I"⟩, 10), (⟨"TokenFramesModel", "sumOf", "([III)J"⟩, 21), (⟨"TokenFramesModel", "begin", "()V"⟩, 21), (⟨"TokenFramesModel", "append", "(II)V"⟩, 21), (⟨"TokenFramesModel", "writeBlock", "(II)V"⟩, 21), (⟨"TokenFramesModel", "taken", "(II)I"⟩, 21), (⟨"TokenFramesModel", "match", "(II)I"⟩, 21), (⟨"TokenFramesModel", "alike", "(III)I"⟩, 21)]
theorem lw_r2 : ∀ q ∈ lw_privs_2, lw_okq q := List.forall_mem_cons.mpr ⟨lw_p16, List.forall_mem_cons.mpr ⟨lw_p17, List.forall_mem_cons.mpr ⟨lw_p18, List.forall_mem_cons.mpr ⟨lw_p19, List.forall_mem_cons.mpr ⟨lw_p20, List.forall_mem_cons.mpr ⟨lw_p21, List.forall_mem_cons.mpr ⟨lw_p22, List.forall_mem_cons.mpr ⟨lw_p23, List.forall_mem_cons.mpr ⟨lw_p24, List.forall_mem_cons.mpr ⟨lw_p25, List.forall_mem_cons.mpr ⟨lw_p26, List.forall_mem_cons.mpr ⟨lw_p27, List.forall_mem_cons.mpr ⟨lw_p28, List.forall_mem_cons.mpr ⟨lw_p29, List.forall_mem_cons.mpr ⟨lw_p30, List.forall_mem_cons.mpr ⟨lw_p31, fun _ h => absurd h List.not_mem_nil⟩⟩⟩⟩⟩⟩⟩⟩⟩⟩⟩⟩⟩⟩⟩⟩
theorem lw_p32 : lw_okq (⟨"TokenFramesModel", "sequence", "(IIII)V"⟩, 21) := ⟨⟨by decide +kernel, by decide +kernel⟩, List.mem_of_getElem? (i := 548) (by decide +kernel), List.mem_of_getElem? (i := 692) (by decide +kernel), List.mem_of_getElem? (i := 693) (by decide +kernel)⟩
theorem lw_p33 : lw_okq (⟨"TokenFramesModel", "say", "(I)V"⟩, 21) := ⟨⟨by decide +kernel, by decide +kernel⟩, List.mem_of_getElem? (i := 548) (by decide +kernel), List.mem_of_getElem? (i := 696) (by decide +kernel), List.mem_of_getElem? (i := 697) (by decide +kernel)⟩
theorem lw_p34 : lw_okq (⟨"TokenFramesModel", "added", "(I)V"⟩, 21) := ⟨⟨by decide +kernel, by decide +kernel⟩, List.mem_of_getElem? (i := 548) (by decide +kernel), List.mem_of_getElem? (i := 700) (by decide +kernel), List.mem_of_getElem? (i := 701) (by decide +kernel)⟩
theorem lw_p35 : lw_okq (⟨"TokenFramesModel", "show", "([II)I"⟩, 21) := ⟨⟨by decide +kernel, by decide +kernel⟩, List.mem_of_getElem? (i := 548) (by decide +kernel), List.mem_of_getElem? (i := 704) (by decide +kernel), List.mem_of_getElem? (i := 705) (by decide +kernel)⟩
theorem lw_p36 : lw_okq (⟨"TokenFramesModel", "beginBack", "()V"⟩, 21) := ⟨⟨by decide +kernel, by decide +kernel⟩, List.mem_of_getElem? (i := 548) (by decide +kernel), List.mem_of_getElem? (i := 712) (by decide +kernel), List.mem_of_getElem? (i := 713) (by decide +kernel)⟩
theorem lw_p37 : lw_okq (⟨"TokenFramesModel", "readBlock", "(III)I"⟩, 21) := ⟨⟨by decide +kernel, by decide +kernel⟩, List.mem_of_getElem? (i := 548) (by decide +kernel), List.mem_of_getElem? (i := 716) (by decide +kernel), List.mem_of_getElem? (i := 717) (by decide +kernel)⟩
theorem lw_p38 : lw_okq (⟨"TokenFramesModel", "adds", "(II)Z"⟩, 21) := ⟨⟨by decide +kernel, by decide +kernel⟩, List.mem_of_getElem? (i := 548) (by decide +kernel), List.mem_of_getElem? (i := 720) (by decide +kernel), List.mem_of_getElem? (i := 721) (by decide +kernel)⟩
theorem lw_p39 : lw_okq (⟨"TokenFramesModel", "makeNumber", "(JI)V"⟩, 21) := ⟨⟨by decide +kernel, by decide +kernel⟩, List.mem_of_getElem? (i := 548) (by decide +kernel), List.mem_of_getElem? (i := 732) (by decide +kernel), List.mem_of_getElem? (i := 733) (by decide +kernel)⟩
theorem lw_p40 : lw_okq (⟨"TokenFramesModel", "make", "(I)V"⟩, 21) := ⟨⟨by decide +kernel, by decide +kernel⟩, List.mem_of_getElem? (i := 548) (by decide +kernel), List.mem_of_getElem? (i := 736) (by decide +kernel), List.mem_of_getElem? (i := 737) (by decide +kernel)⟩
theorem lw_p41 : lw_okq (⟨"TokenFramesModel", "readNext", "(I)I"⟩, 21) := ⟨⟨by decide +kernel, by decide +kernel⟩, List.mem_of_getElem? (i := 548) (by decide +kernel), List.mem_of_getElem? (i := 745) (by decide +kernel), List.mem_of_getElem? (i := 746) (by decide +kernel)⟩
theorem lw_p42 : lw_okq (⟨"TokenFramesModel", "has", "(I)Z"⟩, 21) := ⟨⟨by decide +kernel, by decide +kernel⟩, List.mem_of_getElem? (i := 548) (by decide +kernel), List.mem_of_getElem? (i := 749) (by decide +kernel), List.mem_of_getElem? (i := 750) (by decide +kernel)⟩
theorem lw_p43 : lw_okq (⟨"TokenFramesModel", "fault", "(II)I"⟩, 21) := ⟨⟨by decide +kernel, by decide +kernel⟩, List.mem_of_getElem? (i := 548) (by decide +kernel), List.mem_of_getElem? (i := 753) (by decide +kernel), List.mem_of_getElem? (i := 754) (by decide +kernel)⟩
theorem lw_p44 : lw_okq (⟨"TokenFramesModel", "numberAt", "(II)J"⟩, 21) := ⟨⟨by decide +kernel, by decide +kernel⟩, List.mem_of_getElem? (i := 548) (by decide +kernel), List.mem_of_getElem? (i := 757) (by decide +kernel), List.mem_of_getElem? (i := 758) (by decide +kernel)⟩
theorem lw_p45 : lw_okq (⟨"TokenFramesModel", "readFrame", "(I)I"⟩, 21) := ⟨⟨by decide +kernel, by decide +kernel⟩, List.mem_of_getElem? (i := 548) (by decide +kernel), List.mem_of_getElem? (i := 763) (by decide +kernel), List.mem_of_getElem? (i := 764) (by decide +kernel)⟩
theorem lw_p46 : lw_okq (⟨"TokenFramesModel", "readPart", "(JIIII)I"⟩, 21) := ⟨⟨by decide +kernel, by decide +kernel⟩, List.mem_of_getElem? (i := 548) (by decide +kernel), List.mem_of_getElem? (i := 767) (by decide +kernel), List.mem_of_getElem? (i := 768) (by decide +kernel)⟩
def lw_privs_3 : List (MethodName × Nat) := [(⟨"TokenFramesModel", "sequence", "(IIII)V"⟩, 21), (⟨"TokenFramesModel", "say", "(I)V"⟩, 21), (⟨"TokenFramesModel", "added", "(I)V"⟩, 21), (⟨"TokenFramesModel", "show", "([II)I"⟩, 21), (⟨"TokenFramesModel", "beginBack", "()V"⟩, 21), (⟨"TokenFramesModel", "readBlock", "(III)I"⟩, 21), (⟨"TokenFramesModel", "adds", "(II)Z"⟩, 21), (⟨"TokenFramesModel", "makeNumber", "(JI)V"⟩, 21), (⟨"TokenFramesModel", "make", "(I)V"⟩, 21), (⟨"TokenFramesModel", "readNext", "(I)I"⟩, 21), (⟨"TokenFramesModel", "has", "(I)Z"⟩, 21), (⟨"TokenFramesModel", "fault", "(II)I"⟩, 21), (⟨"TokenFramesModel", "numberAt", "(II)J"⟩, 21), (⟨"TokenFramesModel", "readFrame", "(I)I"⟩, 21), (⟨"TokenFramesModel", "readPart", "(JIIII)I"⟩, 21)]
theorem lw_r3 : ∀ q ∈ lw_privs_3, lw_okq q := List.forall_mem_cons.mpr ⟨lw_p32, List.forall_mem_cons.mpr ⟨lw_p33, List.forall_mem_cons.mpr ⟨lw_p34, List.forall_mem_cons.mpr ⟨lw_p35, List.forall_mem_cons.mpr ⟨lw_p36, List.forall_mem_cons.mpr ⟨lw_p37, List.forall_mem_cons.mpr ⟨lw_p38, List.forall_mem_cons.mpr ⟨lw_p39, List.forall_mem_cons.mpr ⟨lw_p40, List.forall_mem_cons.mpr ⟨lw_p41, List.forall_mem_cons.mpr ⟨lw_p42, List.forall_mem_cons.mpr ⟨lw_p43, List.forall_mem_cons.mpr ⟨lw_p44, List.forall_mem_cons.mpr ⟨lw_p45, List.forall_mem_cons.mpr ⟨lw_p46, fun _ h => absurd h List.not_mem_nil⟩⟩⟩⟩⟩⟩⟩⟩⟩⟩⟩⟩⟩⟩⟩
def lw_privs : List (MethodName × Nat) := lw_privs_1 ++ (lw_privs_2 ++ (lw_privs_3))
def lw_tbl : List Cond := k2_sels lw_privs ++ tables_1
theorem lw_privs_ok : ∀ q ∈ lw_privs, lw_okq q := by
  show ∀ q ∈ lw_privs_1 ++ (lw_privs_2 ++ (lw_privs_3)), lw_okq q
  exact List.forall_mem_append.mpr ⟨lw_r1, List.forall_mem_append.mpr ⟨lw_r2, lw_r3⟩⟩
def R_BR : String := "TokenFrames$BlockReader"
def R_BW : String := "TokenFrames$BlockWriter"
def R_FR : String := "TokenFrames$FrameReader"
def R_FW : String := "TokenFrames$FrameWriter"
def R_Law : String := "TokenFramesLaw"
def R_Mat : String := "TokenFrames$Matches"
def R_Mo : String := "TokenFramesModel"
def R_Row : String := "TokenFrames$Row"
def R_Sum : String := "TokenFrames$NarrowSum"
def R_T : String := "TokenFrames"
def R_Arr : String := "java/util/Arrays"
def T_T : u_T := fun k => match k with
  | 0 => ("TokenFrames", "in", "LTokenFrames$Row;", true)
  | 1 => ("TokenFrames", "out", "LTokenFrames$Row;", true)
  | 2 => ("TokenFrames", "history", "LTokenFrames$Row;", true)
  | 3 => ("TokenFrames", "draft", "LTokenFrames$Row;", true)
  | 4 => ("TokenFrames", "blockWriter", "LTokenFrames$BlockWriter;", true)
  | 5 => ("TokenFrames", "frameWriter", "LTokenFrames$FrameWriter;", true)
  | 6 => ("TokenFrames", "blockReader", "LTokenFrames$BlockReader;", true)
  | 7 => ("TokenFrames", "frameReader", "LTokenFrames$FrameReader;", true)
  | _ => ("TokenFrames", "place", "I", false)
def ty_T : Nat → FieldType := fun k => match k with
  | 0 => .object "TokenFrames$Row"
  | 1 => .object "TokenFrames$Row"
  | 2 => .object "TokenFrames$Row"
  | 3 => .object "TokenFrames$Row"
  | 4 => .object "TokenFrames$BlockWriter"
  | 5 => .object "TokenFrames$FrameWriter"
  | 6 => .object "TokenFrames$BlockReader"
  | 7 => .object "TokenFrames$FrameReader"
  | _ => .int
theorem nm_T : ∀ a, a < 9 → ∀ b, b < 9 → a ≠ b → (T_T a).2.1 ≠ (T_T b).2.1 := by decide +kernel
theorem ty_T_ok : ∀ k, k < 9 → parseFieldDescriptor (T_T k).2.2.1 = some (ty_T k) := by decide +kernel
def T_Row : u_T := fun k => match k with
  | 0 => ("TokenFrames$Row", "bytes", "[B", true)
  | _ => ("TokenFrames$Row", "count", "I", false)
def ty_Row : Nat → FieldType := fun k => match k with
  | 0 => .array .byte
  | _ => .int
theorem nm_Row : ∀ a, a < 2 → ∀ b, b < 2 → a ≠ b → (T_Row a).2.1 ≠ (T_Row b).2.1 := by decide +kernel
theorem ty_Row_ok : ∀ k, k < 2 → parseFieldDescriptor (T_Row k).2.2.1 = some (ty_Row k) := by decide +kernel
def T_BW : u_T := fun k => match k with
  | 0 => ("TokenFrames$BlockWriter", "history", "LTokenFrames$Row;", true)
  | 1 => ("TokenFrames$BlockWriter", "matches", "LTokenFrames$Matches;", true)
  | _ => ("TokenFrames$BlockWriter", "data", "LTokenFrames$Row;", true)
def ty_BW : Nat → FieldType := fun k => match k with
  | 0 => .object "TokenFrames$Row"
  | 1 => .object "TokenFrames$Matches"
  | _ => .object "TokenFrames$Row"
theorem nm_BW : ∀ a, a < 3 → ∀ b, b < 3 → a ≠ b → (T_BW a).2.1 ≠ (T_BW b).2.1 := by decide +kernel
theorem ty_BW_ok : ∀ k, k < 3 → parseFieldDescriptor (T_BW k).2.2.1 = some (ty_BW k) := by decide +kernel
def T_Mat : u_T := fun k => match k with
  | 0 => ("TokenFrames$Matches", "data", "LTokenFrames$Row;", true)
  | 1 => ("TokenFrames$Matches", "latest", "[I", true)
  | 2 => ("TokenFrames$Matches", "earlier", "[I", true)
  | 3 => ("TokenFrames$Matches", "chained", "I", false)
  | 4 => ("TokenFrames$Matches", "source", "I", false)
  | _ => ("TokenFrames$Matches", "length", "I", false)
def ty_Mat : Nat → FieldType := fun k => match k with
  | 0 => .object "TokenFrames$Row"
  | 1 => .array .int
  | 2 => .array .int
  | 3 => .int
  | 4 => .int
  | _ => .int
theorem nm_Mat : ∀ a, a < 6 → ∀ b, b < 6 → a ≠ b → (T_Mat a).2.1 ≠ (T_Mat b).2.1 := by decide +kernel
theorem ty_Mat_ok : ∀ k, k < 6 → parseFieldDescriptor (T_Mat k).2.2.1 = some (ty_Mat k) := by decide +kernel
def T_FW : u_T := fun k => match k with
  | 0 => ("TokenFrames$FrameWriter", "in", "LTokenFrames$Row;", true)
  | 1 => ("TokenFrames$FrameWriter", "to", "LTokenFrames$Row;", true)
  | 2 => ("TokenFrames$FrameWriter", "blocks", "LTokenFrames$BlockWriter;", true)
  | _ => ("TokenFrames$FrameWriter", "packed", "LTokenFrames$Row;", true)
def ty_FW : Nat → FieldType := fun k => match k with
  | 0 => .object "TokenFrames$Row"
  | 1 => .object "TokenFrames$Row"
  | 2 => .object "TokenFrames$BlockWriter"
  | _ => .object "TokenFrames$Row"
theorem nm_FW : ∀ a, a < 4 → ∀ b, b < 4 → a ≠ b → (T_FW a).2.1 ≠ (T_FW b).2.1 := by decide +kernel
theorem ty_FW_ok : ∀ k, k < 4 → parseFieldDescriptor (T_FW k).2.2.1 = some (ty_FW k) := by decide +kernel
def T_BR : u_T := fun k => match k with
  | 0 => ("TokenFrames$BlockReader", "in", "LTokenFrames$Row;", true)
  | 1 => ("TokenFrames$BlockReader", "history", "LTokenFrames$Row;", true)
  | 2 => ("TokenFrames$BlockReader", "to", "LTokenFrames$Row;", true)
  | 3 => ("TokenFrames$BlockReader", "at", "I", false)
  | 4 => ("TokenFrames$BlockReader", "end", "I", false)
  | 5 => ("TokenFrames$BlockReader", "start", "I", false)
  | 6 => ("TokenFrames$BlockReader", "most", "I", false)
  | 7 => ("TokenFrames$BlockReader", "distance", "I", false)
  | _ => ("TokenFrames$BlockReader", "place", "I", false)
def ty_BR : Nat → FieldType := fun k => match k with
  | 0 => .object "TokenFrames$Row"
  | 1 => .object "TokenFrames$Row"
  | 2 => .object "TokenFrames$Row"
  | 3 => .int
  | 4 => .int
  | 5 => .int
  | 6 => .int
  | 7 => .int
  | _ => .int
theorem nm_BR : ∀ a, a < 9 → ∀ b, b < 9 → a ≠ b → (T_BR a).2.1 ≠ (T_BR b).2.1 := by decide +kernel
theorem ty_BR_ok : ∀ k, k < 9 → parseFieldDescriptor (T_BR k).2.2.1 = some (ty_BR k) := by decide +kernel
def T_FR : u_T := fun k => match k with
  | 0 => ("TokenFrames$FrameReader", "in", "LTokenFrames$Row;", true)
  | 1 => ("TokenFrames$FrameReader", "to", "LTokenFrames$Row;", true)
  | 2 => ("TokenFrames$FrameReader", "blocks", "LTokenFrames$BlockReader;", true)
  | 3 => ("TokenFrames$FrameReader", "at", "I", false)
  | 4 => ("TokenFrames$FrameReader", "most", "I", false)
  | 5 => ("TokenFrames$FrameReader", "flags", "I", false)
  | 6 => ("TokenFrames$FrameReader", "greatest", "I", false)
  | 7 => ("TokenFrames$FrameReader", "sizeAt", "I", false)
  | 8 => ("TokenFrames$FrameReader", "start", "I", false)
  | _ => ("TokenFrames$FrameReader", "place", "I", false)
def ty_FR : Nat → FieldType := fun k => match k with
  | 0 => .object "TokenFrames$Row"
  | 1 => .object "TokenFrames$Row"
  | 2 => .object "TokenFrames$BlockReader"
  | 3 => .int
  | 4 => .int
  | 5 => .int
  | 6 => .int
  | 7 => .int
  | 8 => .int
  | _ => .int
theorem nm_FR : ∀ a, a < 10 → ∀ b, b < 10 → a ≠ b → (T_FR a).2.1 ≠ (T_FR b).2.1 := by decide +kernel
theorem ty_FR_ok : ∀ k, k < 10 → parseFieldDescriptor (T_FR k).2.2.1 = some (ty_FR k) := by decide +kernel
def T_Mo : u_T := fun k => match k with
  | 0 => ("TokenFramesModel", "in", "[I", true)
  | 1 => ("TokenFramesModel", "out", "[I", true)
  | 2 => ("TokenFramesModel", "history", "[I", true)
  | 3 => ("TokenFramesModel", "inSize", "I", false)
  | 4 => ("TokenFramesModel", "outSize", "I", false)
  | 5 => ("TokenFramesModel", "historySize", "I", false)
  | 6 => ("TokenFramesModel", "place", "I", false)
  | 7 => ("TokenFramesModel", "data", "[I", true)
  | 8 => ("TokenFramesModel", "dataSize", "I", false)
  | 9 => ("TokenFramesModel", "found", "I", false)
  | 10 => ("TokenFramesModel", "made", "[I", true)
  | 11 => ("TokenFramesModel", "madeSize", "I", false)
  | 12 => ("TokenFramesModel", "part", "[I", true)
  | 13 => ("TokenFramesModel", "partSize", "I", false)
  | 14 => ("TokenFramesModel", "back", "[I", true)
  | 15 => ("TokenFramesModel", "backSize", "I", false)
  | 16 => ("TokenFramesModel", "content", "[I", true)
  | 17 => ("TokenFramesModel", "contentSize", "I", false)
  | 18 => ("TokenFramesModel", "lane", "[J", true)
  | 19 => ("TokenFramesModel", "at", "I", false)
  | _ => ("TokenFramesModel", "number", "I", false)
def ty_Mo : Nat → FieldType := fun k => match k with
  | 0 => .array .int
  | 1 => .array .int
  | 2 => .array .int
  | 3 => .int
  | 4 => .int
  | 5 => .int
  | 6 => .int
  | 7 => .array .int
  | 8 => .int
  | 9 => .int
  | 10 => .array .int
  | 11 => .int
  | 12 => .array .int
  | 13 => .int
  | 14 => .array .int
  | 15 => .int
  | 16 => .array .int
  | 17 => .int
  | 18 => .array .long
  | 19 => .int
  | _ => .int
theorem nm_Mo : ∀ a, a < 21 → ∀ b, b < 21 → a ≠ b → (T_Mo a).2.1 ≠ (T_Mo b).2.1 := by decide +kernel
theorem ty_Mo_ok : ∀ k, k < 21 → parseFieldDescriptor (T_Mo k).2.2.1 = some (ty_Mo k) := by decide +kernel
abbrev vwCl : List vw_C := [(R_T, T_T, 9), (R_Row, T_Row, 2), (R_BW, T_BW, 3), (R_Mat, T_Mat, 6), (R_FW, T_FW, 4), (R_BR, T_BR, 9), (R_FR, T_FR, 10), (R_Mo, T_Mo, 21)]
/-- the words that go on to callees -/
def lw_g : List Cond := lw_tbl.filter goodWord
theorem lw_gm {w : Cond} (h : w ∈ lw_tbl) (hg : goodWord w = true) : w ∈ lw_g := List.mem_filter.mpr ⟨h, hg⟩
theorem lw_gg {w : Cond} (h : w ∈ lw_g) : (w.onTables && w.keeps) = true ∨ ∃ ty, w = .arrayClass ty := good_of_word (List.mem_filter.mp h).2
theorem lw_t {w : Cond} (h : w ∈ tables_1) : w ∈ lw_tbl := List.mem_append_right _ h
theorem lw_t0 {w : Cond} (h : w ∈ tables_1_1) : w ∈ lw_tbl := lw_t (List.mem_append_left _ h)
theorem lw_t1 {w : Cond} (h : w ∈ tables_1_2) : w ∈ lw_tbl := lw_t (List.mem_append_right _ (List.mem_append_left _ h))
theorem lw_t2 {w : Cond} (h : w ∈ tables_1_3) : w ∈ lw_tbl := lw_t (List.mem_append_right _ (List.mem_append_right _ (List.mem_append_left _ h)))
theorem lw_t3 {w : Cond} (h : w ∈ tables_1_4) : w ∈ lw_tbl := lw_t (List.mem_append_right _ (List.mem_append_right _ (List.mem_append_right _ h)))
def y_T_init : MethodName := ⟨R_T, "<init>", "()V"⟩
abbrev cd_T_init : ByteArray := prog_1_method_1_code
abbrev ws_T_init : List Cond := .code y_T_init cd_T_init 1 none :: lw_g
def y_Row_init : MethodName := ⟨R_Row, "<init>", "(I)V"⟩
abbrev cd_Row_init : ByteArray := prog_8_method_1_code
abbrev ws_Row_init : List Cond := .code y_Row_init cd_Row_init 2 none :: lw_g
def y_BW_init : MethodName := ⟨R_BW, "<init>", "(LTokenFrames$Row;)V"⟩
abbrev cd_BW_init : ByteArray := prog_3_method_1_code
abbrev ws_BW_init : List Cond := .code y_BW_init cd_BW_init 2 none :: lw_g
def y_Mat_init : MethodName := ⟨R_Mat, "<init>", "()V"⟩
abbrev cd_Mat_init : ByteArray := prog_6_method_1_code
abbrev ws_Mat_init : List Cond := .code y_Mat_init cd_Mat_init 1 none :: lw_g
def y_Mat_data : MethodName := ⟨R_Mat, "data", "()LTokenFrames$Row;"⟩
abbrev cd_Mat_data : ByteArray := prog_6_method_2_code
abbrev ws_Mat_data : List Cond := .code y_Mat_data cd_Mat_data 1 (some (.object "TokenFrames$Row")) :: lw_g
def y_FW_init : MethodName := ⟨R_FW, "<init>", "(LTokenFrames$Row;LTokenFrames$Row;LTokenFrames$BlockWriter;)V"⟩
abbrev cd_FW_init : ByteArray := prog_5_method_1_code
abbrev ws_FW_init : List Cond := .code y_FW_init cd_FW_init 4 none :: lw_g
def y_BR_init : MethodName := ⟨R_BR, "<init>", "(LTokenFrames$Row;LTokenFrames$Row;LTokenFrames$Row;)V"⟩
abbrev cd_BR_init : ByteArray := prog_2_method_1_code
abbrev ws_BR_init : List Cond := .code y_BR_init cd_BR_init 4 none :: lw_g
def y_FR_init : MethodName := ⟨R_FR, "<init>", "(LTokenFrames$Row;LTokenFrames$Row;LTokenFrames$BlockReader;)V"⟩
abbrev cd_FR_init : ByteArray := prog_4_method_1_code
abbrev ws_FR_init : List Cond := .code y_FR_init cd_FR_init 4 none :: lw_g
def y_T_write : MethodName := ⟨R_T, "write", "(JI)Z"⟩
abbrev cd_T_write : ByteArray := prog_1_method_2_code
abbrev ws_T_write : List Cond := .code y_T_write cd_T_write 5 (some .boolean) :: lw_g
def y_Row_hasRoomFor : MethodName := ⟨R_Row, "hasRoomFor", "(J)Z"⟩
abbrev cd_Row_hasRoomFor : ByteArray := prog_8_method_3_code
abbrev ws_Row_hasRoomFor : List Cond := .code y_Row_hasRoomFor cd_Row_hasRoomFor 3 (some .boolean) :: lw_g
def y_Row_add : MethodName := ⟨R_Row, "add", "(I)Z"⟩
abbrev cd_Row_add : ByteArray := prog_8_method_8_code
abbrev ws_Row_add : List Cond := .code y_Row_add cd_Row_add 2 (some .boolean) :: lw_g
def y_T_again : MethodName := ⟨R_T, "again", "(II)Z"⟩
abbrev cd_T_again : ByteArray := prog_1_method_3_code
abbrev ws_T_again : List Cond := .code y_T_again cd_T_again 4 (some .boolean) :: lw_g
def y_Row_count : MethodName := ⟨R_Row, "count", "()I"⟩
abbrev cd_Row_count : ByteArray := prog_8_method_2_code
abbrev ws_Row_count : List Cond := .code y_Row_count cd_Row_count 1 (some .int) :: lw_g
def y_Row_addFrom : MethodName := ⟨R_Row, "addFrom", "(LTokenFrames$Row;II)Z"⟩
abbrev cd_Row_addFrom : ByteArray := prog_8_method_10_code
abbrev ws_Row_addFrom : List Cond := .code y_Row_addFrom cd_Row_addFrom 5 (some .boolean) :: lw_g
def y_T_clear : MethodName := ⟨R_T, "clear", "()V"⟩
abbrev cd_T_clear : ByteArray := prog_1_method_4_code
abbrev ws_T_clear : List Cond := .code y_T_clear cd_T_clear 1 none :: lw_g
def y_Row_cutTo : MethodName := ⟨R_Row, "cutTo", "(I)V"⟩
abbrev cd_Row_cutTo : ByteArray := prog_8_method_11_code
abbrev ws_Row_cutTo : List Cond := .code y_Row_cutTo cd_Row_cutTo 2 none :: lw_g
def y_T_turn : MethodName := ⟨R_T, "turn", "()V"⟩
abbrev cd_T_turn : ByteArray := prog_1_method_5_code
abbrev ws_T_turn : List Cond := .code y_T_turn cd_T_turn 1 none :: lw_g
def y_Row_become : MethodName := ⟨R_Row, "become", "(LTokenFrames$Row;)V"⟩
abbrev cd_Row_become : ByteArray := prog_8_method_12_code
abbrev ws_Row_become : List Cond := .code y_Row_become cd_Row_become 2 none :: lw_g
def y_T_remember : MethodName := ⟨R_T, "remember", "()V"⟩
abbrev cd_T_remember : ByteArray := prog_1_method_6_code
abbrev ws_T_remember : List Cond := .code y_T_remember cd_T_remember 1 none :: lw_g
def y_T_block : MethodName := ⟨R_T, "block", "(I)I"⟩
abbrev cd_T_block : ByteArray := prog_1_method_7_code
abbrev ws_T_block : List Cond := .code y_T_block cd_T_block 3 (some .int) :: lw_g
def y_T_isWay : MethodName := ⟨R_T, "isWay", "(I)Z"⟩
abbrev cd_T_isWay : ByteArray := prog_1_method_16_code
abbrev ws_T_isWay : List Cond := .code y_T_isWay cd_T_isWay 1 (some .boolean) :: lw_g
def y_BW_startOver : MethodName := ⟨R_BW, "startOver", "()V"⟩
abbrev cd_BW_startOver : ByteArray := prog_3_method_2_code
abbrev ws_BW_startOver : List Cond := .code y_BW_startOver cd_BW_startOver 1 none :: lw_g
def y_Mat_startOver : MethodName := ⟨R_Mat, "startOver", "(LTokenFrames$Row;)V"⟩
abbrev cd_Mat_startOver : ByteArray := prog_6_method_4_code
abbrev ws_Mat_startOver : List Cond := .code y_Mat_startOver cd_Mat_startOver 2 none :: lw_g
def y_Arr_fill : MethodName := ⟨R_Arr, "fill", "([II)V"⟩
abbrev cd_Arr_fill : ByteArray := prog_13_method_103_code
abbrev ws_Arr_fill : List Cond := .code y_Arr_fill cd_Arr_fill 4 none :: lw_g
def y_BW_pack : MethodName := ⟨R_BW, "pack", "(LTokenFrames$Row;IIILTokenFrames$Row;)Z"⟩
abbrev cd_BW_pack : ByteArray := prog_3_method_4_code
abbrev ws_BW_pack : List Cond := .code y_BW_pack cd_BW_pack 12 (some .boolean) :: lw_g
def y_Mat_look : MethodName := ⟨R_Mat, "look", "(IIII)I"⟩
abbrev cd_Mat_look : ByteArray := prog_6_method_6_code
abbrev ws_Mat_look : List Cond := .code y_Mat_look cd_Mat_look 7 (some .int) :: lw_g
def y_Mat_chainBelow : MethodName := ⟨R_Mat, "chainBelow", "(I)V"⟩
abbrev cd_Mat_chainBelow : ByteArray := prog_6_method_10_code
abbrev ws_Mat_chainBelow : List Cond := .code y_Mat_chainBelow cd_Mat_chainBelow 3 none :: lw_g
def y_Row_word : MethodName := ⟨R_Row, "word", "(I)I"⟩
abbrev cd_Row_word : ByteArray := prog_8_method_6_code
abbrev ws_Row_word : List Cond := .code y_Row_word cd_Row_word 2 (some .int) :: lw_g
def y_Mat_slot : MethodName := ⟨R_Mat, "slot", "(I)I"⟩
abbrev cd_Mat_slot : ByteArray := prog_6_method_11_code
abbrev ws_Mat_slot : List Cond := .code y_Mat_slot cd_Mat_slot 1 (some .int) :: lw_g
def y_Mat_find : MethodName := ⟨R_Mat, "find", "(III)V"⟩
abbrev cd_Mat_find : ByteArray := prog_6_method_7_code
abbrev ws_Mat_find : List Cond := .code y_Mat_find cd_Mat_find 7 none :: lw_g
def y_Mat_enough : MethodName := ⟨R_Mat, "enough", "(II)I"⟩
abbrev cd_Mat_enough : ByteArray := prog_6_method_8_code
abbrev ws_Mat_enough : List Cond := .code y_Mat_enough cd_Mat_enough 2 (some .int) :: lw_g
def y_Row_get : MethodName := ⟨R_Row, "get", "(I)I"⟩
abbrev cd_Row_get : ByteArray := prog_8_method_4_code
abbrev ws_Row_get : List Cond := .code y_Row_get cd_Row_get 2 (some .int) :: lw_g
def y_Row_same : MethodName := ⟨R_Row, "same", "(III)I"⟩
abbrev cd_Row_same : ByteArray := prog_8_method_7_code
abbrev ws_Row_same : List Cond := .code y_Row_same cd_Row_same 6 (some .int) :: lw_g
def y_Mat_hold : MethodName := ⟨R_Mat, "hold", "(IIII)V"⟩
abbrev cd_Mat_hold : ByteArray := prog_6_method_9_code
abbrev ws_Mat_hold : List Cond := .code y_Mat_hold cd_Mat_hold 6 none :: lw_g
def y_BW_addLiterals : MethodName := ⟨R_BW, "addLiterals", "(IIILTokenFrames$Row;)Z"⟩
abbrev cd_BW_addLiterals : ByteArray := prog_3_method_5_code
abbrev ws_BW_addLiterals : List Cond := .code y_BW_addLiterals cd_BW_addLiterals 7 (some .boolean) :: lw_g
def y_BW_addGrowth : MethodName := ⟨R_BW, "addGrowth", "(ILTokenFrames$Row;)Z"⟩
abbrev cd_BW_addGrowth : ByteArray := prog_3_method_7_code
abbrev ws_BW_addGrowth : List Cond := .code y_BW_addGrowth cd_BW_addGrowth 3 (some .boolean) :: lw_g
def y_Mat_source : MethodName := ⟨R_Mat, "source", "()I"⟩
abbrev cd_Mat_source : ByteArray := prog_6_method_3_code
abbrev ws_Mat_source : List Cond := .code y_Mat_source cd_Mat_source 1 (some .int) :: lw_g
def y_BW_addCopy : MethodName := ⟨R_BW, "addCopy", "(IILTokenFrames$Row;)Z"⟩
abbrev cd_BW_addCopy : ByteArray := prog_3_method_6_code
abbrev ws_BW_addCopy : List Cond := .code y_BW_addCopy cd_BW_addCopy 3 (some .boolean) :: lw_g
def y_T_keepDraft : MethodName := ⟨R_T, "keepDraft", "()I"⟩
abbrev cd_T_keepDraft : ByteArray := prog_1_method_15_code
abbrev ws_T_keepDraft : List Cond := .code y_T_keepDraft cd_T_keepDraft 1 (some .int) :: lw_g
def y_T_unblock : MethodName := ⟨R_T, "unblock", "(I)I"⟩
abbrev cd_T_unblock : ByteArray := prog_1_method_8_code
abbrev ws_T_unblock : List Cond := .code y_T_unblock cd_T_unblock 3 (some .int) :: lw_g
def y_T_isMost : MethodName := ⟨R_T, "isMost", "(I)Z"⟩
abbrev cd_T_isMost : ByteArray := prog_1_method_17_code
abbrev ws_T_isMost : List Cond := .code y_T_isMost cd_T_isMost 1 (some .boolean) :: lw_g
def y_BR_read : MethodName := ⟨R_BR, "read", "(IIII)I"⟩
abbrev cd_BR_read : ByteArray := prog_2_method_3_code
abbrev ws_BR_read : List Cond := .code y_BR_read cd_BR_read 9 (some .int) :: lw_g
def y_BR_grown : MethodName := ⟨R_BR, "grown", "(I)I"⟩
abbrev cd_BR_grown : ByteArray := prog_2_method_5_code
abbrev ws_BR_grown : List Cond := .code y_BR_grown cd_BR_grown 4 (some .int) :: lw_g
def y_BR_takeLiterals : MethodName := ⟨R_BR, "takeLiterals", "(I)I"⟩
abbrev cd_BR_takeLiterals : ByteArray := prog_2_method_6_code
abbrev ws_BR_takeLiterals : List Cond := .code y_BR_takeLiterals cd_BR_takeLiterals 3 (some .int) :: lw_g
def y_BR_fault : MethodName := ⟨R_BR, "fault", "(II)I"⟩
abbrev cd_BR_fault : ByteArray := prog_2_method_4_code
abbrev ws_BR_fault : List Cond := .code y_BR_fault cd_BR_fault 3 (some .int) :: lw_g
def y_BR_takeDistance : MethodName := ⟨R_BR, "takeDistance", "()I"⟩
abbrev cd_BR_takeDistance : ByteArray := prog_2_method_7_code
abbrev ws_BR_takeDistance : List Cond := .code y_BR_takeDistance cd_BR_takeDistance 1 (some .int) :: lw_g
def y_Row_pair : MethodName := ⟨R_Row, "pair", "(I)I"⟩
abbrev cd_Row_pair : ByteArray := prog_8_method_5_code
abbrev ws_Row_pair : List Cond := .code y_Row_pair cd_Row_pair 2 (some .int) :: lw_g
def y_BR_takeCopy : MethodName := ⟨R_BR, "takeCopy", "(II)I"⟩
abbrev cd_BR_takeCopy : ByteArray := prog_2_method_8_code
abbrev ws_BR_takeCopy : List Cond := .code y_BR_takeCopy cd_BR_takeCopy 6 (some .int) :: lw_g
def y_BR_where : MethodName := ⟨R_BR, "where", "()I"⟩
abbrev cd_BR_where : ByteArray := prog_2_method_2_code
abbrev ws_BR_where : List Cond := .code y_BR_where cd_BR_where 1 (some .int) :: lw_g
def y_T_frame : MethodName := ⟨R_T, "frame", "(IIIII)I"⟩
abbrev cd_T_frame : ByteArray := prog_1_method_9_code
abbrev ws_T_frame : List Cond := .code y_T_frame cd_T_frame 7 (some .int) :: lw_g
def y_T_areFlags : MethodName := ⟨R_T, "areFlags", "(I)Z"⟩
abbrev cd_T_areFlags : ByteArray := prog_1_method_18_code
abbrev ws_T_areFlags : List Cond := .code y_T_areFlags cd_T_areFlags 1 (some .boolean) :: lw_g
def y_T_isK : MethodName := ⟨R_T, "isK", "(I)Z"⟩
abbrev cd_T_isK : ByteArray := prog_1_method_19_code
abbrev ws_T_isK : List Cond := .code y_T_isK cd_T_isK 1 (some .boolean) :: lw_g
def y_FW_writeFrame : MethodName := ⟨R_FW, "writeFrame", "(IIIII)Z"⟩
abbrev cd_FW_writeFrame : ByteArray := prog_5_method_2_code
abbrev ws_FW_writeFrame : List Cond := .code y_FW_writeFrame cd_FW_writeFrame 9 (some .boolean) :: lw_g
def y_FW_addHead : MethodName := ⟨R_FW, "addHead", "(III)Z"⟩
abbrev cd_FW_addHead : ByteArray := prog_5_method_3_code
abbrev ws_FW_addHead : List Cond := .code y_FW_addHead cd_FW_addHead 6 (some .boolean) :: lw_g
def y_Row_addWord : MethodName := ⟨R_Row, "addWord", "(I)Z"⟩
abbrev cd_Row_addWord : ByteArray := prog_8_method_9_code
abbrev ws_Row_addWord : List Cond := .code y_Row_addWord cd_Row_addWord 2 (some .boolean) :: lw_g
def y_Sum_of : MethodName := ⟨R_Sum, "of", "(LTokenFrames$Row;II)I"⟩
abbrev cd_Sum_of : ByteArray := prog_7_method_2_code
abbrev ws_Sum_of : List Cond := .code y_Sum_of cd_Sum_of 6 (some .int) :: lw_g
def y_Sum_ofLanes : MethodName := ⟨R_Sum, "ofLanes", "(LTokenFrames$Row;II)I"⟩
abbrev cd_Sum_ofLanes : ByteArray := prog_7_method_3_code
abbrev ws_Sum_ofLanes : List Cond := .code y_Sum_ofLanes cd_Sum_ofLanes 8 (some .int) :: lw_g
def y_Sum_lane : MethodName := ⟨R_Sum, "lane", "(II)I"⟩
abbrev cd_Sum_lane : ByteArray := prog_7_method_4_code
abbrev ws_Sum_lane : List Cond := .code y_Sum_lane cd_Sum_lane 2 (some .int) :: lw_g
def y_Sum_rotated : MethodName := ⟨R_Sum, "rotated", "(II)I"⟩
abbrev cd_Sum_rotated : ByteArray := prog_7_method_5_code
abbrev ws_Sum_rotated : List Cond := .code y_Sum_rotated cd_Sum_rotated 2 (some .int) :: lw_g
def y_FW_addRow : MethodName := ⟨R_FW, "addRow", "(IIII)Z"⟩
abbrev cd_FW_addRow : ByteArray := prog_5_method_4_code
abbrev ws_FW_addRow : List Cond := .code y_FW_addRow cd_FW_addRow 9 (some .boolean) :: lw_g
def y_BW_dropContent : MethodName := ⟨R_BW, "dropContent", "()V"⟩
abbrev cd_BW_dropContent : ByteArray := prog_3_method_3_code
abbrev ws_BW_dropContent : List Cond := .code y_BW_dropContent cd_BW_dropContent 1 none :: lw_g
def y_Mat_cutTo : MethodName := ⟨R_Mat, "cutTo", "(I)V"⟩
abbrev cd_Mat_cutTo : ByteArray := prog_6_method_5_code
abbrev ws_Mat_cutTo : List Cond := .code y_Mat_cutTo cd_Mat_cutTo 4 none :: lw_g
def y_FW_addTail : MethodName := ⟨R_FW, "addTail", "(I)Z"⟩
abbrev cd_FW_addTail : ByteArray := prog_5_method_5_code
abbrev ws_FW_addTail : List Cond := .code y_FW_addTail cd_FW_addTail 3 (some .boolean) :: lw_g
def y_T_unframe : MethodName := ⟨R_T, "unframe", "(I)I"⟩
abbrev cd_T_unframe : ByteArray := prog_1_method_10_code
abbrev ws_T_unframe : List Cond := .code y_T_unframe cd_T_unframe 3 (some .int) :: lw_g
def y_FR_readFrames : MethodName := ⟨R_FR, "readFrames", "(I)I"⟩
abbrev cd_FR_readFrames : ByteArray := prog_4_method_3_code
abbrev ws_FR_readFrames : List Cond := .code y_FR_readFrames cd_FR_readFrames 5 (some .int) :: lw_g
def y_FR_left : MethodName := ⟨R_FR, "left", "()I"⟩
abbrev cd_FR_left : ByteArray := prog_4_method_4_code
abbrev ws_FR_left : List Cond := .code y_FR_left cd_FR_left 1 (some .int) :: lw_g
def y_FR_cut : MethodName := ⟨R_FR, "cut", "()I"⟩
abbrev cd_FR_cut : ByteArray := prog_4_method_6_code
abbrev ws_FR_cut : List Cond := .code y_FR_cut cd_FR_cut 1 (some .int) :: lw_g
def y_FR_fault : MethodName := ⟨R_FR, "fault", "(II)I"⟩
abbrev cd_FR_fault : ByteArray := prog_4_method_5_code
abbrev ws_FR_fault : List Cond := .code y_FR_fault cd_FR_fault 3 (some .int) :: lw_g
def y_FR_readFrame : MethodName := ⟨R_FR, "readFrame", "()I"⟩
abbrev cd_FR_readFrame : ByteArray := prog_4_method_9_code
abbrev ws_FR_readFrame : List Cond := .code y_FR_readFrame cd_FR_readFrame 5 (some .int) :: lw_g
def y_FR_readFlags : MethodName := ⟨R_FR, "readFlags", "()I"⟩
abbrev cd_FR_readFlags : ByteArray := prog_4_method_10_code
abbrev ws_FR_readFlags : List Cond := .code y_FR_readFlags cd_FR_readFlags 2 (some .int) :: lw_g
def y_FR_readHead : MethodName := ⟨R_FR, "readHead", "(I)I"⟩
abbrev cd_FR_readHead : ByteArray := prog_4_method_11_code
abbrev ws_FR_readHead : List Cond := .code y_FR_readHead cd_FR_readHead 3 (some .int) :: lw_g
def y_FR_has : MethodName := ⟨R_FR, "has", "(I)Z"⟩
abbrev cd_FR_has : ByteArray := prog_4_method_7_code
abbrev ws_FR_has : List Cond := .code y_FR_has cd_FR_has 2 (some .boolean) :: lw_g
def y_FR_readTail : MethodName := ⟨R_FR, "readTail", "()I"⟩
abbrev cd_FR_readTail : ByteArray := prog_4_method_14_code
abbrev ws_FR_readTail : List Cond := .code y_FR_readTail cd_FR_readTail 1 (some .int) :: lw_g
def y_FR_sizeIs : MethodName := ⟨R_FR, "sizeIs", "(I)Z"⟩
abbrev cd_FR_sizeIs : ByteArray := prog_4_method_15_code
abbrev ws_FR_sizeIs : List Cond := .code y_FR_sizeIs cd_FR_sizeIs 2 (some .boolean) :: lw_g
def y_FR_readBlock : MethodName := ⟨R_FR, "readBlock", "(I)I"⟩
abbrev cd_FR_readBlock : ByteArray := prog_4_method_12_code
abbrev ws_FR_readBlock : List Cond := .code y_FR_readBlock cd_FR_readBlock 7 (some .int) :: lw_g
def y_FR_takeBytes : MethodName := ⟨R_FR, "takeBytes", "(II)I"⟩
abbrev cd_FR_takeBytes : ByteArray := prog_4_method_13_code
abbrev ws_FR_takeBytes : List Cond := .code y_FR_takeBytes cd_FR_takeBytes 4 (some .int) :: lw_g
def y_FR_passSpare : MethodName := ⟨R_FR, "passSpare", "()I"⟩
abbrev cd_FR_passSpare : ByteArray := prog_4_method_8_code
abbrev ws_FR_passSpare : List Cond := .code y_FR_passSpare cd_FR_passSpare 3 (some .int) :: lw_g
def y_FR_where : MethodName := ⟨R_FR, "where", "()I"⟩
abbrev cd_FR_where : ByteArray := prog_4_method_2_code
abbrev ws_FR_where : List Cond := .code y_FR_where cd_FR_where 1 (some .int) :: lw_g
def y_T_place : MethodName := ⟨R_T, "place", "()I"⟩
abbrev cd_T_place : ByteArray := prog_1_method_11_code
abbrev ws_T_place : List Cond := .code y_T_place cd_T_place 1 (some .int) :: lw_g
def y_T_sum : MethodName := ⟨R_T, "sum", "()I"⟩
abbrev cd_T_sum : ByteArray := prog_1_method_12_code
abbrev ws_T_sum : List Cond := .code y_T_sum cd_T_sum 1 (some .int) :: lw_g
def y_T_size : MethodName := ⟨R_T, "size", "()I"⟩
abbrev cd_T_size : ByteArray := prog_1_method_13_code
abbrev ws_T_size : List Cond := .code y_T_size cd_T_size 1 (some .int) :: lw_g
def y_T_byteAt : MethodName := ⟨R_T, "byteAt", "(I)I"⟩
abbrev cd_T_byteAt : ByteArray := prog_1_method_14_code
abbrev ws_T_byteAt : List Cond := .code y_T_byteAt cd_T_byteAt 2 (some .int) :: lw_g
def y_Mo_init : MethodName := ⟨R_Mo, "<init>", "()V"⟩
abbrev cd_Mo_init : ByteArray := prog_10_method_1_code
abbrev ws_Mo_init : List Cond := .code y_Mo_init cd_Mo_init 1 none :: lw_g
def y_Mo_write : MethodName := ⟨R_Mo, "write", "(JI)Z"⟩
abbrev cd_Mo_write : ByteArray := prog_10_method_2_code
abbrev ws_Mo_write : List Cond := .code y_Mo_write cd_Mo_write 5 (some .boolean) :: lw_g
def y_Mo_again : MethodName := ⟨R_Mo, "again", "(II)Z"⟩
abbrev cd_Mo_again : ByteArray := prog_10_method_3_code
abbrev ws_Mo_again : List Cond := .code y_Mo_again cd_Mo_again 4 (some .boolean) :: lw_g
def y_Mo_clear : MethodName := ⟨R_Mo, "clear", "()V"⟩
abbrev cd_Mo_clear : ByteArray := prog_10_method_4_code
abbrev ws_Mo_clear : List Cond := .code y_Mo_clear cd_Mo_clear 1 none :: lw_g
def y_Mo_turn : MethodName := ⟨R_Mo, "turn", "()V"⟩
abbrev cd_Mo_turn : ByteArray := prog_10_method_5_code
abbrev ws_Mo_turn : List Cond := .code y_Mo_turn cd_Mo_turn 2 none :: lw_g
def y_Mo_remember : MethodName := ⟨R_Mo, "remember", "()V"⟩
abbrev cd_Mo_remember : ByteArray := prog_10_method_6_code
abbrev ws_Mo_remember : List Cond := .code y_Mo_remember cd_Mo_remember 2 none :: lw_g
def y_Mo_sum : MethodName := ⟨R_Mo, "sum", "()I"⟩
abbrev cd_Mo_sum : ByteArray := prog_10_method_11_code
abbrev ws_Mo_sum : List Cond := .code y_Mo_sum cd_Mo_sum 1 (some .int) :: lw_g
def y_Mo_sumOf : MethodName := ⟨R_Mo, "sumOf", "([III)J"⟩
abbrev cd_Mo_sumOf : ByteArray := prog_10_method_10_code
abbrev ws_Mo_sumOf : List Cond := .code y_Mo_sumOf cd_Mo_sumOf 19 (some .long) :: lw_g
def y_Mo_word : MethodName := ⟨R_Mo, "word", "([II)J"⟩
abbrev cd_Mo_word : ByteArray := prog_10_method_9_code
abbrev ws_Mo_word : List Cond := .code y_Mo_word cd_Mo_word 2 (some .long) :: lw_g
def y_Mo_times : MethodName := ⟨R_Mo, "times", "(JJ)J"⟩
abbrev cd_Mo_times : ByteArray := prog_10_method_8_code
abbrev ws_Mo_times : List Cond := .code y_Mo_times cd_Mo_times 4 (some .long) :: lw_g
def y_Mo_turned : MethodName := ⟨R_Mo, "turned", "(JI)J"⟩
abbrev cd_Mo_turned : ByteArray := prog_10_method_7_code
abbrev ws_Mo_turned : List Cond := .code y_Mo_turned cd_Mo_turned 3 (some .long) :: lw_g
def y_Mo_block : MethodName := ⟨R_Mo, "block", "(I)I"⟩
abbrev cd_Mo_block : ByteArray := prog_10_method_22_code
abbrev ws_Mo_block : List Cond := .code y_Mo_block cd_Mo_block 2 (some .int) :: lw_g
def y_Mo_begin : MethodName := ⟨R_Mo, "begin", "()V"⟩
abbrev cd_Mo_begin : ByteArray := prog_10_method_19_code
abbrev ws_Mo_begin : List Cond := .code y_Mo_begin cd_Mo_begin 2 none :: lw_g
def y_Mo_append : MethodName := ⟨R_Mo, "append", "(II)V"⟩
abbrev cd_Mo_append : ByteArray := prog_10_method_20_code
abbrev ws_Mo_append : List Cond := .code y_Mo_append cd_Mo_append 4 none :: lw_g
def y_Mo_writeBlock : MethodName := ⟨R_Mo, "writeBlock", "(II)V"⟩
abbrev cd_Mo_writeBlock : ByteArray := prog_10_method_18_code
abbrev ws_Mo_writeBlock : List Cond := .code y_Mo_writeBlock cd_Mo_writeBlock 6 none :: lw_g
def y_Mo_taken : MethodName := ⟨R_Mo, "taken", "(II)I"⟩
abbrev cd_Mo_taken : ByteArray := prog_10_method_14_code
abbrev ws_Mo_taken : List Cond := .code y_Mo_taken cd_Mo_taken 5 (some .int) :: lw_g
def y_Mo_match : MethodName := ⟨R_Mo, "match", "(II)I"⟩
abbrev cd_Mo_match : ByteArray := prog_10_method_13_code
abbrev ws_Mo_match : List Cond := .code y_Mo_match cd_Mo_match 8 (some .int) :: lw_g
def y_Mo_alike : MethodName := ⟨R_Mo, "alike", "(III)I"⟩
abbrev cd_Mo_alike : ByteArray := prog_10_method_12_code
abbrev ws_Mo_alike : List Cond := .code y_Mo_alike cd_Mo_alike 5 (some .int) :: lw_g
def y_Mo_sequence : MethodName := ⟨R_Mo, "sequence", "(IIII)V"⟩
abbrev cd_Mo_sequence : ByteArray := prog_10_method_17_code
abbrev ws_Mo_sequence : List Cond := .code y_Mo_sequence cd_Mo_sequence 8 none :: lw_g
def y_Mo_say : MethodName := ⟨R_Mo, "say", "(I)V"⟩
abbrev cd_Mo_say : ByteArray := prog_10_method_15_code
abbrev ws_Mo_say : List Cond := .code y_Mo_say cd_Mo_say 2 none :: lw_g
def y_Mo_added : MethodName := ⟨R_Mo, "added", "(I)V"⟩
abbrev cd_Mo_added : ByteArray := prog_10_method_16_code
abbrev ws_Mo_added : List Cond := .code y_Mo_added cd_Mo_added 3 none :: lw_g
def y_Mo_show : MethodName := ⟨R_Mo, "show", "([II)I"⟩
abbrev cd_Mo_show : ByteArray := prog_10_method_21_code
abbrev ws_Mo_show : List Cond := .code y_Mo_show cd_Mo_show 4 (some .int) :: lw_g
def y_Mo_unblock : MethodName := ⟨R_Mo, "unblock", "(I)I"⟩
abbrev cd_Mo_unblock : ByteArray := prog_10_method_26_code
abbrev ws_Mo_unblock : List Cond := .code y_Mo_unblock cd_Mo_unblock 4 (some .int) :: lw_g
def y_Mo_beginBack : MethodName := ⟨R_Mo, "beginBack", "()V"⟩
abbrev cd_Mo_beginBack : ByteArray := prog_10_method_25_code
abbrev ws_Mo_beginBack : List Cond := .code y_Mo_beginBack cd_Mo_beginBack 2 none :: lw_g
def y_Mo_readBlock : MethodName := ⟨R_Mo, "readBlock", "(III)I"⟩
abbrev cd_Mo_readBlock : ByteArray := prog_10_method_24_code
abbrev ws_Mo_readBlock : List Cond := .code y_Mo_readBlock cd_Mo_readBlock 9 (some .int) :: lw_g
def y_Mo_adds : MethodName := ⟨R_Mo, "adds", "(II)Z"⟩
abbrev cd_Mo_adds : ByteArray := prog_10_method_23_code
abbrev ws_Mo_adds : List Cond := .code y_Mo_adds cd_Mo_adds 4 (some .boolean) :: lw_g
def y_Mo_frame : MethodName := ⟨R_Mo, "frame", "(IIIII)I"⟩
abbrev cd_Mo_frame : ByteArray := prog_10_method_30_code
abbrev ws_Mo_frame : List Cond := .code y_Mo_frame cd_Mo_frame 12 (some .int) :: lw_g
def y_Mo_areFlags : MethodName := ⟨R_Mo, "areFlags", "(I)Z"⟩
abbrev cd_Mo_areFlags : ByteArray := prog_10_method_27_code
abbrev ws_Mo_areFlags : List Cond := .code y_Mo_areFlags cd_Mo_areFlags 1 (some .boolean) :: lw_g
def y_Mo_makeNumber : MethodName := ⟨R_Mo, "makeNumber", "(JI)V"⟩
abbrev cd_Mo_makeNumber : ByteArray := prog_10_method_29_code
abbrev ws_Mo_makeNumber : List Cond := .code y_Mo_makeNumber cd_Mo_makeNumber 5 none :: lw_g
def y_Mo_make : MethodName := ⟨R_Mo, "make", "(I)V"⟩
abbrev cd_Mo_make : ByteArray := prog_10_method_28_code
abbrev ws_Mo_make : List Cond := .code y_Mo_make cd_Mo_make 2 none :: lw_g
def y_Mo_unframe : MethodName := ⟨R_Mo, "unframe", "(I)I"⟩
abbrev cd_Mo_unframe : ByteArray := prog_10_method_37_code
abbrev ws_Mo_unframe : List Cond := .code y_Mo_unframe cd_Mo_unframe 3 (some .int) :: lw_g
def y_Mo_readNext : MethodName := ⟨R_Mo, "readNext", "(I)I"⟩
abbrev cd_Mo_readNext : ByteArray := prog_10_method_34_code
abbrev ws_Mo_readNext : List Cond := .code y_Mo_readNext cd_Mo_readNext 6 (some .int) :: lw_g
def y_Mo_has : MethodName := ⟨R_Mo, "has", "(I)Z"⟩
abbrev cd_Mo_has : ByteArray := prog_10_method_31_code
abbrev ws_Mo_has : List Cond := .code y_Mo_has cd_Mo_has 2 (some .boolean) :: lw_g
def y_Mo_fault : MethodName := ⟨R_Mo, "fault", "(II)I"⟩
abbrev cd_Mo_fault : ByteArray := prog_10_method_33_code
abbrev ws_Mo_fault : List Cond := .code y_Mo_fault cd_Mo_fault 3 (some .int) :: lw_g
def y_Mo_numberAt : MethodName := ⟨R_Mo, "numberAt", "(II)J"⟩
abbrev cd_Mo_numberAt : ByteArray := prog_10_method_32_code
abbrev ws_Mo_numberAt : List Cond := .code y_Mo_numberAt cd_Mo_numberAt 6 (some .long) :: lw_g
def y_Mo_readFrame : MethodName := ⟨R_Mo, "readFrame", "(I)I"⟩
abbrev cd_Mo_readFrame : ByteArray := prog_10_method_35_code
abbrev ws_Mo_readFrame : List Cond := .code y_Mo_readFrame cd_Mo_readFrame 11 (some .int) :: lw_g
def y_Mo_readPart : MethodName := ⟨R_Mo, "readPart", "(JIIII)I"⟩
abbrev cd_Mo_readPart : ByteArray := prog_10_method_36_code
abbrev ws_Mo_readPart : List Cond := .code y_Mo_readPart cd_Mo_readPart 17 (some .int) :: lw_g
def y_Mo_place : MethodName := ⟨R_Mo, "place", "()I"⟩
abbrev cd_Mo_place : ByteArray := prog_10_method_38_code
abbrev ws_Mo_place : List Cond := .code y_Mo_place cd_Mo_place 1 (some .int) :: lw_g
def y_Mo_size : MethodName := ⟨R_Mo, "size", "()I"⟩
abbrev cd_Mo_size : ByteArray := prog_10_method_39_code
abbrev ws_Mo_size : List Cond := .code y_Mo_size cd_Mo_size 1 (some .int) :: lw_g
def y_Mo_byteAt : MethodName := ⟨R_Mo, "byteAt", "(I)I"⟩
abbrev cd_Mo_byteAt : ByteArray := prog_10_method_40_code
abbrev ws_Mo_byteAt : List Cond := .code y_Mo_byteAt cd_Mo_byteAt 2 (some .int) :: lw_g
def y_Law_law : MethodName := ⟨R_Law, "law", "([I)Z"⟩
abbrev cd_Law_law : ByteArray := code
theorem gd_c {y : MethodName} {b : ByteArray} {n : Nat} {r : Option FieldType} (h : Cond.code y b n r ∈ lw_g) : GoodIn lw_g (Cond.code y b n r :: lw_g) := fun w hw => (List.mem_cons.mp hw).elim (fun e => e ▸ ⟨h, lw_gg h⟩) (fun hw => ⟨hw, lw_gg hw⟩)
theorem gd_l {ws : List Cond} (h : ∀ w ∈ ws, w ∈ lw_g) : GoodIn lw_g ws := fun w hw => ⟨h w hw, lw_gg (h w hw)⟩
theorem gd_app {a b : List Cond} (ha : GoodIn lw_g a) (hb : GoodIn lw_g b) : GoodIn lw_g (a ++ b) := fun w h => (List.mem_append.mp h).elim (ha w) (hb w)
theorem gd_V {own C : String} {idx : Nat} {y : MethodName} {b : ByteArray} {n : Nat} {r : Option FieldType} (h1 : Cond.methodLink own idx y ∈ lw_g) (h2 : Cond.instanceMethod y ∈ lw_g) (h3 : Cond.selects C y y ∈ lw_g) (h4 : Cond.initialized C ∈ lw_g) (h5 : Cond.code y b n r ∈ lw_g) : GoodIn lw_g (wsV own idx C y (Cond.code y b n r :: lw_g)) := gd_app (gd_l (fun w hw => by
  simp only [List.mem_cons, List.not_mem_nil, or_false] at hw
  rcases hw with rfl | rfl | rfl | rfl
  · exact h1
  · exact h2
  · exact h3
  · exact h4)) (gd_c h5)
theorem gd_S {own : String} {idx : Nat} {y : MethodName} {b : ByteArray} {n : Nat} {r : Option FieldType} (h1 : Cond.methodLink own idx y ∈ lw_g) (h2 : Cond.static y ∈ lw_g) (h4 : Cond.initialized y.cls ∈ lw_g) (h5 : Cond.code y b n r ∈ lw_g) : GoodIn lw_g (va_wsS own idx y (Cond.code y b n r :: lw_g)) := gd_app (gd_l (fun w hw => by
  simp only [List.mem_cons, List.not_mem_nil, or_false] at hw
  rcases hw with rfl | rfl | rfl
  · exact h1
  · exact h2
  · exact h4)) (gd_c h5)
def nwL : List Cond := [.methodLinkNest R_FR 83 y_T_areFlags R_T, .methodLinkNest R_FR 87 y_T_isK R_T]
def nwOK (U : State) : Prop := ∀ w ∈ nwL, va_Nw w U
theorem nw_0 : (.methodLinkNest R_FR 83 y_T_areFlags R_T : Cond) ∈ nwL := List.mem_of_getElem? (i := 0) rfl
theorem nw_1 : (.methodLinkNest R_FR 87 y_T_isK R_T : Cond) ∈ nwL := List.mem_of_getElem? (i := 1) rfl
theorem nw_same {u U : State} (h : u.vm = U.vm) (hZ : nwOK u) : nwOK U := by
  intro w hw
  have h2 := hZ w hw
  simp only [nwL, List.mem_cons, List.not_mem_nil, or_false] at hw
  rcases hw with rfl | rfl <;> exact va_Nw.same rfl h h2
theorem nw_warm {u U : State} (hW : u.WarmedH U.vm) (hZ : nwOK u) : nwOK U := by
  intro w hw
  have h := hZ w hw
  simp only [nwL, List.mem_cons, List.not_mem_nil, or_false] at hw
  rcases hw with rfl | rfl <;> exact va_Nw.warmM hW h
end
section
/-! Base rows of the walk: a standard contract (world before, world after, answer), calls and returns by it; pure words of the printed programs. Written by wip/gen/base.py. -/
def us32 (x y : Int32) : Int32 := (x.toUInt32 >>> (y.toUInt32 &&& Int32.toUInt32 31)).toInt32
def us64 (x : Int64) (y : Int32) : Int64 := (x.toUInt64 >>> (y.toInt64.toUInt64 &&& Int64.toUInt64 63)).toInt64
def sl64 (x : Int64) (y : Int32) : Int64 := x <<< (y.toInt64 &&& 63)
def sr64 (x : Int64) (y : Int32) : Int64 := x >>> (y.toInt64 &&& 63)
def mx (x y : Int32) : Int32 := if x < y then y else x
def mn (x y : Int32) : Int32 := if y < x then y else x
noncomputable def as_ {α : Type} (P : Prop) (k : Option α) : Option α := @ite _ P (Classical.propDecidable P) k none
theorem as_some {α : Type} {P : Prop} {k : Option α} {r : α} (h : as_ P k = some r) : P ∧ k = some r := by
  unfold as_ at h
  by_cases hp : P
  · rw [if_pos hp] at h; exact ⟨hp, h⟩
  · rw [if_neg hp] at h; cases h
theorem as_of {α : Type} {P : Prop} {k : Option α} (h : P) : as_ P k = k := by unfold as_; rw [if_pos h]
theorem br_pos {α : Type} {c : Prop} [hd : Decidable c] {a b r : α} (h : c) (e : (if c then a else b) = r) : a = r := by rw [if_pos h] at e; exact e
theorem br_neg {α : Type} {c : Prop} [hd : Decidable c] {a b r : α} (h : ¬ c) (e : (if c then a else b) = r) : b = r := by rw [if_neg h] at e; exact e
theorem nn_ {c : Prop} (h : ¬ c) : ¬ c := h

def bd1 {α1 ρ : Type} (o : Option (α1)) (k : α1 → Option ρ) : Option ρ := match o with
  | none => none
  | some x1 => k x1
theorem bd1_some {α1 ρ : Type} {o : Option (α1)} {k : α1 → Option ρ} {r : ρ} (h : bd1 o k = some r) : ∃ (x1 : α1), o = some x1 ∧ k x1 = some r := by
  match o, h with
  | some x1, h => exact ⟨x1, rfl, h⟩
theorem bd1_of {α1 ρ : Type} {o : Option (α1)} {k : α1 → Option ρ} {x1 : α1} (h : o = some x1) : bd1 o k = k x1 := by rw [h]; rfl
def loop1 {α1 ρ : Type} (b : (α1 → Option ρ) → α1 → Option ρ) : Nat → α1 → Option ρ
  | 0 => fun _ => none
  | n + 1 => fun x1 => b (loop1 b n) x1
def bd2 {α1 α2 ρ : Type} (o : Option (α1 × α2)) (k : α1 → α2 → Option ρ) : Option ρ := match o with
  | none => none
  | some (x1, x2) => k x1 x2
theorem bd2_some {α1 α2 ρ : Type} {o : Option (α1 × α2)} {k : α1 → α2 → Option ρ} {r : ρ} (h : bd2 o k = some r) : ∃ (x1 : α1) (x2 : α2), o = some (x1, x2) ∧ k x1 x2 = some r := by
  match o, h with
  | some (x1, x2), h => exact ⟨x1, x2, rfl, h⟩
theorem bd2_of {α1 α2 ρ : Type} {o : Option (α1 × α2)} {k : α1 → α2 → Option ρ} {x1 : α1} {x2 : α2} (h : o = some (x1, x2)) : bd2 o k = k x1 x2 := by rw [h]; rfl
def loop2 {α1 α2 ρ : Type} (b : (α1 → α2 → Option ρ) → α1 → α2 → Option ρ) : Nat → α1 → α2 → Option ρ
  | 0 => fun _ _ => none
  | n + 1 => fun x1 x2 => b (loop2 b n) x1 x2
def bd3 {α1 α2 α3 ρ : Type} (o : Option (α1 × α2 × α3)) (k : α1 → α2 → α3 → Option ρ) : Option ρ := match o with
  | none => none
  | some (x1, x2, x3) => k x1 x2 x3
theorem bd3_some {α1 α2 α3 ρ : Type} {o : Option (α1 × α2 × α3)} {k : α1 → α2 → α3 → Option ρ} {r : ρ} (h : bd3 o k = some r) : ∃ (x1 : α1) (x2 : α2) (x3 : α3), o = some (x1, x2, x3) ∧ k x1 x2 x3 = some r := by
  match o, h with
  | some (x1, x2, x3), h => exact ⟨x1, x2, x3, rfl, h⟩
theorem bd3_of {α1 α2 α3 ρ : Type} {o : Option (α1 × α2 × α3)} {k : α1 → α2 → α3 → Option ρ} {x1 : α1} {x2 : α2} {x3 : α3} (h : o = some (x1, x2, x3)) : bd3 o k = k x1 x2 x3 := by rw [h]; rfl
def loop3 {α1 α2 α3 ρ : Type} (b : (α1 → α2 → α3 → Option ρ) → α1 → α2 → α3 → Option ρ) : Nat → α1 → α2 → α3 → Option ρ
  | 0 => fun _ _ _ => none
  | n + 1 => fun x1 x2 x3 => b (loop3 b n) x1 x2 x3
def bd4 {α1 α2 α3 α4 ρ : Type} (o : Option (α1 × α2 × α3 × α4)) (k : α1 → α2 → α3 → α4 → Option ρ) : Option ρ := match o with
  | none => none
  | some (x1, x2, x3, x4) => k x1 x2 x3 x4
theorem bd4_some {α1 α2 α3 α4 ρ : Type} {o : Option (α1 × α2 × α3 × α4)} {k : α1 → α2 → α3 → α4 → Option ρ} {r : ρ} (h : bd4 o k = some r) : ∃ (x1 : α1) (x2 : α2) (x3 : α3) (x4 : α4), o = some (x1, x2, x3, x4) ∧ k x1 x2 x3 x4 = some r := by
  match o, h with
  | some (x1, x2, x3, x4), h => exact ⟨x1, x2, x3, x4, rfl, h⟩
theorem bd4_of {α1 α2 α3 α4 ρ : Type} {o : Option (α1 × α2 × α3 × α4)} {k : α1 → α2 → α3 → α4 → Option ρ} {x1 : α1} {x2 : α2} {x3 : α3} {x4 : α4} (h : o = some (x1, x2, x3, x4)) : bd4 o k = k x1 x2 x3 x4 := by rw [h]; rfl
def loop4 {α1 α2 α3 α4 ρ : Type} (b : (α1 → α2 → α3 → α4 → Option ρ) → α1 → α2 → α3 → α4 → Option ρ) : Nat → α1 → α2 → α3 → α4 → Option ρ
  | 0 => fun _ _ _ _ => none
  | n + 1 => fun x1 x2 x3 x4 => b (loop4 b n) x1 x2 x3 x4
def bd5 {α1 α2 α3 α4 α5 ρ : Type} (o : Option (α1 × α2 × α3 × α4 × α5)) (k : α1 → α2 → α3 → α4 → α5 → Option ρ) : Option ρ := match o with
  | none => none
  | some (x1, x2, x3, x4, x5) => k x1 x2 x3 x4 x5
theorem bd5_some {α1 α2 α3 α4 α5 ρ : Type} {o : Option (α1 × α2 × α3 × α4 × α5)} {k : α1 → α2 → α3 → α4 → α5 → Option ρ} {r : ρ} (h : bd5 o k = some r) : ∃ (x1 : α1) (x2 : α2) (x3 : α3) (x4 : α4) (x5 : α5), o = some (x1, x2, x3, x4, x5) ∧ k x1 x2 x3 x4 x5 = some r := by
  match o, h with
  | some (x1, x2, x3, x4, x5), h => exact ⟨x1, x2, x3, x4, x5, rfl, h⟩
theorem bd5_of {α1 α2 α3 α4 α5 ρ : Type} {o : Option (α1 × α2 × α3 × α4 × α5)} {k : α1 → α2 → α3 → α4 → α5 → Option ρ} {x1 : α1} {x2 : α2} {x3 : α3} {x4 : α4} {x5 : α5} (h : o = some (x1, x2, x3, x4, x5)) : bd5 o k = k x1 x2 x3 x4 x5 := by rw [h]; rfl
def loop5 {α1 α2 α3 α4 α5 ρ : Type} (b : (α1 → α2 → α3 → α4 → α5 → Option ρ) → α1 → α2 → α3 → α4 → α5 → Option ρ) : Nat → α1 → α2 → α3 → α4 → α5 → Option ρ
  | 0 => fun _ _ _ _ _ => none
  | n + 1 => fun x1 x2 x3 x4 x5 => b (loop5 b n) x1 x2 x3 x4 x5
def bd6 {α1 α2 α3 α4 α5 α6 ρ : Type} (o : Option (α1 × α2 × α3 × α4 × α5 × α6)) (k : α1 → α2 → α3 → α4 → α5 → α6 → Option ρ) : Option ρ := match o with
  | none => none
  | some (x1, x2, x3, x4, x5, x6) => k x1 x2 x3 x4 x5 x6
theorem bd6_some {α1 α2 α3 α4 α5 α6 ρ : Type} {o : Option (α1 × α2 × α3 × α4 × α5 × α6)} {k : α1 → α2 → α3 → α4 → α5 → α6 → Option ρ} {r : ρ} (h : bd6 o k = some r) : ∃ (x1 : α1) (x2 : α2) (x3 : α3) (x4 : α4) (x5 : α5) (x6 : α6), o = some (x1, x2, x3, x4, x5, x6) ∧ k x1 x2 x3 x4 x5 x6 = some r := by
  match o, h with
  | some (x1, x2, x3, x4, x5, x6), h => exact ⟨x1, x2, x3, x4, x5, x6, rfl, h⟩
theorem bd6_of {α1 α2 α3 α4 α5 α6 ρ : Type} {o : Option (α1 × α2 × α3 × α4 × α5 × α6)} {k : α1 → α2 → α3 → α4 → α5 → α6 → Option ρ} {x1 : α1} {x2 : α2} {x3 : α3} {x4 : α4} {x5 : α5} {x6 : α6} (h : o = some (x1, x2, x3, x4, x5, x6)) : bd6 o k = k x1 x2 x3 x4 x5 x6 := by rw [h]; rfl
def loop6 {α1 α2 α3 α4 α5 α6 ρ : Type} (b : (α1 → α2 → α3 → α4 → α5 → α6 → Option ρ) → α1 → α2 → α3 → α4 → α5 → α6 → Option ρ) : Nat → α1 → α2 → α3 → α4 → α5 → α6 → Option ρ
  | 0 => fun _ _ _ _ _ _ => none
  | n + 1 => fun x1 x2 x3 x4 x5 x6 => b (loop6 b n) x1 x2 x3 x4 x5 x6
def bd7 {α1 α2 α3 α4 α5 α6 α7 ρ : Type} (o : Option (α1 × α2 × α3 × α4 × α5 × α6 × α7)) (k : α1 → α2 → α3 → α4 → α5 → α6 → α7 → Option ρ) : Option ρ := match o with
  | none => none
  | some (x1, x2, x3, x4, x5, x6, x7) => k x1 x2 x3 x4 x5 x6 x7
theorem bd7_some {α1 α2 α3 α4 α5 α6 α7 ρ : Type} {o : Option (α1 × α2 × α3 × α4 × α5 × α6 × α7)} {k : α1 → α2 → α3 → α4 → α5 → α6 → α7 → Option ρ} {r : ρ} (h : bd7 o k = some r) : ∃ (x1 : α1) (x2 : α2) (x3 : α3) (x4 : α4) (x5 : α5) (x6 : α6) (x7 : α7), o = some (x1, x2, x3, x4, x5, x6, x7) ∧ k x1 x2 x3 x4 x5 x6 x7 = some r := by
  match o, h with
  | some (x1, x2, x3, x4, x5, x6, x7), h => exact ⟨x1, x2, x3, x4, x5, x6, x7, rfl, h⟩
theorem bd7_of {α1 α2 α3 α4 α5 α6 α7 ρ : Type} {o : Option (α1 × α2 × α3 × α4 × α5 × α6 × α7)} {k : α1 → α2 → α3 → α4 → α5 → α6 → α7 → Option ρ} {x1 : α1} {x2 : α2} {x3 : α3} {x4 : α4} {x5 : α5} {x6 : α6} {x7 : α7} (h : o = some (x1, x2, x3, x4, x5, x6, x7)) : bd7 o k = k x1 x2 x3 x4 x5 x6 x7 := by rw [h]; rfl
def loop7 {α1 α2 α3 α4 α5 α6 α7 ρ : Type} (b : (α1 → α2 → α3 → α4 → α5 → α6 → α7 → Option ρ) → α1 → α2 → α3 → α4 → α5 → α6 → α7 → Option ρ) : Nat → α1 → α2 → α3 → α4 → α5 → α6 → α7 → Option ρ
  | 0 => fun _ _ _ _ _ _ _ => none
  | n + 1 => fun x1 x2 x3 x4 x5 x6 x7 => b (loop7 b n) x1 x2 x3 x4 x5 x6 x7
def bd8 {α1 α2 α3 α4 α5 α6 α7 α8 ρ : Type} (o : Option (α1 × α2 × α3 × α4 × α5 × α6 × α7 × α8)) (k : α1 → α2 → α3 → α4 → α5 → α6 → α7 → α8 → Option ρ) : Option ρ := match o with
  | none => none
  | some (x1, x2, x3, x4, x5, x6, x7, x8) => k x1 x2 x3 x4 x5 x6 x7 x8
theorem bd8_some {α1 α2 α3 α4 α5 α6 α7 α8 ρ : Type} {o : Option (α1 × α2 × α3 × α4 × α5 × α6 × α7 × α8)} {k : α1 → α2 → α3 → α4 → α5 → α6 → α7 → α8 → Option ρ} {r : ρ} (h : bd8 o k = some r) : ∃ (x1 : α1) (x2 : α2) (x3 : α3) (x4 : α4) (x5 : α5) (x6 : α6) (x7 : α7) (x8 : α8), o = some (x1, x2, x3, x4, x5, x6, x7, x8) ∧ k x1 x2 x3 x4 x5 x6 x7 x8 = some r := by
  match o, h with
  | some (x1, x2, x3, x4, x5, x6, x7, x8), h => exact ⟨x1, x2, x3, x4, x5, x6, x7, x8, rfl, h⟩
theorem bd8_of {α1 α2 α3 α4 α5 α6 α7 α8 ρ : Type} {o : Option (α1 × α2 × α3 × α4 × α5 × α6 × α7 × α8)} {k : α1 → α2 → α3 → α4 → α5 → α6 → α7 → α8 → Option ρ} {x1 : α1} {x2 : α2} {x3 : α3} {x4 : α4} {x5 : α5} {x6 : α6} {x7 : α7} {x8 : α8} (h : o = some (x1, x2, x3, x4, x5, x6, x7, x8)) : bd8 o k = k x1 x2 x3 x4 x5 x6 x7 x8 := by rw [h]; rfl
def loop8 {α1 α2 α3 α4 α5 α6 α7 α8 ρ : Type} (b : (α1 → α2 → α3 → α4 → α5 → α6 → α7 → α8 → Option ρ) → α1 → α2 → α3 → α4 → α5 → α6 → α7 → α8 → Option ρ) : Nat → α1 → α2 → α3 → α4 → α5 → α6 → α7 → α8 → Option ρ
  | 0 => fun _ _ _ _ _ _ _ _ => none
  | n + 1 => fun x1 x2 x3 x4 x5 x6 x7 x8 => b (loop8 b n) x1 x2 x3 x4 x5 x6 x7 x8
def bd9 {α1 α2 α3 α4 α5 α6 α7 α8 α9 ρ : Type} (o : Option (α1 × α2 × α3 × α4 × α5 × α6 × α7 × α8 × α9)) (k : α1 → α2 → α3 → α4 → α5 → α6 → α7 → α8 → α9 → Option ρ) : Option ρ := match o with
  | none => none
  | some (x1, x2, x3, x4, x5, x6, x7, x8, x9) => k x1 x2 x3 x4 x5 x6 x7 x8 x9
theorem bd9_some {α1 α2 α3 α4 α5 α6 α7 α8 α9 ρ : Type} {o : Option (α1 × α2 × α3 × α4 × α5 × α6 × α7 × α8 × α9)} {k : α1 → α2 → α3 → α4 → α5 → α6 → α7 → α8 → α9 → Option ρ} {r : ρ} (h : bd9 o k = some r) : ∃ (x1 : α1) (x2 : α2) (x3 : α3) (x4 : α4) (x5 : α5) (x6 : α6) (x7 : α7) (x8 : α8) (x9 : α9), o = some (x1, x2, x3, x4, x5, x6, x7, x8, x9) ∧ k x1 x2 x3 x4 x5 x6 x7 x8 x9 = some r := by
  match o, h with
  | some (x1, x2, x3, x4, x5, x6, x7, x8, x9), h => exact ⟨x1, x2, x3, x4, x5, x6, x7, x8, x9, rfl, h⟩
theorem bd9_of {α1 α2 α3 α4 α5 α6 α7 α8 α9 ρ : Type} {o : Option (α1 × α2 × α3 × α4 × α5 × α6 × α7 × α8 × α9)} {k : α1 → α2 → α3 → α4 → α5 → α6 → α7 → α8 → α9 → Option ρ} {x1 : α1} {x2 : α2} {x3 : α3} {x4 : α4} {x5 : α5} {x6 : α6} {x7 : α7} {x8 : α8} {x9 : α9} (h : o = some (x1, x2, x3, x4, x5, x6, x7, x8, x9)) : bd9 o k = k x1 x2 x3 x4 x5 x6 x7 x8 x9 := by rw [h]; rfl
def loop9 {α1 α2 α3 α4 α5 α6 α7 α8 α9 ρ : Type} (b : (α1 → α2 → α3 → α4 → α5 → α6 → α7 → α8 → α9 → Option ρ) → α1 → α2 → α3 → α4 → α5 → α6 → α7 → α8 → α9 → Option ρ) : Nat → α1 → α2 → α3 → α4 → α5 → α6 → α7 → α8 → α9 → Option ρ
  | 0 => fun _ _ _ _ _ _ _ _ _ => none
  | n + 1 => fun x1 x2 x3 x4 x5 x6 x7 x8 x9 => b (loop9 b n) x1 x2 x3 x4 x5 x6 x7 x8 x9
def bd10 {α1 α2 α3 α4 α5 α6 α7 α8 α9 α10 ρ : Type} (o : Option (α1 × α2 × α3 × α4 × α5 × α6 × α7 × α8 × α9 × α10)) (k : α1 → α2 → α3 → α4 → α5 → α6 → α7 → α8 → α9 → α10 → Option ρ) : Option ρ := match o with
  | none => none
  | some (x1, x2, x3, x4, x5, x6, x7, x8, x9, x10) => k x1 x2 x3 x4 x5 x6 x7 x8 x9 x10
theorem bd10_some {α1 α2 α3 α4 α5 α6 α7 α8 α9 α10 ρ : Type} {o : Option (α1 × α2 × α3 × α4 × α5 × α6 × α7 × α8 × α9 × α10)} {k : α1 → α2 → α3 → α4 → α5 → α6 → α7 → α8 → α9 → α10 → Option ρ} {r : ρ} (h : bd10 o k = some r) : ∃ (x1 : α1) (x2 : α2) (x3 : α3) (x4 : α4) (x5 : α5) (x6 : α6) (x7 : α7) (x8 : α8) (x9 : α9) (x10 : α10), o = some (x1, x2, x3, x4, x5, x6, x7, x8, x9, x10) ∧ k x1 x2 x3 x4 x5 x6 x7 x8 x9 x10 = some r := by
  match o, h with
  | some (x1, x2, x3, x4, x5, x6, x7, x8, x9, x10), h => exact ⟨x1, x2, x3, x4, x5, x6, x7, x8, x9, x10, rfl, h⟩
theorem bd10_of {α1 α2 α3 α4 α5 α6 α7 α8 α9 α10 ρ : Type} {o : Option (α1 × α2 × α3 × α4 × α5 × α6 × α7 × α8 × α9 × α10)} {k : α1 → α2 → α3 → α4 → α5 → α6 → α7 → α8 → α9 → α10 → Option ρ} {x1 : α1} {x2 : α2} {x3 : α3} {x4 : α4} {x5 : α5} {x6 : α6} {x7 : α7} {x8 : α8} {x9 : α9} {x10 : α10} (h : o = some (x1, x2, x3, x4, x5, x6, x7, x8, x9, x10)) : bd10 o k = k x1 x2 x3 x4 x5 x6 x7 x8 x9 x10 := by rw [h]; rfl
def loop10 {α1 α2 α3 α4 α5 α6 α7 α8 α9 α10 ρ : Type} (b : (α1 → α2 → α3 → α4 → α5 → α6 → α7 → α8 → α9 → α10 → Option ρ) → α1 → α2 → α3 → α4 → α5 → α6 → α7 → α8 → α9 → α10 → Option ρ) : Nat → α1 → α2 → α3 → α4 → α5 → α6 → α7 → α8 → α9 → α10 → Option ρ
  | 0 => fun _ _ _ _ _ _ _ _ _ _ => none
  | n + 1 => fun x1 x2 x3 x4 x5 x6 x7 x8 x9 x10 => b (loop10 b n) x1 x2 x3 x4 x5 x6 x7 x8 x9 x10
def bd11 {α1 α2 α3 α4 α5 α6 α7 α8 α9 α10 α11 ρ : Type} (o : Option (α1 × α2 × α3 × α4 × α5 × α6 × α7 × α8 × α9 × α10 × α11)) (k : α1 → α2 → α3 → α4 → α5 → α6 → α7 → α8 → α9 → α10 → α11 → Option ρ) : Option ρ := match o with
  | none => none
  | some (x1, x2, x3, x4, x5, x6, x7, x8, x9, x10, x11) => k x1 x2 x3 x4 x5 x6 x7 x8 x9 x10 x11
theorem bd11_some {α1 α2 α3 α4 α5 α6 α7 α8 α9 α10 α11 ρ : Type} {o : Option (α1 × α2 × α3 × α4 × α5 × α6 × α7 × α8 × α9 × α10 × α11)} {k : α1 → α2 → α3 → α4 → α5 → α6 → α7 → α8 → α9 → α10 → α11 → Option ρ} {r : ρ} (h : bd11 o k = some r) : ∃ (x1 : α1) (x2 : α2) (x3 : α3) (x4 : α4) (x5 : α5) (x6 : α6) (x7 : α7) (x8 : α8) (x9 : α9) (x10 : α10) (x11 : α11), o = some (x1, x2, x3, x4, x5, x6, x7, x8, x9, x10, x11) ∧ k x1 x2 x3 x4 x5 x6 x7 x8 x9 x10 x11 = some r := by
  match o, h with
  | some (x1, x2, x3, x4, x5, x6, x7, x8, x9, x10, x11), h => exact ⟨x1, x2, x3, x4, x5, x6, x7, x8, x9, x10, x11, rfl, h⟩
theorem bd11_of {α1 α2 α3 α4 α5 α6 α7 α8 α9 α10 α11 ρ : Type} {o : Option (α1 × α2 × α3 × α4 × α5 × α6 × α7 × α8 × α9 × α10 × α11)} {k : α1 → α2 → α3 → α4 → α5 → α6 → α7 → α8 → α9 → α10 → α11 → Option ρ} {x1 : α1} {x2 : α2} {x3 : α3} {x4 : α4} {x5 : α5} {x6 : α6} {x7 : α7} {x8 : α8} {x9 : α9} {x10 : α10} {x11 : α11} (h : o = some (x1, x2, x3, x4, x5, x6, x7, x8, x9, x10, x11)) : bd11 o k = k x1 x2 x3 x4 x5 x6 x7 x8 x9 x10 x11 := by rw [h]; rfl
def loop11 {α1 α2 α3 α4 α5 α6 α7 α8 α9 α10 α11 ρ : Type} (b : (α1 → α2 → α3 → α4 → α5 → α6 → α7 → α8 → α9 → α10 → α11 → Option ρ) → α1 → α2 → α3 → α4 → α5 → α6 → α7 → α8 → α9 → α10 → α11 → Option ρ) : Nat → α1 → α2 → α3 → α4 → α5 → α6 → α7 → α8 → α9 → α10 → α11 → Option ρ
  | 0 => fun _ _ _ _ _ _ _ _ _ _ _ => none
  | n + 1 => fun x1 x2 x3 x4 x5 x6 x7 x8 x9 x10 x11 => b (loop11 b n) x1 x2 x3 x4 x5 x6 x7 x8 x9 x10 x11
def bd12 {α1 α2 α3 α4 α5 α6 α7 α8 α9 α10 α11 α12 ρ : Type} (o : Option (α1 × α2 × α3 × α4 × α5 × α6 × α7 × α8 × α9 × α10 × α11 × α12)) (k : α1 → α2 → α3 → α4 → α5 → α6 → α7 → α8 → α9 → α10 → α11 → α12 → Option ρ) : Option ρ := match o with
  | none => none
  | some (x1, x2, x3, x4, x5, x6, x7, x8, x9, x10, x11, x12) => k x1 x2 x3 x4 x5 x6 x7 x8 x9 x10 x11 x12
theorem bd12_some {α1 α2 α3 α4 α5 α6 α7 α8 α9 α10 α11 α12 ρ : Type} {o : Option (α1 × α2 × α3 × α4 × α5 × α6 × α7 × α8 × α9 × α10 × α11 × α12)} {k : α1 → α2 → α3 → α4 → α5 → α6 → α7 → α8 → α9 → α10 → α11 → α12 → Option ρ} {r : ρ} (h : bd12 o k = some r) : ∃ (x1 : α1) (x2 : α2) (x3 : α3) (x4 : α4) (x5 : α5) (x6 : α6) (x7 : α7) (x8 : α8) (x9 : α9) (x10 : α10) (x11 : α11) (x12 : α12), o = some (x1, x2, x3, x4, x5, x6, x7, x8, x9, x10, x11, x12) ∧ k x1 x2 x3 x4 x5 x6 x7 x8 x9 x10 x11 x12 = some r := by
  match o, h with
  | some (x1, x2, x3, x4, x5, x6, x7, x8, x9, x10, x11, x12), h => exact ⟨x1, x2, x3, x4, x5, x6, x7, x8, x9, x10, x11, x12, rfl, h⟩
theorem bd12_of {α1 α2 α3 α4 α5 α6 α7 α8 α9 α10 α11 α12 ρ : Type} {o : Option (α1 × α2 × α3 × α4 × α5 × α6 × α7 × α8 × α9 × α10 × α11 × α12)} {k : α1 → α2 → α3 → α4 → α5 → α6 → α7 → α8 → α9 → α10 → α11 → α12 → Option ρ} {x1 : α1} {x2 : α2} {x3 : α3} {x4 : α4} {x5 : α5} {x6 : α6} {x7 : α7} {x8 : α8} {x9 : α9} {x10 : α10} {x11 : α11} {x12 : α12} (h : o = some (x1, x2, x3, x4, x5, x6, x7, x8, x9, x10, x11, x12)) : bd12 o k = k x1 x2 x3 x4 x5 x6 x7 x8 x9 x10 x11 x12 := by rw [h]; rfl
def loop12 {α1 α2 α3 α4 α5 α6 α7 α8 α9 α10 α11 α12 ρ : Type} (b : (α1 → α2 → α3 → α4 → α5 → α6 → α7 → α8 → α9 → α10 → α11 → α12 → Option ρ) → α1 → α2 → α3 → α4 → α5 → α6 → α7 → α8 → α9 → α10 → α11 → α12 → Option ρ) : Nat → α1 → α2 → α3 → α4 → α5 → α6 → α7 → α8 → α9 → α10 → α11 → α12 → Option ρ
  | 0 => fun _ _ _ _ _ _ _ _ _ _ _ _ => none
  | n + 1 => fun x1 x2 x3 x4 x5 x6 x7 x8 x9 x10 x11 x12 => b (loop12 b n) x1 x2 x3 x4 x5 x6 x7 x8 x9 x10 x11 x12
def bd13 {α1 α2 α3 α4 α5 α6 α7 α8 α9 α10 α11 α12 α13 ρ : Type} (o : Option (α1 × α2 × α3 × α4 × α5 × α6 × α7 × α8 × α9 × α10 × α11 × α12 × α13)) (k : α1 → α2 → α3 → α4 → α5 → α6 → α7 → α8 → α9 → α10 → α11 → α12 → α13 → Option ρ) : Option ρ := match o with
  | none => none
  | some (x1, x2, x3, x4, x5, x6, x7, x8, x9, x10, x11, x12, x13) => k x1 x2 x3 x4 x5 x6 x7 x8 x9 x10 x11 x12 x13
theorem bd13_some {α1 α2 α3 α4 α5 α6 α7 α8 α9 α10 α11 α12 α13 ρ : Type} {o : Option (α1 × α2 × α3 × α4 × α5 × α6 × α7 × α8 × α9 × α10 × α11 × α12 × α13)} {k : α1 → α2 → α3 → α4 → α5 → α6 → α7 → α8 → α9 → α10 → α11 → α12 → α13 → Option ρ} {r : ρ} (h : bd13 o k = some r) : ∃ (x1 : α1) (x2 : α2) (x3 : α3) (x4 : α4) (x5 : α5) (x6 : α6) (x7 : α7) (x8 : α8) (x9 : α9) (x10 : α10) (x11 : α11) (x12 : α12) (x13 : α13), o = some (x1, x2, x3, x4, x5, x6, x7, x8, x9, x10, x11, x12, x13) ∧ k x1 x2 x3 x4 x5 x6 x7 x8 x9 x10 x11 x12 x13 = some r := by
  match o, h with
  | some (x1, x2, x3, x4, x5, x6, x7, x8, x9, x10, x11, x12, x13), h => exact ⟨x1, x2, x3, x4, x5, x6, x7, x8, x9, x10, x11, x12, x13, rfl, h⟩
theorem bd13_of {α1 α2 α3 α4 α5 α6 α7 α8 α9 α10 α11 α12 α13 ρ : Type} {o : Option (α1 × α2 × α3 × α4 × α5 × α6 × α7 × α8 × α9 × α10 × α11 × α12 × α13)} {k : α1 → α2 → α3 → α4 → α5 → α6 → α7 → α8 → α9 → α10 → α11 → α12 → α13 → Option ρ} {x1 : α1} {x2 : α2} {x3 : α3} {x4 : α4} {x5 : α5} {x6 : α6} {x7 : α7} {x8 : α8} {x9 : α9} {x10 : α10} {x11 : α11} {x12 : α12} {x13 : α13} (h : o = some (x1, x2, x3, x4, x5, x6, x7, x8, x9, x10, x11, x12, x13)) : bd13 o k = k x1 x2 x3 x4 x5 x6 x7 x8 x9 x10 x11 x12 x13 := by rw [h]; rfl
def loop13 {α1 α2 α3 α4 α5 α6 α7 α8 α9 α10 α11 α12 α13 ρ : Type} (b : (α1 → α2 → α3 → α4 → α5 → α6 → α7 → α8 → α9 → α10 → α11 → α12 → α13 → Option ρ) → α1 → α2 → α3 → α4 → α5 → α6 → α7 → α8 → α9 → α10 → α11 → α12 → α13 → Option ρ) : Nat → α1 → α2 → α3 → α4 → α5 → α6 → α7 → α8 → α9 → α10 → α11 → α12 → α13 → Option ρ
  | 0 => fun _ _ _ _ _ _ _ _ _ _ _ _ _ => none
  | n + 1 => fun x1 x2 x3 x4 x5 x6 x7 x8 x9 x10 x11 x12 x13 => b (loop13 b n) x1 x2 x3 x4 x5 x6 x7 x8 x9 x10 x11 x12 x13
def bd14 {α1 α2 α3 α4 α5 α6 α7 α8 α9 α10 α11 α12 α13 α14 ρ : Type} (o : Option (α1 × α2 × α3 × α4 × α5 × α6 × α7 × α8 × α9 × α10 × α11 × α12 × α13 × α14)) (k : α1 → α2 → α3 → α4 → α5 → α6 → α7 → α8 → α9 → α10 → α11 → α12 → α13 → α14 → Option ρ) : Option ρ := match o with
  | none => none
  | some (x1, x2, x3, x4, x5, x6, x7, x8, x9, x10, x11, x12, x13, x14) => k x1 x2 x3 x4 x5 x6 x7 x8 x9 x10 x11 x12 x13 x14
theorem bd14_some {α1 α2 α3 α4 α5 α6 α7 α8 α9 α10 α11 α12 α13 α14 ρ : Type} {o : Option (α1 × α2 × α3 × α4 × α5 × α6 × α7 × α8 × α9 × α10 × α11 × α12 × α13 × α14)} {k : α1 → α2 → α3 → α4 → α5 → α6 → α7 → α8 → α9 → α10 → α11 → α12 → α13 → α14 → Option ρ} {r : ρ} (h : bd14 o k = some r) : ∃ (x1 : α1) (x2 : α2) (x3 : α3) (x4 : α4) (x5 : α5) (x6 : α6) (x7 : α7) (x8 : α8) (x9 : α9) (x10 : α10) (x11 : α11) (x12 : α12) (x13 : α13) (x14 : α14), o = some (x1, x2, x3, x4, x5, x6, x7, x8, x9, x10, x11, x12, x13, x14) ∧ k x1 x2 x3 x4 x5 x6 x7 x8 x9 x10 x11 x12 x13 x14 = some r := by
  match o, h with
  | some (x1, x2, x3, x4, x5, x6, x7, x8, x9, x10, x11, x12, x13, x14), h => exact ⟨x1, x2, x3, x4, x5, x6, x7, x8, x9, x10, x11, x12, x13, x14, rfl, h⟩
theorem bd14_of {α1 α2 α3 α4 α5 α6 α7 α8 α9 α10 α11 α12 α13 α14 ρ : Type} {o : Option (α1 × α2 × α3 × α4 × α5 × α6 × α7 × α8 × α9 × α10 × α11 × α12 × α13 × α14)} {k : α1 → α2 → α3 → α4 → α5 → α6 → α7 → α8 → α9 → α10 → α11 → α12 → α13 → α14 → Option ρ} {x1 : α1} {x2 : α2} {x3 : α3} {x4 : α4} {x5 : α5} {x6 : α6} {x7 : α7} {x8 : α8} {x9 : α9} {x10 : α10} {x11 : α11} {x12 : α12} {x13 : α13} {x14 : α14} (h : o = some (x1, x2, x3, x4, x5, x6, x7, x8, x9, x10, x11, x12, x13, x14)) : bd14 o k = k x1 x2 x3 x4 x5 x6 x7 x8 x9 x10 x11 x12 x13 x14 := by rw [h]; rfl
def loop14 {α1 α2 α3 α4 α5 α6 α7 α8 α9 α10 α11 α12 α13 α14 ρ : Type} (b : (α1 → α2 → α3 → α4 → α5 → α6 → α7 → α8 → α9 → α10 → α11 → α12 → α13 → α14 → Option ρ) → α1 → α2 → α3 → α4 → α5 → α6 → α7 → α8 → α9 → α10 → α11 → α12 → α13 → α14 → Option ρ) : Nat → α1 → α2 → α3 → α4 → α5 → α6 → α7 → α8 → α9 → α10 → α11 → α12 → α13 → α14 → Option ρ
  | 0 => fun _ _ _ _ _ _ _ _ _ _ _ _ _ _ => none
  | n + 1 => fun x1 x2 x3 x4 x5 x6 x7 x8 x9 x10 x11 x12 x13 x14 => b (loop14 b n) x1 x2 x3 x4 x5 x6 x7 x8 x9 x10 x11 x12 x13 x14
def bd15 {α1 α2 α3 α4 α5 α6 α7 α8 α9 α10 α11 α12 α13 α14 α15 ρ : Type} (o : Option (α1 × α2 × α3 × α4 × α5 × α6 × α7 × α8 × α9 × α10 × α11 × α12 × α13 × α14 × α15)) (k : α1 → α2 → α3 → α4 → α5 → α6 → α7 → α8 → α9 → α10 → α11 → α12 → α13 → α14 → α15 → Option ρ) : Option ρ := match o with
  | none => none
  | some (x1, x2, x3, x4, x5, x6, x7, x8, x9, x10, x11, x12, x13, x14, x15) => k x1 x2 x3 x4 x5 x6 x7 x8 x9 x10 x11 x12 x13 x14 x15
theorem bd15_some {α1 α2 α3 α4 α5 α6 α7 α8 α9 α10 α11 α12 α13 α14 α15 ρ : Type} {o : Option (α1 × α2 × α3 × α4 × α5 × α6 × α7 × α8 × α9 × α10 × α11 × α12 × α13 × α14 × α15)} {k : α1 → α2 → α3 → α4 → α5 → α6 → α7 → α8 → α9 → α10 → α11 → α12 → α13 → α14 → α15 → Option ρ} {r : ρ} (h : bd15 o k = some r) : ∃ (x1 : α1) (x2 : α2) (x3 : α3) (x4 : α4) (x5 : α5) (x6 : α6) (x7 : α7) (x8 : α8) (x9 : α9) (x10 : α10) (x11 : α11) (x12 : α12) (x13 : α13) (x14 : α14) (x15 : α15), o = some (x1, x2, x3, x4, x5, x6, x7, x8, x9, x10, x11, x12, x13, x14, x15) ∧ k x1 x2 x3 x4 x5 x6 x7 x8 x9 x10 x11 x12 x13 x14 x15 = some r := by
  match o, h with
  | some (x1, x2, x3, x4, x5, x6, x7, x8, x9, x10, x11, x12, x13, x14, x15), h => exact ⟨x1, x2, x3, x4, x5, x6, x7, x8, x9, x10, x11, x12, x13, x14, x15, rfl, h⟩
theorem bd15_of {α1 α2 α3 α4 α5 α6 α7 α8 α9 α10 α11 α12 α13 α14 α15 ρ : Type} {o : Option (α1 × α2 × α3 × α4 × α5 × α6 × α7 × α8 × α9 × α10 × α11 × α12 × α13 × α14 × α15)} {k : α1 → α2 → α3 → α4 → α5 → α6 → α7 → α8 → α9 → α10 → α11 → α12 → α13 → α14 → α15 → Option ρ} {x1 : α1} {x2 : α2} {x3 : α3} {x4 : α4} {x5 : α5} {x6 : α6} {x7 : α7} {x8 : α8} {x9 : α9} {x10 : α10} {x11 : α11} {x12 : α12} {x13 : α13} {x14 : α14} {x15 : α15} (h : o = some (x1, x2, x3, x4, x5, x6, x7, x8, x9, x10, x11, x12, x13, x14, x15)) : bd15 o k = k x1 x2 x3 x4 x5 x6 x7 x8 x9 x10 x11 x12 x13 x14 x15 := by rw [h]; rfl
def loop15 {α1 α2 α3 α4 α5 α6 α7 α8 α9 α10 α11 α12 α13 α14 α15 ρ : Type} (b : (α1 → α2 → α3 → α4 → α5 → α6 → α7 → α8 → α9 → α10 → α11 → α12 → α13 → α14 → α15 → Option ρ) → α1 → α2 → α3 → α4 → α5 → α6 → α7 → α8 → α9 → α10 → α11 → α12 → α13 → α14 → α15 → Option ρ) : Nat → α1 → α2 → α3 → α4 → α5 → α6 → α7 → α8 → α9 → α10 → α11 → α12 → α13 → α14 → α15 → Option ρ
  | 0 => fun _ _ _ _ _ _ _ _ _ _ _ _ _ _ _ => none
  | n + 1 => fun x1 x2 x3 x4 x5 x6 x7 x8 x9 x10 x11 x12 x13 x14 x15 => b (loop15 b n) x1 x2 x3 x4 x5 x6 x7 x8 x9 x10 x11 x12 x13 x14 x15
def bd16 {α1 α2 α3 α4 α5 α6 α7 α8 α9 α10 α11 α12 α13 α14 α15 α16 ρ : Type} (o : Option (α1 × α2 × α3 × α4 × α5 × α6 × α7 × α8 × α9 × α10 × α11 × α12 × α13 × α14 × α15 × α16)) (k : α1 → α2 → α3 → α4 → α5 → α6 → α7 → α8 → α9 → α10 → α11 → α12 → α13 → α14 → α15 → α16 → Option ρ) : Option ρ := match o with
  | none => none
  | some (x1, x2, x3, x4, x5, x6, x7, x8, x9, x10, x11, x12, x13, x14, x15, x16) => k x1 x2 x3 x4 x5 x6 x7 x8 x9 x10 x11 x12 x13 x14 x15 x16
theorem bd16_some {α1 α2 α3 α4 α5 α6 α7 α8 α9 α10 α11 α12 α13 α14 α15 α16 ρ : Type} {o : Option (α1 × α2 × α3 × α4 × α5 × α6 × α7 × α8 × α9 × α10 × α11 × α12 × α13 × α14 × α15 × α16)} {k : α1 → α2 → α3 → α4 → α5 → α6 → α7 → α8 → α9 → α10 → α11 → α12 → α13 → α14 → α15 → α16 → Option ρ} {r : ρ} (h : bd16 o k = some r) : ∃ (x1 : α1) (x2 : α2) (x3 : α3) (x4 : α4) (x5 : α5) (x6 : α6) (x7 : α7) (x8 : α8) (x9 : α9) (x10 : α10) (x11 : α11) (x12 : α12) (x13 : α13) (x14 : α14) (x15 : α15) (x16 : α16), o = some (x1, x2, x3, x4, x5, x6, x7, x8, x9, x10, x11, x12, x13, x14, x15, x16) ∧ k x1 x2 x3 x4 x5 x6 x7 x8 x9 x10 x11 x12 x13 x14 x15 x16 = some r := by
  match o, h with
  | some (x1, x2, x3, x4, x5, x6, x7, x8, x9, x10, x11, x12, x13, x14, x15, x16), h => exact ⟨x1, x2, x3, x4, x5, x6, x7, x8, x9, x10, x11, x12, x13, x14, x15, x16, rfl, h⟩
theorem bd16_of {α1 α2 α3 α4 α5 α6 α7 α8 α9 α10 α11 α12 α13 α14 α15 α16 ρ : Type} {o : Option (α1 × α2 × α3 × α4 × α5 × α6 × α7 × α8 × α9 × α10 × α11 × α12 × α13 × α14 × α15 × α16)} {k : α1 → α2 → α3 → α4 → α5 → α6 → α7 → α8 → α9 → α10 → α11 → α12 → α13 → α14 → α15 → α16 → Option ρ} {x1 : α1} {x2 : α2} {x3 : α3} {x4 : α4} {x5 : α5} {x6 : α6} {x7 : α7} {x8 : α8} {x9 : α9} {x10 : α10} {x11 : α11} {x12 : α12} {x13 : α13} {x14 : α14} {x15 : α15} {x16 : α16} (h : o = some (x1, x2, x3, x4, x5, x6, x7, x8, x9, x10, x11, x12, x13, x14, x15, x16)) : bd16 o k = k x1 x2 x3 x4 x5 x6 x7 x8 x9 x10 x11 x12 x13 x14 x15 x16 := by rw [h]; rfl
def loop16 {α1 α2 α3 α4 α5 α6 α7 α8 α9 α10 α11 α12 α13 α14 α15 α16 ρ : Type} (b : (α1 → α2 → α3 → α4 → α5 → α6 → α7 → α8 → α9 → α10 → α11 → α12 → α13 → α14 → α15 → α16 → Option ρ) → α1 → α2 → α3 → α4 → α5 → α6 → α7 → α8 → α9 → α10 → α11 → α12 → α13 → α14 → α15 → α16 → Option ρ) : Nat → α1 → α2 → α3 → α4 → α5 → α6 → α7 → α8 → α9 → α10 → α11 → α12 → α13 → α14 → α15 → α16 → Option ρ
  | 0 => fun _ _ _ _ _ _ _ _ _ _ _ _ _ _ _ _ => none
  | n + 1 => fun x1 x2 x3 x4 x5 x6 x7 x8 x9 x10 x11 x12 x13 x14 x15 x16 => b (loop16 b n) x1 x2 x3 x4 x5 x6 x7 x8 x9 x10 x11 x12 x13 x14 x15 x16
def bd17 {α1 α2 α3 α4 α5 α6 α7 α8 α9 α10 α11 α12 α13 α14 α15 α16 α17 ρ : Type} (o : Option (α1 × α2 × α3 × α4 × α5 × α6 × α7 × α8 × α9 × α10 × α11 × α12 × α13 × α14 × α15 × α16 × α17)) (k : α1 → α2 → α3 → α4 → α5 → α6 → α7 → α8 → α9 → α10 → α11 → α12 → α13 → α14 → α15 → α16 → α17 → Option ρ) : Option ρ := match o with
  | none => none
  | some (x1, x2, x3, x4, x5, x6, x7, x8, x9, x10, x11, x12, x13, x14, x15, x16, x17) => k x1 x2 x3 x4 x5 x6 x7 x8 x9 x10 x11 x12 x13 x14 x15 x16 x17
theorem bd17_some {α1 α2 α3 α4 α5 α6 α7 α8 α9 α10 α11 α12 α13 α14 α15 α16 α17 ρ : Type} {o : Option (α1 × α2 × α3 × α4 × α5 × α6 × α7 × α8 × α9 × α10 × α11 × α12 × α13 × α14 × α15 × α16 × α17)} {k : α1 → α2 → α3 → α4 → α5 → α6 → α7 → α8 → α9 → α10 → α11 → α12 → α13 → α14 → α15 → α16 → α17 → Option ρ} {r : ρ} (h : bd17 o k = some r) : ∃ (x1 : α1) (x2 : α2) (x3 : α3) (x4 : α4) (x5 : α5) (x6 : α6) (x7 : α7) (x8 : α8) (x9 : α9) (x10 : α10) (x11 : α11) (x12 : α12) (x13 : α13) (x14 : α14) (x15 : α15) (x16 : α16) (x17 : α17), o = some (x1, x2, x3, x4, x5, x6, x7, x8, x9, x10, x11, x12, x13, x14, x15, x16, x17) ∧ k x1 x2 x3 x4 x5 x6 x7 x8 x9 x10 x11 x12 x13 x14 x15 x16 x17 = some r := by
  match o, h with
  | some (x1, x2, x3, x4, x5, x6, x7, x8, x9, x10, x11, x12, x13, x14, x15, x16, x17), h => exact ⟨x1, x2, x3, x4, x5, x6, x7, x8, x9, x10, x11, x12, x13, x14, x15, x16, x17, rfl, h⟩
theorem bd17_of {α1 α2 α3 α4 α5 α6 α7 α8 α9 α10 α11 α12 α13 α14 α15 α16 α17 ρ : Type} {o : Option (α1 × α2 × α3 × α4 × α5 × α6 × α7 × α8 × α9 × α10 × α11 × α12 × α13 × α14 × α15 × α16 × α17)} {k : α1 → α2 → α3 → α4 → α5 → α6 → α7 → α8 → α9 → α10 → α11 → α12 → α13 → α14 → α15 → α16 → α17 → Option ρ} {x1 : α1} {x2 : α2} {x3 : α3} {x4 : α4} {x5 : α5} {x6 : α6} {x7 : α7} {x8 : α8} {x9 : α9} {x10 : α10} {x11 : α11} {x12 : α12} {x13 : α13} {x14 : α14} {x15 : α15} {x16 : α16} {x17 : α17} (h : o = some (x1, x2, x3, x4, x5, x6, x7, x8, x9, x10, x11, x12, x13, x14, x15, x16, x17)) : bd17 o k = k x1 x2 x3 x4 x5 x6 x7 x8 x9 x10 x11 x12 x13 x14 x15 x16 x17 := by rw [h]; rfl
def loop17 {α1 α2 α3 α4 α5 α6 α7 α8 α9 α10 α11 α12 α13 α14 α15 α16 α17 ρ : Type} (b : (α1 → α2 → α3 → α4 → α5 → α6 → α7 → α8 → α9 → α10 → α11 → α12 → α13 → α14 → α15 → α16 → α17 → Option ρ) → α1 → α2 → α3 → α4 → α5 → α6 → α7 → α8 → α9 → α10 → α11 → α12 → α13 → α14 → α15 → α16 → α17 → Option ρ) : Nat → α1 → α2 → α3 → α4 → α5 → α6 → α7 → α8 → α9 → α10 → α11 → α12 → α13 → α14 → α15 → α16 → α17 → Option ρ
  | 0 => fun _ _ _ _ _ _ _ _ _ _ _ _ _ _ _ _ _ => none
  | n + 1 => fun x1 x2 x3 x4 x5 x6 x7 x8 x9 x10 x11 x12 x13 x14 x15 x16 x17 => b (loop17 b n) x1 x2 x3 x4 x5 x6 x7 x8 x9 x10 x11 x12 x13 x14 x15 x16 x17
def bd18 {α1 α2 α3 α4 α5 α6 α7 α8 α9 α10 α11 α12 α13 α14 α15 α16 α17 α18 ρ : Type} (o : Option (α1 × α2 × α3 × α4 × α5 × α6 × α7 × α8 × α9 × α10 × α11 × α12 × α13 × α14 × α15 × α16 × α17 × α18)) (k : α1 → α2 → α3 → α4 → α5 → α6 → α7 → α8 → α9 → α10 → α11 → α12 → α13 → α14 → α15 → α16 → α17 → α18 → Option ρ) : Option ρ := match o with
  | none => none
  | some (x1, x2, x3, x4, x5, x6, x7, x8, x9, x10, x11, x12, x13, x14, x15, x16, x17, x18) => k x1 x2 x3 x4 x5 x6 x7 x8 x9 x10 x11 x12 x13 x14 x15 x16 x17 x18
theorem bd18_some {α1 α2 α3 α4 α5 α6 α7 α8 α9 α10 α11 α12 α13 α14 α15 α16 α17 α18 ρ : Type} {o : Option (α1 × α2 × α3 × α4 × α5 × α6 × α7 × α8 × α9 × α10 × α11 × α12 × α13 × α14 × α15 × α16 × α17 × α18)} {k : α1 → α2 → α3 → α4 → α5 → α6 → α7 → α8 → α9 → α10 → α11 → α12 → α13 → α14 → α15 → α16 → α17 → α18 → Option ρ} {r : ρ} (h : bd18 o k = some r) : ∃ (x1 : α1) (x2 : α2) (x3 : α3) (x4 : α4) (x5 : α5) (x6 : α6) (x7 : α7) (x8 : α8) (x9 : α9) (x10 : α10) (x11 : α11) (x12 : α12) (x13 : α13) (x14 : α14) (x15 : α15) (x16 : α16) (x17 : α17) (x18 : α18), o = some (x1, x2, x3, x4, x5, x6, x7, x8, x9, x10, x11, x12, x13, x14, x15, x16, x17, x18) ∧ k x1 x2 x3 x4 x5 x6 x7 x8 x9 x10 x11 x12 x13 x14 x15 x16 x17 x18 = some r := by
  match o, h with
  | some (x1, x2, x3, x4, x5, x6, x7, x8, x9, x10, x11, x12, x13, x14, x15, x16, x17, x18), h => exact ⟨x1, x2, x3, x4, x5, x6, x7, x8, x9, x10, x11, x12, x13, x14, x15, x16, x17, x18, rfl, h⟩
theorem bd18_of {α1 α2 α3 α4 α5 α6 α7 α8 α9 α10 α11 α12 α13 α14 α15 α16 α17 α18 ρ : Type} {o : Option (α1 × α2 × α3 × α4 × α5 × α6 × α7 × α8 × α9 × α10 × α11 × α12 × α13 × α14 × α15 × α16 × α17 × α18)} {k : α1 → α2 → α3 → α4 → α5 → α6 → α7 → α8 → α9 → α10 → α11 → α12 → α13 → α14 → α15 → α16 → α17 → α18 → Option ρ} {x1 : α1} {x2 : α2} {x3 : α3} {x4 : α4} {x5 : α5} {x6 : α6} {x7 : α7} {x8 : α8} {x9 : α9} {x10 : α10} {x11 : α11} {x12 : α12} {x13 : α13} {x14 : α14} {x15 : α15} {x16 : α16} {x17 : α17} {x18 : α18} (h : o = some (x1, x2, x3, x4, x5, x6, x7, x8, x9, x10, x11, x12, x13, x14, x15, x16, x17, x18)) : bd18 o k = k x1 x2 x3 x4 x5 x6 x7 x8 x9 x10 x11 x12 x13 x14 x15 x16 x17 x18 := by rw [h]; rfl
def loop18 {α1 α2 α3 α4 α5 α6 α7 α8 α9 α10 α11 α12 α13 α14 α15 α16 α17 α18 ρ : Type} (b : (α1 → α2 → α3 → α4 → α5 → α6 → α7 → α8 → α9 → α10 → α11 → α12 → α13 → α14 → α15 → α16 → α17 → α18 → Option ρ) → α1 → α2 → α3 → α4 → α5 → α6 → α7 → α8 → α9 → α10 → α11 → α12 → α13 → α14 → α15 → α16 → α17 → α18 → Option ρ) : Nat → α1 → α2 → α3 → α4 → α5 → α6 → α7 → α8 → α9 → α10 → α11 → α12 → α13 → α14 → α15 → α16 → α17 → α18 → Option ρ
  | 0 => fun _ _ _ _ _ _ _ _ _ _ _ _ _ _ _ _ _ _ => none
  | n + 1 => fun x1 x2 x3 x4 x5 x6 x7 x8 x9 x10 x11 x12 x13 x14 x15 x16 x17 x18 => b (loop18 b n) x1 x2 x3 x4 x5 x6 x7 x8 x9 x10 x11 x12 x13 x14 x15 x16 x17 x18
def bd19 {α1 α2 α3 α4 α5 α6 α7 α8 α9 α10 α11 α12 α13 α14 α15 α16 α17 α18 α19 ρ : Type} (o : Option (α1 × α2 × α3 × α4 × α5 × α6 × α7 × α8 × α9 × α10 × α11 × α12 × α13 × α14 × α15 × α16 × α17 × α18 × α19)) (k : α1 → α2 → α3 → α4 → α5 → α6 → α7 → α8 → α9 → α10 → α11 → α12 → α13 → α14 → α15 → α16 → α17 → α18 → α19 → Option ρ) : Option ρ := match o with
  | none => none
  | some (x1, x2, x3, x4, x5, x6, x7, x8, x9, x10, x11, x12, x13, x14, x15, x16, x17, x18, x19) => k x1 x2 x3 x4 x5 x6 x7 x8 x9 x10 x11 x12 x13 x14 x15 x16 x17 x18 x19
theorem bd19_some {α1 α2 α3 α4 α5 α6 α7 α8 α9 α10 α11 α12 α13 α14 α15 α16 α17 α18 α19 ρ : Type} {o : Option (α1 × α2 × α3 × α4 × α5 × α6 × α7 × α8 × α9 × α10 × α11 × α12 × α13 × α14 × α15 × α16 × α17 × α18 × α19)} {k : α1 → α2 → α3 → α4 → α5 → α6 → α7 → α8 → α9 → α10 → α11 → α12 → α13 → α14 → α15 → α16 → α17 → α18 → α19 → Option ρ} {r : ρ} (h : bd19 o k = some r) : ∃ (x1 : α1) (x2 : α2) (x3 : α3) (x4 : α4) (x5 : α5) (x6 : α6) (x7 : α7) (x8 : α8) (x9 : α9) (x10 : α10) (x11 : α11) (x12 : α12) (x13 : α13) (x14 : α14) (x15 : α15) (x16 : α16) (x17 : α17) (x18 : α18) (x19 : α19), o = some (x1, x2, x3, x4, x5, x6, x7, x8, x9, x10, x11, x12, x13, x14, x15, x16, x17, x18, x19) ∧ k x1 x2 x3 x4 x5 x6 x7 x8 x9 x10 x11 x12 x13 x14 x15 x16 x17 x18 x19 = some r := by
  match o, h with
  | some (x1, x2, x3, x4, x5, x6, x7, x8, x9, x10, x11, x12, x13, x14, x15, x16, x17, x18, x19), h => exact ⟨x1, x2, x3, x4, x5, x6, x7, x8, x9, x10, x11, x12, x13, x14, x15, x16, x17, x18, x19, rfl, h⟩
theorem bd19_of {α1 α2 α3 α4 α5 α6 α7 α8 α9 α10 α11 α12 α13 α14 α15 α16 α17 α18 α19 ρ : Type} {o : Option (α1 × α2 × α3 × α4 × α5 × α6 × α7 × α8 × α9 × α10 × α11 × α12 × α13 × α14 × α15 × α16 × α17 × α18 × α19)} {k : α1 → α2 → α3 → α4 → α5 → α6 → α7 → α8 → α9 → α10 → α11 → α12 → α13 → α14 → α15 → α16 → α17 → α18 → α19 → Option ρ} {x1 : α1} {x2 : α2} {x3 : α3} {x4 : α4} {x5 : α5} {x6 : α6} {x7 : α7} {x8 : α8} {x9 : α9} {x10 : α10} {x11 : α11} {x12 : α12} {x13 : α13} {x14 : α14} {x15 : α15} {x16 : α16} {x17 : α17} {x18 : α18} {x19 : α19} (h : o = some (x1, x2, x3, x4, x5, x6, x7, x8, x9, x10, x11, x12, x13, x14, x15, x16, x17, x18, x19)) : bd19 o k = k x1 x2 x3 x4 x5 x6 x7 x8 x9 x10 x11 x12 x13 x14 x15 x16 x17 x18 x19 := by rw [h]; rfl
def loop19 {α1 α2 α3 α4 α5 α6 α7 α8 α9 α10 α11 α12 α13 α14 α15 α16 α17 α18 α19 ρ : Type} (b : (α1 → α2 → α3 → α4 → α5 → α6 → α7 → α8 → α9 → α10 → α11 → α12 → α13 → α14 → α15 → α16 → α17 → α18 → α19 → Option ρ) → α1 → α2 → α3 → α4 → α5 → α6 → α7 → α8 → α9 → α10 → α11 → α12 → α13 → α14 → α15 → α16 → α17 → α18 → α19 → Option ρ) : Nat → α1 → α2 → α3 → α4 → α5 → α6 → α7 → α8 → α9 → α10 → α11 → α12 → α13 → α14 → α15 → α16 → α17 → α18 → α19 → Option ρ
  | 0 => fun _ _ _ _ _ _ _ _ _ _ _ _ _ _ _ _ _ _ _ => none
  | n + 1 => fun x1 x2 x3 x4 x5 x6 x7 x8 x9 x10 x11 x12 x13 x14 x15 x16 x17 x18 x19 => b (loop19 b n) x1 x2 x3 x4 x5 x6 x7 x8 x9 x10 x11 x12 x13 x14 x15 x16 x17 x18 x19
def bd20 {α1 α2 α3 α4 α5 α6 α7 α8 α9 α10 α11 α12 α13 α14 α15 α16 α17 α18 α19 α20 ρ : Type} (o : Option (α1 × α2 × α3 × α4 × α5 × α6 × α7 × α8 × α9 × α10 × α11 × α12 × α13 × α14 × α15 × α16 × α17 × α18 × α19 × α20)) (k : α1 → α2 → α3 → α4 → α5 → α6 → α7 → α8 → α9 → α10 → α11 → α12 → α13 → α14 → α15 → α16 → α17 → α18 → α19 → α20 → Option ρ) : Option ρ := match o with
  | none => none
  | some (x1, x2, x3, x4, x5, x6, x7, x8, x9, x10, x11, x12, x13, x14, x15, x16, x17, x18, x19, x20) => k x1 x2 x3 x4 x5 x6 x7 x8 x9 x10 x11 x12 x13 x14 x15 x16 x17 x18 x19 x20
theorem bd20_some {α1 α2 α3 α4 α5 α6 α7 α8 α9 α10 α11 α12 α13 α14 α15 α16 α17 α18 α19 α20 ρ : Type} {o : Option (α1 × α2 × α3 × α4 × α5 × α6 × α7 × α8 × α9 × α10 × α11 × α12 × α13 × α14 × α15 × α16 × α17 × α18 × α19 × α20)} {k : α1 → α2 → α3 → α4 → α5 → α6 → α7 → α8 → α9 → α10 → α11 → α12 → α13 → α14 → α15 → α16 → α17 → α18 → α19 → α20 → Option ρ} {r : ρ} (h : bd20 o k = some r) : ∃ (x1 : α1) (x2 : α2) (x3 : α3) (x4 : α4) (x5 : α5) (x6 : α6) (x7 : α7) (x8 : α8) (x9 : α9) (x10 : α10) (x11 : α11) (x12 : α12) (x13 : α13) (x14 : α14) (x15 : α15) (x16 : α16) (x17 : α17) (x18 : α18) (x19 : α19) (x20 : α20), o = some (x1, x2, x3, x4, x5, x6, x7, x8, x9, x10, x11, x12, x13, x14, x15, x16, x17, x18, x19, x20) ∧ k x1 x2 x3 x4 x5 x6 x7 x8 x9 x10 x11 x12 x13 x14 x15 x16 x17 x18 x19 x20 = some r := by
  match o, h with
  | some (x1, x2, x3, x4, x5, x6, x7, x8, x9, x10, x11, x12, x13, x14, x15, x16, x17, x18, x19, x20), h => exact ⟨x1, x2, x3, x4, x5, x6, x7, x8, x9, x10, x11, x12, x13, x14, x15, x16, x17, x18, x19, x20, rfl, h⟩
theorem bd20_of {α1 α2 α3 α4 α5 α6 α7 α8 α9 α10 α11 α12 α13 α14 α15 α16 α17 α18 α19 α20 ρ : Type} {o : Option (α1 × α2 × α3 × α4 × α5 × α6 × α7 × α8 × α9 × α10 × α11 × α12 × α13 × α14 × α15 × α16 × α17 × α18 × α19 × α20)} {k : α1 → α2 → α3 → α4 → α5 → α6 → α7 → α8 → α9 → α10 → α11 → α12 → α13 → α14 → α15 → α16 → α17 → α18 → α19 → α20 → Option ρ} {x1 : α1} {x2 : α2} {x3 : α3} {x4 : α4} {x5 : α5} {x6 : α6} {x7 : α7} {x8 : α8} {x9 : α9} {x10 : α10} {x11 : α11} {x12 : α12} {x13 : α13} {x14 : α14} {x15 : α15} {x16 : α16} {x17 : α17} {x18 : α18} {x19 : α19} {x20 : α20} (h : o = some (x1, x2, x3, x4, x5, x6, x7, x8, x9, x10, x11, x12, x13, x14, x15, x16, x17, x18, x19, x20)) : bd20 o k = k x1 x2 x3 x4 x5 x6 x7 x8 x9 x10 x11 x12 x13 x14 x15 x16 x17 x18 x19 x20 := by rw [h]; rfl
def loop20 {α1 α2 α3 α4 α5 α6 α7 α8 α9 α10 α11 α12 α13 α14 α15 α16 α17 α18 α19 α20 ρ : Type} (b : (α1 → α2 → α3 → α4 → α5 → α6 → α7 → α8 → α9 → α10 → α11 → α12 → α13 → α14 → α15 → α16 → α17 → α18 → α19 → α20 → Option ρ) → α1 → α2 → α3 → α4 → α5 → α6 → α7 → α8 → α9 → α10 → α11 → α12 → α13 → α14 → α15 → α16 → α17 → α18 → α19 → α20 → Option ρ) : Nat → α1 → α2 → α3 → α4 → α5 → α6 → α7 → α8 → α9 → α10 → α11 → α12 → α13 → α14 → α15 → α16 → α17 → α18 → α19 → α20 → Option ρ
  | 0 => fun _ _ _ _ _ _ _ _ _ _ _ _ _ _ _ _ _ _ _ _ => none
  | n + 1 => fun x1 x2 x3 x4 x5 x6 x7 x8 x9 x10 x11 x12 x13 x14 x15 x16 x17 x18 x19 x20 => b (loop20 b n) x1 x2 x3 x4 x5 x6 x7 x8 x9 x10 x11 x12 x13 x14 x15 x16 x17 x18 x19 x20
def bd21 {α1 α2 α3 α4 α5 α6 α7 α8 α9 α10 α11 α12 α13 α14 α15 α16 α17 α18 α19 α20 α21 ρ : Type} (o : Option (α1 × α2 × α3 × α4 × α5 × α6 × α7 × α8 × α9 × α10 × α11 × α12 × α13 × α14 × α15 × α16 × α17 × α18 × α19 × α20 × α21)) (k : α1 → α2 → α3 → α4 → α5 → α6 → α7 → α8 → α9 → α10 → α11 → α12 → α13 → α14 → α15 → α16 → α17 → α18 → α19 → α20 → α21 → Option ρ) : Option ρ := match o with
  | none => none
  | some (x1, x2, x3, x4, x5, x6, x7, x8, x9, x10, x11, x12, x13, x14, x15, x16, x17, x18, x19, x20, x21) => k x1 x2 x3 x4 x5 x6 x7 x8 x9 x10 x11 x12 x13 x14 x15 x16 x17 x18 x19 x20 x21
theorem bd21_some {α1 α2 α3 α4 α5 α6 α7 α8 α9 α10 α11 α12 α13 α14 α15 α16 α17 α18 α19 α20 α21 ρ : Type} {o : Option (α1 × α2 × α3 × α4 × α5 × α6 × α7 × α8 × α9 × α10 × α11 × α12 × α13 × α14 × α15 × α16 × α17 × α18 × α19 × α20 × α21)} {k : α1 → α2 → α3 → α4 → α5 → α6 → α7 → α8 → α9 → α10 → α11 → α12 → α13 → α14 → α15 → α16 → α17 → α18 → α19 → α20 → α21 → Option ρ} {r : ρ} (h : bd21 o k = some r) : ∃ (x1 : α1) (x2 : α2) (x3 : α3) (x4 : α4) (x5 : α5) (x6 : α6) (x7 : α7) (x8 : α8) (x9 : α9) (x10 : α10) (x11 : α11) (x12 : α12) (x13 : α13) (x14 : α14) (x15 : α15) (x16 : α16) (x17 : α17) (x18 : α18) (x19 : α19) (x20 : α20) (x21 : α21), o = some (x1, x2, x3, x4, x5, x6, x7, x8, x9, x10, x11, x12, x13, x14, x15, x16, x17, x18, x19, x20, x21) ∧ k x1 x2 x3 x4 x5 x6 x7 x8 x9 x10 x11 x12 x13 x14 x15 x16 x17 x18 x19 x20 x21 = some r := by
  match o, h with
  | some (x1, x2, x3, x4, x5, x6, x7, x8, x9, x10, x11, x12, x13, x14, x15, x16, x17, x18, x19, x20, x21), h => exact ⟨x1, x2, x3, x4, x5, x6, x7, x8, x9, x10, x11, x12, x13, x14, x15, x16, x17, x18, x19, x20, x21, rfl, h⟩
theorem bd21_of {α1 α2 α3 α4 α5 α6 α7 α8 α9 α10 α11 α12 α13 α14 α15 α16 α17 α18 α19 α20 α21 ρ : Type} {o : Option (α1 × α2 × α3 × α4 × α5 × α6 × α7 × α8 × α9 × α10 × α11 × α12 × α13 × α14 × α15 × α16 × α17 × α18 × α19 × α20 × α21)} {k : α1 → α2 → α3 → α4 → α5 → α6 → α7 → α8 → α9 → α10 → α11 → α12 → α13 → α14 → α15 → α16 → α17 → α18 → α19 → α20 → α21 → Option ρ} {x1 : α1} {x2 : α2} {x3 : α3} {x4 : α4} {x5 : α5} {x6 : α6} {x7 : α7} {x8 : α8} {x9 : α9} {x10 : α10} {x11 : α11} {x12 : α12} {x13 : α13} {x14 : α14} {x15 : α15} {x16 : α16} {x17 : α17} {x18 : α18} {x19 : α19} {x20 : α20} {x21 : α21} (h : o = some (x1, x2, x3, x4, x5, x6, x7, x8, x9, x10, x11, x12, x13, x14, x15, x16, x17, x18, x19, x20, x21)) : bd21 o k = k x1 x2 x3 x4 x5 x6 x7 x8 x9 x10 x11 x12 x13 x14 x15 x16 x17 x18 x19 x20 x21 := by rw [h]; rfl
def loop21 {α1 α2 α3 α4 α5 α6 α7 α8 α9 α10 α11 α12 α13 α14 α15 α16 α17 α18 α19 α20 α21 ρ : Type} (b : (α1 → α2 → α3 → α4 → α5 → α6 → α7 → α8 → α9 → α10 → α11 → α12 → α13 → α14 → α15 → α16 → α17 → α18 → α19 → α20 → α21 → Option ρ) → α1 → α2 → α3 → α4 → α5 → α6 → α7 → α8 → α9 → α10 → α11 → α12 → α13 → α14 → α15 → α16 → α17 → α18 → α19 → α20 → α21 → Option ρ) : Nat → α1 → α2 → α3 → α4 → α5 → α6 → α7 → α8 → α9 → α10 → α11 → α12 → α13 → α14 → α15 → α16 → α17 → α18 → α19 → α20 → α21 → Option ρ
  | 0 => fun _ _ _ _ _ _ _ _ _ _ _ _ _ _ _ _ _ _ _ _ _ => none
  | n + 1 => fun x1 x2 x3 x4 x5 x6 x7 x8 x9 x10 x11 x12 x13 x14 x15 x16 x17 x18 x19 x20 x21 => b (loop21 b n) x1 x2 x3 x4 x5 x6 x7 x8 x9 x10 x11 x12 x13 x14 x15 x16 x17 x18 x19 x20 x21
def bd22 {α1 α2 α3 α4 α5 α6 α7 α8 α9 α10 α11 α12 α13 α14 α15 α16 α17 α18 α19 α20 α21 α22 ρ : Type} (o : Option (α1 × α2 × α3 × α4 × α5 × α6 × α7 × α8 × α9 × α10 × α11 × α12 × α13 × α14 × α15 × α16 × α17 × α18 × α19 × α20 × α21 × α22)) (k : α1 → α2 → α3 → α4 → α5 → α6 → α7 → α8 → α9 → α10 → α11 → α12 → α13 → α14 → α15 → α16 → α17 → α18 → α19 → α20 → α21 → α22 → Option ρ) : Option ρ := match o with
  | none => none
  | some (x1, x2, x3, x4, x5, x6, x7, x8, x9, x10, x11, x12, x13, x14, x15, x16, x17, x18, x19, x20, x21, x22) => k x1 x2 x3 x4 x5 x6 x7 x8 x9 x10 x11 x12 x13 x14 x15 x16 x17 x18 x19 x20 x21 x22
theorem bd22_some {α1 α2 α3 α4 α5 α6 α7 α8 α9 α10 α11 α12 α13 α14 α15 α16 α17 α18 α19 α20 α21 α22 ρ : Type} {o : Option (α1 × α2 × α3 × α4 × α5 × α6 × α7 × α8 × α9 × α10 × α11 × α12 × α13 × α14 × α15 × α16 × α17 × α18 × α19 × α20 × α21 × α22)} {k : α1 → α2 → α3 → α4 → α5 → α6 → α7 → α8 → α9 → α10 → α11 → α12 → α13 → α14 → α15 → α16 → α17 → α18 → α19 → α20 → α21 → α22 → Option ρ} {r : ρ} (h : bd22 o k = some r) : ∃ (x1 : α1) (x2 : α2) (x3 : α3) (x4 : α4) (x5 : α5) (x6 : α6) (x7 : α7) (x8 : α8) (x9 : α9) (x10 : α10) (x11 : α11) (x12 : α12) (x13 : α13) (x14 : α14) (x15 : α15) (x16 : α16) (x17 : α17) (x18 : α18) (x19 : α19) (x20 : α20) (x21 : α21) (x22 : α22), o = some (x1, x2, x3, x4, x5, x6, x7, x8, x9, x10, x11, x12, x13, x14, x15, x16, x17, x18, x19, x20, x21, x22) ∧ k x1 x2 x3 x4 x5 x6 x7 x8 x9 x10 x11 x12 x13 x14 x15 x16 x17 x18 x19 x20 x21 x22 = some r := by
  match o, h with
  | some (x1, x2, x3, x4, x5, x6, x7, x8, x9, x10, x11, x12, x13, x14, x15, x16, x17, x18, x19, x20, x21, x22), h => exact ⟨x1, x2, x3, x4, x5, x6, x7, x8, x9, x10, x11, x12, x13, x14, x15, x16, x17, x18, x19, x20, x21, x22, rfl, h⟩
theorem bd22_of {α1 α2 α3 α4 α5 α6 α7 α8 α9 α10 α11 α12 α13 α14 α15 α16 α17 α18 α19 α20 α21 α22 ρ : Type} {o : Option (α1 × α2 × α3 × α4 × α5 × α6 × α7 × α8 × α9 × α10 × α11 × α12 × α13 × α14 × α15 × α16 × α17 × α18 × α19 × α20 × α21 × α22)} {k : α1 → α2 → α3 → α4 → α5 → α6 → α7 → α8 → α9 → α10 → α11 → α12 → α13 → α14 → α15 → α16 → α17 → α18 → α19 → α20 → α21 → α22 → Option ρ} {x1 : α1} {x2 : α2} {x3 : α3} {x4 : α4} {x5 : α5} {x6 : α6} {x7 : α7} {x8 : α8} {x9 : α9} {x10 : α10} {x11 : α11} {x12 : α12} {x13 : α13} {x14 : α14} {x15 : α15} {x16 : α16} {x17 : α17} {x18 : α18} {x19 : α19} {x20 : α20} {x21 : α21} {x22 : α22} (h : o = some (x1, x2, x3, x4, x5, x6, x7, x8, x9, x10, x11, x12, x13, x14, x15, x16, x17, x18, x19, x20, x21, x22)) : bd22 o k = k x1 x2 x3 x4 x5 x6 x7 x8 x9 x10 x11 x12 x13 x14 x15 x16 x17 x18 x19 x20 x21 x22 := by rw [h]; rfl
def loop22 {α1 α2 α3 α4 α5 α6 α7 α8 α9 α10 α11 α12 α13 α14 α15 α16 α17 α18 α19 α20 α21 α22 ρ : Type} (b : (α1 → α2 → α3 → α4 → α5 → α6 → α7 → α8 → α9 → α10 → α11 → α12 → α13 → α14 → α15 → α16 → α17 → α18 → α19 → α20 → α21 → α22 → Option ρ) → α1 → α2 → α3 → α4 → α5 → α6 → α7 → α8 → α9 → α10 → α11 → α12 → α13 → α14 → α15 → α16 → α17 → α18 → α19 → α20 → α21 → α22 → Option ρ) : Nat → α1 → α2 → α3 → α4 → α5 → α6 → α7 → α8 → α9 → α10 → α11 → α12 → α13 → α14 → α15 → α16 → α17 → α18 → α19 → α20 → α21 → α22 → Option ρ
  | 0 => fun _ _ _ _ _ _ _ _ _ _ _ _ _ _ _ _ _ _ _ _ _ _ => none
  | n + 1 => fun x1 x2 x3 x4 x5 x6 x7 x8 x9 x10 x11 x12 x13 x14 x15 x16 x17 x18 x19 x20 x21 x22 => b (loop22 b n) x1 x2 x3 x4 x5 x6 x7 x8 x9 x10 x11 x12 x13 x14 x15 x16 x17 x18 x19 x20 x21 x22
def bd23 {α1 α2 α3 α4 α5 α6 α7 α8 α9 α10 α11 α12 α13 α14 α15 α16 α17 α18 α19 α20 α21 α22 α23 ρ : Type} (o : Option (α1 × α2 × α3 × α4 × α5 × α6 × α7 × α8 × α9 × α10 × α11 × α12 × α13 × α14 × α15 × α16 × α17 × α18 × α19 × α20 × α21 × α22 × α23)) (k : α1 → α2 → α3 → α4 → α5 → α6 → α7 → α8 → α9 → α10 → α11 → α12 → α13 → α14 → α15 → α16 → α17 → α18 → α19 → α20 → α21 → α22 → α23 → Option ρ) : Option ρ := match o with
  | none => none
  | some (x1, x2, x3, x4, x5, x6, x7, x8, x9, x10, x11, x12, x13, x14, x15, x16, x17, x18, x19, x20, x21, x22, x23) => k x1 x2 x3 x4 x5 x6 x7 x8 x9 x10 x11 x12 x13 x14 x15 x16 x17 x18 x19 x20 x21 x22 x23
theorem bd23_some {α1 α2 α3 α4 α5 α6 α7 α8 α9 α10 α11 α12 α13 α14 α15 α16 α17 α18 α19 α20 α21 α22 α23 ρ : Type} {o : Option (α1 × α2 × α3 × α4 × α5 × α6 × α7 × α8 × α9 × α10 × α11 × α12 × α13 × α14 × α15 × α16 × α17 × α18 × α19 × α20 × α21 × α22 × α23)} {k : α1 → α2 → α3 → α4 → α5 → α6 → α7 → α8 → α9 → α10 → α11 → α12 → α13 → α14 → α15 → α16 → α17 → α18 → α19 → α20 → α21 → α22 → α23 → Option ρ} {r : ρ} (h : bd23 o k = some r) : ∃ (x1 : α1) (x2 : α2) (x3 : α3) (x4 : α4) (x5 : α5) (x6 : α6) (x7 : α7) (x8 : α8) (x9 : α9) (x10 : α10) (x11 : α11) (x12 : α12) (x13 : α13) (x14 : α14) (x15 : α15) (x16 : α16) (x17 : α17) (x18 : α18) (x19 : α19) (x20 : α20) (x21 : α21) (x22 : α22) (x23 : α23), o = some (x1, x2, x3, x4, x5, x6, x7, x8, x9, x10, x11, x12, x13, x14, x15, x16, x17, x18, x19, x20, x21, x22, x23) ∧ k x1 x2 x3 x4 x5 x6 x7 x8 x9 x10 x11 x12 x13 x14 x15 x16 x17 x18 x19 x20 x21 x22 x23 = some r := by
  match o, h with
  | some (x1, x2, x3, x4, x5, x6, x7, x8, x9, x10, x11, x12, x13, x14, x15, x16, x17, x18, x19, x20, x21, x22, x23), h => exact ⟨x1, x2, x3, x4, x5, x6, x7, x8, x9, x10, x11, x12, x13, x14, x15, x16, x17, x18, x19, x20, x21, x22, x23, rfl, h⟩
theorem bd23_of {α1 α2 α3 α4 α5 α6 α7 α8 α9 α10 α11 α12 α13 α14 α15 α16 α17 α18 α19 α20 α21 α22 α23 ρ : Type} {o : Option (α1 × α2 × α3 × α4 × α5 × α6 × α7 × α8 × α9 × α10 × α11 × α12 × α13 × α14 × α15 × α16 × α17 × α18 × α19 × α20 × α21 × α22 × α23)} {k : α1 → α2 → α3 → α4 → α5 → α6 → α7 → α8 → α9 → α10 → α11 → α12 → α13 → α14 → α15 → α16 → α17 → α18 → α19 → α20 → α21 → α22 → α23 → Option ρ} {x1 : α1} {x2 : α2} {x3 : α3} {x4 : α4} {x5 : α5} {x6 : α6} {x7 : α7} {x8 : α8} {x9 : α9} {x10 : α10} {x11 : α11} {x12 : α12} {x13 : α13} {x14 : α14} {x15 : α15} {x16 : α16} {x17 : α17} {x18 : α18} {x19 : α19} {x20 : α20} {x21 : α21} {x22 : α22} {x23 : α23} (h : o = some (x1, x2, x3, x4, x5, x6, x7, x8, x9, x10, x11, x12, x13, x14, x15, x16, x17, x18, x19, x20, x21, x22, x23)) : bd23 o k = k x1 x2 x3 x4 x5 x6 x7 x8 x9 x10 x11 x12 x13 x14 x15 x16 x17 x18 x19 x20 x21 x22 x23 := by rw [h]; rfl
def loop23 {α1 α2 α3 α4 α5 α6 α7 α8 α9 α10 α11 α12 α13 α14 α15 α16 α17 α18 α19 α20 α21 α22 α23 ρ : Type} (b : (α1 → α2 → α3 → α4 → α5 → α6 → α7 → α8 → α9 → α10 → α11 → α12 → α13 → α14 → α15 → α16 → α17 → α18 → α19 → α20 → α21 → α22 → α23 → Option ρ) → α1 → α2 → α3 → α4 → α5 → α6 → α7 → α8 → α9 → α10 → α11 → α12 → α13 → α14 → α15 → α16 → α17 → α18 → α19 → α20 → α21 → α22 → α23 → Option ρ) : Nat → α1 → α2 → α3 → α4 → α5 → α6 → α7 → α8 → α9 → α10 → α11 → α12 → α13 → α14 → α15 → α16 → α17 → α18 → α19 → α20 → α21 → α22 → α23 → Option ρ
  | 0 => fun _ _ _ _ _ _ _ _ _ _ _ _ _ _ _ _ _ _ _ _ _ _ _ => none
  | n + 1 => fun x1 x2 x3 x4 x5 x6 x7 x8 x9 x10 x11 x12 x13 x14 x15 x16 x17 x18 x19 x20 x21 x22 x23 => b (loop23 b n) x1 x2 x3 x4 x5 x6 x7 x8 x9 x10 x11 x12 x13 x14 x15 x16 x17 x18 x19 x20 x21 x22 x23
def bd24 {α1 α2 α3 α4 α5 α6 α7 α8 α9 α10 α11 α12 α13 α14 α15 α16 α17 α18 α19 α20 α21 α22 α23 α24 ρ : Type} (o : Option (α1 × α2 × α3 × α4 × α5 × α6 × α7 × α8 × α9 × α10 × α11 × α12 × α13 × α14 × α15 × α16 × α17 × α18 × α19 × α20 × α21 × α22 × α23 × α24)) (k : α1 → α2 → α3 → α4 → α5 → α6 → α7 → α8 → α9 → α10 → α11 → α12 → α13 → α14 → α15 → α16 → α17 → α18 → α19 → α20 → α21 → α22 → α23 → α24 → Option ρ) : Option ρ := match o with
  | none => none
  | some (x1, x2, x3, x4, x5, x6, x7, x8, x9, x10, x11, x12, x13, x14, x15, x16, x17, x18, x19, x20, x21, x22, x23, x24) => k x1 x2 x3 x4 x5 x6 x7 x8 x9 x10 x11 x12 x13 x14 x15 x16 x17 x18 x19 x20 x21 x22 x23 x24
theorem bd24_some {α1 α2 α3 α4 α5 α6 α7 α8 α9 α10 α11 α12 α13 α14 α15 α16 α17 α18 α19 α20 α21 α22 α23 α24 ρ : Type} {o : Option (α1 × α2 × α3 × α4 × α5 × α6 × α7 × α8 × α9 × α10 × α11 × α12 × α13 × α14 × α15 × α16 × α17 × α18 × α19 × α20 × α21 × α22 × α23 × α24)} {k : α1 → α2 → α3 → α4 → α5 → α6 → α7 → α8 → α9 → α10 → α11 → α12 → α13 → α14 → α15 → α16 → α17 → α18 → α19 → α20 → α21 → α22 → α23 → α24 → Option ρ} {r : ρ} (h : bd24 o k = some r) : ∃ (x1 : α1) (x2 : α2) (x3 : α3) (x4 : α4) (x5 : α5) (x6 : α6) (x7 : α7) (x8 : α8) (x9 : α9) (x10 : α10) (x11 : α11) (x12 : α12) (x13 : α13) (x14 : α14) (x15 : α15) (x16 : α16) (x17 : α17) (x18 : α18) (x19 : α19) (x20 : α20) (x21 : α21) (x22 : α22) (x23 : α23) (x24 : α24), o = some (x1, x2, x3, x4, x5, x6, x7, x8, x9, x10, x11, x12, x13, x14, x15, x16, x17, x18, x19, x20, x21, x22, x23, x24) ∧ k x1 x2 x3 x4 x5 x6 x7 x8 x9 x10 x11 x12 x13 x14 x15 x16 x17 x18 x19 x20 x21 x22 x23 x24 = some r := by
  match o, h with
  | some (x1, x2, x3, x4, x5, x6, x7, x8, x9, x10, x11, x12, x13, x14, x15, x16, x17, x18, x19, x20, x21, x22, x23, x24), h => exact ⟨x1, x2, x3, x4, x5, x6, x7, x8, x9, x10, x11, x12, x13, x14, x15, x16, x17, x18, x19, x20, x21, x22, x23, x24, rfl, h⟩
theorem bd24_of {α1 α2 α3 α4 α5 α6 α7 α8 α9 α10 α11 α12 α13 α14 α15 α16 α17 α18 α19 α20 α21 α22 α23 α24 ρ : Type} {o : Option (α1 × α2 × α3 × α4 × α5 × α6 × α7 × α8 × α9 × α10 × α11 × α12 × α13 × α14 × α15 × α16 × α17 × α18 × α19 × α20 × α21 × α22 × α23 × α24)} {k : α1 → α2 → α3 → α4 → α5 → α6 → α7 → α8 → α9 → α10 → α11 → α12 → α13 → α14 → α15 → α16 → α17 → α18 → α19 → α20 → α21 → α22 → α23 → α24 → Option ρ} {x1 : α1} {x2 : α2} {x3 : α3} {x4 : α4} {x5 : α5} {x6 : α6} {x7 : α7} {x8 : α8} {x9 : α9} {x10 : α10} {x11 : α11} {x12 : α12} {x13 : α13} {x14 : α14} {x15 : α15} {x16 : α16} {x17 : α17} {x18 : α18} {x19 : α19} {x20 : α20} {x21 : α21} {x22 : α22} {x23 : α23} {x24 : α24} (h : o = some (x1, x2, x3, x4, x5, x6, x7, x8, x9, x10, x11, x12, x13, x14, x15, x16, x17, x18, x19, x20, x21, x22, x23, x24)) : bd24 o k = k x1 x2 x3 x4 x5 x6 x7 x8 x9 x10 x11 x12 x13 x14 x15 x16 x17 x18 x19 x20 x21 x22 x23 x24 := by rw [h]; rfl
def loop24 {α1 α2 α3 α4 α5 α6 α7 α8 α9 α10 α11 α12 α13 α14 α15 α16 α17 α18 α19 α20 α21 α22 α23 α24 ρ : Type} (b : (α1 → α2 → α3 → α4 → α5 → α6 → α7 → α8 → α9 → α10 → α11 → α12 → α13 → α14 → α15 → α16 → α17 → α18 → α19 → α20 → α21 → α22 → α23 → α24 → Option ρ) → α1 → α2 → α3 → α4 → α5 → α6 → α7 → α8 → α9 → α10 → α11 → α12 → α13 → α14 → α15 → α16 → α17 → α18 → α19 → α20 → α21 → α22 → α23 → α24 → Option ρ) : Nat → α1 → α2 → α3 → α4 → α5 → α6 → α7 → α8 → α9 → α10 → α11 → α12 → α13 → α14 → α15 → α16 → α17 → α18 → α19 → α20 → α21 → α22 → α23 → α24 → Option ρ
  | 0 => fun _ _ _ _ _ _ _ _ _ _ _ _ _ _ _ _ _ _ _ _ _ _ _ _ => none
  | n + 1 => fun x1 x2 x3 x4 x5 x6 x7 x8 x9 x10 x11 x12 x13 x14 x15 x16 x17 x18 x19 x20 x21 x22 x23 x24 => b (loop24 b n) x1 x2 x3 x4 x5 x6 x7 x8 x9 x10 x11 x12 x13 x14 x15 x16 x17 x18 x19 x20 x21 x22 x23 x24
def bd25 {α1 α2 α3 α4 α5 α6 α7 α8 α9 α10 α11 α12 α13 α14 α15 α16 α17 α18 α19 α20 α21 α22 α23 α24 α25 ρ : Type} (o : Option (α1 × α2 × α3 × α4 × α5 × α6 × α7 × α8 × α9 × α10 × α11 × α12 × α13 × α14 × α15 × α16 × α17 × α18 × α19 × α20 × α21 × α22 × α23 × α24 × α25)) (k : α1 → α2 → α3 → α4 → α5 → α6 → α7 → α8 → α9 → α10 → α11 → α12 → α13 → α14 → α15 → α16 → α17 → α18 → α19 → α20 → α21 → α22 → α23 → α24 → α25 → Option ρ) : Option ρ := match o with
  | none => none
  | some (x1, x2, x3, x4, x5, x6, x7, x8, x9, x10, x11, x12, x13, x14, x15, x16, x17, x18, x19, x20, x21, x22, x23, x24, x25) => k x1 x2 x3 x4 x5 x6 x7 x8 x9 x10 x11 x12 x13 x14 x15 x16 x17 x18 x19 x20 x21 x22 x23 x24 x25
theorem bd25_some {α1 α2 α3 α4 α5 α6 α7 α8 α9 α10 α11 α12 α13 α14 α15 α16 α17 α18 α19 α20 α21 α22 α23 α24 α25 ρ : Type} {o : Option (α1 × α2 × α3 × α4 × α5 × α6 × α7 × α8 × α9 × α10 × α11 × α12 × α13 × α14 × α15 × α16 × α17 × α18 × α19 × α20 × α21 × α22 × α23 × α24 × α25)} {k : α1 → α2 → α3 → α4 → α5 → α6 → α7 → α8 → α9 → α10 → α11 → α12 → α13 → α14 → α15 → α16 → α17 → α18 → α19 → α20 → α21 → α22 → α23 → α24 → α25 → Option ρ} {r : ρ} (h : bd25 o k = some r) : ∃ (x1 : α1) (x2 : α2) (x3 : α3) (x4 : α4) (x5 : α5) (x6 : α6) (x7 : α7) (x8 : α8) (x9 : α9) (x10 : α10) (x11 : α11) (x12 : α12) (x13 : α13) (x14 : α14) (x15 : α15) (x16 : α16) (x17 : α17) (x18 : α18) (x19 : α19) (x20 : α20) (x21 : α21) (x22 : α22) (x23 : α23) (x24 : α24) (x25 : α25), o = some (x1, x2, x3, x4, x5, x6, x7, x8, x9, x10, x11, x12, x13, x14, x15, x16, x17, x18, x19, x20, x21, x22, x23, x24, x25) ∧ k x1 x2 x3 x4 x5 x6 x7 x8 x9 x10 x11 x12 x13 x14 x15 x16 x17 x18 x19 x20 x21 x22 x23 x24 x25 = some r := by
  match o, h with
  | some (x1, x2, x3, x4, x5, x6, x7, x8, x9, x10, x11, x12, x13, x14, x15, x16, x17, x18, x19, x20, x21, x22, x23, x24, x25), h => exact ⟨x1, x2, x3, x4, x5, x6, x7, x8, x9, x10, x11, x12, x13, x14, x15, x16, x17, x18, x19, x20, x21, x22, x23, x24, x25, rfl, h⟩
theorem bd25_of {α1 α2 α3 α4 α5 α6 α7 α8 α9 α10 α11 α12 α13 α14 α15 α16 α17 α18 α19 α20 α21 α22 α23 α24 α25 ρ : Type} {o : Option (α1 × α2 × α3 × α4 × α5 × α6 × α7 × α8 × α9 × α10 × α11 × α12 × α13 × α14 × α15 × α16 × α17 × α18 × α19 × α20 × α21 × α22 × α23 × α24 × α25)} {k : α1 → α2 → α3 → α4 → α5 → α6 → α7 → α8 → α9 → α10 → α11 → α12 → α13 → α14 → α15 → α16 → α17 → α18 → α19 → α20 → α21 → α22 → α23 → α24 → α25 → Option ρ} {x1 : α1} {x2 : α2} {x3 : α3} {x4 : α4} {x5 : α5} {x6 : α6} {x7 : α7} {x8 : α8} {x9 : α9} {x10 : α10} {x11 : α11} {x12 : α12} {x13 : α13} {x14 : α14} {x15 : α15} {x16 : α16} {x17 : α17} {x18 : α18} {x19 : α19} {x20 : α20} {x21 : α21} {x22 : α22} {x23 : α23} {x24 : α24} {x25 : α25} (h : o = some (x1, x2, x3, x4, x5, x6, x7, x8, x9, x10, x11, x12, x13, x14, x15, x16, x17, x18, x19, x20, x21, x22, x23, x24, x25)) : bd25 o k = k x1 x2 x3 x4 x5 x6 x7 x8 x9 x10 x11 x12 x13 x14 x15 x16 x17 x18 x19 x20 x21 x22 x23 x24 x25 := by rw [h]; rfl
def loop25 {α1 α2 α3 α4 α5 α6 α7 α8 α9 α10 α11 α12 α13 α14 α15 α16 α17 α18 α19 α20 α21 α22 α23 α24 α25 ρ : Type} (b : (α1 → α2 → α3 → α4 → α5 → α6 → α7 → α8 → α9 → α10 → α11 → α12 → α13 → α14 → α15 → α16 → α17 → α18 → α19 → α20 → α21 → α22 → α23 → α24 → α25 → Option ρ) → α1 → α2 → α3 → α4 → α5 → α6 → α7 → α8 → α9 → α10 → α11 → α12 → α13 → α14 → α15 → α16 → α17 → α18 → α19 → α20 → α21 → α22 → α23 → α24 → α25 → Option ρ) : Nat → α1 → α2 → α3 → α4 → α5 → α6 → α7 → α8 → α9 → α10 → α11 → α12 → α13 → α14 → α15 → α16 → α17 → α18 → α19 → α20 → α21 → α22 → α23 → α24 → α25 → Option ρ
  | 0 => fun _ _ _ _ _ _ _ _ _ _ _ _ _ _ _ _ _ _ _ _ _ _ _ _ _ => none
  | n + 1 => fun x1 x2 x3 x4 x5 x6 x7 x8 x9 x10 x11 x12 x13 x14 x15 x16 x17 x18 x19 x20 x21 x22 x23 x24 x25 => b (loop25 b n) x1 x2 x3 x4 x5 x6 x7 x8 x9 x10 x11 x12 x13 x14 x15 x16 x17 x18 x19 x20 x21 x22 x23 x24 x25
def bd26 {α1 α2 α3 α4 α5 α6 α7 α8 α9 α10 α11 α12 α13 α14 α15 α16 α17 α18 α19 α20 α21 α22 α23 α24 α25 α26 ρ : Type} (o : Option (α1 × α2 × α3 × α4 × α5 × α6 × α7 × α8 × α9 × α10 × α11 × α12 × α13 × α14 × α15 × α16 × α17 × α18 × α19 × α20 × α21 × α22 × α23 × α24 × α25 × α26)) (k : α1 → α2 → α3 → α4 → α5 → α6 → α7 → α8 → α9 → α10 → α11 → α12 → α13 → α14 → α15 → α16 → α17 → α18 → α19 → α20 → α21 → α22 → α23 → α24 → α25 → α26 → Option ρ) : Option ρ := match o with
  | none => none
  | some (x1, x2, x3, x4, x5, x6, x7, x8, x9, x10, x11, x12, x13, x14, x15, x16, x17, x18, x19, x20, x21, x22, x23, x24, x25, x26) => k x1 x2 x3 x4 x5 x6 x7 x8 x9 x10 x11 x12 x13 x14 x15 x16 x17 x18 x19 x20 x21 x22 x23 x24 x25 x26
theorem bd26_some {α1 α2 α3 α4 α5 α6 α7 α8 α9 α10 α11 α12 α13 α14 α15 α16 α17 α18 α19 α20 α21 α22 α23 α24 α25 α26 ρ : Type} {o : Option (α1 × α2 × α3 × α4 × α5 × α6 × α7 × α8 × α9 × α10 × α11 × α12 × α13 × α14 × α15 × α16 × α17 × α18 × α19 × α20 × α21 × α22 × α23 × α24 × α25 × α26)} {k : α1 → α2 → α3 → α4 → α5 → α6 → α7 → α8 → α9 → α10 → α11 → α12 → α13 → α14 → α15 → α16 → α17 → α18 → α19 → α20 → α21 → α22 → α23 → α24 → α25 → α26 → Option ρ} {r : ρ} (h : bd26 o k = some r) : ∃ (x1 : α1) (x2 : α2) (x3 : α3) (x4 : α4) (x5 : α5) (x6 : α6) (x7 : α7) (x8 : α8) (x9 : α9) (x10 : α10) (x11 : α11) (x12 : α12) (x13 : α13) (x14 : α14) (x15 : α15) (x16 : α16) (x17 : α17) (x18 : α18) (x19 : α19) (x20 : α20) (x21 : α21) (x22 : α22) (x23 : α23) (x24 : α24) (x25 : α25) (x26 : α26), o = some (x1, x2, x3, x4, x5, x6, x7, x8, x9, x10, x11, x12, x13, x14, x15, x16, x17, x18, x19, x20, x21, x22, x23, x24, x25, x26) ∧ k x1 x2 x3 x4 x5 x6 x7 x8 x9 x10 x11 x12 x13 x14 x15 x16 x17 x18 x19 x20 x21 x22 x23 x24 x25 x26 = some r := by
  match o, h with
  | some (x1, x2, x3, x4, x5, x6, x7, x8, x9, x10, x11, x12, x13, x14, x15, x16, x17, x18, x19, x20, x21, x22, x23, x24, x25, x26), h => exact ⟨x1, x2, x3, x4, x5, x6, x7, x8, x9, x10, x11, x12, x13, x14, x15, x16, x17, x18, x19, x20, x21, x22, x23, x24, x25, x26, rfl, h⟩
theorem bd26_of {α1 α2 α3 α4 α5 α6 α7 α8 α9 α10 α11 α12 α13 α14 α15 α16 α17 α18 α19 α20 α21 α22 α23 α24 α25 α26 ρ : Type} {o : Option (α1 × α2 × α3 × α4 × α5 × α6 × α7 × α8 × α9 × α10 × α11 × α12 × α13 × α14 × α15 × α16 × α17 × α18 × α19 × α20 × α21 × α22 × α23 × α24 × α25 × α26)} {k : α1 → α2 → α3 → α4 → α5 → α6 → α7 → α8 → α9 → α10 → α11 → α12 → α13 → α14 → α15 → α16 → α17 → α18 → α19 → α20 → α21 → α22 → α23 → α24 → α25 → α26 → Option ρ} {x1 : α1} {x2 : α2} {x3 : α3} {x4 : α4} {x5 : α5} {x6 : α6} {x7 : α7} {x8 : α8} {x9 : α9} {x10 : α10} {x11 : α11} {x12 : α12} {x13 : α13} {x14 : α14} {x15 : α15} {x16 : α16} {x17 : α17} {x18 : α18} {x19 : α19} {x20 : α20} {x21 : α21} {x22 : α22} {x23 : α23} {x24 : α24} {x25 : α25} {x26 : α26} (h : o = some (x1, x2, x3, x4, x5, x6, x7, x8, x9, x10, x11, x12, x13, x14, x15, x16, x17, x18, x19, x20, x21, x22, x23, x24, x25, x26)) : bd26 o k = k x1 x2 x3 x4 x5 x6 x7 x8 x9 x10 x11 x12 x13 x14 x15 x16 x17 x18 x19 x20 x21 x22 x23 x24 x25 x26 := by rw [h]; rfl
def loop26 {α1 α2 α3 α4 α5 α6 α7 α8 α9 α10 α11 α12 α13 α14 α15 α16 α17 α18 α19 α20 α21 α22 α23 α24 α25 α26 ρ : Type} (b : (α1 → α2 → α3 → α4 → α5 → α6 → α7 → α8 → α9 → α10 → α11 → α12 → α13 → α14 → α15 → α16 → α17 → α18 → α19 → α20 → α21 → α22 → α23 → α24 → α25 → α26 → Option ρ) → α1 → α2 → α3 → α4 → α5 → α6 → α7 → α8 → α9 → α10 → α11 → α12 → α13 → α14 → α15 → α16 → α17 → α18 → α19 → α20 → α21 → α22 → α23 → α24 → α25 → α26 → Option ρ) : Nat → α1 → α2 → α3 → α4 → α5 → α6 → α7 → α8 → α9 → α10 → α11 → α12 → α13 → α14 → α15 → α16 → α17 → α18 → α19 → α20 → α21 → α22 → α23 → α24 → α25 → α26 → Option ρ
  | 0 => fun _ _ _ _ _ _ _ _ _ _ _ _ _ _ _ _ _ _ _ _ _ _ _ _ _ _ => none
  | n + 1 => fun x1 x2 x3 x4 x5 x6 x7 x8 x9 x10 x11 x12 x13 x14 x15 x16 x17 x18 x19 x20 x21 x22 x23 x24 x25 x26 => b (loop26 b n) x1 x2 x3 x4 x5 x6 x7 x8 x9 x10 x11 x12 x13 x14 x15 x16 x17 x18 x19 x20 x21 x22 x23 x24 x25 x26
def bd27 {α1 α2 α3 α4 α5 α6 α7 α8 α9 α10 α11 α12 α13 α14 α15 α16 α17 α18 α19 α20 α21 α22 α23 α24 α25 α26 α27 ρ : Type} (o : Option (α1 × α2 × α3 × α4 × α5 × α6 × α7 × α8 × α9 × α10 × α11 × α12 × α13 × α14 × α15 × α16 × α17 × α18 × α19 × α20 × α21 × α22 × α23 × α24 × α25 × α26 × α27)) (k : α1 → α2 → α3 → α4 → α5 → α6 → α7 → α8 → α9 → α10 → α11 → α12 → α13 → α14 → α15 → α16 → α17 → α18 → α19 → α20 → α21 → α22 → α23 → α24 → α25 → α26 → α27 → Option ρ) : Option ρ := match o with
  | none => none
  | some (x1, x2, x3, x4, x5, x6, x7, x8, x9, x10, x11, x12, x13, x14, x15, x16, x17, x18, x19, x20, x21, x22, x23, x24, x25, x26, x27) => k x1 x2 x3 x4 x5 x6 x7 x8 x9 x10 x11 x12 x13 x14 x15 x16 x17 x18 x19 x20 x21 x22 x23 x24 x25 x26 x27
theorem bd27_some {α1 α2 α3 α4 α5 α6 α7 α8 α9 α10 α11 α12 α13 α14 α15 α16 α17 α18 α19 α20 α21 α22 α23 α24 α25 α26 α27 ρ : Type} {o : Option (α1 × α2 × α3 × α4 × α5 × α6 × α7 × α8 × α9 × α10 × α11 × α12 × α13 × α14 × α15 × α16 × α17 × α18 × α19 × α20 × α21 × α22 × α23 × α24 × α25 × α26 × α27)} {k : α1 → α2 → α3 → α4 → α5 → α6 → α7 → α8 → α9 → α10 → α11 → α12 → α13 → α14 → α15 → α16 → α17 → α18 → α19 → α20 → α21 → α22 → α23 → α24 → α25 → α26 → α27 → Option ρ} {r : ρ} (h : bd27 o k = some r) : ∃ (x1 : α1) (x2 : α2) (x3 : α3) (x4 : α4) (x5 : α5) (x6 : α6) (x7 : α7) (x8 : α8) (x9 : α9) (x10 : α10) (x11 : α11) (x12 : α12) (x13 : α13) (x14 : α14) (x15 : α15) (x16 : α16) (x17 : α17) (x18 : α18) (x19 : α19) (x20 : α20) (x21 : α21) (x22 : α22) (x23 : α23) (x24 : α24) (x25 : α25) (x26 : α26) (x27 : α27), o = some (x1, x2, x3, x4, x5, x6, x7, x8, x9, x10, x11, x12, x13, x14, x15, x16, x17, x18, x19, x20, x21, x22, x23, x24, x25, x26, x27) ∧ k x1 x2 x3 x4 x5 x6 x7 x8 x9 x10 x11 x12 x13 x14 x15 x16 x17 x18 x19 x20 x21 x22 x23 x24 x25 x26 x27 = some r := by
  match o, h with
  | some (x1, x2, x3, x4, x5, x6, x7, x8, x9, x10, x11, x12, x13, x14, x15, x16, x17, x18, x19, x20, x21, x22, x23, x24, x25, x26, x27), h => exact ⟨x1, x2, x3, x4, x5, x6, x7, x8, x9, x10, x11, x12, x13, x14, x15, x16, x17, x18, x19, x20, x21, x22, x23, x24, x25, x26, x27, rfl, h⟩
theorem bd27_of {α1 α2 α3 α4 α5 α6 α7 α8 α9 α10 α11 α12 α13 α14 α15 α16 α17 α18 α19 α20 α21 α22 α23 α24 α25 α26 α27 ρ : Type} {o : Option (α1 × α2 × α3 × α4 × α5 × α6 × α7 × α8 × α9 × α10 × α11 × α12 × α13 × α14 × α15 × α16 × α17 × α18 × α19 × α20 × α21 × α22 × α23 × α24 × α25 × α26 × α27)} {k : α1 → α2 → α3 → α4 → α5 → α6 → α7 → α8 → α9 → α10 → α11 → α12 → α13 → α14 → α15 → α16 → α17 → α18 → α19 → α20 → α21 → α22 → α23 → α24 → α25 → α26 → α27 → Option ρ} {x1 : α1} {x2 : α2} {x3 : α3} {x4 : α4} {x5 : α5} {x6 : α6} {x7 : α7} {x8 : α8} {x9 : α9} {x10 : α10} {x11 : α11} {x12 : α12} {x13 : α13} {x14 : α14} {x15 : α15} {x16 : α16} {x17 : α17} {x18 : α18} {x19 : α19} {x20 : α20} {x21 : α21} {x22 : α22} {x23 : α23} {x24 : α24} {x25 : α25} {x26 : α26} {x27 : α27} (h : o = some (x1, x2, x3, x4, x5, x6, x7, x8, x9, x10, x11, x12, x13, x14, x15, x16, x17, x18, x19, x20, x21, x22, x23, x24, x25, x26, x27)) : bd27 o k = k x1 x2 x3 x4 x5 x6 x7 x8 x9 x10 x11 x12 x13 x14 x15 x16 x17 x18 x19 x20 x21 x22 x23 x24 x25 x26 x27 := by rw [h]; rfl
def loop27 {α1 α2 α3 α4 α5 α6 α7 α8 α9 α10 α11 α12 α13 α14 α15 α16 α17 α18 α19 α20 α21 α22 α23 α24 α25 α26 α27 ρ : Type} (b : (α1 → α2 → α3 → α4 → α5 → α6 → α7 → α8 → α9 → α10 → α11 → α12 → α13 → α14 → α15 → α16 → α17 → α18 → α19 → α20 → α21 → α22 → α23 → α24 → α25 → α26 → α27 → Option ρ) → α1 → α2 → α3 → α4 → α5 → α6 → α7 → α8 → α9 → α10 → α11 → α12 → α13 → α14 → α15 → α16 → α17 → α18 → α19 → α20 → α21 → α22 → α23 → α24 → α25 → α26 → α27 → Option ρ) : Nat → α1 → α2 → α3 → α4 → α5 → α6 → α7 → α8 → α9 → α10 → α11 → α12 → α13 → α14 → α15 → α16 → α17 → α18 → α19 → α20 → α21 → α22 → α23 → α24 → α25 → α26 → α27 → Option ρ
  | 0 => fun _ _ _ _ _ _ _ _ _ _ _ _ _ _ _ _ _ _ _ _ _ _ _ _ _ _ _ => none
  | n + 1 => fun x1 x2 x3 x4 x5 x6 x7 x8 x9 x10 x11 x12 x13 x14 x15 x16 x17 x18 x19 x20 x21 x22 x23 x24 x25 x26 x27 => b (loop27 b n) x1 x2 x3 x4 x5 x6 x7 x8 x9 x10 x11 x12 x13 x14 x15 x16 x17 x18 x19 x20 x21 x22 x23 x24 x25 x26 x27
def bd28 {α1 α2 α3 α4 α5 α6 α7 α8 α9 α10 α11 α12 α13 α14 α15 α16 α17 α18 α19 α20 α21 α22 α23 α24 α25 α26 α27 α28 ρ : Type} (o : Option (α1 × α2 × α3 × α4 × α5 × α6 × α7 × α8 × α9 × α10 × α11 × α12 × α13 × α14 × α15 × α16 × α17 × α18 × α19 × α20 × α21 × α22 × α23 × α24 × α25 × α26 × α27 × α28)) (k : α1 → α2 → α3 → α4 → α5 → α6 → α7 → α8 → α9 → α10 → α11 → α12 → α13 → α14 → α15 → α16 → α17 → α18 → α19 → α20 → α21 → α22 → α23 → α24 → α25 → α26 → α27 → α28 → Option ρ) : Option ρ := match o with
  | none => none
  | some (x1, x2, x3, x4, x5, x6, x7, x8, x9, x10, x11, x12, x13, x14, x15, x16, x17, x18, x19, x20, x21, x22, x23, x24, x25, x26, x27, x28) => k x1 x2 x3 x4 x5 x6 x7 x8 x9 x10 x11 x12 x13 x14 x15 x16 x17 x18 x19 x20 x21 x22 x23 x24 x25 x26 x27 x28
theorem bd28_some {α1 α2 α3 α4 α5 α6 α7 α8 α9 α10 α11 α12 α13 α14 α15 α16 α17 α18 α19 α20 α21 α22 α23 α24 α25 α26 α27 α28 ρ : Type} {o : Option (α1 × α2 × α3 × α4 × α5 × α6 × α7 × α8 × α9 × α10 × α11 × α12 × α13 × α14 × α15 × α16 × α17 × α18 × α19 × α20 × α21 × α22 × α23 × α24 × α25 × α26 × α27 × α28)} {k : α1 → α2 → α3 → α4 → α5 → α6 → α7 → α8 → α9 → α10 → α11 → α12 → α13 → α14 → α15 → α16 → α17 → α18 → α19 → α20 → α21 → α22 → α23 → α24 → α25 → α26 → α27 → α28 → Option ρ} {r : ρ} (h : bd28 o k = some r) : ∃ (x1 : α1) (x2 : α2) (x3 : α3) (x4 : α4) (x5 : α5) (x6 : α6) (x7 : α7) (x8 : α8) (x9 : α9) (x10 : α10) (x11 : α11) (x12 : α12) (x13 : α13) (x14 : α14) (x15 : α15) (x16 : α16) (x17 : α17) (x18 : α18) (x19 : α19) (x20 : α20) (x21 : α21) (x22 : α22) (x23 : α23) (x24 : α24) (x25 : α25) (x26 : α26) (x27 : α27) (x28 : α28), o = some (x1, x2, x3, x4, x5, x6, x7, x8, x9, x10, x11, x12, x13, x14, x15, x16, x17, x18, x19, x20, x21, x22, x23, x24, x25, x26, x27, x28) ∧ k x1 x2 x3 x4 x5 x6 x7 x8 x9 x10 x11 x12 x13 x14 x15 x16 x17 x18 x19 x20 x21 x22 x23 x24 x25 x26 x27 x28 = some r := by
  match o, h with
  | some (x1, x2, x3, x4, x5, x6, x7, x8, x9, x10, x11, x12, x13, x14, x15, x16, x17, x18, x19, x20, x21, x22, x23, x24, x25, x26, x27, x28), h => exact ⟨x1, x2, x3, x4, x5, x6, x7, x8, x9, x10, x11, x12, x13, x14, x15, x16, x17, x18, x19, x20, x21, x22, x23, x24, x25, x26, x27, x28, rfl, h⟩
theorem bd28_of {α1 α2 α3 α4 α5 α6 α7 α8 α9 α10 α11 α12 α13 α14 α15 α16 α17 α18 α19 α20 α21 α22 α23 α24 α25 α26 α27 α28 ρ : Type} {o : Option (α1 × α2 × α3 × α4 × α5 × α6 × α7 × α8 × α9 × α10 × α11 × α12 × α13 × α14 × α15 × α16 × α17 × α18 × α19 × α20 × α21 × α22 × α23 × α24 × α25 × α26 × α27 × α28)} {k : α1 → α2 → α3 → α4 → α5 → α6 → α7 → α8 → α9 → α10 → α11 → α12 → α13 → α14 → α15 → α16 → α17 → α18 → α19 → α20 → α21 → α22 → α23 → α24 → α25 → α26 → α27 → α28 → Option ρ} {x1 : α1} {x2 : α2} {x3 : α3} {x4 : α4} {x5 : α5} {x6 : α6} {x7 : α7} {x8 : α8} {x9 : α9} {x10 : α10} {x11 : α11} {x12 : α12} {x13 : α13} {x14 : α14} {x15 : α15} {x16 : α16} {x17 : α17} {x18 : α18} {x19 : α19} {x20 : α20} {x21 : α21} {x22 : α22} {x23 : α23} {x24 : α24} {x25 : α25} {x26 : α26} {x27 : α27} {x28 : α28} (h : o = some (x1, x2, x3, x4, x5, x6, x7, x8, x9, x10, x11, x12, x13, x14, x15, x16, x17, x18, x19, x20, x21, x22, x23, x24, x25, x26, x27, x28)) : bd28 o k = k x1 x2 x3 x4 x5 x6 x7 x8 x9 x10 x11 x12 x13 x14 x15 x16 x17 x18 x19 x20 x21 x22 x23 x24 x25 x26 x27 x28 := by rw [h]; rfl
def loop28 {α1 α2 α3 α4 α5 α6 α7 α8 α9 α10 α11 α12 α13 α14 α15 α16 α17 α18 α19 α20 α21 α22 α23 α24 α25 α26 α27 α28 ρ : Type} (b : (α1 → α2 → α3 → α4 → α5 → α6 → α7 → α8 → α9 → α10 → α11 → α12 → α13 → α14 → α15 → α16 → α17 → α18 → α19 → α20 → α21 → α22 → α23 → α24 → α25 → α26 → α27 → α28 → Option ρ) → α1 → α2 → α3 → α4 → α5 → α6 → α7 → α8 → α9 → α10 → α11 → α12 → α13 → α14 → α15 → α16 → α17 → α18 → α19 → α20 → α21 → α22 → α23 → α24 → α25 → α26 → α27 → α28 → Option ρ) : Nat → α1 → α2 → α3 → α4 → α5 → α6 → α7 → α8 → α9 → α10 → α11 → α12 → α13 → α14 → α15 → α16 → α17 → α18 → α19 → α20 → α21 → α22 → α23 → α24 → α25 → α26 → α27 → α28 → Option ρ
  | 0 => fun _ _ _ _ _ _ _ _ _ _ _ _ _ _ _ _ _ _ _ _ _ _ _ _ _ _ _ _ => none
  | n + 1 => fun x1 x2 x3 x4 x5 x6 x7 x8 x9 x10 x11 x12 x13 x14 x15 x16 x17 x18 x19 x20 x21 x22 x23 x24 x25 x26 x27 x28 => b (loop28 b n) x1 x2 x3 x4 x5 x6 x7 x8 x9 x10 x11 x12 x13 x14 x15 x16 x17 x18 x19 x20 x21 x22 x23 x24 x25 x26 x27 x28
def bd29 {α1 α2 α3 α4 α5 α6 α7 α8 α9 α10 α11 α12 α13 α14 α15 α16 α17 α18 α19 α20 α21 α22 α23 α24 α25 α26 α27 α28 α29 ρ : Type} (o : Option (α1 × α2 × α3 × α4 × α5 × α6 × α7 × α8 × α9 × α10 × α11 × α12 × α13 × α14 × α15 × α16 × α17 × α18 × α19 × α20 × α21 × α22 × α23 × α24 × α25 × α26 × α27 × α28 × α29)) (k : α1 → α2 → α3 → α4 → α5 → α6 → α7 → α8 → α9 → α10 → α11 → α12 → α13 → α14 → α15 → α16 → α17 → α18 → α19 → α20 → α21 → α22 → α23 → α24 → α25 → α26 → α27 → α28 → α29 → Option ρ) : Option ρ := match o with
  | none => none
  | some (x1, x2, x3, x4, x5, x6, x7, x8, x9, x10, x11, x12, x13, x14, x15, x16, x17, x18, x19, x20, x21, x22, x23, x24, x25, x26, x27, x28, x29) => k x1 x2 x3 x4 x5 x6 x7 x8 x9 x10 x11 x12 x13 x14 x15 x16 x17 x18 x19 x20 x21 x22 x23 x24 x25 x26 x27 x28 x29
theorem bd29_some {α1 α2 α3 α4 α5 α6 α7 α8 α9 α10 α11 α12 α13 α14 α15 α16 α17 α18 α19 α20 α21 α22 α23 α24 α25 α26 α27 α28 α29 ρ : Type} {o : Option (α1 × α2 × α3 × α4 × α5 × α6 × α7 × α8 × α9 × α10 × α11 × α12 × α13 × α14 × α15 × α16 × α17 × α18 × α19 × α20 × α21 × α22 × α23 × α24 × α25 × α26 × α27 × α28 × α29)} {k : α1 → α2 → α3 → α4 → α5 → α6 → α7 → α8 → α9 → α10 → α11 → α12 → α13 → α14 → α15 → α16 → α17 → α18 → α19 → α20 → α21 → α22 → α23 → α24 → α25 → α26 → α27 → α28 → α29 → Option ρ} {r : ρ} (h : bd29 o k = some r) : ∃ (x1 : α1) (x2 : α2) (x3 : α3) (x4 : α4) (x5 : α5) (x6 : α6) (x7 : α7) (x8 : α8) (x9 : α9) (x10 : α10) (x11 : α11) (x12 : α12) (x13 : α13) (x14 : α14) (x15 : α15) (x16 : α16) (x17 : α17) (x18 : α18) (x19 : α19) (x20 : α20) (x21 : α21) (x22 : α22) (x23 : α23) (x24 : α24) (x25 : α25) (x26 : α26) (x27 : α27) (x28 : α28) (x29 : α29), o = some (x1, x2, x3, x4, x5, x6, x7, x8, x9, x10, x11, x12, x13, x14, x15, x16, x17, x18, x19, x20, x21, x22, x23, x24, x25, x26, x27, x28, x29) ∧ k x1 x2 x3 x4 x5 x6 x7 x8 x9 x10 x11 x12 x13 x14 x15 x16 x17 x18 x19 x20 x21 x22 x23 x24 x25 x26 x27 x28 x29 = some r := by
  match o, h with
  | some (x1, x2, x3, x4, x5, x6, x7, x8, x9, x10, x11, x12, x13, x14, x15, x16, x17, x18, x19, x20, x21, x22, x23, x24, x25, x26, x27, x28, x29), h => exact ⟨x1, x2, x3, x4, x5, x6, x7, x8, x9, x10, x11, x12, x13, x14, x15, x16, x17, x18, x19, x20, x21, x22, x23, x24, x25, x26, x27, x28, x29, rfl, h⟩
theorem bd29_of {α1 α2 α3 α4 α5 α6 α7 α8 α9 α10 α11 α12 α13 α14 α15 α16 α17 α18 α19 α20 α21 α22 α23 α24 α25 α26 α27 α28 α29 ρ : Type} {o : Option (α1 × α2 × α3 × α4 × α5 × α6 × α7 × α8 × α9 × α10 × α11 × α12 × α13 × α14 × α15 × α16 × α17 × α18 × α19 × α20 × α21 × α22 × α23 × α24 × α25 × α26 × α27 × α28 × α29)} {k : α1 → α2 → α3 → α4 → α5 → α6 → α7 → α8 → α9 → α10 → α11 → α12 → α13 → α14 → α15 → α16 → α17 → α18 → α19 → α20 → α21 → α22 → α23 → α24 → α25 → α26 → α27 → α28 → α29 → Option ρ} {x1 : α1} {x2 : α2} {x3 : α3} {x4 : α4} {x5 : α5} {x6 : α6} {x7 : α7} {x8 : α8} {x9 : α9} {x10 : α10} {x11 : α11} {x12 : α12} {x13 : α13} {x14 : α14} {x15 : α15} {x16 : α16} {x17 : α17} {x18 : α18} {x19 : α19} {x20 : α20} {x21 : α21} {x22 : α22} {x23 : α23} {x24 : α24} {x25 : α25} {x26 : α26} {x27 : α27} {x28 : α28} {x29 : α29} (h : o = some (x1, x2, x3, x4, x5, x6, x7, x8, x9, x10, x11, x12, x13, x14, x15, x16, x17, x18, x19, x20, x21, x22, x23, x24, x25, x26, x27, x28, x29)) : bd29 o k = k x1 x2 x3 x4 x5 x6 x7 x8 x9 x10 x11 x12 x13 x14 x15 x16 x17 x18 x19 x20 x21 x22 x23 x24 x25 x26 x27 x28 x29 := by rw [h]; rfl
def loop29 {α1 α2 α3 α4 α5 α6 α7 α8 α9 α10 α11 α12 α13 α14 α15 α16 α17 α18 α19 α20 α21 α22 α23 α24 α25 α26 α27 α28 α29 ρ : Type} (b : (α1 → α2 → α3 → α4 → α5 → α6 → α7 → α8 → α9 → α10 → α11 → α12 → α13 → α14 → α15 → α16 → α17 → α18 → α19 → α20 → α21 → α22 → α23 → α24 → α25 → α26 → α27 → α28 → α29 → Option ρ) → α1 → α2 → α3 → α4 → α5 → α6 → α7 → α8 → α9 → α10 → α11 → α12 → α13 → α14 → α15 → α16 → α17 → α18 → α19 → α20 → α21 → α22 → α23 → α24 → α25 → α26 → α27 → α28 → α29 → Option ρ) : Nat → α1 → α2 → α3 → α4 → α5 → α6 → α7 → α8 → α9 → α10 → α11 → α12 → α13 → α14 → α15 → α16 → α17 → α18 → α19 → α20 → α21 → α22 → α23 → α24 → α25 → α26 → α27 → α28 → α29 → Option ρ
  | 0 => fun _ _ _ _ _ _ _ _ _ _ _ _ _ _ _ _ _ _ _ _ _ _ _ _ _ _ _ _ _ => none
  | n + 1 => fun x1 x2 x3 x4 x5 x6 x7 x8 x9 x10 x11 x12 x13 x14 x15 x16 x17 x18 x19 x20 x21 x22 x23 x24 x25 x26 x27 x28 x29 => b (loop29 b n) x1 x2 x3 x4 x5 x6 x7 x8 x9 x10 x11 x12 x13 x14 x15 x16 x17 x18 x19 x20 x21 x22 x23 x24 x25 x26 x27 x28 x29
def bd30 {α1 α2 α3 α4 α5 α6 α7 α8 α9 α10 α11 α12 α13 α14 α15 α16 α17 α18 α19 α20 α21 α22 α23 α24 α25 α26 α27 α28 α29 α30 ρ : Type} (o : Option (α1 × α2 × α3 × α4 × α5 × α6 × α7 × α8 × α9 × α10 × α11 × α12 × α13 × α14 × α15 × α16 × α17 × α18 × α19 × α20 × α21 × α22 × α23 × α24 × α25 × α26 × α27 × α28 × α29 × α30)) (k : α1 → α2 → α3 → α4 → α5 → α6 → α7 → α8 → α9 → α10 → α11 → α12 → α13 → α14 → α15 → α16 → α17 → α18 → α19 → α20 → α21 → α22 → α23 → α24 → α25 → α26 → α27 → α28 → α29 → α30 → Option ρ) : Option ρ := match o with
  | none => none
  | some (x1, x2, x3, x4, x5, x6, x7, x8, x9, x10, x11, x12, x13, x14, x15, x16, x17, x18, x19, x20, x21, x22, x23, x24, x25, x26, x27, x28, x29, x30) => k x1 x2 x3 x4 x5 x6 x7 x8 x9 x10 x11 x12 x13 x14 x15 x16 x17 x18 x19 x20 x21 x22 x23 x24 x25 x26 x27 x28 x29 x30
theorem bd30_some {α1 α2 α3 α4 α5 α6 α7 α8 α9 α10 α11 α12 α13 α14 α15 α16 α17 α18 α19 α20 α21 α22 α23 α24 α25 α26 α27 α28 α29 α30 ρ : Type} {o : Option (α1 × α2 × α3 × α4 × α5 × α6 × α7 × α8 × α9 × α10 × α11 × α12 × α13 × α14 × α15 × α16 × α17 × α18 × α19 × α20 × α21 × α22 × α23 × α24 × α25 × α26 × α27 × α28 × α29 × α30)} {k : α1 → α2 → α3 → α4 → α5 → α6 → α7 → α8 → α9 → α10 → α11 → α12 → α13 → α14 → α15 → α16 → α17 → α18 → α19 → α20 → α21 → α22 → α23 → α24 → α25 → α26 → α27 → α28 → α29 → α30 → Option ρ} {r : ρ} (h : bd30 o k = some r) : ∃ (x1 : α1) (x2 : α2) (x3 : α3) (x4 : α4) (x5 : α5) (x6 : α6) (x7 : α7) (x8 : α8) (x9 : α9) (x10 : α10) (x11 : α11) (x12 : α12) (x13 : α13) (x14 : α14) (x15 : α15) (x16 : α16) (x17 : α17) (x18 : α18) (x19 : α19) (x20 : α20) (x21 : α21) (x22 : α22) (x23 : α23) (x24 : α24) (x25 : α25) (x26 : α26) (x27 : α27) (x28 : α28) (x29 : α29) (x30 : α30), o = some (x1, x2, x3, x4, x5, x6, x7, x8, x9, x10, x11, x12, x13, x14, x15, x16, x17, x18, x19, x20, x21, x22, x23, x24, x25, x26, x27, x28, x29, x30) ∧ k x1 x2 x3 x4 x5 x6 x7 x8 x9 x10 x11 x12 x13 x14 x15 x16 x17 x18 x19 x20 x21 x22 x23 x24 x25 x26 x27 x28 x29 x30 = some r := by
  match o, h with
  | some (x1, x2, x3, x4, x5, x6, x7, x8, x9, x10, x11, x12, x13, x14, x15, x16, x17, x18, x19, x20, x21, x22, x23, x24, x25, x26, x27, x28, x29, x30), h => exact ⟨x1, x2, x3, x4, x5, x6, x7, x8, x9, x10, x11, x12, x13, x14, x15, x16, x17, x18, x19, x20, x21, x22, x23, x24, x25, x26, x27, x28, x29, x30, rfl, h⟩
theorem bd30_of {α1 α2 α3 α4 α5 α6 α7 α8 α9 α10 α11 α12 α13 α14 α15 α16 α17 α18 α19 α20 α21 α22 α23 α24 α25 α26 α27 α28 α29 α30 ρ : Type} {o : Option (α1 × α2 × α3 × α4 × α5 × α6 × α7 × α8 × α9 × α10 × α11 × α12 × α13 × α14 × α15 × α16 × α17 × α18 × α19 × α20 × α21 × α22 × α23 × α24 × α25 × α26 × α27 × α28 × α29 × α30)} {k : α1 → α2 → α3 → α4 → α5 → α6 → α7 → α8 → α9 → α10 → α11 → α12 → α13 → α14 → α15 → α16 → α17 → α18 → α19 → α20 → α21 → α22 → α23 → α24 → α25 → α26 → α27 → α28 → α29 → α30 → Option ρ} {x1 : α1} {x2 : α2} {x3 : α3} {x4 : α4} {x5 : α5} {x6 : α6} {x7 : α7} {x8 : α8} {x9 : α9} {x10 : α10} {x11 : α11} {x12 : α12} {x13 : α13} {x14 : α14} {x15 : α15} {x16 : α16} {x17 : α17} {x18 : α18} {x19 : α19} {x20 : α20} {x21 : α21} {x22 : α22} {x23 : α23} {x24 : α24} {x25 : α25} {x26 : α26} {x27 : α27} {x28 : α28} {x29 : α29} {x30 : α30} (h : o = some (x1, x2, x3, x4, x5, x6, x7, x8, x9, x10, x11, x12, x13, x14, x15, x16, x17, x18, x19, x20, x21, x22, x23, x24, x25, x26, x27, x28, x29, x30)) : bd30 o k = k x1 x2 x3 x4 x5 x6 x7 x8 x9 x10 x11 x12 x13 x14 x15 x16 x17 x18 x19 x20 x21 x22 x23 x24 x25 x26 x27 x28 x29 x30 := by rw [h]; rfl
def loop30 {α1 α2 α3 α4 α5 α6 α7 α8 α9 α10 α11 α12 α13 α14 α15 α16 α17 α18 α19 α20 α21 α22 α23 α24 α25 α26 α27 α28 α29 α30 ρ : Type} (b : (α1 → α2 → α3 → α4 → α5 → α6 → α7 → α8 → α9 → α10 → α11 → α12 → α13 → α14 → α15 → α16 → α17 → α18 → α19 → α20 → α21 → α22 → α23 → α24 → α25 → α26 → α27 → α28 → α29 → α30 → Option ρ) → α1 → α2 → α3 → α4 → α5 → α6 → α7 → α8 → α9 → α10 → α11 → α12 → α13 → α14 → α15 → α16 → α17 → α18 → α19 → α20 → α21 → α22 → α23 → α24 → α25 → α26 → α27 → α28 → α29 → α30 → Option ρ) : Nat → α1 → α2 → α3 → α4 → α5 → α6 → α7 → α8 → α9 → α10 → α11 → α12 → α13 → α14 → α15 → α16 → α17 → α18 → α19 → α20 → α21 → α22 → α23 → α24 → α25 → α26 → α27 → α28 → α29 → α30 → Option ρ
  | 0 => fun _ _ _ _ _ _ _ _ _ _ _ _ _ _ _ _ _ _ _ _ _ _ _ _ _ _ _ _ _ _ => none
  | n + 1 => fun x1 x2 x3 x4 x5 x6 x7 x8 x9 x10 x11 x12 x13 x14 x15 x16 x17 x18 x19 x20 x21 x22 x23 x24 x25 x26 x27 x28 x29 x30 => b (loop30 b n) x1 x2 x3 x4 x5 x6 x7 x8 x9 x10 x11 x12 x13 x14 x15 x16 x17 x18 x19 x20 x21 x22 x23 x24 x25 x26 x27 x28 x29 x30
def bd31 {α1 α2 α3 α4 α5 α6 α7 α8 α9 α10 α11 α12 α13 α14 α15 α16 α17 α18 α19 α20 α21 α22 α23 α24 α25 α26 α27 α28 α29 α30 α31 ρ : Type} (o : Option (α1 × α2 × α3 × α4 × α5 × α6 × α7 × α8 × α9 × α10 × α11 × α12 × α13 × α14 × α15 × α16 × α17 × α18 × α19 × α20 × α21 × α22 × α23 × α24 × α25 × α26 × α27 × α28 × α29 × α30 × α31)) (k : α1 → α2 → α3 → α4 → α5 → α6 → α7 → α8 → α9 → α10 → α11 → α12 → α13 → α14 → α15 → α16 → α17 → α18 → α19 → α20 → α21 → α22 → α23 → α24 → α25 → α26 → α27 → α28 → α29 → α30 → α31 → Option ρ) : Option ρ := match o with
  | none => none
  | some (x1, x2, x3, x4, x5, x6, x7, x8, x9, x10, x11, x12, x13, x14, x15, x16, x17, x18, x19, x20, x21, x22, x23, x24, x25, x26, x27, x28, x29, x30, x31) => k x1 x2 x3 x4 x5 x6 x7 x8 x9 x10 x11 x12 x13 x14 x15 x16 x17 x18 x19 x20 x21 x22 x23 x24 x25 x26 x27 x28 x29 x30 x31
theorem bd31_some {α1 α2 α3 α4 α5 α6 α7 α8 α9 α10 α11 α12 α13 α14 α15 α16 α17 α18 α19 α20 α21 α22 α23 α24 α25 α26 α27 α28 α29 α30 α31 ρ : Type} {o : Option (α1 × α2 × α3 × α4 × α5 × α6 × α7 × α8 × α9 × α10 × α11 × α12 × α13 × α14 × α15 × α16 × α17 × α18 × α19 × α20 × α21 × α22 × α23 × α24 × α25 × α26 × α27 × α28 × α29 × α30 × α31)} {k : α1 → α2 → α3 → α4 → α5 → α6 → α7 → α8 → α9 → α10 → α11 → α12 → α13 → α14 → α15 → α16 → α17 → α18 → α19 → α20 → α21 → α22 → α23 → α24 → α25 → α26 → α27 → α28 → α29 → α30 → α31 → Option ρ} {r : ρ} (h : bd31 o k = some r) : ∃ (x1 : α1) (x2 : α2) (x3 : α3) (x4 : α4) (x5 : α5) (x6 : α6) (x7 : α7) (x8 : α8) (x9 : α9) (x10 : α10) (x11 : α11) (x12 : α12) (x13 : α13) (x14 : α14) (x15 : α15) (x16 : α16) (x17 : α17) (x18 : α18) (x19 : α19) (x20 : α20) (x21 : α21) (x22 : α22) (x23 : α23) (x24 : α24) (x25 : α25) (x26 : α26) (x27 : α27) (x28 : α28) (x29 : α29) (x30 : α30) (x31 : α31), o = some (x1, x2, x3, x4, x5, x6, x7, x8, x9, x10, x11, x12, x13, x14, x15, x16, x17, x18, x19, x20, x21, x22, x23, x24, x25, x26, x27, x28, x29, x30, x31) ∧ k x1 x2 x3 x4 x5 x6 x7 x8 x9 x10 x11 x12 x13 x14 x15 x16 x17 x18 x19 x20 x21 x22 x23 x24 x25 x26 x27 x28 x29 x30 x31 = some r := by
  match o, h with
  | some (x1, x2, x3, x4, x5, x6, x7, x8, x9, x10, x11, x12, x13, x14, x15, x16, x17, x18, x19, x20, x21, x22, x23, x24, x25, x26, x27, x28, x29, x30, x31), h => exact ⟨x1, x2, x3, x4, x5, x6, x7, x8, x9, x10, x11, x12, x13, x14, x15, x16, x17, x18, x19, x20, x21, x22, x23, x24, x25, x26, x27, x28, x29, x30, x31, rfl, h⟩
theorem bd31_of {α1 α2 α3 α4 α5 α6 α7 α8 α9 α10 α11 α12 α13 α14 α15 α16 α17 α18 α19 α20 α21 α22 α23 α24 α25 α26 α27 α28 α29 α30 α31 ρ : Type} {o : Option (α1 × α2 × α3 × α4 × α5 × α6 × α7 × α8 × α9 × α10 × α11 × α12 × α13 × α14 × α15 × α16 × α17 × α18 × α19 × α20 × α21 × α22 × α23 × α24 × α25 × α26 × α27 × α28 × α29 × α30 × α31)} {k : α1 → α2 → α3 → α4 → α5 → α6 → α7 → α8 → α9 → α10 → α11 → α12 → α13 → α14 → α15 → α16 → α17 → α18 → α19 → α20 → α21 → α22 → α23 → α24 → α25 → α26 → α27 → α28 → α29 → α30 → α31 → Option ρ} {x1 : α1} {x2 : α2} {x3 : α3} {x4 : α4} {x5 : α5} {x6 : α6} {x7 : α7} {x8 : α8} {x9 : α9} {x10 : α10} {x11 : α11} {x12 : α12} {x13 : α13} {x14 : α14} {x15 : α15} {x16 : α16} {x17 : α17} {x18 : α18} {x19 : α19} {x20 : α20} {x21 : α21} {x22 : α22} {x23 : α23} {x24 : α24} {x25 : α25} {x26 : α26} {x27 : α27} {x28 : α28} {x29 : α29} {x30 : α30} {x31 : α31} (h : o = some (x1, x2, x3, x4, x5, x6, x7, x8, x9, x10, x11, x12, x13, x14, x15, x16, x17, x18, x19, x20, x21, x22, x23, x24, x25, x26, x27, x28, x29, x30, x31)) : bd31 o k = k x1 x2 x3 x4 x5 x6 x7 x8 x9 x10 x11 x12 x13 x14 x15 x16 x17 x18 x19 x20 x21 x22 x23 x24 x25 x26 x27 x28 x29 x30 x31 := by rw [h]; rfl
def loop31 {α1 α2 α3 α4 α5 α6 α7 α8 α9 α10 α11 α12 α13 α14 α15 α16 α17 α18 α19 α20 α21 α22 α23 α24 α25 α26 α27 α28 α29 α30 α31 ρ : Type} (b : (α1 → α2 → α3 → α4 → α5 → α6 → α7 → α8 → α9 → α10 → α11 → α12 → α13 → α14 → α15 → α16 → α17 → α18 → α19 → α20 → α21 → α22 → α23 → α24 → α25 → α26 → α27 → α28 → α29 → α30 → α31 → Option ρ) → α1 → α2 → α3 → α4 → α5 → α6 → α7 → α8 → α9 → α10 → α11 → α12 → α13 → α14 → α15 → α16 → α17 → α18 → α19 → α20 → α21 → α22 → α23 → α24 → α25 → α26 → α27 → α28 → α29 → α30 → α31 → Option ρ) : Nat → α1 → α2 → α3 → α4 → α5 → α6 → α7 → α8 → α9 → α10 → α11 → α12 → α13 → α14 → α15 → α16 → α17 → α18 → α19 → α20 → α21 → α22 → α23 → α24 → α25 → α26 → α27 → α28 → α29 → α30 → α31 → Option ρ
  | 0 => fun _ _ _ _ _ _ _ _ _ _ _ _ _ _ _ _ _ _ _ _ _ _ _ _ _ _ _ _ _ _ _ => none
  | n + 1 => fun x1 x2 x3 x4 x5 x6 x7 x8 x9 x10 x11 x12 x13 x14 x15 x16 x17 x18 x19 x20 x21 x22 x23 x24 x25 x26 x27 x28 x29 x30 x31 => b (loop31 b n) x1 x2 x3 x4 x5 x6 x7 x8 x9 x10 x11 x12 x13 x14 x15 x16 x17 x18 x19 x20 x21 x22 x23 x24 x25 x26 x27 x28 x29 x30 x31
def bd32 {α1 α2 α3 α4 α5 α6 α7 α8 α9 α10 α11 α12 α13 α14 α15 α16 α17 α18 α19 α20 α21 α22 α23 α24 α25 α26 α27 α28 α29 α30 α31 α32 ρ : Type} (o : Option (α1 × α2 × α3 × α4 × α5 × α6 × α7 × α8 × α9 × α10 × α11 × α12 × α13 × α14 × α15 × α16 × α17 × α18 × α19 × α20 × α21 × α22 × α23 × α24 × α25 × α26 × α27 × α28 × α29 × α30 × α31 × α32)) (k : α1 → α2 → α3 → α4 → α5 → α6 → α7 → α8 → α9 → α10 → α11 → α12 → α13 → α14 → α15 → α16 → α17 → α18 → α19 → α20 → α21 → α22 → α23 → α24 → α25 → α26 → α27 → α28 → α29 → α30 → α31 → α32 → Option ρ) : Option ρ := match o with
  | none => none
  | some (x1, x2, x3, x4, x5, x6, x7, x8, x9, x10, x11, x12, x13, x14, x15, x16, x17, x18, x19, x20, x21, x22, x23, x24, x25, x26, x27, x28, x29, x30, x31, x32) => k x1 x2 x3 x4 x5 x6 x7 x8 x9 x10 x11 x12 x13 x14 x15 x16 x17 x18 x19 x20 x21 x22 x23 x24 x25 x26 x27 x28 x29 x30 x31 x32
theorem bd32_some {α1 α2 α3 α4 α5 α6 α7 α8 α9 α10 α11 α12 α13 α14 α15 α16 α17 α18 α19 α20 α21 α22 α23 α24 α25 α26 α27 α28 α29 α30 α31 α32 ρ : Type} {o : Option (α1 × α2 × α3 × α4 × α5 × α6 × α7 × α8 × α9 × α10 × α11 × α12 × α13 × α14 × α15 × α16 × α17 × α18 × α19 × α20 × α21 × α22 × α23 × α24 × α25 × α26 × α27 × α28 × α29 × α30 × α31 × α32)} {k : α1 → α2 → α3 → α4 → α5 → α6 → α7 → α8 → α9 → α10 → α11 → α12 → α13 → α14 → α15 → α16 → α17 → α18 → α19 → α20 → α21 → α22 → α23 → α24 → α25 → α26 → α27 → α28 → α29 → α30 → α31 → α32 → Option ρ} {r : ρ} (h : bd32 o k = some r) : ∃ (x1 : α1) (x2 : α2) (x3 : α3) (x4 : α4) (x5 : α5) (x6 : α6) (x7 : α7) (x8 : α8) (x9 : α9) (x10 : α10) (x11 : α11) (x12 : α12) (x13 : α13) (x14 : α14) (x15 : α15) (x16 : α16) (x17 : α17) (x18 : α18) (x19 : α19) (x20 : α20) (x21 : α21) (x22 : α22) (x23 : α23) (x24 : α24) (x25 : α25) (x26 : α26) (x27 : α27) (x28 : α28) (x29 : α29) (x30 : α30) (x31 : α31) (x32 : α32), o = some (x1, x2, x3, x4, x5, x6, x7, x8, x9, x10, x11, x12, x13, x14, x15, x16, x17, x18, x19, x20, x21, x22, x23, x24, x25, x26, x27, x28, x29, x30, x31, x32) ∧ k x1 x2 x3 x4 x5 x6 x7 x8 x9 x10 x11 x12 x13 x14 x15 x16 x17 x18 x19 x20 x21 x22 x23 x24 x25 x26 x27 x28 x29 x30 x31 x32 = some r := by
  match o, h with
  | some (x1, x2, x3, x4, x5, x6, x7, x8, x9, x10, x11, x12, x13, x14, x15, x16, x17, x18, x19, x20, x21, x22, x23, x24, x25, x26, x27, x28, x29, x30, x31, x32), h => exact ⟨x1, x2, x3, x4, x5, x6, x7, x8, x9, x10, x11, x12, x13, x14, x15, x16, x17, x18, x19, x20, x21, x22, x23, x24, x25, x26, x27, x28, x29, x30, x31, x32, rfl, h⟩
theorem bd32_of {α1 α2 α3 α4 α5 α6 α7 α8 α9 α10 α11 α12 α13 α14 α15 α16 α17 α18 α19 α20 α21 α22 α23 α24 α25 α26 α27 α28 α29 α30 α31 α32 ρ : Type} {o : Option (α1 × α2 × α3 × α4 × α5 × α6 × α7 × α8 × α9 × α10 × α11 × α12 × α13 × α14 × α15 × α16 × α17 × α18 × α19 × α20 × α21 × α22 × α23 × α24 × α25 × α26 × α27 × α28 × α29 × α30 × α31 × α32)} {k : α1 → α2 → α3 → α4 → α5 → α6 → α7 → α8 → α9 → α10 → α11 → α12 → α13 → α14 → α15 → α16 → α17 → α18 → α19 → α20 → α21 → α22 → α23 → α24 → α25 → α26 → α27 → α28 → α29 → α30 → α31 → α32 → Option ρ} {x1 : α1} {x2 : α2} {x3 : α3} {x4 : α4} {x5 : α5} {x6 : α6} {x7 : α7} {x8 : α8} {x9 : α9} {x10 : α10} {x11 : α11} {x12 : α12} {x13 : α13} {x14 : α14} {x15 : α15} {x16 : α16} {x17 : α17} {x18 : α18} {x19 : α19} {x20 : α20} {x21 : α21} {x22 : α22} {x23 : α23} {x24 : α24} {x25 : α25} {x26 : α26} {x27 : α27} {x28 : α28} {x29 : α29} {x30 : α30} {x31 : α31} {x32 : α32} (h : o = some (x1, x2, x3, x4, x5, x6, x7, x8, x9, x10, x11, x12, x13, x14, x15, x16, x17, x18, x19, x20, x21, x22, x23, x24, x25, x26, x27, x28, x29, x30, x31, x32)) : bd32 o k = k x1 x2 x3 x4 x5 x6 x7 x8 x9 x10 x11 x12 x13 x14 x15 x16 x17 x18 x19 x20 x21 x22 x23 x24 x25 x26 x27 x28 x29 x30 x31 x32 := by rw [h]; rfl
def loop32 {α1 α2 α3 α4 α5 α6 α7 α8 α9 α10 α11 α12 α13 α14 α15 α16 α17 α18 α19 α20 α21 α22 α23 α24 α25 α26 α27 α28 α29 α30 α31 α32 ρ : Type} (b : (α1 → α2 → α3 → α4 → α5 → α6 → α7 → α8 → α9 → α10 → α11 → α12 → α13 → α14 → α15 → α16 → α17 → α18 → α19 → α20 → α21 → α22 → α23 → α24 → α25 → α26 → α27 → α28 → α29 → α30 → α31 → α32 → Option ρ) → α1 → α2 → α3 → α4 → α5 → α6 → α7 → α8 → α9 → α10 → α11 → α12 → α13 → α14 → α15 → α16 → α17 → α18 → α19 → α20 → α21 → α22 → α23 → α24 → α25 → α26 → α27 → α28 → α29 → α30 → α31 → α32 → Option ρ) : Nat → α1 → α2 → α3 → α4 → α5 → α6 → α7 → α8 → α9 → α10 → α11 → α12 → α13 → α14 → α15 → α16 → α17 → α18 → α19 → α20 → α21 → α22 → α23 → α24 → α25 → α26 → α27 → α28 → α29 → α30 → α31 → α32 → Option ρ
  | 0 => fun _ _ _ _ _ _ _ _ _ _ _ _ _ _ _ _ _ _ _ _ _ _ _ _ _ _ _ _ _ _ _ _ => none
  | n + 1 => fun x1 x2 x3 x4 x5 x6 x7 x8 x9 x10 x11 x12 x13 x14 x15 x16 x17 x18 x19 x20 x21 x22 x23 x24 x25 x26 x27 x28 x29 x30 x31 x32 => b (loop32 b n) x1 x2 x3 x4 x5 x6 x7 x8 x9 x10 x11 x12 x13 x14 x15 x16 x17 x18 x19 x20 x21 x22 x23 x24 x25 x26 x27 x28 x29 x30 x31 x32
def bd33 {α1 α2 α3 α4 α5 α6 α7 α8 α9 α10 α11 α12 α13 α14 α15 α16 α17 α18 α19 α20 α21 α22 α23 α24 α25 α26 α27 α28 α29 α30 α31 α32 α33 ρ : Type} (o : Option (α1 × α2 × α3 × α4 × α5 × α6 × α7 × α8 × α9 × α10 × α11 × α12 × α13 × α14 × α15 × α16 × α17 × α18 × α19 × α20 × α21 × α22 × α23 × α24 × α25 × α26 × α27 × α28 × α29 × α30 × α31 × α32 × α33)) (k : α1 → α2 → α3 → α4 → α5 → α6 → α7 → α8 → α9 → α10 → α11 → α12 → α13 → α14 → α15 → α16 → α17 → α18 → α19 → α20 → α21 → α22 → α23 → α24 → α25 → α26 → α27 → α28 → α29 → α30 → α31 → α32 → α33 → Option ρ) : Option ρ := match o with
  | none => none
  | some (x1, x2, x3, x4, x5, x6, x7, x8, x9, x10, x11, x12, x13, x14, x15, x16, x17, x18, x19, x20, x21, x22, x23, x24, x25, x26, x27, x28, x29, x30, x31, x32, x33) => k x1 x2 x3 x4 x5 x6 x7 x8 x9 x10 x11 x12 x13 x14 x15 x16 x17 x18 x19 x20 x21 x22 x23 x24 x25 x26 x27 x28 x29 x30 x31 x32 x33
theorem bd33_some {α1 α2 α3 α4 α5 α6 α7 α8 α9 α10 α11 α12 α13 α14 α15 α16 α17 α18 α19 α20 α21 α22 α23 α24 α25 α26 α27 α28 α29 α30 α31 α32 α33 ρ : Type} {o : Option (α1 × α2 × α3 × α4 × α5 × α6 × α7 × α8 × α9 × α10 × α11 × α12 × α13 × α14 × α15 × α16 × α17 × α18 × α19 × α20 × α21 × α22 × α23 × α24 × α25 × α26 × α27 × α28 × α29 × α30 × α31 × α32 × α33)} {k : α1 → α2 → α3 → α4 → α5 → α6 → α7 → α8 → α9 → α10 → α11 → α12 → α13 → α14 → α15 → α16 → α17 → α18 → α19 → α20 → α21 → α22 → α23 → α24 → α25 → α26 → α27 → α28 → α29 → α30 → α31 → α32 → α33 → Option ρ} {r : ρ} (h : bd33 o k = some r) : ∃ (x1 : α1) (x2 : α2) (x3 : α3) (x4 : α4) (x5 : α5) (x6 : α6) (x7 : α7) (x8 : α8) (x9 : α9) (x10 : α10) (x11 : α11) (x12 : α12) (x13 : α13) (x14 : α14) (x15 : α15) (x16 : α16) (x17 : α17) (x18 : α18) (x19 : α19) (x20 : α20) (x21 : α21) (x22 : α22) (x23 : α23) (x24 : α24) (x25 : α25) (x26 : α26) (x27 : α27) (x28 : α28) (x29 : α29) (x30 : α30) (x31 : α31) (x32 : α32) (x33 : α33), o = some (x1, x2, x3, x4, x5, x6, x7, x8, x9, x10, x11, x12, x13, x14, x15, x16, x17, x18, x19, x20, x21, x22, x23, x24, x25, x26, x27, x28, x29, x30, x31, x32, x33) ∧ k x1 x2 x3 x4 x5 x6 x7 x8 x9 x10 x11 x12 x13 x14 x15 x16 x17 x18 x19 x20 x21 x22 x23 x24 x25 x26 x27 x28 x29 x30 x31 x32 x33 = some r := by
  match o, h with
  | some (x1, x2, x3, x4, x5, x6, x7, x8, x9, x10, x11, x12, x13, x14, x15, x16, x17, x18, x19, x20, x21, x22, x23, x24, x25, x26, x27, x28, x29, x30, x31, x32, x33), h => exact ⟨x1, x2, x3, x4, x5, x6, x7, x8, x9, x10, x11, x12, x13, x14, x15, x16, x17, x18, x19, x20, x21, x22, x23, x24, x25, x26, x27, x28, x29, x30, x31, x32, x33, rfl, h⟩
theorem bd33_of {α1 α2 α3 α4 α5 α6 α7 α8 α9 α10 α11 α12 α13 α14 α15 α16 α17 α18 α19 α20 α21 α22 α23 α24 α25 α26 α27 α28 α29 α30 α31 α32 α33 ρ : Type} {o : Option (α1 × α2 × α3 × α4 × α5 × α6 × α7 × α8 × α9 × α10 × α11 × α12 × α13 × α14 × α15 × α16 × α17 × α18 × α19 × α20 × α21 × α22 × α23 × α24 × α25 × α26 × α27 × α28 × α29 × α30 × α31 × α32 × α33)} {k : α1 → α2 → α3 → α4 → α5 → α6 → α7 → α8 → α9 → α10 → α11 → α12 → α13 → α14 → α15 → α16 → α17 → α18 → α19 → α20 → α21 → α22 → α23 → α24 → α25 → α26 → α27 → α28 → α29 → α30 → α31 → α32 → α33 → Option ρ} {x1 : α1} {x2 : α2} {x3 : α3} {x4 : α4} {x5 : α5} {x6 : α6} {x7 : α7} {x8 : α8} {x9 : α9} {x10 : α10} {x11 : α11} {x12 : α12} {x13 : α13} {x14 : α14} {x15 : α15} {x16 : α16} {x17 : α17} {x18 : α18} {x19 : α19} {x20 : α20} {x21 : α21} {x22 : α22} {x23 : α23} {x24 : α24} {x25 : α25} {x26 : α26} {x27 : α27} {x28 : α28} {x29 : α29} {x30 : α30} {x31 : α31} {x32 : α32} {x33 : α33} (h : o = some (x1, x2, x3, x4, x5, x6, x7, x8, x9, x10, x11, x12, x13, x14, x15, x16, x17, x18, x19, x20, x21, x22, x23, x24, x25, x26, x27, x28, x29, x30, x31, x32, x33)) : bd33 o k = k x1 x2 x3 x4 x5 x6 x7 x8 x9 x10 x11 x12 x13 x14 x15 x16 x17 x18 x19 x20 x21 x22 x23 x24 x25 x26 x27 x28 x29 x30 x31 x32 x33 := by rw [h]; rfl
def loop33 {α1 α2 α3 α4 α5 α6 α7 α8 α9 α10 α11 α12 α13 α14 α15 α16 α17 α18 α19 α20 α21 α22 α23 α24 α25 α26 α27 α28 α29 α30 α31 α32 α33 ρ : Type} (b : (α1 → α2 → α3 → α4 → α5 → α6 → α7 → α8 → α9 → α10 → α11 → α12 → α13 → α14 → α15 → α16 → α17 → α18 → α19 → α20 → α21 → α22 → α23 → α24 → α25 → α26 → α27 → α28 → α29 → α30 → α31 → α32 → α33 → Option ρ) → α1 → α2 → α3 → α4 → α5 → α6 → α7 → α8 → α9 → α10 → α11 → α12 → α13 → α14 → α15 → α16 → α17 → α18 → α19 → α20 → α21 → α22 → α23 → α24 → α25 → α26 → α27 → α28 → α29 → α30 → α31 → α32 → α33 → Option ρ) : Nat → α1 → α2 → α3 → α4 → α5 → α6 → α7 → α8 → α9 → α10 → α11 → α12 → α13 → α14 → α15 → α16 → α17 → α18 → α19 → α20 → α21 → α22 → α23 → α24 → α25 → α26 → α27 → α28 → α29 → α30 → α31 → α32 → α33 → Option ρ
  | 0 => fun _ _ _ _ _ _ _ _ _ _ _ _ _ _ _ _ _ _ _ _ _ _ _ _ _ _ _ _ _ _ _ _ _ => none
  | n + 1 => fun x1 x2 x3 x4 x5 x6 x7 x8 x9 x10 x11 x12 x13 x14 x15 x16 x17 x18 x19 x20 x21 x22 x23 x24 x25 x26 x27 x28 x29 x30 x31 x32 x33 => b (loop33 b n) x1 x2 x3 x4 x5 x6 x7 x8 x9 x10 x11 x12 x13 x14 x15 x16 x17 x18 x19 x20 x21 x22 x23 x24 x25 x26 x27 x28 x29 x30 x31 x32 x33
def bd34 {α1 α2 α3 α4 α5 α6 α7 α8 α9 α10 α11 α12 α13 α14 α15 α16 α17 α18 α19 α20 α21 α22 α23 α24 α25 α26 α27 α28 α29 α30 α31 α32 α33 α34 ρ : Type} (o : Option (α1 × α2 × α3 × α4 × α5 × α6 × α7 × α8 × α9 × α10 × α11 × α12 × α13 × α14 × α15 × α16 × α17 × α18 × α19 × α20 × α21 × α22 × α23 × α24 × α25 × α26 × α27 × α28 × α29 × α30 × α31 × α32 × α33 × α34)) (k : α1 → α2 → α3 → α4 → α5 → α6 → α7 → α8 → α9 → α10 → α11 → α12 → α13 → α14 → α15 → α16 → α17 → α18 → α19 → α20 → α21 → α22 → α23 → α24 → α25 → α26 → α27 → α28 → α29 → α30 → α31 → α32 → α33 → α34 → Option ρ) : Option ρ := match o with
  | none => none
  | some (x1, x2, x3, x4, x5, x6, x7, x8, x9, x10, x11, x12, x13, x14, x15, x16, x17, x18, x19, x20, x21, x22, x23, x24, x25, x26, x27, x28, x29, x30, x31, x32, x33, x34) => k x1 x2 x3 x4 x5 x6 x7 x8 x9 x10 x11 x12 x13 x14 x15 x16 x17 x18 x19 x20 x21 x22 x23 x24 x25 x26 x27 x28 x29 x30 x31 x32 x33 x34
theorem bd34_some {α1 α2 α3 α4 α5 α6 α7 α8 α9 α10 α11 α12 α13 α14 α15 α16 α17 α18 α19 α20 α21 α22 α23 α24 α25 α26 α27 α28 α29 α30 α31 α32 α33 α34 ρ : Type} {o : Option (α1 × α2 × α3 × α4 × α5 × α6 × α7 × α8 × α9 × α10 × α11 × α12 × α13 × α14 × α15 × α16 × α17 × α18 × α19 × α20 × α21 × α22 × α23 × α24 × α25 × α26 × α27 × α28 × α29 × α30 × α31 × α32 × α33 × α34)} {k : α1 → α2 → α3 → α4 → α5 → α6 → α7 → α8 → α9 → α10 → α11 → α12 → α13 → α14 → α15 → α16 → α17 → α18 → α19 → α20 → α21 → α22 → α23 → α24 → α25 → α26 → α27 → α28 → α29 → α30 → α31 → α32 → α33 → α34 → Option ρ} {r : ρ} (h : bd34 o k = some r) : ∃ (x1 : α1) (x2 : α2) (x3 : α3) (x4 : α4) (x5 : α5) (x6 : α6) (x7 : α7) (x8 : α8) (x9 : α9) (x10 : α10) (x11 : α11) (x12 : α12) (x13 : α13) (x14 : α14) (x15 : α15) (x16 : α16) (x17 : α17) (x18 : α18) (x19 : α19) (x20 : α20) (x21 : α21) (x22 : α22) (x23 : α23) (x24 : α24) (x25 : α25) (x26 : α26) (x27 : α27) (x28 : α28) (x29 : α29) (x30 : α30) (x31 : α31) (x32 : α32) (x33 : α33) (x34 : α34), o = some (x1, x2, x3, x4, x5, x6, x7, x8, x9, x10, x11, x12, x13, x14, x15, x16, x17, x18, x19, x20, x21, x22, x23, x24, x25, x26, x27, x28, x29, x30, x31, x32, x33, x34) ∧ k x1 x2 x3 x4 x5 x6 x7 x8 x9 x10 x11 x12 x13 x14 x15 x16 x17 x18 x19 x20 x21 x22 x23 x24 x25 x26 x27 x28 x29 x30 x31 x32 x33 x34 = some r := by
  match o, h with
  | some (x1, x2, x3, x4, x5, x6, x7, x8, x9, x10, x11, x12, x13, x14, x15, x16, x17, x18, x19, x20, x21, x22, x23, x24, x25, x26, x27, x28, x29, x30, x31, x32, x33, x34), h => exact ⟨x1, x2, x3, x4, x5, x6, x7, x8, x9, x10, x11, x12, x13, x14, x15, x16, x17, x18, x19, x20, x21, x22, x23, x24, x25, x26, x27, x28, x29, x30, x31, x32, x33, x34, rfl, h⟩
theorem bd34_of {α1 α2 α3 α4 α5 α6 α7 α8 α9 α10 α11 α12 α13 α14 α15 α16 α17 α18 α19 α20 α21 α22 α23 α24 α25 α26 α27 α28 α29 α30 α31 α32 α33 α34 ρ : Type} {o : Option (α1 × α2 × α3 × α4 × α5 × α6 × α7 × α8 × α9 × α10 × α11 × α12 × α13 × α14 × α15 × α16 × α17 × α18 × α19 × α20 × α21 × α22 × α23 × α24 × α25 × α26 × α27 × α28 × α29 × α30 × α31 × α32 × α33 × α34)} {k : α1 → α2 → α3 → α4 → α5 → α6 → α7 → α8 → α9 → α10 → α11 → α12 → α13 → α14 → α15 → α16 → α17 → α18 → α19 → α20 → α21 → α22 → α23 → α24 → α25 → α26 → α27 → α28 → α29 → α30 → α31 → α32 → α33 → α34 → Option ρ} {x1 : α1} {x2 : α2} {x3 : α3} {x4 : α4} {x5 : α5} {x6 : α6} {x7 : α7} {x8 : α8} {x9 : α9} {x10 : α10} {x11 : α11} {x12 : α12} {x13 : α13} {x14 : α14} {x15 : α15} {x16 : α16} {x17 : α17} {x18 : α18} {x19 : α19} {x20 : α20} {x21 : α21} {x22 : α22} {x23 : α23} {x24 : α24} {x25 : α25} {x26 : α26} {x27 : α27} {x28 : α28} {x29 : α29} {x30 : α30} {x31 : α31} {x32 : α32} {x33 : α33} {x34 : α34} (h : o = some (x1, x2, x3, x4, x5, x6, x7, x8, x9, x10, x11, x12, x13, x14, x15, x16, x17, x18, x19, x20, x21, x22, x23, x24, x25, x26, x27, x28, x29, x30, x31, x32, x33, x34)) : bd34 o k = k x1 x2 x3 x4 x5 x6 x7 x8 x9 x10 x11 x12 x13 x14 x15 x16 x17 x18 x19 x20 x21 x22 x23 x24 x25 x26 x27 x28 x29 x30 x31 x32 x33 x34 := by rw [h]; rfl
def loop34 {α1 α2 α3 α4 α5 α6 α7 α8 α9 α10 α11 α12 α13 α14 α15 α16 α17 α18 α19 α20 α21 α22 α23 α24 α25 α26 α27 α28 α29 α30 α31 α32 α33 α34 ρ : Type} (b : (α1 → α2 → α3 → α4 → α5 → α6 → α7 → α8 → α9 → α10 → α11 → α12 → α13 → α14 → α15 → α16 → α17 → α18 → α19 → α20 → α21 → α22 → α23 → α24 → α25 → α26 → α27 → α28 → α29 → α30 → α31 → α32 → α33 → α34 → Option ρ) → α1 → α2 → α3 → α4 → α5 → α6 → α7 → α8 → α9 → α10 → α11 → α12 → α13 → α14 → α15 → α16 → α17 → α18 → α19 → α20 → α21 → α22 → α23 → α24 → α25 → α26 → α27 → α28 → α29 → α30 → α31 → α32 → α33 → α34 → Option ρ) : Nat → α1 → α2 → α3 → α4 → α5 → α6 → α7 → α8 → α9 → α10 → α11 → α12 → α13 → α14 → α15 → α16 → α17 → α18 → α19 → α20 → α21 → α22 → α23 → α24 → α25 → α26 → α27 → α28 → α29 → α30 → α31 → α32 → α33 → α34 → Option ρ
  | 0 => fun _ _ _ _ _ _ _ _ _ _ _ _ _ _ _ _ _ _ _ _ _ _ _ _ _ _ _ _ _ _ _ _ _ _ => none
  | n + 1 => fun x1 x2 x3 x4 x5 x6 x7 x8 x9 x10 x11 x12 x13 x14 x15 x16 x17 x18 x19 x20 x21 x22 x23 x24 x25 x26 x27 x28 x29 x30 x31 x32 x33 x34 => b (loop34 b n) x1 x2 x3 x4 x5 x6 x7 x8 x9 x10 x11 x12 x13 x14 x15 x16 x17 x18 x19 x20 x21 x22 x23 x24 x25 x26 x27 x28 x29 x30 x31 x32 x33 x34
def bd35 {α1 α2 α3 α4 α5 α6 α7 α8 α9 α10 α11 α12 α13 α14 α15 α16 α17 α18 α19 α20 α21 α22 α23 α24 α25 α26 α27 α28 α29 α30 α31 α32 α33 α34 α35 ρ : Type} (o : Option (α1 × α2 × α3 × α4 × α5 × α6 × α7 × α8 × α9 × α10 × α11 × α12 × α13 × α14 × α15 × α16 × α17 × α18 × α19 × α20 × α21 × α22 × α23 × α24 × α25 × α26 × α27 × α28 × α29 × α30 × α31 × α32 × α33 × α34 × α35)) (k : α1 → α2 → α3 → α4 → α5 → α6 → α7 → α8 → α9 → α10 → α11 → α12 → α13 → α14 → α15 → α16 → α17 → α18 → α19 → α20 → α21 → α22 → α23 → α24 → α25 → α26 → α27 → α28 → α29 → α30 → α31 → α32 → α33 → α34 → α35 → Option ρ) : Option ρ := match o with
  | none => none
  | some (x1, x2, x3, x4, x5, x6, x7, x8, x9, x10, x11, x12, x13, x14, x15, x16, x17, x18, x19, x20, x21, x22, x23, x24, x25, x26, x27, x28, x29, x30, x31, x32, x33, x34, x35) => k x1 x2 x3 x4 x5 x6 x7 x8 x9 x10 x11 x12 x13 x14 x15 x16 x17 x18 x19 x20 x21 x22 x23 x24 x25 x26 x27 x28 x29 x30 x31 x32 x33 x34 x35
theorem bd35_some {α1 α2 α3 α4 α5 α6 α7 α8 α9 α10 α11 α12 α13 α14 α15 α16 α17 α18 α19 α20 α21 α22 α23 α24 α25 α26 α27 α28 α29 α30 α31 α32 α33 α34 α35 ρ : Type} {o : Option (α1 × α2 × α3 × α4 × α5 × α6 × α7 × α8 × α9 × α10 × α11 × α12 × α13 × α14 × α15 × α16 × α17 × α18 × α19 × α20 × α21 × α22 × α23 × α24 × α25 × α26 × α27 × α28 × α29 × α30 × α31 × α32 × α33 × α34 × α35)} {k : α1 → α2 → α3 → α4 → α5 → α6 → α7 → α8 → α9 → α10 → α11 → α12 → α13 → α14 → α15 → α16 → α17 → α18 → α19 → α20 → α21 → α22 → α23 → α24 → α25 → α26 → α27 → α28 → α29 → α30 → α31 → α32 → α33 → α34 → α35 → Option ρ} {r : ρ} (h : bd35 o k = some r) : ∃ (x1 : α1) (x2 : α2) (x3 : α3) (x4 : α4) (x5 : α5) (x6 : α6) (x7 : α7) (x8 : α8) (x9 : α9) (x10 : α10) (x11 : α11) (x12 : α12) (x13 : α13) (x14 : α14) (x15 : α15) (x16 : α16) (x17 : α17) (x18 : α18) (x19 : α19) (x20 : α20) (x21 : α21) (x22 : α22) (x23 : α23) (x24 : α24) (x25 : α25) (x26 : α26) (x27 : α27) (x28 : α28) (x29 : α29) (x30 : α30) (x31 : α31) (x32 : α32) (x33 : α33) (x34 : α34) (x35 : α35), o = some (x1, x2, x3, x4, x5, x6, x7, x8, x9, x10, x11, x12, x13, x14, x15, x16, x17, x18, x19, x20, x21, x22, x23, x24, x25, x26, x27, x28, x29, x30, x31, x32, x33, x34, x35) ∧ k x1 x2 x3 x4 x5 x6 x7 x8 x9 x10 x11 x12 x13 x14 x15 x16 x17 x18 x19 x20 x21 x22 x23 x24 x25 x26 x27 x28 x29 x30 x31 x32 x33 x34 x35 = some r := by
  match o, h with
  | some (x1, x2, x3, x4, x5, x6, x7, x8, x9, x10, x11, x12, x13, x14, x15, x16, x17, x18, x19, x20, x21, x22, x23, x24, x25, x26, x27, x28, x29, x30, x31, x32, x33, x34, x35), h => exact ⟨x1, x2, x3, x4, x5, x6, x7, x8, x9, x10, x11, x12, x13, x14, x15, x16, x17, x18, x19, x20, x21, x22, x23, x24, x25, x26, x27, x28, x29, x30, x31, x32, x33, x34, x35, rfl, h⟩
theorem bd35_of {α1 α2 α3 α4 α5 α6 α7 α8 α9 α10 α11 α12 α13 α14 α15 α16 α17 α18 α19 α20 α21 α22 α23 α24 α25 α26 α27 α28 α29 α30 α31 α32 α33 α34 α35 ρ : Type} {o : Option (α1 × α2 × α3 × α4 × α5 × α6 × α7 × α8 × α9 × α10 × α11 × α12 × α13 × α14 × α15 × α16 × α17 × α18 × α19 × α20 × α21 × α22 × α23 × α24 × α25 × α26 × α27 × α28 × α29 × α30 × α31 × α32 × α33 × α34 × α35)} {k : α1 → α2 → α3 → α4 → α5 → α6 → α7 → α8 → α9 → α10 → α11 → α12 → α13 → α14 → α15 → α16 → α17 → α18 → α19 → α20 → α21 → α22 → α23 → α24 → α25 → α26 → α27 → α28 → α29 → α30 → α31 → α32 → α33 → α34 → α35 → Option ρ} {x1 : α1} {x2 : α2} {x3 : α3} {x4 : α4} {x5 : α5} {x6 : α6} {x7 : α7} {x8 : α8} {x9 : α9} {x10 : α10} {x11 : α11} {x12 : α12} {x13 : α13} {x14 : α14} {x15 : α15} {x16 : α16} {x17 : α17} {x18 : α18} {x19 : α19} {x20 : α20} {x21 : α21} {x22 : α22} {x23 : α23} {x24 : α24} {x25 : α25} {x26 : α26} {x27 : α27} {x28 : α28} {x29 : α29} {x30 : α30} {x31 : α31} {x32 : α32} {x33 : α33} {x34 : α34} {x35 : α35} (h : o = some (x1, x2, x3, x4, x5, x6, x7, x8, x9, x10, x11, x12, x13, x14, x15, x16, x17, x18, x19, x20, x21, x22, x23, x24, x25, x26, x27, x28, x29, x30, x31, x32, x33, x34, x35)) : bd35 o k = k x1 x2 x3 x4 x5 x6 x7 x8 x9 x10 x11 x12 x13 x14 x15 x16 x17 x18 x19 x20 x21 x22 x23 x24 x25 x26 x27 x28 x29 x30 x31 x32 x33 x34 x35 := by rw [h]; rfl
def loop35 {α1 α2 α3 α4 α5 α6 α7 α8 α9 α10 α11 α12 α13 α14 α15 α16 α17 α18 α19 α20 α21 α22 α23 α24 α25 α26 α27 α28 α29 α30 α31 α32 α33 α34 α35 ρ : Type} (b : (α1 → α2 → α3 → α4 → α5 → α6 → α7 → α8 → α9 → α10 → α11 → α12 → α13 → α14 → α15 → α16 → α17 → α18 → α19 → α20 → α21 → α22 → α23 → α24 → α25 → α26 → α27 → α28 → α29 → α30 → α31 → α32 → α33 → α34 → α35 → Option ρ) → α1 → α2 → α3 → α4 → α5 → α6 → α7 → α8 → α9 → α10 → α11 → α12 → α13 → α14 → α15 → α16 → α17 → α18 → α19 → α20 → α21 → α22 → α23 → α24 → α25 → α26 → α27 → α28 → α29 → α30 → α31 → α32 → α33 → α34 → α35 → Option ρ) : Nat → α1 → α2 → α3 → α4 → α5 → α6 → α7 → α8 → α9 → α10 → α11 → α12 → α13 → α14 → α15 → α16 → α17 → α18 → α19 → α20 → α21 → α22 → α23 → α24 → α25 → α26 → α27 → α28 → α29 → α30 → α31 → α32 → α33 → α34 → α35 → Option ρ
  | 0 => fun _ _ _ _ _ _ _ _ _ _ _ _ _ _ _ _ _ _ _ _ _ _ _ _ _ _ _ _ _ _ _ _ _ _ _ => none
  | n + 1 => fun x1 x2 x3 x4 x5 x6 x7 x8 x9 x10 x11 x12 x13 x14 x15 x16 x17 x18 x19 x20 x21 x22 x23 x24 x25 x26 x27 x28 x29 x30 x31 x32 x33 x34 x35 => b (loop35 b n) x1 x2 x3 x4 x5 x6 x7 x8 x9 x10 x11 x12 x13 x14 x15 x16 x17 x18 x19 x20 x21 x22 x23 x24 x25 x26 x27 x28 x29 x30 x31 x32 x33 x34 x35
def bd36 {α1 α2 α3 α4 α5 α6 α7 α8 α9 α10 α11 α12 α13 α14 α15 α16 α17 α18 α19 α20 α21 α22 α23 α24 α25 α26 α27 α28 α29 α30 α31 α32 α33 α34 α35 α36 ρ : Type} (o : Option (α1 × α2 × α3 × α4 × α5 × α6 × α7 × α8 × α9 × α10 × α11 × α12 × α13 × α14 × α15 × α16 × α17 × α18 × α19 × α20 × α21 × α22 × α23 × α24 × α25 × α26 × α27 × α28 × α29 × α30 × α31 × α32 × α33 × α34 × α35 × α36)) (k : α1 → α2 → α3 → α4 → α5 → α6 → α7 → α8 → α9 → α10 → α11 → α12 → α13 → α14 → α15 → α16 → α17 → α18 → α19 → α20 → α21 → α22 → α23 → α24 → α25 → α26 → α27 → α28 → α29 → α30 → α31 → α32 → α33 → α34 → α35 → α36 → Option ρ) : Option ρ := match o with
  | none => none
  | some (x1, x2, x3, x4, x5, x6, x7, x8, x9, x10, x11, x12, x13, x14, x15, x16, x17, x18, x19, x20, x21, x22, x23, x24, x25, x26, x27, x28, x29, x30, x31, x32, x33, x34, x35, x36) => k x1 x2 x3 x4 x5 x6 x7 x8 x9 x10 x11 x12 x13 x14 x15 x16 x17 x18 x19 x20 x21 x22 x23 x24 x25 x26 x27 x28 x29 x30 x31 x32 x33 x34 x35 x36
theorem bd36_some {α1 α2 α3 α4 α5 α6 α7 α8 α9 α10 α11 α12 α13 α14 α15 α16 α17 α18 α19 α20 α21 α22 α23 α24 α25 α26 α27 α28 α29 α30 α31 α32 α33 α34 α35 α36 ρ : Type} {o : Option (α1 × α2 × α3 × α4 × α5 × α6 × α7 × α8 × α9 × α10 × α11 × α12 × α13 × α14 × α15 × α16 × α17 × α18 × α19 × α20 × α21 × α22 × α23 × α24 × α25 × α26 × α27 × α28 × α29 × α30 × α31 × α32 × α33 × α34 × α35 × α36)} {k : α1 → α2 → α3 → α4 → α5 → α6 → α7 → α8 → α9 → α10 → α11 → α12 → α13 → α14 → α15 → α16 → α17 → α18 → α19 → α20 → α21 → α22 → α23 → α24 → α25 → α26 → α27 → α28 → α29 → α30 → α31 → α32 → α33 → α34 → α35 → α36 → Option ρ} {r : ρ} (h : bd36 o k = some r) : ∃ (x1 : α1) (x2 : α2) (x3 : α3) (x4 : α4) (x5 : α5) (x6 : α6) (x7 : α7) (x8 : α8) (x9 : α9) (x10 : α10) (x11 : α11) (x12 : α12) (x13 : α13) (x14 : α14) (x15 : α15) (x16 : α16) (x17 : α17) (x18 : α18) (x19 : α19) (x20 : α20) (x21 : α21) (x22 : α22) (x23 : α23) (x24 : α24) (x25 : α25) (x26 : α26) (x27 : α27) (x28 : α28) (x29 : α29) (x30 : α30) (x31 : α31) (x32 : α32) (x33 : α33) (x34 : α34) (x35 : α35) (x36 : α36), o = some (x1, x2, x3, x4, x5, x6, x7, x8, x9, x10, x11, x12, x13, x14, x15, x16, x17, x18, x19, x20, x21, x22, x23, x24, x25, x26, x27, x28, x29, x30, x31, x32, x33, x34, x35, x36) ∧ k x1 x2 x3 x4 x5 x6 x7 x8 x9 x10 x11 x12 x13 x14 x15 x16 x17 x18 x19 x20 x21 x22 x23 x24 x25 x26 x27 x28 x29 x30 x31 x32 x33 x34 x35 x36 = some r := by
  match o, h with
  | some (x1, x2, x3, x4, x5, x6, x7, x8, x9, x10, x11, x12, x13, x14, x15, x16, x17, x18, x19, x20, x21, x22, x23, x24, x25, x26, x27, x28, x29, x30, x31, x32, x33, x34, x35, x36), h => exact ⟨x1, x2, x3, x4, x5, x6, x7, x8, x9, x10, x11, x12, x13, x14, x15, x16, x17, x18, x19, x20, x21, x22, x23, x24, x25, x26, x27, x28, x29, x30, x31, x32, x33, x34, x35, x36, rfl, h⟩
theorem bd36_of {α1 α2 α3 α4 α5 α6 α7 α8 α9 α10 α11 α12 α13 α14 α15 α16 α17 α18 α19 α20 α21 α22 α23 α24 α25 α26 α27 α28 α29 α30 α31 α32 α33 α34 α35 α36 ρ : Type} {o : Option (α1 × α2 × α3 × α4 × α5 × α6 × α7 × α8 × α9 × α10 × α11 × α12 × α13 × α14 × α15 × α16 × α17 × α18 × α19 × α20 × α21 × α22 × α23 × α24 × α25 × α26 × α27 × α28 × α29 × α30 × α31 × α32 × α33 × α34 × α35 × α36)} {k : α1 → α2 → α3 → α4 → α5 → α6 → α7 → α8 → α9 → α10 → α11 → α12 → α13 → α14 → α15 → α16 → α17 → α18 → α19 → α20 → α21 → α22 → α23 → α24 → α25 → α26 → α27 → α28 → α29 → α30 → α31 → α32 → α33 → α34 → α35 → α36 → Option ρ} {x1 : α1} {x2 : α2} {x3 : α3} {x4 : α4} {x5 : α5} {x6 : α6} {x7 : α7} {x8 : α8} {x9 : α9} {x10 : α10} {x11 : α11} {x12 : α12} {x13 : α13} {x14 : α14} {x15 : α15} {x16 : α16} {x17 : α17} {x18 : α18} {x19 : α19} {x20 : α20} {x21 : α21} {x22 : α22} {x23 : α23} {x24 : α24} {x25 : α25} {x26 : α26} {x27 : α27} {x28 : α28} {x29 : α29} {x30 : α30} {x31 : α31} {x32 : α32} {x33 : α33} {x34 : α34} {x35 : α35} {x36 : α36} (h : o = some (x1, x2, x3, x4, x5, x6, x7, x8, x9, x10, x11, x12, x13, x14, x15, x16, x17, x18, x19, x20, x21, x22, x23, x24, x25, x26, x27, x28, x29, x30, x31, x32, x33, x34, x35, x36)) : bd36 o k = k x1 x2 x3 x4 x5 x6 x7 x8 x9 x10 x11 x12 x13 x14 x15 x16 x17 x18 x19 x20 x21 x22 x23 x24 x25 x26 x27 x28 x29 x30 x31 x32 x33 x34 x35 x36 := by rw [h]; rfl
def loop36 {α1 α2 α3 α4 α5 α6 α7 α8 α9 α10 α11 α12 α13 α14 α15 α16 α17 α18 α19 α20 α21 α22 α23 α24 α25 α26 α27 α28 α29 α30 α31 α32 α33 α34 α35 α36 ρ : Type} (b : (α1 → α2 → α3 → α4 → α5 → α6 → α7 → α8 → α9 → α10 → α11 → α12 → α13 → α14 → α15 → α16 → α17 → α18 → α19 → α20 → α21 → α22 → α23 → α24 → α25 → α26 → α27 → α28 → α29 → α30 → α31 → α32 → α33 → α34 → α35 → α36 → Option ρ) → α1 → α2 → α3 → α4 → α5 → α6 → α7 → α8 → α9 → α10 → α11 → α12 → α13 → α14 → α15 → α16 → α17 → α18 → α19 → α20 → α21 → α22 → α23 → α24 → α25 → α26 → α27 → α28 → α29 → α30 → α31 → α32 → α33 → α34 → α35 → α36 → Option ρ) : Nat → α1 → α2 → α3 → α4 → α5 → α6 → α7 → α8 → α9 → α10 → α11 → α12 → α13 → α14 → α15 → α16 → α17 → α18 → α19 → α20 → α21 → α22 → α23 → α24 → α25 → α26 → α27 → α28 → α29 → α30 → α31 → α32 → α33 → α34 → α35 → α36 → Option ρ
  | 0 => fun _ _ _ _ _ _ _ _ _ _ _ _ _ _ _ _ _ _ _ _ _ _ _ _ _ _ _ _ _ _ _ _ _ _ _ _ => none
  | n + 1 => fun x1 x2 x3 x4 x5 x6 x7 x8 x9 x10 x11 x12 x13 x14 x15 x16 x17 x18 x19 x20 x21 x22 x23 x24 x25 x26 x27 x28 x29 x30 x31 x32 x33 x34 x35 x36 => b (loop36 b n) x1 x2 x3 x4 x5 x6 x7 x8 x9 x10 x11 x12 x13 x14 x15 x16 x17 x18 x19 x20 x21 x22 x23 x24 x25 x26 x27 x28 x29 x30 x31 x32 x33 x34 x35 x36
def bd37 {α1 α2 α3 α4 α5 α6 α7 α8 α9 α10 α11 α12 α13 α14 α15 α16 α17 α18 α19 α20 α21 α22 α23 α24 α25 α26 α27 α28 α29 α30 α31 α32 α33 α34 α35 α36 α37 ρ : Type} (o : Option (α1 × α2 × α3 × α4 × α5 × α6 × α7 × α8 × α9 × α10 × α11 × α12 × α13 × α14 × α15 × α16 × α17 × α18 × α19 × α20 × α21 × α22 × α23 × α24 × α25 × α26 × α27 × α28 × α29 × α30 × α31 × α32 × α33 × α34 × α35 × α36 × α37)) (k : α1 → α2 → α3 → α4 → α5 → α6 → α7 → α8 → α9 → α10 → α11 → α12 → α13 → α14 → α15 → α16 → α17 → α18 → α19 → α20 → α21 → α22 → α23 → α24 → α25 → α26 → α27 → α28 → α29 → α30 → α31 → α32 → α33 → α34 → α35 → α36 → α37 → Option ρ) : Option ρ := match o with
  | none => none
  | some (x1, x2, x3, x4, x5, x6, x7, x8, x9, x10, x11, x12, x13, x14, x15, x16, x17, x18, x19, x20, x21, x22, x23, x24, x25, x26, x27, x28, x29, x30, x31, x32, x33, x34, x35, x36, x37) => k x1 x2 x3 x4 x5 x6 x7 x8 x9 x10 x11 x12 x13 x14 x15 x16 x17 x18 x19 x20 x21 x22 x23 x24 x25 x26 x27 x28 x29 x30 x31 x32 x33 x34 x35 x36 x37
theorem bd37_some {α1 α2 α3 α4 α5 α6 α7 α8 α9 α10 α11 α12 α13 α14 α15 α16 α17 α18 α19 α20 α21 α22 α23 α24 α25 α26 α27 α28 α29 α30 α31 α32 α33 α34 α35 α36 α37 ρ : Type} {o : Option (α1 × α2 × α3 × α4 × α5 × α6 × α7 × α8 × α9 × α10 × α11 × α12 × α13 × α14 × α15 × α16 × α17 × α18 × α19 × α20 × α21 × α22 × α23 × α24 × α25 × α26 × α27 × α28 × α29 × α30 × α31 × α32 × α33 × α34 × α35 × α36 × α37)} {k : α1 → α2 → α3 → α4 → α5 → α6 → α7 → α8 → α9 → α10 → α11 → α12 → α13 → α14 → α15 → α16 → α17 → α18 → α19 → α20 → α21 → α22 → α23 → α24 → α25 → α26 → α27 → α28 → α29 → α30 → α31 → α32 → α33 → α34 → α35 → α36 → α37 → Option ρ} {r : ρ} (h : bd37 o k = some r) : ∃ (x1 : α1) (x2 : α2) (x3 : α3) (x4 : α4) (x5 : α5) (x6 : α6) (x7 : α7) (x8 : α8) (x9 : α9) (x10 : α10) (x11 : α11) (x12 : α12) (x13 : α13) (x14 : α14) (x15 : α15) (x16 : α16) (x17 : α17) (x18 : α18) (x19 : α19) (x20 : α20) (x21 : α21) (x22 : α22) (x23 : α23) (x24 : α24) (x25 : α25) (x26 : α26) (x27 : α27) (x28 : α28) (x29 : α29) (x30 : α30) (x31 : α31) (x32 : α32) (x33 : α33) (x34 : α34) (x35 : α35) (x36 : α36) (x37 : α37), o = some (x1, x2, x3, x4, x5, x6, x7, x8, x9, x10, x11, x12, x13, x14, x15, x16, x17, x18, x19, x20, x21, x22, x23, x24, x25, x26, x27, x28, x29, x30, x31, x32, x33, x34, x35, x36, x37) ∧ k x1 x2 x3 x4 x5 x6 x7 x8 x9 x10 x11 x12 x13 x14 x15 x16 x17 x18 x19 x20 x21 x22 x23 x24 x25 x26 x27 x28 x29 x30 x31 x32 x33 x34 x35 x36 x37 = some r := by
  match o, h with
  | some (x1, x2, x3, x4, x5, x6, x7, x8, x9, x10, x11, x12, x13, x14, x15, x16, x17, x18, x19, x20, x21, x22, x23, x24, x25, x26, x27, x28, x29, x30, x31, x32, x33, x34, x35, x36, x37), h => exact ⟨x1, x2, x3, x4, x5, x6, x7, x8, x9, x10, x11, x12, x13, x14, x15, x16, x17, x18, x19, x20, x21, x22, x23, x24, x25, x26, x27, x28, x29, x30, x31, x32, x33, x34, x35, x36, x37, rfl, h⟩
theorem bd37_of {α1 α2 α3 α4 α5 α6 α7 α8 α9 α10 α11 α12 α13 α14 α15 α16 α17 α18 α19 α20 α21 α22 α23 α24 α25 α26 α27 α28 α29 α30 α31 α32 α33 α34 α35 α36 α37 ρ : Type} {o : Option (α1 × α2 × α3 × α4 × α5 × α6 × α7 × α8 × α9 × α10 × α11 × α12 × α13 × α14 × α15 × α16 × α17 × α18 × α19 × α20 × α21 × α22 × α23 × α24 × α25 × α26 × α27 × α28 × α29 × α30 × α31 × α32 × α33 × α34 × α35 × α36 × α37)} {k : α1 → α2 → α3 → α4 → α5 → α6 → α7 → α8 → α9 → α10 → α11 → α12 → α13 → α14 → α15 → α16 → α17 → α18 → α19 → α20 → α21 → α22 → α23 → α24 → α25 → α26 → α27 → α28 → α29 → α30 → α31 → α32 → α33 → α34 → α35 → α36 → α37 → Option ρ} {x1 : α1} {x2 : α2} {x3 : α3} {x4 : α4} {x5 : α5} {x6 : α6} {x7 : α7} {x8 : α8} {x9 : α9} {x10 : α10} {x11 : α11} {x12 : α12} {x13 : α13} {x14 : α14} {x15 : α15} {x16 : α16} {x17 : α17} {x18 : α18} {x19 : α19} {x20 : α20} {x21 : α21} {x22 : α22} {x23 : α23} {x24 : α24} {x25 : α25} {x26 : α26} {x27 : α27} {x28 : α28} {x29 : α29} {x30 : α30} {x31 : α31} {x32 : α32} {x33 : α33} {x34 : α34} {x35 : α35} {x36 : α36} {x37 : α37} (h : o = some (x1, x2, x3, x4, x5, x6, x7, x8, x9, x10, x11, x12, x13, x14, x15, x16, x17, x18, x19, x20, x21, x22, x23, x24, x25, x26, x27, x28, x29, x30, x31, x32, x33, x34, x35, x36, x37)) : bd37 o k = k x1 x2 x3 x4 x5 x6 x7 x8 x9 x10 x11 x12 x13 x14 x15 x16 x17 x18 x19 x20 x21 x22 x23 x24 x25 x26 x27 x28 x29 x30 x31 x32 x33 x34 x35 x36 x37 := by rw [h]; rfl
def loop37 {α1 α2 α3 α4 α5 α6 α7 α8 α9 α10 α11 α12 α13 α14 α15 α16 α17 α18 α19 α20 α21 α22 α23 α24 α25 α26 α27 α28 α29 α30 α31 α32 α33 α34 α35 α36 α37 ρ : Type} (b : (α1 → α2 → α3 → α4 → α5 → α6 → α7 → α8 → α9 → α10 → α11 → α12 → α13 → α14 → α15 → α16 → α17 → α18 → α19 → α20 → α21 → α22 → α23 → α24 → α25 → α26 → α27 → α28 → α29 → α30 → α31 → α32 → α33 → α34 → α35 → α36 → α37 → Option ρ) → α1 → α2 → α3 → α4 → α5 → α6 → α7 → α8 → α9 → α10 → α11 → α12 → α13 → α14 → α15 → α16 → α17 → α18 → α19 → α20 → α21 → α22 → α23 → α24 → α25 → α26 → α27 → α28 → α29 → α30 → α31 → α32 → α33 → α34 → α35 → α36 → α37 → Option ρ) : Nat → α1 → α2 → α3 → α4 → α5 → α6 → α7 → α8 → α9 → α10 → α11 → α12 → α13 → α14 → α15 → α16 → α17 → α18 → α19 → α20 → α21 → α22 → α23 → α24 → α25 → α26 → α27 → α28 → α29 → α30 → α31 → α32 → α33 → α34 → α35 → α36 → α37 → Option ρ
  | 0 => fun _ _ _ _ _ _ _ _ _ _ _ _ _ _ _ _ _ _ _ _ _ _ _ _ _ _ _ _ _ _ _ _ _ _ _ _ _ => none
  | n + 1 => fun x1 x2 x3 x4 x5 x6 x7 x8 x9 x10 x11 x12 x13 x14 x15 x16 x17 x18 x19 x20 x21 x22 x23 x24 x25 x26 x27 x28 x29 x30 x31 x32 x33 x34 x35 x36 x37 => b (loop37 b n) x1 x2 x3 x4 x5 x6 x7 x8 x9 x10 x11 x12 x13 x14 x15 x16 x17 x18 x19 x20 x21 x22 x23 x24 x25 x26 x27 x28 x29 x30 x31 x32 x33 x34 x35 x36 x37
def bd38 {α1 α2 α3 α4 α5 α6 α7 α8 α9 α10 α11 α12 α13 α14 α15 α16 α17 α18 α19 α20 α21 α22 α23 α24 α25 α26 α27 α28 α29 α30 α31 α32 α33 α34 α35 α36 α37 α38 ρ : Type} (o : Option (α1 × α2 × α3 × α4 × α5 × α6 × α7 × α8 × α9 × α10 × α11 × α12 × α13 × α14 × α15 × α16 × α17 × α18 × α19 × α20 × α21 × α22 × α23 × α24 × α25 × α26 × α27 × α28 × α29 × α30 × α31 × α32 × α33 × α34 × α35 × α36 × α37 × α38)) (k : α1 → α2 → α3 → α4 → α5 → α6 → α7 → α8 → α9 → α10 → α11 → α12 → α13 → α14 → α15 → α16 → α17 → α18 → α19 → α20 → α21 → α22 → α23 → α24 → α25 → α26 → α27 → α28 → α29 → α30 → α31 → α32 → α33 → α34 → α35 → α36 → α37 → α38 → Option ρ) : Option ρ := match o with
  | none => none
  | some (x1, x2, x3, x4, x5, x6, x7, x8, x9, x10, x11, x12, x13, x14, x15, x16, x17, x18, x19, x20, x21, x22, x23, x24, x25, x26, x27, x28, x29, x30, x31, x32, x33, x34, x35, x36, x37, x38) => k x1 x2 x3 x4 x5 x6 x7 x8 x9 x10 x11 x12 x13 x14 x15 x16 x17 x18 x19 x20 x21 x22 x23 x24 x25 x26 x27 x28 x29 x30 x31 x32 x33 x34 x35 x36 x37 x38
theorem bd38_some {α1 α2 α3 α4 α5 α6 α7 α8 α9 α10 α11 α12 α13 α14 α15 α16 α17 α18 α19 α20 α21 α22 α23 α24 α25 α26 α27 α28 α29 α30 α31 α32 α33 α34 α35 α36 α37 α38 ρ : Type} {o : Option (α1 × α2 × α3 × α4 × α5 × α6 × α7 × α8 × α9 × α10 × α11 × α12 × α13 × α14 × α15 × α16 × α17 × α18 × α19 × α20 × α21 × α22 × α23 × α24 × α25 × α26 × α27 × α28 × α29 × α30 × α31 × α32 × α33 × α34 × α35 × α36 × α37 × α38)} {k : α1 → α2 → α3 → α4 → α5 → α6 → α7 → α8 → α9 → α10 → α11 → α12 → α13 → α14 → α15 → α16 → α17 → α18 → α19 → α20 → α21 → α22 → α23 → α24 → α25 → α26 → α27 → α28 → α29 → α30 → α31 → α32 → α33 → α34 → α35 → α36 → α37 → α38 → Option ρ} {r : ρ} (h : bd38 o k = some r) : ∃ (x1 : α1) (x2 : α2) (x3 : α3) (x4 : α4) (x5 : α5) (x6 : α6) (x7 : α7) (x8 : α8) (x9 : α9) (x10 : α10) (x11 : α11) (x12 : α12) (x13 : α13) (x14 : α14) (x15 : α15) (x16 : α16) (x17 : α17) (x18 : α18) (x19 : α19) (x20 : α20) (x21 : α21) (x22 : α22) (x23 : α23) (x24 : α24) (x25 : α25) (x26 : α26) (x27 : α27) (x28 : α28) (x29 : α29) (x30 : α30) (x31 : α31) (x32 : α32) (x33 : α33) (x34 : α34) (x35 : α35) (x36 : α36) (x37 : α37) (x38 : α38), o = some (x1, x2, x3, x4, x5, x6, x7, x8, x9, x10, x11, x12, x13, x14, x15, x16, x17, x18, x19, x20, x21, x22, x23, x24, x25, x26, x27, x28, x29, x30, x31, x32, x33, x34, x35, x36, x37, x38) ∧ k x1 x2 x3 x4 x5 x6 x7 x8 x9 x10 x11 x12 x13 x14 x15 x16 x17 x18 x19 x20 x21 x22 x23 x24 x25 x26 x27 x28 x29 x30 x31 x32 x33 x34 x35 x36 x37 x38 = some r := by
  match o, h with
  | some (x1, x2, x3, x4, x5, x6, x7, x8, x9, x10, x11, x12, x13, x14, x15, x16, x17, x18, x19, x20, x21, x22, x23, x24, x25, x26, x27, x28, x29, x30, x31, x32, x33, x34, x35, x36, x37, x38), h => exact ⟨x1, x2, x3, x4, x5, x6, x7, x8, x9, x10, x11, x12, x13, x14, x15, x16, x17, x18, x19, x20, x21, x22, x23, x24, x25, x26, x27, x28, x29, x30, x31, x32, x33, x34, x35, x36, x37, x38, rfl, h⟩
theorem bd38_of {α1 α2 α3 α4 α5 α6 α7 α8 α9 α10 α11 α12 α13 α14 α15 α16 α17 α18 α19 α20 α21 α22 α23 α24 α25 α26 α27 α28 α29 α30 α31 α32 α33 α34 α35 α36 α37 α38 ρ : Type} {o : Option (α1 × α2 × α3 × α4 × α5 × α6 × α7 × α8 × α9 × α10 × α11 × α12 × α13 × α14 × α15 × α16 × α17 × α18 × α19 × α20 × α21 × α22 × α23 × α24 × α25 × α26 × α27 × α28 × α29 × α30 × α31 × α32 × α33 × α34 × α35 × α36 × α37 × α38)} {k : α1 → α2 → α3 → α4 → α5 → α6 → α7 → α8 → α9 → α10 → α11 → α12 → α13 → α14 → α15 → α16 → α17 → α18 → α19 → α20 → α21 → α22 → α23 → α24 → α25 → α26 → α27 → α28 → α29 → α30 → α31 → α32 → α33 → α34 → α35 → α36 → α37 → α38 → Option ρ} {x1 : α1} {x2 : α2} {x3 : α3} {x4 : α4} {x5 : α5} {x6 : α6} {x7 : α7} {x8 : α8} {x9 : α9} {x10 : α10} {x11 : α11} {x12 : α12} {x13 : α13} {x14 : α14} {x15 : α15} {x16 : α16} {x17 : α17} {x18 : α18} {x19 : α19} {x20 : α20} {x21 : α21} {x22 : α22} {x23 : α23} {x24 : α24} {x25 : α25} {x26 : α26} {x27 : α27} {x28 : α28} {x29 : α29} {x30 : α30} {x31 : α31} {x32 : α32} {x33 : α33} {x34 : α34} {x35 : α35} {x36 : α36} {x37 : α37} {x38 : α38} (h : o = some (x1, x2, x3, x4, x5, x6, x7, x8, x9, x10, x11, x12, x13, x14, x15, x16, x17, x18, x19, x20, x21, x22, x23, x24, x25, x26, x27, x28, x29, x30, x31, x32, x33, x34, x35, x36, x37, x38)) : bd38 o k = k x1 x2 x3 x4 x5 x6 x7 x8 x9 x10 x11 x12 x13 x14 x15 x16 x17 x18 x19 x20 x21 x22 x23 x24 x25 x26 x27 x28 x29 x30 x31 x32 x33 x34 x35 x36 x37 x38 := by rw [h]; rfl
def loop38 {α1 α2 α3 α4 α5 α6 α7 α8 α9 α10 α11 α12 α13 α14 α15 α16 α17 α18 α19 α20 α21 α22 α23 α24 α25 α26 α27 α28 α29 α30 α31 α32 α33 α34 α35 α36 α37 α38 ρ : Type} (b : (α1 → α2 → α3 → α4 → α5 → α6 → α7 → α8 → α9 → α10 → α11 → α12 → α13 → α14 → α15 → α16 → α17 → α18 → α19 → α20 → α21 → α22 → α23 → α24 → α25 → α26 → α27 → α28 → α29 → α30 → α31 → α32 → α33 → α34 → α35 → α36 → α37 → α38 → Option ρ) → α1 → α2 → α3 → α4 → α5 → α6 → α7 → α8 → α9 → α10 → α11 → α12 → α13 → α14 → α15 → α16 → α17 → α18 → α19 → α20 → α21 → α22 → α23 → α24 → α25 → α26 → α27 → α28 → α29 → α30 → α31 → α32 → α33 → α34 → α35 → α36 → α37 → α38 → Option ρ) : Nat → α1 → α2 → α3 → α4 → α5 → α6 → α7 → α8 → α9 → α10 → α11 → α12 → α13 → α14 → α15 → α16 → α17 → α18 → α19 → α20 → α21 → α22 → α23 → α24 → α25 → α26 → α27 → α28 → α29 → α30 → α31 → α32 → α33 → α34 → α35 → α36 → α37 → α38 → Option ρ
  | 0 => fun _ _ _ _ _ _ _ _ _ _ _ _ _ _ _ _ _ _ _ _ _ _ _ _ _ _ _ _ _ _ _ _ _ _ _ _ _ _ => none
  | n + 1 => fun x1 x2 x3 x4 x5 x6 x7 x8 x9 x10 x11 x12 x13 x14 x15 x16 x17 x18 x19 x20 x21 x22 x23 x24 x25 x26 x27 x28 x29 x30 x31 x32 x33 x34 x35 x36 x37 x38 => b (loop38 b n) x1 x2 x3 x4 x5 x6 x7 x8 x9 x10 x11 x12 x13 x14 x15 x16 x17 x18 x19 x20 x21 x22 x23 x24 x25 x26 x27 x28 x29 x30 x31 x32 x33 x34 x35 x36 x37 x38
def bd39 {α1 α2 α3 α4 α5 α6 α7 α8 α9 α10 α11 α12 α13 α14 α15 α16 α17 α18 α19 α20 α21 α22 α23 α24 α25 α26 α27 α28 α29 α30 α31 α32 α33 α34 α35 α36 α37 α38 α39 ρ : Type} (o : Option (α1 × α2 × α3 × α4 × α5 × α6 × α7 × α8 × α9 × α10 × α11 × α12 × α13 × α14 × α15 × α16 × α17 × α18 × α19 × α20 × α21 × α22 × α23 × α24 × α25 × α26 × α27 × α28 × α29 × α30 × α31 × α32 × α33 × α34 × α35 × α36 × α37 × α38 × α39)) (k : α1 → α2 → α3 → α4 → α5 → α6 → α7 → α8 → α9 → α10 → α11 → α12 → α13 → α14 → α15 → α16 → α17 → α18 → α19 → α20 → α21 → α22 → α23 → α24 → α25 → α26 → α27 → α28 → α29 → α30 → α31 → α32 → α33 → α34 → α35 → α36 → α37 → α38 → α39 → Option ρ) : Option ρ := match o with
  | none => none
  | some (x1, x2, x3, x4, x5, x6, x7, x8, x9, x10, x11, x12, x13, x14, x15, x16, x17, x18, x19, x20, x21, x22, x23, x24, x25, x26, x27, x28, x29, x30, x31, x32, x33, x34, x35, x36, x37, x38, x39) => k x1 x2 x3 x4 x5 x6 x7 x8 x9 x10 x11 x12 x13 x14 x15 x16 x17 x18 x19 x20 x21 x22 x23 x24 x25 x26 x27 x28 x29 x30 x31 x32 x33 x34 x35 x36 x37 x38 x39
theorem bd39_some {α1 α2 α3 α4 α5 α6 α7 α8 α9 α10 α11 α12 α13 α14 α15 α16 α17 α18 α19 α20 α21 α22 α23 α24 α25 α26 α27 α28 α29 α30 α31 α32 α33 α34 α35 α36 α37 α38 α39 ρ : Type} {o : Option (α1 × α2 × α3 × α4 × α5 × α6 × α7 × α8 × α9 × α10 × α11 × α12 × α13 × α14 × α15 × α16 × α17 × α18 × α19 × α20 × α21 × α22 × α23 × α24 × α25 × α26 × α27 × α28 × α29 × α30 × α31 × α32 × α33 × α34 × α35 × α36 × α37 × α38 × α39)} {k : α1 → α2 → α3 → α4 → α5 → α6 → α7 → α8 → α9 → α10 → α11 → α12 → α13 → α14 → α15 → α16 → α17 → α18 → α19 → α20 → α21 → α22 → α23 → α24 → α25 → α26 → α27 → α28 → α29 → α30 → α31 → α32 → α33 → α34 → α35 → α36 → α37 → α38 → α39 → Option ρ} {r : ρ} (h : bd39 o k = some r) : ∃ (x1 : α1) (x2 : α2) (x3 : α3) (x4 : α4) (x5 : α5) (x6 : α6) (x7 : α7) (x8 : α8) (x9 : α9) (x10 : α10) (x11 : α11) (x12 : α12) (x13 : α13) (x14 : α14) (x15 : α15) (x16 : α16) (x17 : α17) (x18 : α18) (x19 : α19) (x20 : α20) (x21 : α21) (x22 : α22) (x23 : α23) (x24 : α24) (x25 : α25) (x26 : α26) (x27 : α27) (x28 : α28) (x29 : α29) (x30 : α30) (x31 : α31) (x32 : α32) (x33 : α33) (x34 : α34) (x35 : α35) (x36 : α36) (x37 : α37) (x38 : α38) (x39 : α39), o = some (x1, x2, x3, x4, x5, x6, x7, x8, x9, x10, x11, x12, x13, x14, x15, x16, x17, x18, x19, x20, x21, x22, x23, x24, x25, x26, x27, x28, x29, x30, x31, x32, x33, x34, x35, x36, x37, x38, x39) ∧ k x1 x2 x3 x4 x5 x6 x7 x8 x9 x10 x11 x12 x13 x14 x15 x16 x17 x18 x19 x20 x21 x22 x23 x24 x25 x26 x27 x28 x29 x30 x31 x32 x33 x34 x35 x36 x37 x38 x39 = some r := by
  match o, h with
  | some (x1, x2, x3, x4, x5, x6, x7, x8, x9, x10, x11, x12, x13, x14, x15, x16, x17, x18, x19, x20, x21, x22, x23, x24, x25, x26, x27, x28, x29, x30, x31, x32, x33, x34, x35, x36, x37, x38, x39), h => exact ⟨x1, x2, x3, x4, x5, x6, x7, x8, x9, x10, x11, x12, x13, x14, x15, x16, x17, x18, x19, x20, x21, x22, x23, x24, x25, x26, x27, x28, x29, x30, x31, x32, x33, x34, x35, x36, x37, x38, x39, rfl, h⟩
theorem bd39_of {α1 α2 α3 α4 α5 α6 α7 α8 α9 α10 α11 α12 α13 α14 α15 α16 α17 α18 α19 α20 α21 α22 α23 α24 α25 α26 α27 α28 α29 α30 α31 α32 α33 α34 α35 α36 α37 α38 α39 ρ : Type} {o : Option (α1 × α2 × α3 × α4 × α5 × α6 × α7 × α8 × α9 × α10 × α11 × α12 × α13 × α14 × α15 × α16 × α17 × α18 × α19 × α20 × α21 × α22 × α23 × α24 × α25 × α26 × α27 × α28 × α29 × α30 × α31 × α32 × α33 × α34 × α35 × α36 × α37 × α38 × α39)} {k : α1 → α2 → α3 → α4 → α5 → α6 → α7 → α8 → α9 → α10 → α11 → α12 → α13 → α14 → α15 → α16 → α17 → α18 → α19 → α20 → α21 → α22 → α23 → α24 → α25 → α26 → α27 → α28 → α29 → α30 → α31 → α32 → α33 → α34 → α35 → α36 → α37 → α38 → α39 → Option ρ} {x1 : α1} {x2 : α2} {x3 : α3} {x4 : α4} {x5 : α5} {x6 : α6} {x7 : α7} {x8 : α8} {x9 : α9} {x10 : α10} {x11 : α11} {x12 : α12} {x13 : α13} {x14 : α14} {x15 : α15} {x16 : α16} {x17 : α17} {x18 : α18} {x19 : α19} {x20 : α20} {x21 : α21} {x22 : α22} {x23 : α23} {x24 : α24} {x25 : α25} {x26 : α26} {x27 : α27} {x28 : α28} {x29 : α29} {x30 : α30} {x31 : α31} {x32 : α32} {x33 : α33} {x34 : α34} {x35 : α35} {x36 : α36} {x37 : α37} {x38 : α38} {x39 : α39} (h : o = some (x1, x2, x3, x4, x5, x6, x7, x8, x9, x10, x11, x12, x13, x14, x15, x16, x17, x18, x19, x20, x21, x22, x23, x24, x25, x26, x27, x28, x29, x30, x31, x32, x33, x34, x35, x36, x37, x38, x39)) : bd39 o k = k x1 x2 x3 x4 x5 x6 x7 x8 x9 x10 x11 x12 x13 x14 x15 x16 x17 x18 x19 x20 x21 x22 x23 x24 x25 x26 x27 x28 x29 x30 x31 x32 x33 x34 x35 x36 x37 x38 x39 := by rw [h]; rfl
def loop39 {α1 α2 α3 α4 α5 α6 α7 α8 α9 α10 α11 α12 α13 α14 α15 α16 α17 α18 α19 α20 α21 α22 α23 α24 α25 α26 α27 α28 α29 α30 α31 α32 α33 α34 α35 α36 α37 α38 α39 ρ : Type} (b : (α1 → α2 → α3 → α4 → α5 → α6 → α7 → α8 → α9 → α10 → α11 → α12 → α13 → α14 → α15 → α16 → α17 → α18 → α19 → α20 → α21 → α22 → α23 → α24 → α25 → α26 → α27 → α28 → α29 → α30 → α31 → α32 → α33 → α34 → α35 → α36 → α37 → α38 → α39 → Option ρ) → α1 → α2 → α3 → α4 → α5 → α6 → α7 → α8 → α9 → α10 → α11 → α12 → α13 → α14 → α15 → α16 → α17 → α18 → α19 → α20 → α21 → α22 → α23 → α24 → α25 → α26 → α27 → α28 → α29 → α30 → α31 → α32 → α33 → α34 → α35 → α36 → α37 → α38 → α39 → Option ρ) : Nat → α1 → α2 → α3 → α4 → α5 → α6 → α7 → α8 → α9 → α10 → α11 → α12 → α13 → α14 → α15 → α16 → α17 → α18 → α19 → α20 → α21 → α22 → α23 → α24 → α25 → α26 → α27 → α28 → α29 → α30 → α31 → α32 → α33 → α34 → α35 → α36 → α37 → α38 → α39 → Option ρ
  | 0 => fun _ _ _ _ _ _ _ _ _ _ _ _ _ _ _ _ _ _ _ _ _ _ _ _ _ _ _ _ _ _ _ _ _ _ _ _ _ _ _ => none
  | n + 1 => fun x1 x2 x3 x4 x5 x6 x7 x8 x9 x10 x11 x12 x13 x14 x15 x16 x17 x18 x19 x20 x21 x22 x23 x24 x25 x26 x27 x28 x29 x30 x31 x32 x33 x34 x35 x36 x37 x38 x39 => b (loop39 b n) x1 x2 x3 x4 x5 x6 x7 x8 x9 x10 x11 x12 x13 x14 x15 x16 x17 x18 x19 x20 x21 x22 x23 x24 x25 x26 x27 x28 x29 x30 x31 x32 x33 x34 x35 x36 x37 x38 x39
def bd40 {α1 α2 α3 α4 α5 α6 α7 α8 α9 α10 α11 α12 α13 α14 α15 α16 α17 α18 α19 α20 α21 α22 α23 α24 α25 α26 α27 α28 α29 α30 α31 α32 α33 α34 α35 α36 α37 α38 α39 α40 ρ : Type} (o : Option (α1 × α2 × α3 × α4 × α5 × α6 × α7 × α8 × α9 × α10 × α11 × α12 × α13 × α14 × α15 × α16 × α17 × α18 × α19 × α20 × α21 × α22 × α23 × α24 × α25 × α26 × α27 × α28 × α29 × α30 × α31 × α32 × α33 × α34 × α35 × α36 × α37 × α38 × α39 × α40)) (k : α1 → α2 → α3 → α4 → α5 → α6 → α7 → α8 → α9 → α10 → α11 → α12 → α13 → α14 → α15 → α16 → α17 → α18 → α19 → α20 → α21 → α22 → α23 → α24 → α25 → α26 → α27 → α28 → α29 → α30 → α31 → α32 → α33 → α34 → α35 → α36 → α37 → α38 → α39 → α40 → Option ρ) : Option ρ := match o with
  | none => none
  | some (x1, x2, x3, x4, x5, x6, x7, x8, x9, x10, x11, x12, x13, x14, x15, x16, x17, x18, x19, x20, x21, x22, x23, x24, x25, x26, x27, x28, x29, x30, x31, x32, x33, x34, x35, x36, x37, x38, x39, x40) => k x1 x2 x3 x4 x5 x6 x7 x8 x9 x10 x11 x12 x13 x14 x15 x16 x17 x18 x19 x20 x21 x22 x23 x24 x25 x26 x27 x28 x29 x30 x31 x32 x33 x34 x35 x36 x37 x38 x39 x40
theorem bd40_some {α1 α2 α3 α4 α5 α6 α7 α8 α9 α10 α11 α12 α13 α14 α15 α16 α17 α18 α19 α20 α21 α22 α23 α24 α25 α26 α27 α28 α29 α30 α31 α32 α33 α34 α35 α36 α37 α38 α39 α40 ρ : Type} {o : Option (α1 × α2 × α3 × α4 × α5 × α6 × α7 × α8 × α9 × α10 × α11 × α12 × α13 × α14 × α15 × α16 × α17 × α18 × α19 × α20 × α21 × α22 × α23 × α24 × α25 × α26 × α27 × α28 × α29 × α30 × α31 × α32 × α33 × α34 × α35 × α36 × α37 × α38 × α39 × α40)} {k : α1 → α2 → α3 → α4 → α5 → α6 → α7 → α8 → α9 → α10 → α11 → α12 → α13 → α14 → α15 → α16 → α17 → α18 → α19 → α20 → α21 → α22 → α23 → α24 → α25 → α26 → α27 → α28 → α29 → α30 → α31 → α32 → α33 → α34 → α35 → α36 → α37 → α38 → α39 → α40 → Option ρ} {r : ρ} (h : bd40 o k = some r) : ∃ (x1 : α1) (x2 : α2) (x3 : α3) (x4 : α4) (x5 : α5) (x6 : α6) (x7 : α7) (x8 : α8) (x9 : α9) (x10 : α10) (x11 : α11) (x12 : α12) (x13 : α13) (x14 : α14) (x15 : α15) (x16 : α16) (x17 : α17) (x18 : α18) (x19 : α19) (x20 : α20) (x21 : α21) (x22 : α22) (x23 : α23) (x24 : α24) (x25 : α25) (x26 : α26) (x27 : α27) (x28 : α28) (x29 : α29) (x30 : α30) (x31 : α31) (x32 : α32) (x33 : α33) (x34 : α34) (x35 : α35) (x36 : α36) (x37 : α37) (x38 : α38) (x39 : α39) (x40 : α40), o = some (x1, x2, x3, x4, x5, x6, x7, x8, x9, x10, x11, x12, x13, x14, x15, x16, x17, x18, x19, x20, x21, x22, x23, x24, x25, x26, x27, x28, x29, x30, x31, x32, x33, x34, x35, x36, x37, x38, x39, x40) ∧ k x1 x2 x3 x4 x5 x6 x7 x8 x9 x10 x11 x12 x13 x14 x15 x16 x17 x18 x19 x20 x21 x22 x23 x24 x25 x26 x27 x28 x29 x30 x31 x32 x33 x34 x35 x36 x37 x38 x39 x40 = some r := by
  match o, h with
  | some (x1, x2, x3, x4, x5, x6, x7, x8, x9, x10, x11, x12, x13, x14, x15, x16, x17, x18, x19, x20, x21, x22, x23, x24, x25, x26, x27, x28, x29, x30, x31, x32, x33, x34, x35, x36, x37, x38, x39, x40), h => exact ⟨x1, x2, x3, x4, x5, x6, x7, x8, x9, x10, x11, x12, x13, x14, x15, x16, x17, x18, x19, x20, x21, x22, x23, x24, x25, x26, x27, x28, x29, x30, x31, x32, x33, x34, x35, x36, x37, x38, x39, x40, rfl, h⟩
theorem bd40_of {α1 α2 α3 α4 α5 α6 α7 α8 α9 α10 α11 α12 α13 α14 α15 α16 α17 α18 α19 α20 α21 α22 α23 α24 α25 α26 α27 α28 α29 α30 α31 α32 α33 α34 α35 α36 α37 α38 α39 α40 ρ : Type} {o : Option (α1 × α2 × α3 × α4 × α5 × α6 × α7 × α8 × α9 × α10 × α11 × α12 × α13 × α14 × α15 × α16 × α17 × α18 × α19 × α20 × α21 × α22 × α23 × α24 × α25 × α26 × α27 × α28 × α29 × α30 × α31 × α32 × α33 × α34 × α35 × α36 × α37 × α38 × α39 × α40)} {k : α1 → α2 → α3 → α4 → α5 → α6 → α7 → α8 → α9 → α10 → α11 → α12 → α13 → α14 → α15 → α16 → α17 → α18 → α19 → α20 → α21 → α22 → α23 → α24 → α25 → α26 → α27 → α28 → α29 → α30 → α31 → α32 → α33 → α34 → α35 → α36 → α37 → α38 → α39 → α40 → Option ρ} {x1 : α1} {x2 : α2} {x3 : α3} {x4 : α4} {x5 : α5} {x6 : α6} {x7 : α7} {x8 : α8} {x9 : α9} {x10 : α10} {x11 : α11} {x12 : α12} {x13 : α13} {x14 : α14} {x15 : α15} {x16 : α16} {x17 : α17} {x18 : α18} {x19 : α19} {x20 : α20} {x21 : α21} {x22 : α22} {x23 : α23} {x24 : α24} {x25 : α25} {x26 : α26} {x27 : α27} {x28 : α28} {x29 : α29} {x30 : α30} {x31 : α31} {x32 : α32} {x33 : α33} {x34 : α34} {x35 : α35} {x36 : α36} {x37 : α37} {x38 : α38} {x39 : α39} {x40 : α40} (h : o = some (x1, x2, x3, x4, x5, x6, x7, x8, x9, x10, x11, x12, x13, x14, x15, x16, x17, x18, x19, x20, x21, x22, x23, x24, x25, x26, x27, x28, x29, x30, x31, x32, x33, x34, x35, x36, x37, x38, x39, x40)) : bd40 o k = k x1 x2 x3 x4 x5 x6 x7 x8 x9 x10 x11 x12 x13 x14 x15 x16 x17 x18 x19 x20 x21 x22 x23 x24 x25 x26 x27 x28 x29 x30 x31 x32 x33 x34 x35 x36 x37 x38 x39 x40 := by rw [h]; rfl
def loop40 {α1 α2 α3 α4 α5 α6 α7 α8 α9 α10 α11 α12 α13 α14 α15 α16 α17 α18 α19 α20 α21 α22 α23 α24 α25 α26 α27 α28 α29 α30 α31 α32 α33 α34 α35 α36 α37 α38 α39 α40 ρ : Type} (b : (α1 → α2 → α3 → α4 → α5 → α6 → α7 → α8 → α9 → α10 → α11 → α12 → α13 → α14 → α15 → α16 → α17 → α18 → α19 → α20 → α21 → α22 → α23 → α24 → α25 → α26 → α27 → α28 → α29 → α30 → α31 → α32 → α33 → α34 → α35 → α36 → α37 → α38 → α39 → α40 → Option ρ) → α1 → α2 → α3 → α4 → α5 → α6 → α7 → α8 → α9 → α10 → α11 → α12 → α13 → α14 → α15 → α16 → α17 → α18 → α19 → α20 → α21 → α22 → α23 → α24 → α25 → α26 → α27 → α28 → α29 → α30 → α31 → α32 → α33 → α34 → α35 → α36 → α37 → α38 → α39 → α40 → Option ρ) : Nat → α1 → α2 → α3 → α4 → α5 → α6 → α7 → α8 → α9 → α10 → α11 → α12 → α13 → α14 → α15 → α16 → α17 → α18 → α19 → α20 → α21 → α22 → α23 → α24 → α25 → α26 → α27 → α28 → α29 → α30 → α31 → α32 → α33 → α34 → α35 → α36 → α37 → α38 → α39 → α40 → Option ρ
  | 0 => fun _ _ _ _ _ _ _ _ _ _ _ _ _ _ _ _ _ _ _ _ _ _ _ _ _ _ _ _ _ _ _ _ _ _ _ _ _ _ _ _ => none
  | n + 1 => fun x1 x2 x3 x4 x5 x6 x7 x8 x9 x10 x11 x12 x13 x14 x15 x16 x17 x18 x19 x20 x21 x22 x23 x24 x25 x26 x27 x28 x29 x30 x31 x32 x33 x34 x35 x36 x37 x38 x39 x40 => b (loop40 b n) x1 x2 x3 x4 x5 x6 x7 x8 x9 x10 x11 x12 x13 x14 x15 x16 x17 x18 x19 x20 x21 x22 x23 x24 x25 x26 x27 x28 x29 x30 x31 x32 x33 x34 x35 x36 x37 x38 x39 x40
theorem fm_of_map {α β : Type} (f : α → Option β) : ∀ (ks : List α) (w : List β), ks.map f = w.map some → ks.filterMap f = w
  | [], w, h => by
    cases w with
    | nil => rfl
    | cons b w => simp at h
  | k :: ks, w, h => by
    cases w with
    | nil => simp at h
    | cons b w =>
      simp only [List.map_cons, List.cons.injEq] at h
      rw [List.filterMap_cons, h.1]
      simp only [fm_of_map f ks w h.2]
def sPre (D : va_G) (cl : List vw_C) (tys : List (ClassId × FieldType)) (wc : va_W) (sz : Nat) (U : State) : Prop := U.heap.size = sz ∧ va_P D cl wc U.heap ∧ va_K D cl tys U ∧ va_D (fun _ => True) wc ∧ nwOK U
def sB (D : va_G) (cl : List vw_C) (tys : List (ClassId × FieldType)) (A : Nat → Prop) (wc : va_W) (t : State) : Prop := va_P D cl wc t.heap ∧ va_K D cl tys t ∧ va_D A wc
def sQi (D : va_G) (cl : List vw_C) (tys : List (ClassId × FieldType)) (A : Nat → Prop) (r : Int32) (wc : va_W) : Array Value → State → Outcome → State → Prop := va_Qi (fun (r' : Int32) (_ : Unit) => r' = r) (fun _ t => sB D cl tys A wc t) A
def sQl (D : va_G) (cl : List vw_C) (tys : List (ClassId × FieldType)) (A : Nat → Prop) (r : Int64) (wc : va_W) : Array Value → State → Outcome → State → Prop := va_Ql (fun (r' : Int64) (_ : Unit) => r' = r) (fun _ t => sB D cl tys A wc t) A
def sQv (D : va_G) (cl : List vw_C) (tys : List (ClassId × FieldType)) (A : Nat → Prop) (wc : va_W) : Array Value → State → Outcome → State → Prop := va_Qv (fun (_ : Unit) => True) (fun _ t => sB D cl tys A wc t) A
def sQr (D : va_G) (cl : List vw_C) (tys : List (ClassId × FieldType)) (A : Nat → Prop) (r : Nat) (wc : va_W) : Array Value → State → Outcome → State → Prop := va_Qr (fun (_ : Unit) => True) (fun _ a t => a = r ∧ sB D cl tys A wc t) A
def MetI (l : Launch) (y : MethodName) (ws : List Cond) (rm : Room) (D : va_G) (cl : List vw_C) (tys : List (ClassId × FieldType)) (vs : List Value) (wc : va_W) (r : Int32) (wc' : va_W) (mc ms : Nat) : Prop := ∀ sz : Nat, Met l y ws rm (va_Pc vs (sPre D cl tys wc sz)) (sQi D cl tys (va_A wc sz) r wc') mc ms (va_A wc sz)
def MetL (l : Launch) (y : MethodName) (ws : List Cond) (rm : Room) (D : va_G) (cl : List vw_C) (tys : List (ClassId × FieldType)) (vs : List Value) (wc : va_W) (r : Int64) (wc' : va_W) (mc ms : Nat) : Prop := ∀ sz : Nat, Met l y ws rm (va_Pc vs (sPre D cl tys wc sz)) (sQl D cl tys (va_A wc sz) r wc') mc ms (va_A wc sz)
def MetV (l : Launch) (y : MethodName) (ws : List Cond) (rm : Room) (D : va_G) (cl : List vw_C) (tys : List (ClassId × FieldType)) (vs : List Value) (wc : va_W) (wc' : va_W) (mc ms : Nat) : Prop := ∀ sz : Nat, Met l y ws rm (va_Pc vs (sPre D cl tys wc sz)) (sQv D cl tys (va_A wc sz) wc') mc ms (va_A wc sz)
def MetR (l : Launch) (y : MethodName) (ws : List Cond) (rm : Room) (D : va_G) (cl : List vw_C) (tys : List (ClassId × FieldType)) (vs : List Value) (wc : va_W) (r : Nat) (wc' : va_W) (mc ms : Nat) : Prop := ∀ sz : Nat, Met l y ws rm (va_Pc vs (sPre D cl tys wc sz)) (sQr D cl tys (va_A wc sz) r wc') mc ms (va_A wc sz)
/-- what a walk knows of its machine -/
def Fx (p : Program) (s : State) (m : MethodId) (args : Array Value) (meth : Method) (c : Code) (cc : ByteArray) (nL : Nat) (own : String) (ws : List Cond) (ret : Option FieldType) : Prop :=
  p.tables.exec = Jvm.exec ∧ c.code = cc ∧ c.maxLocals = nL ∧ s.vm.findClass own = some m.cls ∧ (∀ w ∈ ws, w.before args s = true) ∧ meth.sig.returnType = ret ∧ meth.locks = false ∧ nwOK s
theorem Fx.call {p : Program} {s : State} {m : MethodId} {args : Array Value} {meth : Method} {c : Code} {cc : ByteArray} {nL : Nat} {own : String} {ws : List Cond} {ret : Option FieldType} (h : Fx p s m args meth c cc nL own ws ret) : CallFix p m c cc nL s args ws own := ⟨h.1, h.2.1, h.2.2.1, h.2.2.2.1, h.2.2.2.2.1⟩
section
variable {p : Program} {l : Launch} {e : Env} {R : Room} {s : State} {m : MethodId} {args : Array Value} {below : List Frame} {meth : Method} {c : Code} {H H0 : Heap} {locs : List Loc} {cells slots pc mc ms nL : Nat} {Q : State → Prop} {ls : Array Slot} {rest st0 As vs : List Value} {cc : ByteArray} {D : va_G} {cl : List vw_C} {tys : List (ClassId × FieldType)} {A : Nat → Prop} {wc wr wc' ws ws' : va_W} {y : MethodName} {wsy Ts : List Cond} {rm : Room} {own C host : String} {index n maxL b : Nat} {bytes : ByteArray} {ret : Option FieldType} {a : Array Value}
theorem sFB {sz : Nat} : FrameBlind (va_Pc vs (sPre D cl tys wc sz)) := fun a U g mk q => by
  obtain ⟨q0, q1, qP, qK, qD, qZ⟩ := q
  exact ⟨q0, q1, qP, va_K.moved (u := U) (U := U.calling g mk a) (Vm.Alike.refl U.vm) qK, qD, nw_same (u := U) (U := U.calling g mk a) rfl qZ⟩
theorem sPV (hZ : nwOK s) (hPc : va_P D cl wc H) (hDc : va_D A wc) (hKc : va_K D cl tys s) : ∀ U : State, U.heap = H → s.WarmedH U.vm → va_Pc vs (sPre D cl tys wc H.size) vs.toArray U := fun U hU hW => ⟨rfl, by rw [hU], by rw [hU]; exact hPc, va_K.moved hW.alike hKc, hDc.weaken (fun _ _ _ _ => trivial), nw_warm hW hZ⟩

theorem s_calli {r : Int32} (hr : va_Run p l e R s m args below meth c H locs cells slots mc ms (F0 m pc ls st0) rest (sQi D cl tys (va_A wc H.size) r wc' a) (va_A wc H.size))
    (hP : va_P D cl ws H) (hD : va_D A ws) (hS : va_S A H0 H locs) (hA : ∀ q, H0.size ≤ q → A q) (isC isR ks : List Nat) (hC : isC.map (fun i => ws[i]?) = wc.map some) (hR : isR.map (fun i => ws[i]?) = wr.map some) (hn : va_nd isR = true) (hdis : ∀ i ∈ isR, i ∉ isC) (hkn : va_nd ks = true) (hk : ks.map (fun i => (wr ++ wc')[i]?) = ws'.map some)
    (kk : ∀ (H1 : Heap) (locs1 : List Loc), va_P D cl ws' H1 → va_D A ws' → va_S A H0 H1 locs1 → W p l e R s m args below meth c H1 locs1 (cells + mc) (slots + ms) Q (F0 m (pc + 3) ls (.int r :: rest))) : W p l e R s m args below meth c H locs cells slots Q (F0 m pc ls st0) := by
  have hFc := va_free (wc := wc) hD hS hA isC hC
  refine va_calli hr hS (fun q _ h => hFc q h) hFc (fun r1 u t H1 locs1 ht hvm hw hB hz1 hk1 hS1 => ?_)
  subst hw
  obtain ⟨hP1, hK1, hD1⟩ := hB
  rw [ht] at hP1
  obtain ⟨hP2, hD2⟩ := va_join (wr := wr) (w1 := wc') hP hD isC isR hC hR hn hdis hk1 hFc hP1 hD1
  exact kk H1 locs1 (hP2.sub ks (fm_of_map _ ks ws' hk)) (hD2.sub ks hkn hk) hS1
theorem s_calll {r : Int64} (hr : va_Run p l e R s m args below meth c H locs cells slots mc ms (F0 m pc ls st0) rest (sQl D cl tys (va_A wc H.size) r wc' a) (va_A wc H.size))
    (hP : va_P D cl ws H) (hD : va_D A ws) (hS : va_S A H0 H locs) (hA : ∀ q, H0.size ≤ q → A q) (isC isR ks : List Nat) (hC : isC.map (fun i => ws[i]?) = wc.map some) (hR : isR.map (fun i => ws[i]?) = wr.map some) (hn : va_nd isR = true) (hdis : ∀ i ∈ isR, i ∉ isC) (hkn : va_nd ks = true) (hk : ks.map (fun i => (wr ++ wc')[i]?) = ws'.map some)
    (kk : ∀ (H1 : Heap) (locs1 : List Loc), va_P D cl ws' H1 → va_D A ws' → va_S A H0 H1 locs1 → W p l e R s m args below meth c H1 locs1 (cells + mc) (slots + ms) Q (F0 m (pc + 3) ls (.long r :: rest))) : W p l e R s m args below meth c H locs cells slots Q (F0 m pc ls st0) := by
  have hFc := va_free (wc := wc) hD hS hA isC hC
  refine va_calll hr hS (fun q _ h => hFc q h) hFc (fun r1 u t H1 locs1 ht hvm hw hB hz1 hk1 hS1 => ?_)
  subst hw
  obtain ⟨hP1, hK1, hD1⟩ := hB
  rw [ht] at hP1
  obtain ⟨hP2, hD2⟩ := va_join (wr := wr) (w1 := wc') hP hD isC isR hC hR hn hdis hk1 hFc hP1 hD1
  exact kk H1 locs1 (hP2.sub ks (fm_of_map _ ks ws' hk)) (hD2.sub ks hkn hk) hS1
theorem s_callv  (hr : va_Run p l e R s m args below meth c H locs cells slots mc ms (F0 m pc ls st0) rest (sQv D cl tys (va_A wc H.size) wc' a) (va_A wc H.size))
    (hP : va_P D cl ws H) (hD : va_D A ws) (hS : va_S A H0 H locs) (hA : ∀ q, H0.size ≤ q → A q) (isC isR ks : List Nat) (hC : isC.map (fun i => ws[i]?) = wc.map some) (hR : isR.map (fun i => ws[i]?) = wr.map some) (hn : va_nd isR = true) (hdis : ∀ i ∈ isR, i ∉ isC) (hkn : va_nd ks = true) (hk : ks.map (fun i => (wr ++ wc')[i]?) = ws'.map some)
    (kk : ∀ (H1 : Heap) (locs1 : List Loc), va_P D cl ws' H1 → va_D A ws' → va_S A H0 H1 locs1 → W p l e R s m args below meth c H1 locs1 (cells + mc) (slots + ms) Q (F0 m (pc + 3) ls rest)) : W p l e R s m args below meth c H locs cells slots Q (F0 m pc ls st0) := by
  have hFc := va_free (wc := wc) hD hS hA isC hC
  refine va_callv hr hS (fun q _ h => hFc q h) hFc (fun u t H1 locs1 ht hvm hw hB hz1 hk1 hS1 => ?_)
  obtain ⟨hP1, hK1, hD1⟩ := hB
  rw [ht] at hP1
  obtain ⟨hP2, hD2⟩ := va_join (wr := wr) (w1 := wc') hP hD isC isR hC hR hn hdis hk1 hFc hP1 hD1
  exact kk H1 locs1 (hP2.sub ks (fm_of_map _ ks ws' hk)) (hD2.sub ks hkn hk) hS1
theorem s_callr {r : Nat} (hr : va_Run p l e R s m args below meth c H locs cells slots mc ms (F0 m pc ls st0) rest (sQr D cl tys (va_A wc H.size) r wc' a) (va_A wc H.size))
    (hP : va_P D cl ws H) (hD : va_D A ws) (hS : va_S A H0 H locs) (hA : ∀ q, H0.size ≤ q → A q) (isC isR ks : List Nat) (hC : isC.map (fun i => ws[i]?) = wc.map some) (hR : isR.map (fun i => ws[i]?) = wr.map some) (hn : va_nd isR = true) (hdis : ∀ i ∈ isR, i ∉ isC) (hkn : va_nd ks = true) (hk : ks.map (fun i => (wr ++ wc')[i]?) = ws'.map some)
    (kk : ∀ (H1 : Heap) (locs1 : List Loc), va_P D cl ws' H1 → va_D A ws' → va_S A H0 H1 locs1 → W p l e R s m args below meth c H1 locs1 (cells + mc) (slots + ms) Q (F0 m (pc + 3) ls (.ref r :: rest))) : W p l e R s m args below meth c H locs cells slots Q (F0 m pc ls st0) := by
  have hFc := va_free (wc := wc) hD hS hA isC hC
  refine va_callr hr hS (fun q _ h => hFc q h) hFc (fun u ra t H1 locs1 ht hvm hw hB hz1 hk1 hS1 => ?_)
  obtain ⟨rfl, hB⟩ := hB
  obtain ⟨hP1, hK1, hD1⟩ := hB
  rw [ht] at hP1
  obtain ⟨hP2, hD2⟩ := va_join (wr := wr) (w1 := wc') hP hD isC isR hC hR hn hdis hk1 hFc hP1 hD1
  exact kk H1 locs1 (hP2.sub ks (fm_of_map _ ks ws' hk)) (hD2.sub ks hkn hk) hS1
theorem s_Vi {r : Int32} (S : CallFix p m c cc nL s args Ts own) (hM : MetI l y wsy rm D cl tys (.ref b :: As) wc r wc' mc ms) (cw : CallW R s args own C index y bytes maxL ret wsy rm mc ms n) (hn : As.length = n) (hsize : ls.size = nL) (hstack : st0 = As.reverse ++ .ref b :: rest) (hW : (rest.map fun v => v.category).sum ≤ 8) (hdg : decode cc pc = .ok (.invokevirtual index, 3)) (hf : cells + mc ≤ R.cells ∧ slots + ms ≤ R.slots)
    (hZ : nwOK s) (hK : va_K D cl tys s) (hP : va_P D cl ws H) (hD : va_D A ws) (hS : va_S A H0 H locs) (hA : ∀ q, H0.size ≤ q → A q) (ci q0 : Nat) {T : u_T} {N : Nat} {fs : List Value} (hc : cl[ci]? = some (C, T, N)) (he : ws[q0]? = some (b, .inr (ci, fs))) (isC isR ks : List Nat) (hC : isC.map (fun i => ws[i]?) = wc.map some) (hCn : va_nd isC = true) (hR : isR.map (fun i => ws[i]?) = wr.map some) (hRn : va_nd isR = true) (hdis : ∀ i ∈ isR, i ∉ isC) (hkn : va_nd ks = true) (hk : ks.map (fun i => (wr ++ wc')[i]?) = ws'.map some)
    (kk : ∀ (H1 : Heap) (locs1 : List Loc), va_P D cl ws' H1 → va_D A ws' → va_S A H0 H1 locs1 → W p l e R s m args below meth c H1 locs1 (cells + mc) (slots + ms) Q (F0 m (pc + 3) ls (.int r :: rest))) : W p l e R s m args below meth c H locs cells slots Q (F0 m pc ls st0) := by
  have hPc : va_P D cl wc H := hP.sub isC (fm_of_map _ isC wc hC)
  have hDc : va_D A wc := hD.sub isC hCn hC
  exact s_calli (va_runV (As := As) (rest := rest) S (hM H.size) cw ⟨sFB, va_recv hK hP hc he, sPV (A := A) hZ hPc hDc hK⟩ rfl hn hsize hstack (lv_room hW) hdg hf) hP hD hS hA isC isR ks hC hR hRn hdis hkn hk kk
theorem s_Vl {r : Int64} (S : CallFix p m c cc nL s args Ts own) (hM : MetL l y wsy rm D cl tys (.ref b :: As) wc r wc' mc ms) (cw : CallW R s args own C index y bytes maxL ret wsy rm mc ms n) (hn : As.length = n) (hsize : ls.size = nL) (hstack : st0 = As.reverse ++ .ref b :: rest) (hW : (rest.map fun v => v.category).sum ≤ 8) (hdg : decode cc pc = .ok (.invokevirtual index, 3)) (hf : cells + mc ≤ R.cells ∧ slots + ms ≤ R.slots)
    (hZ : nwOK s) (hK : va_K D cl tys s) (hP : va_P D cl ws H) (hD : va_D A ws) (hS : va_S A H0 H locs) (hA : ∀ q, H0.size ≤ q → A q) (ci q0 : Nat) {T : u_T} {N : Nat} {fs : List Value} (hc : cl[ci]? = some (C, T, N)) (he : ws[q0]? = some (b, .inr (ci, fs))) (isC isR ks : List Nat) (hC : isC.map (fun i => ws[i]?) = wc.map some) (hCn : va_nd isC = true) (hR : isR.map (fun i => ws[i]?) = wr.map some) (hRn : va_nd isR = true) (hdis : ∀ i ∈ isR, i ∉ isC) (hkn : va_nd ks = true) (hk : ks.map (fun i => (wr ++ wc')[i]?) = ws'.map some)
    (kk : ∀ (H1 : Heap) (locs1 : List Loc), va_P D cl ws' H1 → va_D A ws' → va_S A H0 H1 locs1 → W p l e R s m args below meth c H1 locs1 (cells + mc) (slots + ms) Q (F0 m (pc + 3) ls (.long r :: rest))) : W p l e R s m args below meth c H locs cells slots Q (F0 m pc ls st0) := by
  have hPc : va_P D cl wc H := hP.sub isC (fm_of_map _ isC wc hC)
  have hDc : va_D A wc := hD.sub isC hCn hC
  exact s_calll (va_runV (As := As) (rest := rest) S (hM H.size) cw ⟨sFB, va_recv hK hP hc he, sPV (A := A) hZ hPc hDc hK⟩ rfl hn hsize hstack (lv_room hW) hdg hf) hP hD hS hA isC isR ks hC hR hRn hdis hkn hk kk
theorem s_Vv  (S : CallFix p m c cc nL s args Ts own) (hM : MetV l y wsy rm D cl tys (.ref b :: As) wc wc' mc ms) (cw : CallW R s args own C index y bytes maxL ret wsy rm mc ms n) (hn : As.length = n) (hsize : ls.size = nL) (hstack : st0 = As.reverse ++ .ref b :: rest) (hW : (rest.map fun v => v.category).sum ≤ 8) (hdg : decode cc pc = .ok (.invokevirtual index, 3)) (hf : cells + mc ≤ R.cells ∧ slots + ms ≤ R.slots)
    (hZ : nwOK s) (hK : va_K D cl tys s) (hP : va_P D cl ws H) (hD : va_D A ws) (hS : va_S A H0 H locs) (hA : ∀ q, H0.size ≤ q → A q) (ci q0 : Nat) {T : u_T} {N : Nat} {fs : List Value} (hc : cl[ci]? = some (C, T, N)) (he : ws[q0]? = some (b, .inr (ci, fs))) (isC isR ks : List Nat) (hC : isC.map (fun i => ws[i]?) = wc.map some) (hCn : va_nd isC = true) (hR : isR.map (fun i => ws[i]?) = wr.map some) (hRn : va_nd isR = true) (hdis : ∀ i ∈ isR, i ∉ isC) (hkn : va_nd ks = true) (hk : ks.map (fun i => (wr ++ wc')[i]?) = ws'.map some)
    (kk : ∀ (H1 : Heap) (locs1 : List Loc), va_P D cl ws' H1 → va_D A ws' → va_S A H0 H1 locs1 → W p l e R s m args below meth c H1 locs1 (cells + mc) (slots + ms) Q (F0 m (pc + 3) ls rest)) : W p l e R s m args below meth c H locs cells slots Q (F0 m pc ls st0) := by
  have hPc : va_P D cl wc H := hP.sub isC (fm_of_map _ isC wc hC)
  have hDc : va_D A wc := hD.sub isC hCn hC
  exact s_callv (va_runV (As := As) (rest := rest) S (hM H.size) cw ⟨sFB, va_recv hK hP hc he, sPV (A := A) hZ hPc hDc hK⟩ rfl hn hsize hstack (lv_room hW) hdg hf) hP hD hS hA isC isR ks hC hR hRn hdis hkn hk kk
theorem s_Vr {r : Nat} (S : CallFix p m c cc nL s args Ts own) (hM : MetR l y wsy rm D cl tys (.ref b :: As) wc r wc' mc ms) (cw : CallW R s args own C index y bytes maxL ret wsy rm mc ms n) (hn : As.length = n) (hsize : ls.size = nL) (hstack : st0 = As.reverse ++ .ref b :: rest) (hW : (rest.map fun v => v.category).sum ≤ 8) (hdg : decode cc pc = .ok (.invokevirtual index, 3)) (hf : cells + mc ≤ R.cells ∧ slots + ms ≤ R.slots)
    (hZ : nwOK s) (hK : va_K D cl tys s) (hP : va_P D cl ws H) (hD : va_D A ws) (hS : va_S A H0 H locs) (hA : ∀ q, H0.size ≤ q → A q) (ci q0 : Nat) {T : u_T} {N : Nat} {fs : List Value} (hc : cl[ci]? = some (C, T, N)) (he : ws[q0]? = some (b, .inr (ci, fs))) (isC isR ks : List Nat) (hC : isC.map (fun i => ws[i]?) = wc.map some) (hCn : va_nd isC = true) (hR : isR.map (fun i => ws[i]?) = wr.map some) (hRn : va_nd isR = true) (hdis : ∀ i ∈ isR, i ∉ isC) (hkn : va_nd ks = true) (hk : ks.map (fun i => (wr ++ wc')[i]?) = ws'.map some)
    (kk : ∀ (H1 : Heap) (locs1 : List Loc), va_P D cl ws' H1 → va_D A ws' → va_S A H0 H1 locs1 → W p l e R s m args below meth c H1 locs1 (cells + mc) (slots + ms) Q (F0 m (pc + 3) ls (.ref r :: rest))) : W p l e R s m args below meth c H locs cells slots Q (F0 m pc ls st0) := by
  have hPc : va_P D cl wc H := hP.sub isC (fm_of_map _ isC wc hC)
  have hDc : va_D A wc := hD.sub isC hCn hC
  exact s_callr (va_runV (As := As) (rest := rest) S (hM H.size) cw ⟨sFB, va_recv hK hP hc he, sPV (A := A) hZ hPc hDc hK⟩ rfl hn hsize hstack (lv_room hW) hdg hf) hP hD hS hA isC isR ks hC hR hRn hdis hkn hk kk
theorem s_Si {r : Int32} (S : CallFix p m c cc nL s args Ts own) (hM : MetI l y wsy rm D cl tys As wc r wc' mc ms) (cw : CallB R s args own index y bytes maxL ret wsy rm mc ms n ∧ (Cond.static y).before args s = true) (hn : As.length = n) (hsize : ls.size = nL) (hstack : st0 = As.reverse ++ rest) (hW : (rest.map fun v => v.category).sum ≤ 8) (hdg : decode cc pc = .ok (.invokestatic index, 3)) (hf : cells + mc ≤ R.cells ∧ slots + ms ≤ R.slots)
    (hZ : nwOK s) (hK : va_K D cl tys s) (hP : va_P D cl ws H) (hD : va_D A ws) (hS : va_S A H0 H locs) (hA : ∀ q, H0.size ≤ q → A q) (isC isR ks : List Nat) (hC : isC.map (fun i => ws[i]?) = wc.map some) (hCn : va_nd isC = true) (hR : isR.map (fun i => ws[i]?) = wr.map some) (hRn : va_nd isR = true) (hdis : ∀ i ∈ isR, i ∉ isC) (hkn : va_nd ks = true) (hk : ks.map (fun i => (wr ++ wc')[i]?) = ws'.map some)
    (kk : ∀ (H1 : Heap) (locs1 : List Loc), va_P D cl ws' H1 → va_D A ws' → va_S A H0 H1 locs1 → W p l e R s m args below meth c H1 locs1 (cells + mc) (slots + ms) Q (F0 m (pc + 3) ls (.int r :: rest))) : W p l e R s m args below meth c H locs cells slots Q (F0 m pc ls st0) := by
  have hPc : va_P D cl wc H := hP.sub isC (fm_of_map _ isC wc hC)
  have hDc : va_D A wc := hD.sub isC hCn hC
  exact s_calli (va_runS (As := As) (rest := rest) S (hM H.size) cw ⟨sFB, sPV (A := A) hZ hPc hDc hK⟩ rfl hn hsize hstack (lv_room hW) hdg hf) hP hD hS hA isC isR ks hC hR hRn hdis hkn hk kk
theorem s_Sl {r : Int64} (S : CallFix p m c cc nL s args Ts own) (hM : MetL l y wsy rm D cl tys As wc r wc' mc ms) (cw : CallB R s args own index y bytes maxL ret wsy rm mc ms n ∧ (Cond.static y).before args s = true) (hn : As.length = n) (hsize : ls.size = nL) (hstack : st0 = As.reverse ++ rest) (hW : (rest.map fun v => v.category).sum ≤ 8) (hdg : decode cc pc = .ok (.invokestatic index, 3)) (hf : cells + mc ≤ R.cells ∧ slots + ms ≤ R.slots)
    (hZ : nwOK s) (hK : va_K D cl tys s) (hP : va_P D cl ws H) (hD : va_D A ws) (hS : va_S A H0 H locs) (hA : ∀ q, H0.size ≤ q → A q) (isC isR ks : List Nat) (hC : isC.map (fun i => ws[i]?) = wc.map some) (hCn : va_nd isC = true) (hR : isR.map (fun i => ws[i]?) = wr.map some) (hRn : va_nd isR = true) (hdis : ∀ i ∈ isR, i ∉ isC) (hkn : va_nd ks = true) (hk : ks.map (fun i => (wr ++ wc')[i]?) = ws'.map some)
    (kk : ∀ (H1 : Heap) (locs1 : List Loc), va_P D cl ws' H1 → va_D A ws' → va_S A H0 H1 locs1 → W p l e R s m args below meth c H1 locs1 (cells + mc) (slots + ms) Q (F0 m (pc + 3) ls (.long r :: rest))) : W p l e R s m args below meth c H locs cells slots Q (F0 m pc ls st0) := by
  have hPc : va_P D cl wc H := hP.sub isC (fm_of_map _ isC wc hC)
  have hDc : va_D A wc := hD.sub isC hCn hC
  exact s_calll (va_runS (As := As) (rest := rest) S (hM H.size) cw ⟨sFB, sPV (A := A) hZ hPc hDc hK⟩ rfl hn hsize hstack (lv_room hW) hdg hf) hP hD hS hA isC isR ks hC hR hRn hdis hkn hk kk
theorem s_Sv  (S : CallFix p m c cc nL s args Ts own) (hM : MetV l y wsy rm D cl tys As wc wc' mc ms) (cw : CallB R s args own index y bytes maxL ret wsy rm mc ms n ∧ (Cond.static y).before args s = true) (hn : As.length = n) (hsize : ls.size = nL) (hstack : st0 = As.reverse ++ rest) (hW : (rest.map fun v => v.category).sum ≤ 8) (hdg : decode cc pc = .ok (.invokestatic index, 3)) (hf : cells + mc ≤ R.cells ∧ slots + ms ≤ R.slots)
    (hZ : nwOK s) (hK : va_K D cl tys s) (hP : va_P D cl ws H) (hD : va_D A ws) (hS : va_S A H0 H locs) (hA : ∀ q, H0.size ≤ q → A q) (isC isR ks : List Nat) (hC : isC.map (fun i => ws[i]?) = wc.map some) (hCn : va_nd isC = true) (hR : isR.map (fun i => ws[i]?) = wr.map some) (hRn : va_nd isR = true) (hdis : ∀ i ∈ isR, i ∉ isC) (hkn : va_nd ks = true) (hk : ks.map (fun i => (wr ++ wc')[i]?) = ws'.map some)
    (kk : ∀ (H1 : Heap) (locs1 : List Loc), va_P D cl ws' H1 → va_D A ws' → va_S A H0 H1 locs1 → W p l e R s m args below meth c H1 locs1 (cells + mc) (slots + ms) Q (F0 m (pc + 3) ls rest)) : W p l e R s m args below meth c H locs cells slots Q (F0 m pc ls st0) := by
  have hPc : va_P D cl wc H := hP.sub isC (fm_of_map _ isC wc hC)
  have hDc : va_D A wc := hD.sub isC hCn hC
  exact s_callv (va_runS (As := As) (rest := rest) S (hM H.size) cw ⟨sFB, sPV (A := A) hZ hPc hDc hK⟩ rfl hn hsize hstack (lv_room hW) hdg hf) hP hD hS hA isC isR ks hC hR hRn hdis hkn hk kk
theorem s_Sr {r : Nat} (S : CallFix p m c cc nL s args Ts own) (hM : MetR l y wsy rm D cl tys As wc r wc' mc ms) (cw : CallB R s args own index y bytes maxL ret wsy rm mc ms n ∧ (Cond.static y).before args s = true) (hn : As.length = n) (hsize : ls.size = nL) (hstack : st0 = As.reverse ++ rest) (hW : (rest.map fun v => v.category).sum ≤ 8) (hdg : decode cc pc = .ok (.invokestatic index, 3)) (hf : cells + mc ≤ R.cells ∧ slots + ms ≤ R.slots)
    (hZ : nwOK s) (hK : va_K D cl tys s) (hP : va_P D cl ws H) (hD : va_D A ws) (hS : va_S A H0 H locs) (hA : ∀ q, H0.size ≤ q → A q) (isC isR ks : List Nat) (hC : isC.map (fun i => ws[i]?) = wc.map some) (hCn : va_nd isC = true) (hR : isR.map (fun i => ws[i]?) = wr.map some) (hRn : va_nd isR = true) (hdis : ∀ i ∈ isR, i ∉ isC) (hkn : va_nd ks = true) (hk : ks.map (fun i => (wr ++ wc')[i]?) = ws'.map some)
    (kk : ∀ (H1 : Heap) (locs1 : List Loc), va_P D cl ws' H1 → va_D A ws' → va_S A H0 H1 locs1 → W p l e R s m args below meth c H1 locs1 (cells + mc) (slots + ms) Q (F0 m (pc + 3) ls (.ref r :: rest))) : W p l e R s m args below meth c H locs cells slots Q (F0 m pc ls st0) := by
  have hPc : va_P D cl wc H := hP.sub isC (fm_of_map _ isC wc hC)
  have hDc : va_D A wc := hD.sub isC hCn hC
  exact s_callr (va_runS (As := As) (rest := rest) S (hM H.size) cw ⟨sFB, sPV (A := A) hZ hPc hDc hK⟩ rfl hn hsize hstack (lv_room hW) hdg hf) hP hD hS hA isC isR ks hC hR hRn hdis hkn hk kk
theorem s_VNi {r : Int32} (S : CallFix p m c cc nL s args Ts own) (hM : MetI l y wsy rm D cl tys (.ref b :: As) wc r wc' mc ms) (cw : va_CN R s args own index y host bytes maxL ret wsy rm mc ms n ∧ (Cond.instanceMethod y).before args s = true ∧ (Cond.selects C y y).before args s = true) (hn : As.length = n) (hsize : ls.size = nL) (hstack : st0 = As.reverse ++ .ref b :: rest) (hW : (rest.map fun v => v.category).sum ≤ 8) (hdg : decode cc pc = .ok (.invokevirtual index, 3)) (hf : cells + mc ≤ R.cells ∧ slots + ms ≤ R.slots)
    (hZ : nwOK s) (hK : va_K D cl tys s) (hP : va_P D cl ws H) (hD : va_D A ws) (hS : va_S A H0 H locs) (hA : ∀ q, H0.size ≤ q → A q) (ci q0 : Nat) {T : u_T} {N : Nat} {fs : List Value} (hc : cl[ci]? = some (C, T, N)) (he : ws[q0]? = some (b, .inr (ci, fs))) (isC isR ks : List Nat) (hC : isC.map (fun i => ws[i]?) = wc.map some) (hCn : va_nd isC = true) (hR : isR.map (fun i => ws[i]?) = wr.map some) (hRn : va_nd isR = true) (hdis : ∀ i ∈ isR, i ∉ isC) (hkn : va_nd ks = true) (hk : ks.map (fun i => (wr ++ wc')[i]?) = ws'.map some)
    (kk : ∀ (H1 : Heap) (locs1 : List Loc), va_P D cl ws' H1 → va_D A ws' → va_S A H0 H1 locs1 → W p l e R s m args below meth c H1 locs1 (cells + mc) (slots + ms) Q (F0 m (pc + 3) ls (.int r :: rest))) : W p l e R s m args below meth c H locs cells slots Q (F0 m pc ls st0) := by
  have hPc : va_P D cl wc H := hP.sub isC (fm_of_map _ isC wc hC)
  have hDc : va_D A wc := hD.sub isC hCn hC
  exact s_calli (va_runVN (As := As) (rest := rest) S (hM H.size) cw ⟨sFB, va_recv hK hP hc he, sPV (A := A) hZ hPc hDc hK⟩ rfl hn hsize hstack (lv_room hW) hdg hf) hP hD hS hA isC isR ks hC hR hRn hdis hkn hk kk
theorem s_VNl {r : Int64} (S : CallFix p m c cc nL s args Ts own) (hM : MetL l y wsy rm D cl tys (.ref b :: As) wc r wc' mc ms) (cw : va_CN R s args own index y host bytes maxL ret wsy rm mc ms n ∧ (Cond.instanceMethod y).before args s = true ∧ (Cond.selects C y y).before args s = true) (hn : As.length = n) (hsize : ls.size = nL) (hstack : st0 = As.reverse ++ .ref b :: rest) (hW : (rest.map fun v => v.category).sum ≤ 8) (hdg : decode cc pc = .ok (.invokevirtual index, 3)) (hf : cells + mc ≤ R.cells ∧ slots + ms ≤ R.slots)
    (hZ : nwOK s) (hK : va_K D cl tys s) (hP : va_P D cl ws H) (hD : va_D A ws) (hS : va_S A H0 H locs) (hA : ∀ q, H0.size ≤ q → A q) (ci q0 : Nat) {T : u_T} {N : Nat} {fs : List Value} (hc : cl[ci]? = some (C, T, N)) (he : ws[q0]? = some (b, .inr (ci, fs))) (isC isR ks : List Nat) (hC : isC.map (fun i => ws[i]?) = wc.map some) (hCn : va_nd isC = true) (hR : isR.map (fun i => ws[i]?) = wr.map some) (hRn : va_nd isR = true) (hdis : ∀ i ∈ isR, i ∉ isC) (hkn : va_nd ks = true) (hk : ks.map (fun i => (wr ++ wc')[i]?) = ws'.map some)
    (kk : ∀ (H1 : Heap) (locs1 : List Loc), va_P D cl ws' H1 → va_D A ws' → va_S A H0 H1 locs1 → W p l e R s m args below meth c H1 locs1 (cells + mc) (slots + ms) Q (F0 m (pc + 3) ls (.long r :: rest))) : W p l e R s m args below meth c H locs cells slots Q (F0 m pc ls st0) := by
  have hPc : va_P D cl wc H := hP.sub isC (fm_of_map _ isC wc hC)
  have hDc : va_D A wc := hD.sub isC hCn hC
  exact s_calll (va_runVN (As := As) (rest := rest) S (hM H.size) cw ⟨sFB, va_recv hK hP hc he, sPV (A := A) hZ hPc hDc hK⟩ rfl hn hsize hstack (lv_room hW) hdg hf) hP hD hS hA isC isR ks hC hR hRn hdis hkn hk kk
theorem s_VNv  (S : CallFix p m c cc nL s args Ts own) (hM : MetV l y wsy rm D cl tys (.ref b :: As) wc wc' mc ms) (cw : va_CN R s args own index y host bytes maxL ret wsy rm mc ms n ∧ (Cond.instanceMethod y).before args s = true ∧ (Cond.selects C y y).before args s = true) (hn : As.length = n) (hsize : ls.size = nL) (hstack : st0 = As.reverse ++ .ref b :: rest) (hW : (rest.map fun v => v.category).sum ≤ 8) (hdg : decode cc pc = .ok (.invokevirtual index, 3)) (hf : cells + mc ≤ R.cells ∧ slots + ms ≤ R.slots)
    (hZ : nwOK s) (hK : va_K D cl tys s) (hP : va_P D cl ws H) (hD : va_D A ws) (hS : va_S A H0 H locs) (hA : ∀ q, H0.size ≤ q → A q) (ci q0 : Nat) {T : u_T} {N : Nat} {fs : List Value} (hc : cl[ci]? = some (C, T, N)) (he : ws[q0]? = some (b, .inr (ci, fs))) (isC isR ks : List Nat) (hC : isC.map (fun i => ws[i]?) = wc.map some) (hCn : va_nd isC = true) (hR : isR.map (fun i => ws[i]?) = wr.map some) (hRn : va_nd isR = true) (hdis : ∀ i ∈ isR, i ∉ isC) (hkn : va_nd ks = true) (hk : ks.map (fun i => (wr ++ wc')[i]?) = ws'.map some)
    (kk : ∀ (H1 : Heap) (locs1 : List Loc), va_P D cl ws' H1 → va_D A ws' → va_S A H0 H1 locs1 → W p l e R s m args below meth c H1 locs1 (cells + mc) (slots + ms) Q (F0 m (pc + 3) ls rest)) : W p l e R s m args below meth c H locs cells slots Q (F0 m pc ls st0) := by
  have hPc : va_P D cl wc H := hP.sub isC (fm_of_map _ isC wc hC)
  have hDc : va_D A wc := hD.sub isC hCn hC
  exact s_callv (va_runVN (As := As) (rest := rest) S (hM H.size) cw ⟨sFB, va_recv hK hP hc he, sPV (A := A) hZ hPc hDc hK⟩ rfl hn hsize hstack (lv_room hW) hdg hf) hP hD hS hA isC isR ks hC hR hRn hdis hkn hk kk
theorem s_VNr {r : Nat} (S : CallFix p m c cc nL s args Ts own) (hM : MetR l y wsy rm D cl tys (.ref b :: As) wc r wc' mc ms) (cw : va_CN R s args own index y host bytes maxL ret wsy rm mc ms n ∧ (Cond.instanceMethod y).before args s = true ∧ (Cond.selects C y y).before args s = true) (hn : As.length = n) (hsize : ls.size = nL) (hstack : st0 = As.reverse ++ .ref b :: rest) (hW : (rest.map fun v => v.category).sum ≤ 8) (hdg : decode cc pc = .ok (.invokevirtual index, 3)) (hf : cells + mc ≤ R.cells ∧ slots + ms ≤ R.slots)
    (hZ : nwOK s) (hK : va_K D cl tys s) (hP : va_P D cl ws H) (hD : va_D A ws) (hS : va_S A H0 H locs) (hA : ∀ q, H0.size ≤ q → A q) (ci q0 : Nat) {T : u_T} {N : Nat} {fs : List Value} (hc : cl[ci]? = some (C, T, N)) (he : ws[q0]? = some (b, .inr (ci, fs))) (isC isR ks : List Nat) (hC : isC.map (fun i => ws[i]?) = wc.map some) (hCn : va_nd isC = true) (hR : isR.map (fun i => ws[i]?) = wr.map some) (hRn : va_nd isR = true) (hdis : ∀ i ∈ isR, i ∉ isC) (hkn : va_nd ks = true) (hk : ks.map (fun i => (wr ++ wc')[i]?) = ws'.map some)
    (kk : ∀ (H1 : Heap) (locs1 : List Loc), va_P D cl ws' H1 → va_D A ws' → va_S A H0 H1 locs1 → W p l e R s m args below meth c H1 locs1 (cells + mc) (slots + ms) Q (F0 m (pc + 3) ls (.ref r :: rest))) : W p l e R s m args below meth c H locs cells slots Q (F0 m pc ls st0) := by
  have hPc : va_P D cl wc H := hP.sub isC (fm_of_map _ isC wc hC)
  have hDc : va_D A wc := hD.sub isC hCn hC
  exact s_callr (va_runVN (As := As) (rest := rest) S (hM H.size) cw ⟨sFB, va_recv hK hP hc he, sPV (A := A) hZ hPc hDc hK⟩ rfl hn hsize hstack (lv_room hW) hdg hf) hP hD hS hA isC isR ks hC hR hRn hdis hkn hk kk
theorem s_SNi {r : Int32} (S : CallFix p m c cc nL s args Ts own) (hM : MetI l y wsy rm D cl tys As wc r wc' mc ms) (cw : va_CN R s args own index y host bytes maxL ret wsy rm mc ms n ∧ (Cond.static y).before args s = true ∧ True) (hn : As.length = n) (hsize : ls.size = nL) (hstack : st0 = As.reverse ++ rest) (hW : (rest.map fun v => v.category).sum ≤ 8) (hdg : decode cc pc = .ok (.invokestatic index, 3)) (hf : cells + mc ≤ R.cells ∧ slots + ms ≤ R.slots)
    (hZ : nwOK s) (hK : va_K D cl tys s) (hP : va_P D cl ws H) (hD : va_D A ws) (hS : va_S A H0 H locs) (hA : ∀ q, H0.size ≤ q → A q) (isC isR ks : List Nat) (hC : isC.map (fun i => ws[i]?) = wc.map some) (hCn : va_nd isC = true) (hR : isR.map (fun i => ws[i]?) = wr.map some) (hRn : va_nd isR = true) (hdis : ∀ i ∈ isR, i ∉ isC) (hkn : va_nd ks = true) (hk : ks.map (fun i => (wr ++ wc')[i]?) = ws'.map some)
    (kk : ∀ (H1 : Heap) (locs1 : List Loc), va_P D cl ws' H1 → va_D A ws' → va_S A H0 H1 locs1 → W p l e R s m args below meth c H1 locs1 (cells + mc) (slots + ms) Q (F0 m (pc + 3) ls (.int r :: rest))) : W p l e R s m args below meth c H locs cells slots Q (F0 m pc ls st0) := by
  have hPc : va_P D cl wc H := hP.sub isC (fm_of_map _ isC wc hC)
  have hDc : va_D A wc := hD.sub isC hCn hC
  exact s_calli (va_runSN (As := As) (rest := rest) S (hM H.size) cw ⟨sFB, sPV (A := A) hZ hPc hDc hK⟩ rfl hn hsize hstack (lv_room hW) hdg hf) hP hD hS hA isC isR ks hC hR hRn hdis hkn hk kk
theorem s_SNl {r : Int64} (S : CallFix p m c cc nL s args Ts own) (hM : MetL l y wsy rm D cl tys As wc r wc' mc ms) (cw : va_CN R s args own index y host bytes maxL ret wsy rm mc ms n ∧ (Cond.static y).before args s = true ∧ True) (hn : As.length = n) (hsize : ls.size = nL) (hstack : st0 = As.reverse ++ rest) (hW : (rest.map fun v => v.category).sum ≤ 8) (hdg : decode cc pc = .ok (.invokestatic index, 3)) (hf : cells + mc ≤ R.cells ∧ slots + ms ≤ R.slots)
    (hZ : nwOK s) (hK : va_K D cl tys s) (hP : va_P D cl ws H) (hD : va_D A ws) (hS : va_S A H0 H locs) (hA : ∀ q, H0.size ≤ q → A q) (isC isR ks : List Nat) (hC : isC.map (fun i => ws[i]?) = wc.map some) (hCn : va_nd isC = true) (hR : isR.map (fun i => ws[i]?) = wr.map some) (hRn : va_nd isR = true) (hdis : ∀ i ∈ isR, i ∉ isC) (hkn : va_nd ks = true) (hk : ks.map (fun i => (wr ++ wc')[i]?) = ws'.map some)
    (kk : ∀ (H1 : Heap) (locs1 : List Loc), va_P D cl ws' H1 → va_D A ws' → va_S A H0 H1 locs1 → W p l e R s m args below meth c H1 locs1 (cells + mc) (slots + ms) Q (F0 m (pc + 3) ls (.long r :: rest))) : W p l e R s m args below meth c H locs cells slots Q (F0 m pc ls st0) := by
  have hPc : va_P D cl wc H := hP.sub isC (fm_of_map _ isC wc hC)
  have hDc : va_D A wc := hD.sub isC hCn hC
  exact s_calll (va_runSN (As := As) (rest := rest) S (hM H.size) cw ⟨sFB, sPV (A := A) hZ hPc hDc hK⟩ rfl hn hsize hstack (lv_room hW) hdg hf) hP hD hS hA isC isR ks hC hR hRn hdis hkn hk kk
theorem s_SNv  (S : CallFix p m c cc nL s args Ts own) (hM : MetV l y wsy rm D cl tys As wc wc' mc ms) (cw : va_CN R s args own index y host bytes maxL ret wsy rm mc ms n ∧ (Cond.static y).before args s = true ∧ True) (hn : As.length = n) (hsize : ls.size = nL) (hstack : st0 = As.reverse ++ rest) (hW : (rest.map fun v => v.category).sum ≤ 8) (hdg : decode cc pc = .ok (.invokestatic index, 3)) (hf : cells + mc ≤ R.cells ∧ slots + ms ≤ R.slots)
    (hZ : nwOK s) (hK : va_K D cl tys s) (hP : va_P D cl ws H) (hD : va_D A ws) (hS : va_S A H0 H locs) (hA : ∀ q, H0.size ≤ q → A q) (isC isR ks : List Nat) (hC : isC.map (fun i => ws[i]?) = wc.map some) (hCn : va_nd isC = true) (hR : isR.map (fun i => ws[i]?) = wr.map some) (hRn : va_nd isR = true) (hdis : ∀ i ∈ isR, i ∉ isC) (hkn : va_nd ks = true) (hk : ks.map (fun i => (wr ++ wc')[i]?) = ws'.map some)
    (kk : ∀ (H1 : Heap) (locs1 : List Loc), va_P D cl ws' H1 → va_D A ws' → va_S A H0 H1 locs1 → W p l e R s m args below meth c H1 locs1 (cells + mc) (slots + ms) Q (F0 m (pc + 3) ls rest)) : W p l e R s m args below meth c H locs cells slots Q (F0 m pc ls st0) := by
  have hPc : va_P D cl wc H := hP.sub isC (fm_of_map _ isC wc hC)
  have hDc : va_D A wc := hD.sub isC hCn hC
  exact s_callv (va_runSN (As := As) (rest := rest) S (hM H.size) cw ⟨sFB, sPV (A := A) hZ hPc hDc hK⟩ rfl hn hsize hstack (lv_room hW) hdg hf) hP hD hS hA isC isR ks hC hR hRn hdis hkn hk kk
theorem s_SNr {r : Nat} (S : CallFix p m c cc nL s args Ts own) (hM : MetR l y wsy rm D cl tys As wc r wc' mc ms) (cw : va_CN R s args own index y host bytes maxL ret wsy rm mc ms n ∧ (Cond.static y).before args s = true ∧ True) (hn : As.length = n) (hsize : ls.size = nL) (hstack : st0 = As.reverse ++ rest) (hW : (rest.map fun v => v.category).sum ≤ 8) (hdg : decode cc pc = .ok (.invokestatic index, 3)) (hf : cells + mc ≤ R.cells ∧ slots + ms ≤ R.slots)
    (hZ : nwOK s) (hK : va_K D cl tys s) (hP : va_P D cl ws H) (hD : va_D A ws) (hS : va_S A H0 H locs) (hA : ∀ q, H0.size ≤ q → A q) (isC isR ks : List Nat) (hC : isC.map (fun i => ws[i]?) = wc.map some) (hCn : va_nd isC = true) (hR : isR.map (fun i => ws[i]?) = wr.map some) (hRn : va_nd isR = true) (hdis : ∀ i ∈ isR, i ∉ isC) (hkn : va_nd ks = true) (hk : ks.map (fun i => (wr ++ wc')[i]?) = ws'.map some)
    (kk : ∀ (H1 : Heap) (locs1 : List Loc), va_P D cl ws' H1 → va_D A ws' → va_S A H0 H1 locs1 → W p l e R s m args below meth c H1 locs1 (cells + mc) (slots + ms) Q (F0 m (pc + 3) ls (.ref r :: rest))) : W p l e R s m args below meth c H locs cells slots Q (F0 m pc ls st0) := by
  have hPc : va_P D cl wc H := hP.sub isC (fm_of_map _ isC wc hC)
  have hDc : va_D A wc := hD.sub isC hCn hC
  exact s_callr (va_runSN (As := As) (rest := rest) S (hM H.size) cw ⟨sFB, sPV (A := A) hZ hPc hDc hK⟩ rfl hn hsize hstack (lv_room hW) hdg hf) hP hD hS hA isC isR ks hC hR hRn hdis hkn hk kk
theorem s_iret {r : Int32} (hx : p.tables.exec = Jvm.exec) (hb : c.code = cc) (hr : meth.sig.returnType = some .int) (hlocks : meth.locks = false) (hP : va_P D cl wc H) (hK : va_K D cl tys s) (hD : va_D A wc) (hS : va_S A s.heap H locs) (hdg : decode cc pc = .ok (.ireturn, 1)) : W p l e R s m args below meth c H locs cells slots (MQ below (sQi D cl tys A r wc) args s cells slots A) (F0 m pc ls [.int r]) :=
  W.iret hx hb hr (fun t ht hW => ⟨⟨r, (), rfl, rfl, by rw [ht]; exact hP, va_K.moved hW.alike hK, hD⟩, hS.F ht⟩) hS.2.2 hdg hlocks
theorem s_zret {r : Int32} {ty : FieldType} (hx : p.tables.exec = Jvm.exec) (hb : c.code = cc) (hr : meth.sig.returnType = some ty) (hn : narrow ty (.int r) = .int r) (hlocks : meth.locks = false) (hP : va_P D cl wc H) (hK : va_K D cl tys s) (hD : va_D A wc) (hS : va_S A s.heap H locs) (hdg : decode cc pc = .ok (.ireturn, 1)) : W p l e R s m args below meth c H locs cells slots (MQ below (sQi D cl tys A r wc) args s cells slots A) (F0 m pc ls [.int r]) :=
  W.zret hx hb hr hn (fun t ht hW => ⟨⟨r, (), rfl, rfl, by rw [ht]; exact hP, va_K.moved hW.alike hK, hD⟩, hS.F ht⟩) hS.2.2 hdg hlocks
theorem s_lret {r : Int64} (hx : p.tables.exec = Jvm.exec) (hb : c.code = cc) (hr : meth.sig.returnType = some .long) (hlocks : meth.locks = false) (hP : va_P D cl wc H) (hK : va_K D cl tys s) (hD : va_D A wc) (hS : va_S A s.heap H locs) (hdg : decode cc pc = .ok (.lreturn, 1)) : W p l e R s m args below meth c H locs cells slots (MQ below (sQl D cl tys A r wc) args s cells slots A) (F0 m pc ls [.long r]) :=
  W.lret hx hb hr (fun t ht hW => ⟨⟨r, (), rfl, rfl, by rw [ht]; exact hP, va_K.moved hW.alike hK, hD⟩, hS.F ht⟩) hS.2.2 hdg hlocks
theorem s_vret  (hx : p.tables.exec = Jvm.exec) (hb : c.code = cc) (hr : meth.sig.returnType = none) (hlocks : meth.locks = false) (hP : va_P D cl wc H) (hK : va_K D cl tys s) (hD : va_D A wc) (hS : va_S A s.heap H locs) (hdg : decode cc pc = .ok (.return_, 1)) : W p l e R s m args below meth c H locs cells slots (MQ below (sQv D cl tys A wc) args s cells slots A) (F0 m pc ls []) :=
  W.vret hx hb hr (fun t ht hW => ⟨⟨(), rfl, trivial, by rw [ht]; exact hP, va_K.moved hW.alike hK, hD⟩, hS.F ht⟩) hS.2.2 hdg hlocks
theorem s_rret {r : Nat} {ty : FieldType} (hx : p.tables.exec = Jvm.exec) (hb : c.code = cc) (hr : meth.sig.returnType = some ty) (hrt : (∃ n, ty = .object n) ∨ ∃ t, ty = .array t) (hlocks : meth.locks = false) (hP : va_P D cl wc H) (hK : va_K D cl tys s) (hD : va_D A wc) (hS : va_S A s.heap H locs) (hdg : decode cc pc = .ok (.areturn, 1)) : W p l e R s m args below meth c H locs cells slots (MQ below (sQr D cl tys A r wc) args s cells slots A) (F0 m pc ls [.ref r]) :=
  W.aret hx hb hr hrt (Or.inr ⟨_, rfl⟩) (fun t ht hW => ⟨⟨(), r, rfl, trivial, rfl, by rw [ht]; exact hP, va_K.moved hW.alike hK, hD⟩, hS.F ht⟩) hS.2.2 hdg hlocks
theorem s_ofi {r : Int32} (hy : plainName y.cls = true) (hw : wsy = Cond.code y bytes maxL ret :: lw_g) (hn : (lg_sl vs).length ≤ maxL) (body : ∀ (p : Program) (e : Env) (s : State) (m : MethodId) (below : List Frame) (meth : Method) (c : Code) (A : Nat → Prop) (ls : Array Slot), Fx p s m vs.toArray meth c bytes maxL y.cls lw_g ret → va_K D cl tys s → (∀ q, s.heap.size ≤ q → A q) → va_P D cl wc s.heap → va_D A wc → va_S A s.heap s.heap [] → lv_has ls maxL (lv_args 0 vs) → W p l e rm s m vs.toArray below meth c s.heap [] 0 0 (MQ below (sQi D cl tys A r wc') vs.toArray s mc ms A) (F0 m 0 ls [])) : MetI l y wsy rm D cl tys vs wc r wc' mc ms := by
  intro sz
  refine Met.ofW (cc := bytes) (maxL := maxL) (ret := ret) hy hw ?_
  intro p e s m args below meth c s₁ B hml hv
  obtain ⟨rfl, hsz, hP, hK, hD0, hZ⟩ := hv
  subst hsz
  rw [lg_entry_eq]
  exact body p e s m below meth c (va_A wc s.heap.size) _ ⟨B.exec, B.bytes, hml, findClass_of_methodNamed B.named, fun w hq => atoms_spec (ws := wsy) B.pre w (by rw [hw]; exact List.mem_cons_of_mem _ hq), B.returns, B.notSynchronized, hZ⟩ hK (fun q h => Or.inr h) hP hD0.self va_S.rf (lv_entry vs hn)
theorem s_ofl {r : Int64} (hy : plainName y.cls = true) (hw : wsy = Cond.code y bytes maxL ret :: lw_g) (hn : (lg_sl vs).length ≤ maxL) (body : ∀ (p : Program) (e : Env) (s : State) (m : MethodId) (below : List Frame) (meth : Method) (c : Code) (A : Nat → Prop) (ls : Array Slot), Fx p s m vs.toArray meth c bytes maxL y.cls lw_g ret → va_K D cl tys s → (∀ q, s.heap.size ≤ q → A q) → va_P D cl wc s.heap → va_D A wc → va_S A s.heap s.heap [] → lv_has ls maxL (lv_args 0 vs) → W p l e rm s m vs.toArray below meth c s.heap [] 0 0 (MQ below (sQl D cl tys A r wc') vs.toArray s mc ms A) (F0 m 0 ls [])) : MetL l y wsy rm D cl tys vs wc r wc' mc ms := by
  intro sz
  refine Met.ofW (cc := bytes) (maxL := maxL) (ret := ret) hy hw ?_
  intro p e s m args below meth c s₁ B hml hv
  obtain ⟨rfl, hsz, hP, hK, hD0, hZ⟩ := hv
  subst hsz
  rw [lg_entry_eq]
  exact body p e s m below meth c (va_A wc s.heap.size) _ ⟨B.exec, B.bytes, hml, findClass_of_methodNamed B.named, fun w hq => atoms_spec (ws := wsy) B.pre w (by rw [hw]; exact List.mem_cons_of_mem _ hq), B.returns, B.notSynchronized, hZ⟩ hK (fun q h => Or.inr h) hP hD0.self va_S.rf (lv_entry vs hn)
theorem s_ofv  (hy : plainName y.cls = true) (hw : wsy = Cond.code y bytes maxL ret :: lw_g) (hn : (lg_sl vs).length ≤ maxL) (body : ∀ (p : Program) (e : Env) (s : State) (m : MethodId) (below : List Frame) (meth : Method) (c : Code) (A : Nat → Prop) (ls : Array Slot), Fx p s m vs.toArray meth c bytes maxL y.cls lw_g ret → va_K D cl tys s → (∀ q, s.heap.size ≤ q → A q) → va_P D cl wc s.heap → va_D A wc → va_S A s.heap s.heap [] → lv_has ls maxL (lv_args 0 vs) → W p l e rm s m vs.toArray below meth c s.heap [] 0 0 (MQ below (sQv D cl tys A wc') vs.toArray s mc ms A) (F0 m 0 ls [])) : MetV l y wsy rm D cl tys vs wc wc' mc ms := by
  intro sz
  refine Met.ofW (cc := bytes) (maxL := maxL) (ret := ret) hy hw ?_
  intro p e s m args below meth c s₁ B hml hv
  obtain ⟨rfl, hsz, hP, hK, hD0, hZ⟩ := hv
  subst hsz
  rw [lg_entry_eq]
  exact body p e s m below meth c (va_A wc s.heap.size) _ ⟨B.exec, B.bytes, hml, findClass_of_methodNamed B.named, fun w hq => atoms_spec (ws := wsy) B.pre w (by rw [hw]; exact List.mem_cons_of_mem _ hq), B.returns, B.notSynchronized, hZ⟩ hK (fun q h => Or.inr h) hP hD0.self va_S.rf (lv_entry vs hn)
theorem s_ofr {r : Nat} (hy : plainName y.cls = true) (hw : wsy = Cond.code y bytes maxL ret :: lw_g) (hn : (lg_sl vs).length ≤ maxL) (body : ∀ (p : Program) (e : Env) (s : State) (m : MethodId) (below : List Frame) (meth : Method) (c : Code) (A : Nat → Prop) (ls : Array Slot), Fx p s m vs.toArray meth c bytes maxL y.cls lw_g ret → va_K D cl tys s → (∀ q, s.heap.size ≤ q → A q) → va_P D cl wc s.heap → va_D A wc → va_S A s.heap s.heap [] → lv_has ls maxL (lv_args 0 vs) → W p l e rm s m vs.toArray below meth c s.heap [] 0 0 (MQ below (sQr D cl tys A r wc') vs.toArray s mc ms A) (F0 m 0 ls [])) : MetR l y wsy rm D cl tys vs wc r wc' mc ms := by
  intro sz
  refine Met.ofW (cc := bytes) (maxL := maxL) (ret := ret) hy hw ?_
  intro p e s m args below meth c s₁ B hml hv
  obtain ⟨rfl, hsz, hP, hK, hD0, hZ⟩ := hv
  subst hsz
  rw [lg_entry_eq]
  exact body p e s m below meth c (va_A wc s.heap.size) _ ⟨B.exec, B.bytes, hml, findClass_of_methodNamed B.named, fun w hq => atoms_spec (ws := wsy) B.pre w (by rw [hw]; exact List.mem_cons_of_mem _ hq), B.returns, B.notSynchronized, hZ⟩ hK (fun q h => Or.inr h) hP hD0.self va_S.rf (lv_entry vs hn)
def MetN {S : Type} (l : Launch) (y : MethodName) (ws : List Cond) (rm : Room) (D : va_G) (cl : List vw_C) (tys : List (ClassId × FieldType)) (vs : List Value) (wc : va_W) (wn : S → va_W) (mc ms : Nat) : Prop := ∀ sz : Nat, Met l y ws rm (va_Pc vs (sPre D cl tys wc sz)) (va_Qv (fun (_ : S) => True) (fun u t => sB D cl tys (va_A wc sz) (wn u) t) (va_A wc sz)) mc ms (va_A wc sz)
theorem s_ofn {S : Type} {wn : S → va_W} (hy : plainName y.cls = true) (hw : wsy = Cond.code y bytes maxL ret :: lw_g) (hn : (lg_sl vs).length ≤ maxL) (body : ∀ (p : Program) (e : Env) (s : State) (m : MethodId) (below : List Frame) (meth : Method) (c : Code) (A : Nat → Prop) (ls : Array Slot), Fx p s m vs.toArray meth c bytes maxL y.cls lw_g ret → meth.name = y.name → va_K D cl tys s → (∀ q, s.heap.size ≤ q → A q) → va_P D cl wc s.heap → va_D A wc → va_S A s.heap s.heap [] → lv_has ls maxL (lv_args 0 vs) → W p l e rm s m vs.toArray below meth c s.heap [] 0 0 (MQ below (va_Qv (fun (_ : S) => True) (fun u t => sB D cl tys A (wn u) t) A) vs.toArray s mc ms A) (F0 m 0 ls [])) : MetN l y wsy rm D cl tys vs wc wn mc ms := by
  intro sz
  refine Met.ofW (cc := bytes) (maxL := maxL) (ret := ret) hy hw ?_
  intro p e s m args below meth c s₁ B hml hv
  obtain ⟨rfl, hsz, hP, hK, hD0, hZ⟩ := hv
  subst hsz
  rw [lg_entry_eq]
  exact body p e s m below meth c (va_A wc s.heap.size) _ ⟨B.exec, B.bytes, hml, findClass_of_methodNamed B.named, fun w hq => atoms_spec (ws := wsy) B.pre w (by rw [hw]; exact List.mem_cons_of_mem _ hq), B.returns, B.notSynchronized, hZ⟩ (name_of_methodNamed B.named B.method).1 hK (fun q h => Or.inr h) hP hD0.self va_S.rf (lv_entry vs hn)
theorem s_nret {S : Type} {wn : S → va_W} (u : S) (hx : p.tables.exec = Jvm.exec) (hb : c.code = cc) (hr : meth.sig.returnType = none) (hlocks : meth.locks = false) (hP : va_P D cl (wn u) H) (hK : va_K D cl tys s) (hD : va_D A (wn u)) (hS : va_S A s.heap H locs) (hdg : decode cc pc = .ok (.return_, 1)) : W p l e R s m args below meth c H locs cells slots (MQ below (va_Qv (fun (_ : S) => True) (fun u t => sB D cl tys A (wn u) t) A) args s cells slots A) (F0 m pc ls []) :=
  W.vret hx hb hr (fun t ht hW => ⟨⟨u, rfl, trivial, by rw [ht]; exact hP, va_K.moved hW.alike hK, hD⟩, hS.F ht⟩) hS.2.2 hdg hlocks
theorem s_In {S : Type} {wn : S → va_W} (F : CallFix p m c cc nL s args Ts own) (hM : MetN l y wsy rm D cl tys (.ref b :: As) wc wn mc ms) (cw : CallB R s args own index y bytes maxL none wsy rm mc ms n ∧ y.name = "<init>" ∧ (Cond.instanceMethod y).before args s = true) (hn : As.length = n) (hsize : ls.size = nL) (hstack : st0 = As.reverse ++ .ref b :: rest) (hW : (rest.map fun v => v.category).sum ≤ 8) (hdg : decode cc pc = .ok (.invokespecial index, 3)) (hf : cells + mc ≤ R.cells ∧ slots + ms ≤ R.slots)
    (hZ : nwOK s) (hK : va_K D cl tys s) (hP : va_P D cl ws H) (hD : va_D A ws) (hS : va_S A H0 H locs) (hA : ∀ q, H0.size ≤ q → A q) (isC isR : List Nat) (hC : isC.map (fun i => ws[i]?) = wc.map some) (hCn : va_nd isC = true) (hR : isR.map (fun i => ws[i]?) = wr.map some) (hRn : va_nd isR = true) (hdis : ∀ i ∈ isR, i ∉ isC)
    (kk : ∀ (u : S) (H1 : Heap) (locs1 : List Loc), va_P D cl (wr ++ wn u) H1 → va_D A (wr ++ wn u) → va_S A H0 H1 locs1 → W p l e R s m args below meth c H1 locs1 (cells + mc) (slots + ms) Q (F0 m (pc + 3) ls rest)) : W p l e R s m args below meth c H locs cells slots Q (F0 m pc ls st0) := by
  have hPc : va_P D cl wc H := hP.sub isC (fm_of_map _ isC wc hC)
  have hDc : va_D A wc := hD.sub isC hCn hC
  have hFc := va_free (wc := wc) hD hS hA isC hC
  refine va_callv (va_runI (As := As) (rest := rest) F (hM H.size) cw ⟨sFB, sPV (A := A) hZ hPc hDc hK⟩ rfl hn hsize hstack (lv_room hW) hdg hf) hS (fun q _ h => hFc q h) hFc (fun u t H1 locs1 ht hvm hw hB hz1 hk1 hS1 => ?_)
  obtain ⟨hP1, hK1, hD1⟩ := hB
  rw [ht] at hP1
  obtain ⟨hP2, hD2⟩ := va_join (wr := wr) (w1 := wn u) hP hD isC isR hC hR hRn hdis hk1 hFc hP1 hD1
  exact kk u H1 locs1 hP2 hD2 hS1
theorem s_newB {n0 : Int32} {k0 : Nat} {cB : ClassId} (t0 : Nat) (hx : p.tables.exec = Jvm.exec) (hb : c.code = cc) (harr : (Cond.arrayClass .byte).before args s = true) (ht0 : tys[t0]? = some (cB, .byte)) (hK : va_K D cl tys s) (hP : va_P D cl ws H) (hD : va_D A ws) (hS : va_S A H0 H locs) (hA : ∀ q, H0.size ≤ q → A q) (hn : ¬ n0 < 0) (hN : n0.toNatClampNeg = k0) (hby : k0 ≤ 536870912) (hcells : cells + 1 ≤ R.cells) (hslots : slots + k0 ≤ R.slots) (hdg : decode cc pc = .ok (.newarray .byte, 2))
    (kk : ∀ (q : Nat) (H1 : Heap), va_P D cl (ws ++ [(q, .inl (cB, k0, .inl (fun _ => 0)))]) H1 → va_D A (ws ++ [(q, .inl (cB, k0, .inl (fun _ => 0)))]) → va_S A H0 H1 locs → W p l e R s m args below meth c H1 locs (cells + 1) (slots + k0) Q (F0 m (pc + 2) ls (.ref q :: rest))) : W p l e R s m args below meth c H locs cells slots Q (F0 m pc ls (.int n0 :: rest)) := by
  refine va_newa (atype := .byte) (ty := .byte) (a0 := (k0, .inl (fun _ => 0))) hx hb harr rfl hK hP hD hS hA (fun _ => rfl) hn hN (by simpa [componentBytes] using hby) hcells hslots hdg (fun q cA H1 hK1 hP1 hD1 hS1 => ?_)
  have e1 := (hK1.2 tys.length (cA, .byte) (by simp)).2
  have e0 := (hK.2 t0 (cB, .byte) ht0).2
  have e : cA = cB := Option.some.inj (e1.symm.trans e0)
  subst e
  exact kk q H1 hP1 hD1 hS1
theorem s_newI {n0 : Int32} {k0 : Nat} {cI : ClassId} (t0 : Nat) (hx : p.tables.exec = Jvm.exec) (hb : c.code = cc) (harr : (Cond.arrayClass .int).before args s = true) (ht0 : tys[t0]? = some (cI, .int)) (hK : va_K D cl tys s) (hP : va_P D cl ws H) (hD : va_D A ws) (hS : va_S A H0 H locs) (hA : ∀ q, H0.size ≤ q → A q) (hn : ¬ n0 < 0) (hN : n0.toNatClampNeg = k0) (hby : k0 * 4 ≤ 536870912) (hcells : cells + 1 ≤ R.cells) (hslots : slots + k0 ≤ R.slots) (hdg : decode cc pc = .ok (.newarray .int, 2))
    (kk : ∀ (q : Nat) (H1 : Heap), va_P D cl (ws ++ [(q, .inl (cI, k0, .inl (fun _ => 0)))]) H1 → va_D A (ws ++ [(q, .inl (cI, k0, .inl (fun _ => 0)))]) → va_S A H0 H1 locs → W p l e R s m args below meth c H1 locs (cells + 1) (slots + k0) Q (F0 m (pc + 2) ls (.ref q :: rest))) : W p l e R s m args below meth c H locs cells slots Q (F0 m pc ls (.int n0 :: rest)) := by
  refine va_newa (atype := .int) (ty := .int) (a0 := (k0, .inl (fun _ => 0))) hx hb harr rfl hK hP hD hS hA (fun _ => rfl) hn hN (by simpa [componentBytes] using hby) hcells hslots hdg (fun q cA H1 hK1 hP1 hD1 hS1 => ?_)
  have e1 := (hK1.2 tys.length (cA, .int) (by simp)).2
  have e0 := (hK.2 t0 (cI, .int) ht0).2
  have e : cA = cI := Option.some.inj (e1.symm.trans e0)
  subst e
  exact kk q H1 hP1 hD1 hS1
theorem s_newJ {n0 : Int32} {k0 : Nat} {cJ : ClassId} (t0 : Nat) (hx : p.tables.exec = Jvm.exec) (hb : c.code = cc) (harr : (Cond.arrayClass .long).before args s = true) (ht0 : tys[t0]? = some (cJ, .long)) (hK : va_K D cl tys s) (hP : va_P D cl ws H) (hD : va_D A ws) (hS : va_S A H0 H locs) (hA : ∀ q, H0.size ≤ q → A q) (hn : ¬ n0 < 0) (hN : n0.toNatClampNeg = k0) (hby : k0 * 8 ≤ 536870912) (hcells : cells + 1 ≤ R.cells) (hslots : slots + k0 ≤ R.slots) (hdg : decode cc pc = .ok (.newarray .long, 2))
    (kk : ∀ (q : Nat) (H1 : Heap), va_P D cl (ws ++ [(q, .inl (cJ, k0, .inr (.inl (fun _ => 0))))]) H1 → va_D A (ws ++ [(q, .inl (cJ, k0, .inr (.inl (fun _ => 0))))]) → va_S A H0 H1 locs → W p l e R s m args below meth c H1 locs (cells + 1) (slots + k0) Q (F0 m (pc + 2) ls (.ref q :: rest))) : W p l e R s m args below meth c H locs cells slots Q (F0 m pc ls (.int n0 :: rest)) := by
  refine va_newa (atype := .long) (ty := .long) (a0 := (k0, .inr (.inl (fun _ => 0)))) hx hb harr rfl hK hP hD hS hA (fun _ => rfl) hn hN (by simpa [componentBytes] using hby) hcells hslots hdg (fun q cA H1 hK1 hP1 hD1 hS1 => ?_)
  have e1 := (hK1.2 tys.length (cA, .long) (by simp)).2
  have e0 := (hK.2 t0 (cJ, .long) ht0).2
  have e : cA = cJ := Option.some.inj (e1.symm.trans e0)
  subst e
  exact kk q H1 hP1 hD1 hS1

theorem s_mmax {x y2 : Int32} (hx : p.tables.exec = Jvm.exec) (hb : c.code = cc) (hml : c.maxLocals = ls.size) (hown : s.vm.findClass own = some m.cls) (hlink : (Cond.methodLink own index Lib.Math.max.name).before args s = true) (hstat : (Cond.static Lib.Math.max.name).before args s = true) (hini : (Cond.initialized "java/lang/Math").before args s = true) (hcode : (Cond.code Lib.Math.max.name Lib.Math.max.code 2 (some .int)).before args s = true) (hframes : 1 ≤ R.frames) (hlocals : (rest.map fun v => v.category).sum + 13 ≤ R.locals) (hc : cells ≤ R.cells) (hs : slots ≤ R.slots) (hdg : decode cc pc = .ok (.invokestatic index, 3))
    (kk : W p l e R s m args below meth c H locs cells slots Q (F0 m (pc + 3) ls (.int (mx x y2) :: rest))) : W p l e R s m args below meth c H locs cells slots Q (F0 m pc ls (.int y2 :: .int x :: rest)) := va_mmax hx hb hml hown hlink hstat hini hcode hframes hlocals hc hs hdg kk
theorem s_mmin {x y2 : Int32} (hx : p.tables.exec = Jvm.exec) (hb : c.code = cc) (hml : c.maxLocals = ls.size) (hown : s.vm.findClass own = some m.cls) (hlink : (Cond.methodLink own index Lib.Math.min.name).before args s = true) (hstat : (Cond.static Lib.Math.min.name).before args s = true) (hini : (Cond.initialized "java/lang/Math").before args s = true) (hcode : (Cond.code Lib.Math.min.name Lib.Math.min.code 2 (some .int)).before args s = true) (hframes : 1 ≤ R.frames) (hlocals : (rest.map fun v => v.category).sum + 13 ≤ R.locals) (hc : cells ≤ R.cells) (hs : slots ≤ R.slots) (hdg : decode cc pc = .ok (.invokestatic index, 3))
    (kk : W p l e R s m args below meth c H locs cells slots Q (F0 m (pc + 3) ls (.int (mn x y2) :: rest))) : W p l e R s m args below meth c H locs cells slots Q (F0 m pc ls (.int y2 :: .int x :: rest)) := va_mmin hx hb hml hown hlink hstat hini hcode hframes hlocals hc hs hdg kk
end
end
section
theorem w_0 : ∀ w ∈ u_ws R_Row T_Row 2, w ∈ lw_g := fun w h => lw_gm ((by decide +kernel : ∀ w ∈ u_ws R_Row T_Row 2, w ∈ lw_tbl) w h) ((by decide +kernel : ∀ w ∈ u_ws R_Row T_Row 2, goodWord w = true) w h)
theorem w_1 : (.fieldLink R_Row 19 "TokenFrames$Row" "count" "I" : Cond) ∈ lw_g := lw_gm (lw_t0 (List.mem_of_getElem? (i := 31) (by first | rfl | decide +kernel))) (by first | rfl | decide +kernel)
theorem w_2 : (.fieldLink R_Row 13 "TokenFrames$Row" "bytes" "[B" : Cond) ∈ lw_g := lw_gm (lw_t0 (List.mem_of_getElem? (i := 30) (by first | rfl | decide +kernel))) (by first | rfl | decide +kernel)
theorem w_3 : (.methodLink R_Row 30 arraycopyName : Cond) ∈ lw_g := lw_gm (lw_t0 (List.mem_of_getElem? (i := 230) (by first | rfl | decide +kernel))) (by first | rfl | decide +kernel)
theorem w_4 : (.native arraycopyName : Cond) ∈ lw_g := lw_gm (lw_t0 (List.mem_of_getElem? (i := 232) (by first | rfl | decide +kernel))) (by first | rfl | decide +kernel)
theorem w_5 : (.static arraycopyName : Cond) ∈ lw_g := lw_gm (lw_t0 (List.mem_of_getElem? (i := 231) (by first | rfl | decide +kernel))) (by first | rfl | decide +kernel)
theorem w_6 : (.initialized "java/lang/System" : Cond) ∈ lw_g := lw_gm (lw_t0 (List.mem_of_getElem? (i := 10) (by first | rfl | decide +kernel))) (by first | rfl | decide +kernel)
theorem w_7 : ∀ w ∈ u_ws R_T T_T 9, w ∈ lw_g := fun w h => lw_gm ((by decide +kernel : ∀ w ∈ u_ws R_T T_T 9, w ∈ lw_tbl) w h) ((by decide +kernel : ∀ w ∈ u_ws R_T T_T 9, goodWord w = true) w h)
theorem w_8 : (.fieldLink R_T 14 "TokenFrames" "in" "LTokenFrames$Row;" : Cond) ∈ lw_g := lw_gm (lw_t0 (List.mem_of_getElem? (i := 178) (by first | rfl | decide +kernel))) (by first | rfl | decide +kernel)
theorem w_9 : (.methodLink R_T 71 y_Row_count : Cond) ∈ lw_g := lw_gm (lw_t0 (List.mem_of_getElem? (i := 222) (by first | rfl | decide +kernel))) (by first | rfl | decide +kernel)
theorem w_10 : (.instanceMethod y_Row_count : Cond) ∈ lw_g := lw_gm (lw_t0 (List.mem_of_getElem? (i := 223) (by first | rfl | decide +kernel))) (by first | rfl | decide +kernel)
theorem w_11 : (.selects R_Row y_Row_count y_Row_count : Cond) ∈ lw_g := lw_gm (lw_t0 (List.mem_of_getElem? (i := 224) (by first | rfl | decide +kernel))) (by first | rfl | decide +kernel)
theorem w_12 : (.initialized R_Row : Cond) ∈ lw_g := lw_gm (lw_t0 (List.mem_of_getElem? (i := 2) (by first | rfl | decide +kernel))) (by first | rfl | decide +kernel)
theorem w_13 : (.code y_Row_count cd_Row_count 1 (some .int) : Cond) ∈ lw_g := lw_gm (lw_t0 (List.mem_of_getElem? (i := 225) (by first | rfl | decide +kernel))) (by first | rfl | decide +kernel)
theorem w_14 : (.methodLink R_T 63 y_Row_hasRoomFor : Cond) ∈ lw_g := lw_gm (lw_t0 (List.mem_of_getElem? (i := 210) (by first | rfl | decide +kernel))) (by first | rfl | decide +kernel)
theorem w_15 : (.instanceMethod y_Row_hasRoomFor : Cond) ∈ lw_g := lw_gm (lw_t0 (List.mem_of_getElem? (i := 211) (by first | rfl | decide +kernel))) (by first | rfl | decide +kernel)
theorem w_16 : (.selects R_Row y_Row_hasRoomFor y_Row_hasRoomFor : Cond) ∈ lw_g := lw_gm (lw_t0 (List.mem_of_getElem? (i := 212) (by first | rfl | decide +kernel))) (by first | rfl | decide +kernel)
theorem w_17 : (.code y_Row_hasRoomFor cd_Row_hasRoomFor 3 (some .boolean) : Cond) ∈ lw_g := lw_gm (lw_t0 (List.mem_of_getElem? (i := 213) (by first | rfl | decide +kernel))) (by first | rfl | decide +kernel)
theorem w_18 : (.methodLink R_T 75 y_Row_addFrom : Cond) ∈ lw_g := lw_gm (lw_t0 (List.mem_of_getElem? (i := 226) (by first | rfl | decide +kernel))) (by first | rfl | decide +kernel)
theorem w_19 : (.instanceMethod y_Row_addFrom : Cond) ∈ lw_g := lw_gm (lw_t0 (List.mem_of_getElem? (i := 227) (by first | rfl | decide +kernel))) (by first | rfl | decide +kernel)
theorem w_20 : (.selects R_Row y_Row_addFrom y_Row_addFrom : Cond) ∈ lw_g := lw_gm (lw_t0 (List.mem_of_getElem? (i := 228) (by first | rfl | decide +kernel))) (by first | rfl | decide +kernel)
theorem w_21 : (.code y_Row_addFrom cd_Row_addFrom 5 (some .boolean) : Cond) ∈ lw_g := lw_gm (lw_t0 (List.mem_of_getElem? (i := 229) (by first | rfl | decide +kernel))) (by first | rfl | decide +kernel)
theorem w_22 : (.methodLink R_Row 23 Lib.Math.min.name : Cond) ∈ lw_g := lw_gm (lw_t1 (List.mem_of_getElem? (i := 1) (by first | rfl | decide +kernel))) (by first | rfl | decide +kernel)
theorem w_23 : (.static Lib.Math.min.name : Cond) ∈ lw_g := lw_gm (lw_t1 (List.mem_of_getElem? (i := 2) (by first | rfl | decide +kernel))) (by first | rfl | decide +kernel)
theorem w_24 : (.initialized "java/lang/Math" : Cond) ∈ lw_g := lw_gm (lw_t0 (List.mem_of_getElem? (i := 3) (by first | rfl | decide +kernel))) (by first | rfl | decide +kernel)
theorem w_25 : (.code Lib.Math.min.name Lib.Math.min.code 2 (some .int) : Cond) ∈ lw_g := lw_gm (lw_t1 (List.mem_of_getElem? (i := 3) (by first | rfl | decide +kernel))) (by first | rfl | decide +kernel)
theorem w_26 : (.methodLink R_Row 7 Lib.Math.max.name : Cond) ∈ lw_g := lw_gm (lw_t0 (List.mem_of_getElem? (i := 27) (by first | rfl | decide +kernel))) (by first | rfl | decide +kernel)
theorem w_27 : (.static Lib.Math.max.name : Cond) ∈ lw_g := lw_gm (lw_t0 (List.mem_of_getElem? (i := 28) (by first | rfl | decide +kernel))) (by first | rfl | decide +kernel)
theorem w_28 : (.code Lib.Math.max.name Lib.Math.max.code 2 (some .int) : Cond) ∈ lw_g := lw_gm (lw_t0 (List.mem_of_getElem? (i := 29) (by first | rfl | decide +kernel))) (by first | rfl | decide +kernel)
theorem w_29 : (.methodLink R_Row 36 y_Row_cutTo : Cond) ∈ lw_g := lw_gm (lw_t1 (List.mem_of_getElem? (i := 12) (by first | rfl | decide +kernel))) (by first | rfl | decide +kernel)
theorem w_30 : (.instanceMethod y_Row_cutTo : Cond) ∈ lw_g := lw_gm (lw_t0 (List.mem_of_getElem? (i := 238) (by first | rfl | decide +kernel))) (by first | rfl | decide +kernel)
theorem w_31 : (.selects R_Row y_Row_cutTo y_Row_cutTo : Cond) ∈ lw_g := lw_gm (lw_t0 (List.mem_of_getElem? (i := 239) (by first | rfl | decide +kernel))) (by first | rfl | decide +kernel)
theorem w_32 : (.code y_Row_cutTo cd_Row_cutTo 2 none : Cond) ∈ lw_g := lw_gm (lw_t1 (List.mem_of_getElem? (i := 0) (by first | rfl | decide +kernel))) (by first | rfl | decide +kernel)
theorem w_33 : (.methodLink R_Row 40 y_Row_addFrom : Cond) ∈ lw_g := lw_gm (lw_t1 (List.mem_of_getElem? (i := 13) (by first | rfl | decide +kernel))) (by first | rfl | decide +kernel)
theorem w_34 : (.fieldLink R_T 18 "TokenFrames" "out" "LTokenFrames$Row;" : Cond) ∈ lw_g := lw_gm (lw_t0 (List.mem_of_getElem? (i := 179) (by first | rfl | decide +kernel))) (by first | rfl | decide +kernel)
theorem w_35 : (.fieldLink R_T 24 "TokenFrames" "draft" "LTokenFrames$Row;" : Cond) ∈ lw_g := lw_gm (lw_t0 (List.mem_of_getElem? (i := 181) (by first | rfl | decide +kernel))) (by first | rfl | decide +kernel)
theorem w_36 : (.methodLink R_T 82 y_Row_become : Cond) ∈ lw_g := lw_gm (lw_t1 (List.mem_of_getElem? (i := 8) (by first | rfl | decide +kernel))) (by first | rfl | decide +kernel)
theorem w_37 : (.instanceMethod y_Row_become : Cond) ∈ lw_g := lw_gm (lw_t1 (List.mem_of_getElem? (i := 9) (by first | rfl | decide +kernel))) (by first | rfl | decide +kernel)
theorem w_38 : (.selects R_Row y_Row_become y_Row_become : Cond) ∈ lw_g := lw_gm (lw_t1 (List.mem_of_getElem? (i := 10) (by first | rfl | decide +kernel))) (by first | rfl | decide +kernel)
theorem w_39 : (.code y_Row_become cd_Row_become 2 none : Cond) ∈ lw_g := lw_gm (lw_t1 (List.mem_of_getElem? (i := 11) (by first | rfl | decide +kernel))) (by first | rfl | decide +kernel)
theorem w_40 : (.methodLink R_BW 70 y_Row_add : Cond) ∈ lw_g := lw_gm (lw_t1 (List.mem_of_getElem? (i := 83) (by first | rfl | decide +kernel))) (by first | rfl | decide +kernel)
theorem w_41 : (.instanceMethod y_Row_add : Cond) ∈ lw_g := lw_gm (lw_t0 (List.mem_of_getElem? (i := 215) (by first | rfl | decide +kernel))) (by first | rfl | decide +kernel)
theorem w_42 : (.selects R_Row y_Row_add y_Row_add : Cond) ∈ lw_g := lw_gm (lw_t0 (List.mem_of_getElem? (i := 216) (by first | rfl | decide +kernel))) (by first | rfl | decide +kernel)
theorem w_43 : (.code y_Row_add cd_Row_add 2 (some .boolean) : Cond) ∈ lw_g := lw_gm (lw_t0 (List.mem_of_getElem? (i := 217) (by first | rfl | decide +kernel))) (by first | rfl | decide +kernel)
theorem w_44 : (.methodLink R_BW 74 y_BW_addGrowth : Cond) ∈ lw_g := lw_gm (lw_t1 (List.mem_of_getElem? (i := 84) (by first | rfl | decide +kernel))) (by first | rfl | decide +kernel)
theorem w_45 : (.static y_BW_addGrowth : Cond) ∈ lw_g := lw_gm (lw_t1 (List.mem_of_getElem? (i := 85) (by first | rfl | decide +kernel))) (by first | rfl | decide +kernel)
theorem w_46 : (.initialized R_BW : Cond) ∈ lw_g := lw_gm (lw_t0 (List.mem_of_getElem? (i := 4) (by first | rfl | decide +kernel))) (by first | rfl | decide +kernel)
theorem w_47 : (.code y_BW_addGrowth cd_BW_addGrowth 3 (some .boolean) : Cond) ∈ lw_g := lw_gm (lw_t1 (List.mem_of_getElem? (i := 86) (by first | rfl | decide +kernel))) (by first | rfl | decide +kernel)
theorem w_48 : (.methodLink R_BW 67 Lib.Math.min.name : Cond) ∈ lw_g := lw_gm (lw_t1 (List.mem_of_getElem? (i := 82) (by first | rfl | decide +kernel))) (by first | rfl | decide +kernel)
theorem w_49 : ∀ w ∈ u_ws R_BW T_BW 3, w ∈ lw_g := fun w h => lw_gm ((by decide +kernel : ∀ w ∈ u_ws R_BW T_BW 3, w ∈ lw_tbl) w h) ((by decide +kernel : ∀ w ∈ u_ws R_BW T_BW 3, goodWord w = true) w h)
theorem w_50 : (.fieldLink R_BW 26 "TokenFrames$BlockWriter" "data" "LTokenFrames$Row;" : Cond) ∈ lw_g := lw_gm (lw_t0 (List.mem_of_getElem? (i := 78) (by first | rfl | decide +kernel))) (by first | rfl | decide +kernel)
theorem w_51 : (.methodLink R_BW 42 y_Row_addFrom : Cond) ∈ lw_g := lw_gm (lw_t1 (List.mem_of_getElem? (i := 42) (by first | rfl | decide +kernel))) (by first | rfl | decide +kernel)
theorem w_52 : (.constant R_Mat 87 (-1640531535) : Cond) ∈ lw_g := lw_gm (lw_t1 (List.mem_of_getElem? (i := 58) (by first | rfl | decide +kernel))) (by first | rfl | decide +kernel)
theorem w_53 : ∀ w ∈ u_ws R_Mat T_Mat 6, w ∈ lw_g := fun w h => lw_gm ((by decide +kernel : ∀ w ∈ u_ws R_Mat T_Mat 6, w ∈ lw_tbl) w h) ((by decide +kernel : ∀ w ∈ u_ws R_Mat T_Mat 6, goodWord w = true) w h)
theorem w_54 : (.fieldLink R_Mat 41 "TokenFrames$Matches" "chained" "I" : Cond) ∈ lw_g := lw_gm (lw_t0 (List.mem_of_getElem? (i := 55) (by first | rfl | decide +kernel))) (by first | rfl | decide +kernel)
theorem w_55 : (.fieldLink R_Mat 24 "TokenFrames$Matches" "earlier" "[I" : Cond) ∈ lw_g := lw_gm (lw_t0 (List.mem_of_getElem? (i := 54) (by first | rfl | decide +kernel))) (by first | rfl | decide +kernel)
theorem w_56 : (.fieldLink R_Mat 14 "TokenFrames$Matches" "data" "LTokenFrames$Row;" : Cond) ∈ lw_g := lw_gm (lw_t0 (List.mem_of_getElem? (i := 52) (by first | rfl | decide +kernel))) (by first | rfl | decide +kernel)
theorem w_57 : (.methodLink R_Mat 53 y_Row_word : Cond) ∈ lw_g := lw_gm (lw_t1 (List.mem_of_getElem? (i := 51) (by first | rfl | decide +kernel))) (by first | rfl | decide +kernel)
theorem w_58 : (.instanceMethod y_Row_word : Cond) ∈ lw_g := lw_gm (lw_t1 (List.mem_of_getElem? (i := 52) (by first | rfl | decide +kernel))) (by first | rfl | decide +kernel)
theorem w_59 : (.selects R_Row y_Row_word y_Row_word : Cond) ∈ lw_g := lw_gm (lw_t1 (List.mem_of_getElem? (i := 53) (by first | rfl | decide +kernel))) (by first | rfl | decide +kernel)
theorem w_60 : (.code y_Row_word cd_Row_word 2 (some .int) : Cond) ∈ lw_g := lw_gm (lw_t1 (List.mem_of_getElem? (i := 54) (by first | rfl | decide +kernel))) (by first | rfl | decide +kernel)
theorem w_61 : (.methodLink R_Mat 57 y_Mat_slot : Cond) ∈ lw_g := lw_gm (lw_t1 (List.mem_of_getElem? (i := 55) (by first | rfl | decide +kernel))) (by first | rfl | decide +kernel)
theorem w_62 : (.static y_Mat_slot : Cond) ∈ lw_g := lw_gm (lw_t1 (List.mem_of_getElem? (i := 56) (by first | rfl | decide +kernel))) (by first | rfl | decide +kernel)
theorem w_63 : (.initialized R_Mat : Cond) ∈ lw_g := lw_gm (lw_t0 (List.mem_of_getElem? (i := 5) (by first | rfl | decide +kernel))) (by first | rfl | decide +kernel)
theorem w_64 : (.code y_Mat_slot cd_Mat_slot 1 (some .int) : Cond) ∈ lw_g := lw_gm (lw_t1 (List.mem_of_getElem? (i := 57) (by first | rfl | decide +kernel))) (by first | rfl | decide +kernel)
theorem w_65 : (.fieldLink R_Mat 20 "TokenFrames$Matches" "latest" "[I" : Cond) ∈ lw_g := lw_gm (lw_t0 (List.mem_of_getElem? (i := 53) (by first | rfl | decide +kernel))) (by first | rfl | decide +kernel)
theorem w_66 : (.fieldLink R_Mat 70 "TokenFrames$Matches" "length" "I" : Cond) ∈ lw_g := lw_gm (lw_t0 (List.mem_of_getElem? (i := 57) (by first | rfl | decide +kernel))) (by first | rfl | decide +kernel)
theorem w_67 : (.fieldLink R_Mat 27 "TokenFrames$Matches" "source" "I" : Cond) ∈ lw_g := lw_gm (lw_t0 (List.mem_of_getElem? (i := 56) (by first | rfl | decide +kernel))) (by first | rfl | decide +kernel)
theorem w_68 : (.methodLink R_Mat 73 y_Mat_enough : Cond) ∈ lw_g := lw_gm (lw_t1 (List.mem_of_getElem? (i := 63) (by first | rfl | decide +kernel))) (by first | rfl | decide +kernel)
theorem w_69 : (.static y_Mat_enough : Cond) ∈ lw_g := lw_gm (lw_t1 (List.mem_of_getElem? (i := 64) (by first | rfl | decide +kernel))) (by first | rfl | decide +kernel)
theorem w_70 : (.code y_Mat_enough cd_Mat_enough 2 (some .int) : Cond) ∈ lw_g := lw_gm (lw_t1 (List.mem_of_getElem? (i := 65) (by first | rfl | decide +kernel))) (by first | rfl | decide +kernel)
theorem w_71 : (.methodLink R_Mat 76 y_Row_get : Cond) ∈ lw_g := lw_gm (lw_t1 (List.mem_of_getElem? (i := 66) (by first | rfl | decide +kernel))) (by first | rfl | decide +kernel)
theorem w_72 : (.instanceMethod y_Row_get : Cond) ∈ lw_g := lw_gm (lw_t1 (List.mem_of_getElem? (i := 67) (by first | rfl | decide +kernel))) (by first | rfl | decide +kernel)
theorem w_73 : (.selects R_Row y_Row_get y_Row_get : Cond) ∈ lw_g := lw_gm (lw_t1 (List.mem_of_getElem? (i := 68) (by first | rfl | decide +kernel))) (by first | rfl | decide +kernel)
theorem w_74 : (.code y_Row_get cd_Row_get 2 (some .int) : Cond) ∈ lw_g := lw_gm (lw_t1 (List.mem_of_getElem? (i := 69) (by first | rfl | decide +kernel))) (by first | rfl | decide +kernel)
theorem w_75 : (.methodLink R_Mat 79 y_Row_same : Cond) ∈ lw_g := lw_gm (lw_t1 (List.mem_of_getElem? (i := 70) (by first | rfl | decide +kernel))) (by first | rfl | decide +kernel)
theorem w_76 : (.instanceMethod y_Row_same : Cond) ∈ lw_g := lw_gm (lw_t1 (List.mem_of_getElem? (i := 71) (by first | rfl | decide +kernel))) (by first | rfl | decide +kernel)
theorem w_77 : (.selects R_Row y_Row_same y_Row_same : Cond) ∈ lw_g := lw_gm (lw_t1 (List.mem_of_getElem? (i := 72) (by first | rfl | decide +kernel))) (by first | rfl | decide +kernel)
theorem w_78 : (.code y_Row_same cd_Row_same 6 (some .int) : Cond) ∈ lw_g := lw_gm (lw_t1 (List.mem_of_getElem? (i := 73) (by first | rfl | decide +kernel))) (by first | rfl | decide +kernel)
theorem w_79 : (.methodLink R_Mat 83 y_Mat_hold : Cond) ∈ lw_g := lw_gm (lw_t1 (List.mem_of_getElem? (i := 74) (by first | rfl | decide +kernel))) (by first | rfl | decide +kernel)
theorem w_80 : (.instanceMethod y_Mat_hold : Cond) ∈ lw_g := lw_gm (lw_t1 (List.mem_of_getElem? (i := 76) (by first | rfl | decide +kernel))) (by first | rfl | decide +kernel)
theorem w_81 : (.selects R_Mat y_Mat_hold y_Mat_hold : Cond) ∈ lw_g := lw_gm (List.mem_append_left _ (List.mem_of_getElem? (i := 2) (by first | rfl | decide +kernel))) (by first | rfl | decide +kernel)
theorem w_82 : (.code y_Mat_hold cd_Mat_hold 6 none : Cond) ∈ lw_g := lw_gm (lw_t1 (List.mem_of_getElem? (i := 77) (by first | rfl | decide +kernel))) (by first | rfl | decide +kernel)
theorem w_83 : (.methodLink R_Mat 63 y_Mat_chainBelow : Cond) ∈ lw_g := lw_gm (lw_t1 (List.mem_of_getElem? (i := 47) (by first | rfl | decide +kernel))) (by first | rfl | decide +kernel)
theorem w_84 : (.instanceMethod y_Mat_chainBelow : Cond) ∈ lw_g := lw_gm (lw_t1 (List.mem_of_getElem? (i := 49) (by first | rfl | decide +kernel))) (by first | rfl | decide +kernel)
theorem w_85 : (.selects R_Mat y_Mat_chainBelow y_Mat_chainBelow : Cond) ∈ lw_g := lw_gm (List.mem_append_left _ (List.mem_of_getElem? (i := 0) (by first | rfl | decide +kernel))) (by first | rfl | decide +kernel)
theorem w_86 : (.code y_Mat_chainBelow cd_Mat_chainBelow 3 none : Cond) ∈ lw_g := lw_gm (lw_t1 (List.mem_of_getElem? (i := 50) (by first | rfl | decide +kernel))) (by first | rfl | decide +kernel)
theorem w_87 : (.methodLink R_Mat 66 y_Mat_find : Cond) ∈ lw_g := lw_gm (lw_t1 (List.mem_of_getElem? (i := 59) (by first | rfl | decide +kernel))) (by first | rfl | decide +kernel)
theorem w_88 : (.instanceMethod y_Mat_find : Cond) ∈ lw_g := lw_gm (lw_t1 (List.mem_of_getElem? (i := 61) (by first | rfl | decide +kernel))) (by first | rfl | decide +kernel)
theorem w_89 : (.selects R_Mat y_Mat_find y_Mat_find : Cond) ∈ lw_g := lw_gm (List.mem_append_left _ (List.mem_of_getElem? (i := 1) (by first | rfl | decide +kernel))) (by first | rfl | decide +kernel)
theorem w_90 : (.code y_Mat_find cd_Mat_find 7 none : Cond) ∈ lw_g := lw_gm (lw_t1 (List.mem_of_getElem? (i := 62) (by first | rfl | decide +kernel))) (by first | rfl | decide +kernel)
theorem w_91 : (.methodLink R_BW 32 y_Row_count : Cond) ∈ lw_g := lw_gm (lw_t1 (List.mem_of_getElem? (i := 41) (by first | rfl | decide +kernel))) (by first | rfl | decide +kernel)
theorem w_92 : (.methodLink R_BW 50 y_BW_addLiterals : Cond) ∈ lw_g := lw_gm (lw_t1 (List.mem_of_getElem? (i := 78) (by first | rfl | decide +kernel))) (by first | rfl | decide +kernel)
theorem w_93 : (.instanceMethod y_BW_addLiterals : Cond) ∈ lw_g := lw_gm (lw_t1 (List.mem_of_getElem? (i := 80) (by first | rfl | decide +kernel))) (by first | rfl | decide +kernel)
theorem w_94 : (.selects R_BW y_BW_addLiterals y_BW_addLiterals : Cond) ∈ lw_g := lw_gm (List.mem_append_left _ (List.mem_of_getElem? (i := 3) (by first | rfl | decide +kernel))) (by first | rfl | decide +kernel)
theorem w_95 : (.code y_BW_addLiterals cd_BW_addLiterals 7 (some .boolean) : Cond) ∈ lw_g := lw_gm (lw_t1 (List.mem_of_getElem? (i := 81) (by first | rfl | decide +kernel))) (by first | rfl | decide +kernel)
theorem w_96 : (.fieldLink R_BW 18 "TokenFrames$BlockWriter" "matches" "LTokenFrames$Matches;" : Cond) ∈ lw_g := lw_gm (lw_t0 (List.mem_of_getElem? (i := 77) (by first | rfl | decide +kernel))) (by first | rfl | decide +kernel)
theorem w_97 : (.methodLink R_BW 46 y_Mat_look : Cond) ∈ lw_g := lw_gm (lw_t1 (List.mem_of_getElem? (i := 43) (by first | rfl | decide +kernel))) (by first | rfl | decide +kernel)
theorem w_98 : (.instanceMethod y_Mat_look : Cond) ∈ lw_g := lw_gm (lw_t1 (List.mem_of_getElem? (i := 44) (by first | rfl | decide +kernel))) (by first | rfl | decide +kernel)
theorem w_99 : (.selects R_Mat y_Mat_look y_Mat_look : Cond) ∈ lw_g := lw_gm (lw_t1 (List.mem_of_getElem? (i := 45) (by first | rfl | decide +kernel))) (by first | rfl | decide +kernel)
theorem w_100 : (.code y_Mat_look cd_Mat_look 7 (some .int) : Cond) ∈ lw_g := lw_gm (lw_t1 (List.mem_of_getElem? (i := 46) (by first | rfl | decide +kernel))) (by first | rfl | decide +kernel)
theorem w_101 : (.methodLink R_BW 61 Lib.Math.max.name : Cond) ∈ lw_g := lw_gm (lw_t1 (List.mem_of_getElem? (i := 94) (by first | rfl | decide +kernel))) (by first | rfl | decide +kernel)
theorem w_102 : (.methodLink R_BW 54 y_Mat_source : Cond) ∈ lw_g := lw_gm (lw_t1 (List.mem_of_getElem? (i := 87) (by first | rfl | decide +kernel))) (by first | rfl | decide +kernel)
theorem w_103 : (.instanceMethod y_Mat_source : Cond) ∈ lw_g := lw_gm (lw_t1 (List.mem_of_getElem? (i := 88) (by first | rfl | decide +kernel))) (by first | rfl | decide +kernel)
theorem w_104 : (.selects R_Mat y_Mat_source y_Mat_source : Cond) ∈ lw_g := lw_gm (lw_t1 (List.mem_of_getElem? (i := 89) (by first | rfl | decide +kernel))) (by first | rfl | decide +kernel)
theorem w_105 : (.code y_Mat_source cd_Mat_source 1 (some .int) : Cond) ∈ lw_g := lw_gm (lw_t1 (List.mem_of_getElem? (i := 90) (by first | rfl | decide +kernel))) (by first | rfl | decide +kernel)
theorem w_106 : (.methodLink R_BW 57 y_BW_addCopy : Cond) ∈ lw_g := lw_gm (lw_t1 (List.mem_of_getElem? (i := 91) (by first | rfl | decide +kernel))) (by first | rfl | decide +kernel)
theorem w_107 : (.static y_BW_addCopy : Cond) ∈ lw_g := lw_gm (lw_t1 (List.mem_of_getElem? (i := 92) (by first | rfl | decide +kernel))) (by first | rfl | decide +kernel)
theorem w_108 : (.code y_BW_addCopy cd_BW_addCopy 3 (some .boolean) : Cond) ∈ lw_g := lw_gm (lw_t1 (List.mem_of_getElem? (i := 93) (by first | rfl | decide +kernel))) (by first | rfl | decide +kernel)
theorem w_109 : (.methodLink R_Mat 31 y_Row_become : Cond) ∈ lw_g := lw_gm (lw_t1 (List.mem_of_getElem? (i := 33) (by first | rfl | decide +kernel))) (by first | rfl | decide +kernel)
theorem w_110 : (.methodLink R_Mat 35 y_Arr_fill : Cond) ∈ lw_g := lw_gm (lw_t1 (List.mem_of_getElem? (i := 34) (by first | rfl | decide +kernel))) (by first | rfl | decide +kernel)
theorem w_111 : (.static y_Arr_fill : Cond) ∈ lw_g := lw_gm (lw_t1 (List.mem_of_getElem? (i := 35) (by first | rfl | decide +kernel))) (by first | rfl | decide +kernel)
theorem w_112 : (.initialized "java/util/Arrays" : Cond) ∈ lw_g := lw_gm (lw_t0 (List.mem_of_getElem? (i := 11) (by first | rfl | decide +kernel))) (by first | rfl | decide +kernel)
theorem w_113 : (.code y_Arr_fill cd_Arr_fill 4 none : Cond) ∈ lw_g := lw_gm (lw_t1 (List.mem_of_getElem? (i := 36) (by first | rfl | decide +kernel))) (by first | rfl | decide +kernel)
theorem w_114 : (.fieldLink R_BW 9 "TokenFrames$BlockWriter" "history" "LTokenFrames$Row;" : Cond) ∈ lw_g := lw_gm (lw_t0 (List.mem_of_getElem? (i := 76) (by first | rfl | decide +kernel))) (by first | rfl | decide +kernel)
theorem w_115 : (.methodLink R_BW 28 y_Mat_startOver : Cond) ∈ lw_g := lw_gm (lw_t1 (List.mem_of_getElem? (i := 29) (by first | rfl | decide +kernel))) (by first | rfl | decide +kernel)
theorem w_116 : (.instanceMethod y_Mat_startOver : Cond) ∈ lw_g := lw_gm (lw_t1 (List.mem_of_getElem? (i := 30) (by first | rfl | decide +kernel))) (by first | rfl | decide +kernel)
theorem w_117 : (.selects R_Mat y_Mat_startOver y_Mat_startOver : Cond) ∈ lw_g := lw_gm (lw_t1 (List.mem_of_getElem? (i := 31) (by first | rfl | decide +kernel))) (by first | rfl | decide +kernel)
theorem w_118 : (.code y_Mat_startOver cd_Mat_startOver 2 none : Cond) ∈ lw_g := lw_gm (lw_t1 (List.mem_of_getElem? (i := 32) (by first | rfl | decide +kernel))) (by first | rfl | decide +kernel)
theorem w_119 : (.methodLink R_T 85 y_T_isWay : Cond) ∈ lw_g := lw_gm (lw_t1 (List.mem_of_getElem? (i := 22) (by first | rfl | decide +kernel))) (by first | rfl | decide +kernel)
theorem w_120 : (.static y_T_isWay : Cond) ∈ lw_g := lw_gm (lw_t1 (List.mem_of_getElem? (i := 23) (by first | rfl | decide +kernel))) (by first | rfl | decide +kernel)
theorem w_121 : (.initialized R_T : Cond) ∈ lw_g := lw_gm (lw_t0 (List.mem_of_getElem? (i := 1) (by first | rfl | decide +kernel))) (by first | rfl | decide +kernel)
theorem w_122 : (.code y_T_isWay cd_T_isWay 1 (some .boolean) : Cond) ∈ lw_g := lw_gm (lw_t1 (List.mem_of_getElem? (i := 24) (by first | rfl | decide +kernel))) (by first | rfl | decide +kernel)
theorem w_123 : (.methodLink R_T 79 y_Row_cutTo : Cond) ∈ lw_g := lw_gm (lw_t0 (List.mem_of_getElem? (i := 237) (by first | rfl | decide +kernel))) (by first | rfl | decide +kernel)
theorem w_124 : (.fieldLink R_T 32 "TokenFrames" "blockWriter" "LTokenFrames$BlockWriter;" : Cond) ∈ lw_g := lw_gm (lw_t0 (List.mem_of_getElem? (i := 182) (by first | rfl | decide +kernel))) (by first | rfl | decide +kernel)
theorem w_125 : (.methodLink R_T 88 y_BW_startOver : Cond) ∈ lw_g := lw_gm (lw_t1 (List.mem_of_getElem? (i := 25) (by first | rfl | decide +kernel))) (by first | rfl | decide +kernel)
theorem w_126 : (.instanceMethod y_BW_startOver : Cond) ∈ lw_g := lw_gm (lw_t1 (List.mem_of_getElem? (i := 26) (by first | rfl | decide +kernel))) (by first | rfl | decide +kernel)
theorem w_127 : (.selects R_BW y_BW_startOver y_BW_startOver : Cond) ∈ lw_g := lw_gm (lw_t1 (List.mem_of_getElem? (i := 27) (by first | rfl | decide +kernel))) (by first | rfl | decide +kernel)
theorem w_128 : (.code y_BW_startOver cd_BW_startOver 1 none : Cond) ∈ lw_g := lw_gm (lw_t1 (List.mem_of_getElem? (i := 28) (by first | rfl | decide +kernel))) (by first | rfl | decide +kernel)
theorem w_129 : (.methodLink R_T 91 y_BW_pack : Cond) ∈ lw_g := lw_gm (lw_t1 (List.mem_of_getElem? (i := 37) (by first | rfl | decide +kernel))) (by first | rfl | decide +kernel)
theorem w_130 : (.instanceMethod y_BW_pack : Cond) ∈ lw_g := lw_gm (lw_t1 (List.mem_of_getElem? (i := 38) (by first | rfl | decide +kernel))) (by first | rfl | decide +kernel)
theorem w_131 : (.selects R_BW y_BW_pack y_BW_pack : Cond) ∈ lw_g := lw_gm (lw_t1 (List.mem_of_getElem? (i := 39) (by first | rfl | decide +kernel))) (by first | rfl | decide +kernel)
theorem w_132 : (.code y_BW_pack cd_BW_pack 12 (some .boolean) : Cond) ∈ lw_g := lw_gm (lw_t1 (List.mem_of_getElem? (i := 40) (by first | rfl | decide +kernel))) (by first | rfl | decide +kernel)
theorem w_133 : (.methodLink R_T 95 y_T_keepDraft : Cond) ∈ lw_g := lw_gm (lw_t1 (List.mem_of_getElem? (i := 95) (by first | rfl | decide +kernel))) (by first | rfl | decide +kernel)
theorem w_134 : (.instanceMethod y_T_keepDraft : Cond) ∈ lw_g := lw_gm (lw_t1 (List.mem_of_getElem? (i := 97) (by first | rfl | decide +kernel))) (by first | rfl | decide +kernel)
theorem w_135 : (.selects R_T y_T_keepDraft y_T_keepDraft : Cond) ∈ lw_g := lw_gm (List.mem_append_left _ (List.mem_of_getElem? (i := 4) (by first | rfl | decide +kernel))) (by first | rfl | decide +kernel)
theorem w_136 : (.code y_T_keepDraft cd_T_keepDraft 1 (some .int) : Cond) ∈ lw_g := lw_gm (lw_t1 (List.mem_of_getElem? (i := 98) (by first | rfl | decide +kernel))) (by first | rfl | decide +kernel)
theorem w_137 : (.methodLink R_T 133 y_Row_get : Cond) ∈ lw_g := lw_gm (lw_t2 (List.mem_of_getElem? (i := 66) (by first | rfl | decide +kernel))) (by first | rfl | decide +kernel)
theorem w_138 : (.constant R_Sum 30 (-2048144777) : Cond) ∈ lw_g := lw_gm (lw_t1 (List.mem_of_getElem? (i := 177) (by first | rfl | decide +kernel))) (by first | rfl | decide +kernel)
theorem w_139 : (.methodLink R_Sum 21 y_Sum_rotated : Cond) ∈ lw_g := lw_gm (lw_t1 (List.mem_of_getElem? (i := 183) (by first | rfl | decide +kernel))) (by first | rfl | decide +kernel)
theorem w_140 : (.static y_Sum_rotated : Cond) ∈ lw_g := lw_gm (lw_t1 (List.mem_of_getElem? (i := 184) (by first | rfl | decide +kernel))) (by first | rfl | decide +kernel)
theorem w_141 : (.initialized R_Sum : Cond) ∈ lw_g := lw_gm (lw_t0 (List.mem_of_getElem? (i := 12) (by first | rfl | decide +kernel))) (by first | rfl | decide +kernel)
theorem w_142 : (.code y_Sum_rotated cd_Sum_rotated 2 (some .int) : Cond) ∈ lw_g := lw_gm (lw_t1 (List.mem_of_getElem? (i := 185) (by first | rfl | decide +kernel))) (by first | rfl | decide +kernel)
theorem w_143 : (.constant R_Sum 29 (-1640531535) : Cond) ∈ lw_g := lw_gm (lw_t1 (List.mem_of_getElem? (i := 186) (by first | rfl | decide +kernel))) (by first | rfl | decide +kernel)
theorem w_144 : (.constant R_Sum 31 (606290984) : Cond) ∈ lw_g := lw_gm (lw_t1 (List.mem_of_getElem? (i := 176) (by first | rfl | decide +kernel))) (by first | rfl | decide +kernel)
theorem w_145 : (.constant R_Sum 32 (1640531535) : Cond) ∈ lw_g := lw_gm (lw_t1 (List.mem_of_getElem? (i := 178) (by first | rfl | decide +kernel))) (by first | rfl | decide +kernel)
theorem w_146 : (.methodLink R_Sum 14 y_Row_word : Cond) ∈ lw_g := lw_gm (lw_t1 (List.mem_of_getElem? (i := 179) (by first | rfl | decide +kernel))) (by first | rfl | decide +kernel)
theorem w_147 : (.methodLink R_Sum 33 y_Sum_lane : Cond) ∈ lw_g := lw_gm (lw_t1 (List.mem_of_getElem? (i := 180) (by first | rfl | decide +kernel))) (by first | rfl | decide +kernel)
theorem w_148 : (.static y_Sum_lane : Cond) ∈ lw_g := lw_gm (lw_t1 (List.mem_of_getElem? (i := 181) (by first | rfl | decide +kernel))) (by first | rfl | decide +kernel)
theorem w_149 : (.code y_Sum_lane cd_Sum_lane 2 (some .int) : Cond) ∈ lw_g := lw_gm (lw_t1 (List.mem_of_getElem? (i := 182) (by first | rfl | decide +kernel))) (by first | rfl | decide +kernel)
theorem w_150 : (.constant R_Sum 13 (374761393) : Cond) ∈ lw_g := lw_gm (lw_t1 (List.mem_of_getElem? (i := 187) (by first | rfl | decide +kernel))) (by first | rfl | decide +kernel)
theorem w_151 : (.constant R_Sum 20 (-1028477379) : Cond) ∈ lw_g := lw_gm (lw_t1 (List.mem_of_getElem? (i := 188) (by first | rfl | decide +kernel))) (by first | rfl | decide +kernel)
theorem w_152 : (.methodLink R_Sum 26 y_Row_get : Cond) ∈ lw_g := lw_gm (lw_t1 (List.mem_of_getElem? (i := 190) (by first | rfl | decide +kernel))) (by first | rfl | decide +kernel)
theorem w_153 : (.constant R_Sum 25 (668265263) : Cond) ∈ lw_g := lw_gm (lw_t1 (List.mem_of_getElem? (i := 189) (by first | rfl | decide +kernel))) (by first | rfl | decide +kernel)
theorem w_154 : (.methodLink R_Sum 7 y_Sum_ofLanes : Cond) ∈ lw_g := lw_gm (lw_t1 (List.mem_of_getElem? (i := 173) (by first | rfl | decide +kernel))) (by first | rfl | decide +kernel)
theorem w_155 : (.static y_Sum_ofLanes : Cond) ∈ lw_g := lw_gm (lw_t1 (List.mem_of_getElem? (i := 174) (by first | rfl | decide +kernel))) (by first | rfl | decide +kernel)
theorem w_156 : (.code y_Sum_ofLanes cd_Sum_ofLanes 8 (some .int) : Cond) ∈ lw_g := lw_gm (lw_t1 (List.mem_of_getElem? (i := 175) (by first | rfl | decide +kernel))) (by first | rfl | decide +kernel)
theorem w_157 : (.methodLink R_Row 26 y_Row_add : Cond) ∈ lw_g := lw_gm (lw_t1 (List.mem_of_getElem? (i := 167) (by first | rfl | decide +kernel))) (by first | rfl | decide +kernel)
theorem w_158 : ∀ w ∈ u_ws R_FW T_FW 4, w ∈ lw_g := fun w h => lw_gm ((by decide +kernel : ∀ w ∈ u_ws R_FW T_FW 4, w ∈ lw_tbl) w h) ((by decide +kernel : ∀ w ∈ u_ws R_FW T_FW 4, goodWord w = true) w h)
theorem w_159 : (.fieldLink R_FW 15 "TokenFrames$FrameWriter" "to" "LTokenFrames$Row;" : Cond) ∈ lw_g := lw_gm (lw_t0 (List.mem_of_getElem? (i := 95) (by first | rfl | decide +kernel))) (by first | rfl | decide +kernel)
theorem w_160 : (.constant R_FW 63 (407708164) : Cond) ∈ lw_g := lw_gm (lw_t1 (List.mem_of_getElem? (i := 162) (by first | rfl | decide +kernel))) (by first | rfl | decide +kernel)
theorem w_161 : (.methodLink R_FW 64 y_Row_addWord : Cond) ∈ lw_g := lw_gm (lw_t1 (List.mem_of_getElem? (i := 163) (by first | rfl | decide +kernel))) (by first | rfl | decide +kernel)
theorem w_162 : (.instanceMethod y_Row_addWord : Cond) ∈ lw_g := lw_gm (lw_t1 (List.mem_of_getElem? (i := 164) (by first | rfl | decide +kernel))) (by first | rfl | decide +kernel)
theorem w_163 : (.selects R_Row y_Row_addWord y_Row_addWord : Cond) ∈ lw_g := lw_gm (lw_t1 (List.mem_of_getElem? (i := 165) (by first | rfl | decide +kernel))) (by first | rfl | decide +kernel)
theorem w_164 : (.code y_Row_addWord cd_Row_addWord 2 (some .boolean) : Cond) ∈ lw_g := lw_gm (lw_t1 (List.mem_of_getElem? (i := 166) (by first | rfl | decide +kernel))) (by first | rfl | decide +kernel)
theorem w_165 : (.methodLink R_FW 48 y_Row_count : Cond) ∈ lw_g := lw_gm (lw_t1 (List.mem_of_getElem? (i := 168) (by first | rfl | decide +kernel))) (by first | rfl | decide +kernel)
theorem w_166 : (.methodLink R_FW 70 y_Sum_of : Cond) ∈ lw_g := lw_gm (lw_t1 (List.mem_of_getElem? (i := 170) (by first | rfl | decide +kernel))) (by first | rfl | decide +kernel)
theorem w_167 : (.static y_Sum_of : Cond) ∈ lw_g := lw_gm (lw_t1 (List.mem_of_getElem? (i := 171) (by first | rfl | decide +kernel))) (by first | rfl | decide +kernel)
theorem w_168 : (.code y_Sum_of cd_Sum_of 6 (some .int) : Cond) ∈ lw_g := lw_gm (lw_t1 (List.mem_of_getElem? (i := 172) (by first | rfl | decide +kernel))) (by first | rfl | decide +kernel)
theorem w_169 : (.methodLink R_FW 67 y_Row_add : Cond) ∈ lw_g := lw_gm (lw_t1 (List.mem_of_getElem? (i := 169) (by first | rfl | decide +kernel))) (by first | rfl | decide +kernel)
theorem w_170 : (.fieldLink R_FW 9 "TokenFrames$FrameWriter" "in" "LTokenFrames$Row;" : Cond) ∈ lw_g := lw_gm (lw_t0 (List.mem_of_getElem? (i := 94) (by first | rfl | decide +kernel))) (by first | rfl | decide +kernel)
theorem w_171 : (.methodLink R_Mat 44 Lib.Math.max.name : Cond) ∈ lw_g := lw_gm (lw_t1 (List.mem_of_getElem? (i := 206) (by first | rfl | decide +kernel))) (by first | rfl | decide +kernel)
theorem w_172 : (.methodLink R_Mat 50 Lib.Math.min.name : Cond) ∈ lw_g := lw_gm (lw_t1 (List.mem_of_getElem? (i := 207) (by first | rfl | decide +kernel))) (by first | rfl | decide +kernel)
theorem w_173 : (.methodLink R_Mat 60 y_Row_cutTo : Cond) ∈ lw_g := lw_gm (lw_t1 (List.mem_of_getElem? (i := 208) (by first | rfl | decide +kernel))) (by first | rfl | decide +kernel)
theorem w_174 : (.methodLink R_BW 38 y_Mat_cutTo : Cond) ∈ lw_g := lw_gm (lw_t1 (List.mem_of_getElem? (i := 202) (by first | rfl | decide +kernel))) (by first | rfl | decide +kernel)
theorem w_175 : (.instanceMethod y_Mat_cutTo : Cond) ∈ lw_g := lw_gm (lw_t1 (List.mem_of_getElem? (i := 203) (by first | rfl | decide +kernel))) (by first | rfl | decide +kernel)
theorem w_176 : (.selects R_Mat y_Mat_cutTo y_Mat_cutTo : Cond) ∈ lw_g := lw_gm (lw_t1 (List.mem_of_getElem? (i := 204) (by first | rfl | decide +kernel))) (by first | rfl | decide +kernel)
theorem w_177 : (.code y_Mat_cutTo cd_Mat_cutTo 4 none : Cond) ∈ lw_g := lw_gm (lw_t1 (List.mem_of_getElem? (i := 205) (by first | rfl | decide +kernel))) (by first | rfl | decide +kernel)
theorem w_178 : (.fieldLink R_FW 27 "TokenFrames$FrameWriter" "packed" "LTokenFrames$Row;" : Cond) ∈ lw_g := lw_gm (lw_t0 (List.mem_of_getElem? (i := 97) (by first | rfl | decide +kernel))) (by first | rfl | decide +kernel)
theorem w_179 : (.methodLink R_FW 30 y_Row_cutTo : Cond) ∈ lw_g := lw_gm (lw_t1 (List.mem_of_getElem? (i := 157) (by first | rfl | decide +kernel))) (by first | rfl | decide +kernel)
theorem w_180 : (.fieldLink R_FW 18 "TokenFrames$FrameWriter" "blocks" "LTokenFrames$BlockWriter;" : Cond) ∈ lw_g := lw_gm (lw_t0 (List.mem_of_getElem? (i := 96) (by first | rfl | decide +kernel))) (by first | rfl | decide +kernel)
theorem w_181 : (.methodLink R_FW 79 y_BW_pack : Cond) ∈ lw_g := lw_gm (lw_t1 (List.mem_of_getElem? (i := 209) (by first | rfl | decide +kernel))) (by first | rfl | decide +kernel)
theorem w_182 : (.constant R_FW 83 (-2147483648) : Cond) ∈ lw_g := lw_gm (lw_t1 (List.mem_of_getElem? (i := 210) (by first | rfl | decide +kernel))) (by first | rfl | decide +kernel)
theorem w_183 : (.methodLink R_FW 84 y_Row_addFrom : Cond) ∈ lw_g := lw_gm (lw_t1 (List.mem_of_getElem? (i := 211) (by first | rfl | decide +kernel))) (by first | rfl | decide +kernel)
theorem w_184 : (.methodLink R_FW 76 y_BW_dropContent : Cond) ∈ lw_g := lw_gm (lw_t1 (List.mem_of_getElem? (i := 198) (by first | rfl | decide +kernel))) (by first | rfl | decide +kernel)
theorem w_185 : (.instanceMethod y_BW_dropContent : Cond) ∈ lw_g := lw_gm (lw_t1 (List.mem_of_getElem? (i := 199) (by first | rfl | decide +kernel))) (by first | rfl | decide +kernel)
theorem w_186 : (.selects R_BW y_BW_dropContent y_BW_dropContent : Cond) ∈ lw_g := lw_gm (lw_t1 (List.mem_of_getElem? (i := 200) (by first | rfl | decide +kernel))) (by first | rfl | decide +kernel)
theorem w_187 : (.code y_BW_dropContent cd_BW_dropContent 1 none : Cond) ∈ lw_g := lw_gm (lw_t1 (List.mem_of_getElem? (i := 201) (by first | rfl | decide +kernel))) (by first | rfl | decide +kernel)
theorem w_188 : (.methodLink R_FW 33 y_FW_addHead : Cond) ∈ lw_g := lw_gm (lw_t1 (List.mem_of_getElem? (i := 158) (by first | rfl | decide +kernel))) (by first | rfl | decide +kernel)
theorem w_189 : (.instanceMethod y_FW_addHead : Cond) ∈ lw_g := lw_gm (lw_t1 (List.mem_of_getElem? (i := 160) (by first | rfl | decide +kernel))) (by first | rfl | decide +kernel)
theorem w_190 : (.selects R_FW y_FW_addHead y_FW_addHead : Cond) ∈ lw_g := lw_gm (List.mem_append_left _ (List.mem_of_getElem? (i := 10) (by first | rfl | decide +kernel))) (by first | rfl | decide +kernel)
theorem w_191 : (.initialized R_FW : Cond) ∈ lw_g := lw_gm (lw_t0 (List.mem_of_getElem? (i := 6) (by first | rfl | decide +kernel))) (by first | rfl | decide +kernel)
theorem w_192 : (.code y_FW_addHead cd_FW_addHead 6 (some .boolean) : Cond) ∈ lw_g := lw_gm (lw_t1 (List.mem_of_getElem? (i := 161) (by first | rfl | decide +kernel))) (by first | rfl | decide +kernel)
theorem w_193 : (.methodLink R_FW 37 y_BW_startOver : Cond) ∈ lw_g := lw_gm (lw_t1 (List.mem_of_getElem? (i := 191) (by first | rfl | decide +kernel))) (by first | rfl | decide +kernel)
theorem w_194 : (.methodLink R_FW 42 Lib.Math.max.name : Cond) ∈ lw_g := lw_gm (lw_t1 (List.mem_of_getElem? (i := 192) (by first | rfl | decide +kernel))) (by first | rfl | decide +kernel)
theorem w_195 : (.methodLink R_FW 59 y_FW_addTail : Cond) ∈ lw_g := lw_gm (lw_t1 (List.mem_of_getElem? (i := 212) (by first | rfl | decide +kernel))) (by first | rfl | decide +kernel)
theorem w_196 : (.instanceMethod y_FW_addTail : Cond) ∈ lw_g := lw_gm (lw_t1 (List.mem_of_getElem? (i := 214) (by first | rfl | decide +kernel))) (by first | rfl | decide +kernel)
theorem w_197 : (.selects R_FW y_FW_addTail y_FW_addTail : Cond) ∈ lw_g := lw_gm (List.mem_append_left _ (List.mem_of_getElem? (i := 12) (by first | rfl | decide +kernel))) (by first | rfl | decide +kernel)
theorem w_198 : (.code y_FW_addTail cd_FW_addTail 3 (some .boolean) : Cond) ∈ lw_g := lw_gm (lw_t1 (List.mem_of_getElem? (i := 215) (by first | rfl | decide +kernel))) (by first | rfl | decide +kernel)
theorem w_199 : (.methodLink R_FW 52 Lib.Math.min.name : Cond) ∈ lw_g := lw_gm (lw_t1 (List.mem_of_getElem? (i := 193) (by first | rfl | decide +kernel))) (by first | rfl | decide +kernel)
theorem w_200 : (.methodLink R_FW 55 y_FW_addRow : Cond) ∈ lw_g := lw_gm (lw_t1 (List.mem_of_getElem? (i := 194) (by first | rfl | decide +kernel))) (by first | rfl | decide +kernel)
theorem w_201 : (.instanceMethod y_FW_addRow : Cond) ∈ lw_g := lw_gm (lw_t1 (List.mem_of_getElem? (i := 196) (by first | rfl | decide +kernel))) (by first | rfl | decide +kernel)
theorem w_202 : (.selects R_FW y_FW_addRow y_FW_addRow : Cond) ∈ lw_g := lw_gm (List.mem_append_left _ (List.mem_of_getElem? (i := 11) (by first | rfl | decide +kernel))) (by first | rfl | decide +kernel)
theorem w_203 : (.code y_FW_addRow cd_FW_addRow 9 (some .boolean) : Cond) ∈ lw_g := lw_gm (lw_t1 (List.mem_of_getElem? (i := 197) (by first | rfl | decide +kernel))) (by first | rfl | decide +kernel)
theorem w_204 : (.methodLink R_T 112 y_T_areFlags : Cond) ∈ lw_g := lw_gm (lw_t1 (List.mem_of_getElem? (i := 147) (by first | rfl | decide +kernel))) (by first | rfl | decide +kernel)
theorem w_205 : (.static y_T_areFlags : Cond) ∈ lw_g := lw_gm (lw_t1 (List.mem_of_getElem? (i := 148) (by first | rfl | decide +kernel))) (by first | rfl | decide +kernel)
theorem w_206 : (.code y_T_areFlags cd_T_areFlags 1 (some .boolean) : Cond) ∈ lw_g := lw_gm (lw_t1 (List.mem_of_getElem? (i := 149) (by first | rfl | decide +kernel))) (by first | rfl | decide +kernel)
theorem w_207 : (.methodLink R_T 115 y_T_isK : Cond) ∈ lw_g := lw_gm (lw_t1 (List.mem_of_getElem? (i := 150) (by first | rfl | decide +kernel))) (by first | rfl | decide +kernel)
theorem w_208 : (.static y_T_isK : Cond) ∈ lw_g := lw_gm (lw_t1 (List.mem_of_getElem? (i := 151) (by first | rfl | decide +kernel))) (by first | rfl | decide +kernel)
theorem w_209 : (.code y_T_isK cd_T_isK 1 (some .boolean) : Cond) ∈ lw_g := lw_gm (lw_t1 (List.mem_of_getElem? (i := 152) (by first | rfl | decide +kernel))) (by first | rfl | decide +kernel)
theorem w_210 : (.fieldLink R_T 41 "TokenFrames" "frameWriter" "LTokenFrames$FrameWriter;" : Cond) ∈ lw_g := lw_gm (lw_t0 (List.mem_of_getElem? (i := 183) (by first | rfl | decide +kernel))) (by first | rfl | decide +kernel)
theorem w_211 : (.methodLink R_T 118 y_FW_writeFrame : Cond) ∈ lw_g := lw_gm (lw_t1 (List.mem_of_getElem? (i := 153) (by first | rfl | decide +kernel))) (by first | rfl | decide +kernel)
theorem w_212 : (.instanceMethod y_FW_writeFrame : Cond) ∈ lw_g := lw_gm (lw_t1 (List.mem_of_getElem? (i := 154) (by first | rfl | decide +kernel))) (by first | rfl | decide +kernel)
theorem w_213 : (.selects R_FW y_FW_writeFrame y_FW_writeFrame : Cond) ∈ lw_g := lw_gm (lw_t1 (List.mem_of_getElem? (i := 155) (by first | rfl | decide +kernel))) (by first | rfl | decide +kernel)
theorem w_214 : (.code y_FW_writeFrame cd_FW_writeFrame 9 (some .boolean) : Cond) ∈ lw_g := lw_gm (lw_t1 (List.mem_of_getElem? (i := 156) (by first | rfl | decide +kernel))) (by first | rfl | decide +kernel)
theorem w_215 : (.fieldLink R_T 108 "TokenFrames" "place" "I" : Cond) ∈ lw_g := lw_gm (lw_t0 (List.mem_of_getElem? (i := 186) (by first | rfl | decide +kernel))) (by first | rfl | decide +kernel)
theorem w_216 : (.fieldLink R_T 21 "TokenFrames" "history" "LTokenFrames$Row;" : Cond) ∈ lw_g := lw_gm (lw_t0 (List.mem_of_getElem? (i := 180) (by first | rfl | decide +kernel))) (by first | rfl | decide +kernel)
theorem w_217 : (.methodLink R_T 127 y_Sum_of : Cond) ∈ lw_g := lw_gm (lw_t2 (List.mem_of_getElem? (i := 57) (by first | rfl | decide +kernel))) (by first | rfl | decide +kernel)
theorem w_218 : ∀ w ∈ u_ws R_BR T_BR 9, w ∈ lw_g := fun w h => lw_gm ((by decide +kernel : ∀ w ∈ u_ws R_BR T_BR 9, w ∈ lw_tbl) w h) ((by decide +kernel : ∀ w ∈ u_ws R_BR T_BR 9, goodWord w = true) w h)
theorem w_219 : (.fieldLink R_BR 21 "TokenFrames$BlockReader" "place" "I" : Cond) ∈ lw_g := lw_gm (lw_t0 (List.mem_of_getElem? (i := 121) (by first | rfl | decide +kernel))) (by first | rfl | decide +kernel)
theorem w_220 : (.fieldLink R_BR 25 "TokenFrames$BlockReader" "at" "I" : Cond) ∈ lw_g := lw_gm (lw_t0 (List.mem_of_getElem? (i := 116) (by first | rfl | decide +kernel))) (by first | rfl | decide +kernel)
theorem w_221 : (.fieldLink R_BR 28 "TokenFrames$BlockReader" "end" "I" : Cond) ∈ lw_g := lw_gm (lw_t0 (List.mem_of_getElem? (i := 117) (by first | rfl | decide +kernel))) (by first | rfl | decide +kernel)
theorem w_222 : (.fieldLink R_BR 9 "TokenFrames$BlockReader" "in" "LTokenFrames$Row;" : Cond) ∈ lw_g := lw_gm (lw_t0 (List.mem_of_getElem? (i := 113) (by first | rfl | decide +kernel))) (by first | rfl | decide +kernel)
theorem w_223 : (.methodLink R_BR 37 y_Row_get : Cond) ∈ lw_g := lw_gm (lw_t1 (List.mem_of_getElem? (i := 110) (by first | rfl | decide +kernel))) (by first | rfl | decide +kernel)
theorem w_224 : (.fieldLink R_BR 34 "TokenFrames$BlockReader" "most" "I" : Cond) ∈ lw_g := lw_gm (lw_t0 (List.mem_of_getElem? (i := 119) (by first | rfl | decide +kernel))) (by first | rfl | decide +kernel)
theorem w_225 : (.fieldLink R_BR 18 "TokenFrames$BlockReader" "to" "LTokenFrames$Row;" : Cond) ∈ lw_g := lw_gm (lw_t0 (List.mem_of_getElem? (i := 115) (by first | rfl | decide +kernel))) (by first | rfl | decide +kernel)
theorem w_226 : (.methodLink R_BR 60 y_Row_count : Cond) ∈ lw_g := lw_gm (lw_t1 (List.mem_of_getElem? (i := 123) (by first | rfl | decide +kernel))) (by first | rfl | decide +kernel)
theorem w_227 : (.fieldLink R_BR 75 "TokenFrames$BlockReader" "distance" "I" : Cond) ∈ lw_g := lw_gm (lw_t0 (List.mem_of_getElem? (i := 120) (by first | rfl | decide +kernel))) (by first | rfl | decide +kernel)
theorem w_228 : (.fieldLink R_BR 31 "TokenFrames$BlockReader" "start" "I" : Cond) ∈ lw_g := lw_gm (lw_t0 (List.mem_of_getElem? (i := 118) (by first | rfl | decide +kernel))) (by first | rfl | decide +kernel)
theorem w_229 : (.fieldLink R_BR 15 "TokenFrames$BlockReader" "history" "LTokenFrames$Row;" : Cond) ∈ lw_g := lw_gm (lw_t0 (List.mem_of_getElem? (i := 114) (by first | rfl | decide +kernel))) (by first | rfl | decide +kernel)
theorem w_230 : (.methodLink R_BR 78 y_Row_add : Cond) ∈ lw_g := lw_gm (lw_t1 (List.mem_of_getElem? (i := 138) (by first | rfl | decide +kernel))) (by first | rfl | decide +kernel)
theorem w_231 : (.methodLink R_BR 57 y_BR_fault : Cond) ∈ lw_g := lw_gm (lw_t1 (List.mem_of_getElem? (i := 119) (by first | rfl | decide +kernel))) (by first | rfl | decide +kernel)
theorem w_232 : (.instanceMethod y_BR_fault : Cond) ∈ lw_g := lw_gm (lw_t1 (List.mem_of_getElem? (i := 121) (by first | rfl | decide +kernel))) (by first | rfl | decide +kernel)
theorem w_233 : (.selects R_BR y_BR_fault y_BR_fault : Cond) ∈ lw_g := lw_gm (List.mem_append_left _ (List.mem_of_getElem? (i := 7) (by first | rfl | decide +kernel))) (by first | rfl | decide +kernel)
theorem w_234 : (.initialized R_BR : Cond) ∈ lw_g := lw_gm (lw_t0 (List.mem_of_getElem? (i := 7) (by first | rfl | decide +kernel))) (by first | rfl | decide +kernel)
theorem w_235 : (.code y_BR_fault cd_BR_fault 3 (some .int) : Cond) ∈ lw_g := lw_gm (lw_t1 (List.mem_of_getElem? (i := 122) (by first | rfl | decide +kernel))) (by first | rfl | decide +kernel)
theorem w_236 : (.methodLink R_BR 72 y_Row_pair : Cond) ∈ lw_g := lw_gm (lw_t1 (List.mem_of_getElem? (i := 130) (by first | rfl | decide +kernel))) (by first | rfl | decide +kernel)
theorem w_237 : (.instanceMethod y_Row_pair : Cond) ∈ lw_g := lw_gm (lw_t1 (List.mem_of_getElem? (i := 131) (by first | rfl | decide +kernel))) (by first | rfl | decide +kernel)
theorem w_238 : (.selects R_Row y_Row_pair y_Row_pair : Cond) ∈ lw_g := lw_gm (lw_t1 (List.mem_of_getElem? (i := 132) (by first | rfl | decide +kernel))) (by first | rfl | decide +kernel)
theorem w_239 : (.code y_Row_pair cd_Row_pair 2 (some .int) : Cond) ∈ lw_g := lw_gm (lw_t1 (List.mem_of_getElem? (i := 133) (by first | rfl | decide +kernel))) (by first | rfl | decide +kernel)
theorem w_240 : (.methodLink R_BR 63 Lib.Math.min.name : Cond) ∈ lw_g := lw_gm (lw_t1 (List.mem_of_getElem? (i := 124) (by first | rfl | decide +kernel))) (by first | rfl | decide +kernel)
theorem w_241 : (.methodLink R_BR 68 y_Row_addFrom : Cond) ∈ lw_g := lw_gm (lw_t1 (List.mem_of_getElem? (i := 125) (by first | rfl | decide +kernel))) (by first | rfl | decide +kernel)
theorem w_242 : (.methodLink R_BR 43 y_BR_grown : Cond) ∈ lw_g := lw_gm (lw_t1 (List.mem_of_getElem? (i := 111) (by first | rfl | decide +kernel))) (by first | rfl | decide +kernel)
theorem w_243 : (.instanceMethod y_BR_grown : Cond) ∈ lw_g := lw_gm (lw_t1 (List.mem_of_getElem? (i := 113) (by first | rfl | decide +kernel))) (by first | rfl | decide +kernel)
theorem w_244 : (.selects R_BR y_BR_grown y_BR_grown : Cond) ∈ lw_g := lw_gm (List.mem_append_left _ (List.mem_of_getElem? (i := 5) (by first | rfl | decide +kernel))) (by first | rfl | decide +kernel)
theorem w_245 : (.code y_BR_grown cd_BR_grown 4 (some .int) : Cond) ∈ lw_g := lw_gm (lw_t1 (List.mem_of_getElem? (i := 114) (by first | rfl | decide +kernel))) (by first | rfl | decide +kernel)
theorem w_246 : (.methodLink R_BR 46 y_BR_takeLiterals : Cond) ∈ lw_g := lw_gm (lw_t1 (List.mem_of_getElem? (i := 115) (by first | rfl | decide +kernel))) (by first | rfl | decide +kernel)
theorem w_247 : (.instanceMethod y_BR_takeLiterals : Cond) ∈ lw_g := lw_gm (lw_t1 (List.mem_of_getElem? (i := 117) (by first | rfl | decide +kernel))) (by first | rfl | decide +kernel)
theorem w_248 : (.selects R_BR y_BR_takeLiterals y_BR_takeLiterals : Cond) ∈ lw_g := lw_gm (List.mem_append_left _ (List.mem_of_getElem? (i := 6) (by first | rfl | decide +kernel))) (by first | rfl | decide +kernel)
theorem w_249 : (.code y_BR_takeLiterals cd_BR_takeLiterals 3 (some .int) : Cond) ∈ lw_g := lw_gm (lw_t1 (List.mem_of_getElem? (i := 118) (by first | rfl | decide +kernel))) (by first | rfl | decide +kernel)
theorem w_250 : (.methodLink R_BR 49 y_BR_takeDistance : Cond) ∈ lw_g := lw_gm (lw_t1 (List.mem_of_getElem? (i := 126) (by first | rfl | decide +kernel))) (by first | rfl | decide +kernel)
theorem w_251 : (.instanceMethod y_BR_takeDistance : Cond) ∈ lw_g := lw_gm (lw_t1 (List.mem_of_getElem? (i := 128) (by first | rfl | decide +kernel))) (by first | rfl | decide +kernel)
theorem w_252 : (.selects R_BR y_BR_takeDistance y_BR_takeDistance : Cond) ∈ lw_g := lw_gm (List.mem_append_left _ (List.mem_of_getElem? (i := 8) (by first | rfl | decide +kernel))) (by first | rfl | decide +kernel)
theorem w_253 : (.code y_BR_takeDistance cd_BR_takeDistance 1 (some .int) : Cond) ∈ lw_g := lw_gm (lw_t1 (List.mem_of_getElem? (i := 129) (by first | rfl | decide +kernel))) (by first | rfl | decide +kernel)
theorem w_254 : (.methodLink R_BR 53 y_BR_takeCopy : Cond) ∈ lw_g := lw_gm (lw_t1 (List.mem_of_getElem? (i := 134) (by first | rfl | decide +kernel))) (by first | rfl | decide +kernel)
theorem w_255 : (.instanceMethod y_BR_takeCopy : Cond) ∈ lw_g := lw_gm (lw_t1 (List.mem_of_getElem? (i := 136) (by first | rfl | decide +kernel))) (by first | rfl | decide +kernel)
theorem w_256 : (.selects R_BR y_BR_takeCopy y_BR_takeCopy : Cond) ∈ lw_g := lw_gm (List.mem_append_left _ (List.mem_of_getElem? (i := 9) (by first | rfl | decide +kernel))) (by first | rfl | decide +kernel)
theorem w_257 : (.code y_BR_takeCopy cd_BR_takeCopy 6 (some .int) : Cond) ∈ lw_g := lw_gm (lw_t1 (List.mem_of_getElem? (i := 137) (by first | rfl | decide +kernel))) (by first | rfl | decide +kernel)
theorem w_258 : (.methodLink R_T 98 y_T_isMost : Cond) ∈ lw_g := lw_gm (lw_t1 (List.mem_of_getElem? (i := 103) (by first | rfl | decide +kernel))) (by first | rfl | decide +kernel)
theorem w_259 : (.static y_T_isMost : Cond) ∈ lw_g := lw_gm (lw_t1 (List.mem_of_getElem? (i := 104) (by first | rfl | decide +kernel))) (by first | rfl | decide +kernel)
theorem w_260 : (.code y_T_isMost cd_T_isMost 1 (some .boolean) : Cond) ∈ lw_g := lw_gm (lw_t1 (List.mem_of_getElem? (i := 105) (by first | rfl | decide +kernel))) (by first | rfl | decide +kernel)
theorem w_261 : (.fieldLink R_T 50 "TokenFrames" "blockReader" "LTokenFrames$BlockReader;" : Cond) ∈ lw_g := lw_gm (lw_t0 (List.mem_of_getElem? (i := 184) (by first | rfl | decide +kernel))) (by first | rfl | decide +kernel)
theorem w_262 : (.methodLink R_T 101 y_BR_read : Cond) ∈ lw_g := lw_gm (lw_t1 (List.mem_of_getElem? (i := 106) (by first | rfl | decide +kernel))) (by first | rfl | decide +kernel)
theorem w_263 : (.instanceMethod y_BR_read : Cond) ∈ lw_g := lw_gm (lw_t1 (List.mem_of_getElem? (i := 107) (by first | rfl | decide +kernel))) (by first | rfl | decide +kernel)
theorem w_264 : (.selects R_BR y_BR_read y_BR_read : Cond) ∈ lw_g := lw_gm (lw_t1 (List.mem_of_getElem? (i := 108) (by first | rfl | decide +kernel))) (by first | rfl | decide +kernel)
theorem w_265 : (.code y_BR_read cd_BR_read 9 (some .int) : Cond) ∈ lw_g := lw_gm (lw_t1 (List.mem_of_getElem? (i := 109) (by first | rfl | decide +kernel))) (by first | rfl | decide +kernel)
theorem w_266 : (.methodLink R_T 105 y_BR_where : Cond) ∈ lw_g := lw_gm (lw_t1 (List.mem_of_getElem? (i := 139) (by first | rfl | decide +kernel))) (by first | rfl | decide +kernel)
theorem w_267 : (.instanceMethod y_BR_where : Cond) ∈ lw_g := lw_gm (lw_t1 (List.mem_of_getElem? (i := 140) (by first | rfl | decide +kernel))) (by first | rfl | decide +kernel)
theorem w_268 : (.selects R_BR y_BR_where y_BR_where : Cond) ∈ lw_g := lw_gm (lw_t1 (List.mem_of_getElem? (i := 141) (by first | rfl | decide +kernel))) (by first | rfl | decide +kernel)
theorem w_269 : (.code y_BR_where cd_BR_where 1 (some .int) : Cond) ∈ lw_g := lw_gm (lw_t1 (List.mem_of_getElem? (i := 142) (by first | rfl | decide +kernel))) (by first | rfl | decide +kernel)
theorem w_270 : ∀ w ∈ u_ws R_FR T_FR 10, w ∈ lw_g := fun w h => lw_gm ((by decide +kernel : ∀ w ∈ u_ws R_FR T_FR 10, w ∈ lw_tbl) w h) ((by decide +kernel : ∀ w ∈ u_ws R_FR T_FR 10, goodWord w = true) w h)
theorem w_271 : (.fieldLink R_FR 22 "TokenFrames$FrameReader" "place" "I" : Cond) ∈ lw_g := lw_gm (lw_t0 (List.mem_of_getElem? (i := 156) (by first | rfl | decide +kernel))) (by first | rfl | decide +kernel)
theorem w_272 : (.fieldLink R_FR 9 "TokenFrames$FrameReader" "in" "LTokenFrames$Row;" : Cond) ∈ lw_g := lw_gm (lw_t0 (List.mem_of_getElem? (i := 147) (by first | rfl | decide +kernel))) (by first | rfl | decide +kernel)
theorem w_273 : (.methodLink R_FR 32 y_Row_count : Cond) ∈ lw_g := lw_gm (lw_t1 (List.mem_of_getElem? (i := 224) (by first | rfl | decide +kernel))) (by first | rfl | decide +kernel)
theorem w_274 : (.methodLink R_FR 56 y_FR_fault : Cond) ∈ lw_g := lw_gm (lw_t1 (List.mem_of_getElem? (i := 234) (by first | rfl | decide +kernel))) (by first | rfl | decide +kernel)
theorem w_275 : (.instanceMethod y_FR_fault : Cond) ∈ lw_g := lw_gm (lw_t1 (List.mem_of_getElem? (i := 236) (by first | rfl | decide +kernel))) (by first | rfl | decide +kernel)
theorem w_276 : (.selects R_FR y_FR_fault y_FR_fault : Cond) ∈ lw_g := lw_gm (List.mem_append_left _ (List.mem_of_getElem? (i := 15) (by first | rfl | decide +kernel))) (by first | rfl | decide +kernel)
theorem w_277 : (.initialized R_FR : Cond) ∈ lw_g := lw_gm (lw_t0 (List.mem_of_getElem? (i := 8) (by first | rfl | decide +kernel))) (by first | rfl | decide +kernel)
theorem w_278 : (.code y_FR_fault cd_FR_fault 3 (some .int) : Cond) ∈ lw_g := lw_gm (lw_t1 (List.mem_of_getElem? (i := 237) (by first | rfl | decide +kernel))) (by first | rfl | decide +kernel)
theorem w_279 : (.fieldLink R_FR 29 "TokenFrames$FrameReader" "at" "I" : Cond) ∈ lw_g := lw_gm (lw_t0 (List.mem_of_getElem? (i := 150) (by first | rfl | decide +kernel))) (by first | rfl | decide +kernel)
theorem w_280 : (.methodLink R_FR 42 y_FR_left : Cond) ∈ lw_g := lw_gm (lw_t1 (List.mem_of_getElem? (i := 226) (by first | rfl | decide +kernel))) (by first | rfl | decide +kernel)
theorem w_281 : (.instanceMethod y_FR_left : Cond) ∈ lw_g := lw_gm (lw_t1 (List.mem_of_getElem? (i := 228) (by first | rfl | decide +kernel))) (by first | rfl | decide +kernel)
theorem w_282 : (.selects R_FR y_FR_left y_FR_left : Cond) ∈ lw_g := lw_gm (List.mem_append_left _ (List.mem_of_getElem? (i := 13) (by first | rfl | decide +kernel))) (by first | rfl | decide +kernel)
theorem w_283 : (.code y_FR_left cd_FR_left 1 (some .int) : Cond) ∈ lw_g := lw_gm (lw_t1 (List.mem_of_getElem? (i := 229) (by first | rfl | decide +kernel))) (by first | rfl | decide +kernel)
theorem w_284 : (.methodLink R_FR 38 y_Row_word : Cond) ∈ lw_g := lw_gm (lw_t1 (List.mem_of_getElem? (i := 225) (by first | rfl | decide +kernel))) (by first | rfl | decide +kernel)
theorem w_285 : (.constantLong R_FR 63 (4294967295) : Cond) ∈ lw_g := lw_gm (lw_t2 (List.mem_of_getElem? (i := 44) (by first | rfl | decide +kernel))) (by first | rfl | decide +kernel)
theorem w_286 : (.methodLink R_FR 45 y_FR_cut : Cond) ∈ lw_g := lw_gm (lw_t1 (List.mem_of_getElem? (i := 230) (by first | rfl | decide +kernel))) (by first | rfl | decide +kernel)
theorem w_287 : (.instanceMethod y_FR_cut : Cond) ∈ lw_g := lw_gm (lw_t1 (List.mem_of_getElem? (i := 232) (by first | rfl | decide +kernel))) (by first | rfl | decide +kernel)
theorem w_288 : (.selects R_FR y_FR_cut y_FR_cut : Cond) ∈ lw_g := lw_gm (List.mem_append_left _ (List.mem_of_getElem? (i := 14) (by first | rfl | decide +kernel))) (by first | rfl | decide +kernel)
theorem w_289 : (.code y_FR_cut cd_FR_cut 1 (some .int) : Cond) ∈ lw_g := lw_gm (lw_t1 (List.mem_of_getElem? (i := 233) (by first | rfl | decide +kernel))) (by first | rfl | decide +kernel)
theorem w_290 : (.fieldLink R_FR 60 "TokenFrames$FrameReader" "flags" "I" : Cond) ∈ lw_g := lw_gm (lw_t0 (List.mem_of_getElem? (i := 152) (by first | rfl | decide +kernel))) (by first | rfl | decide +kernel)
theorem w_291 : (.fieldLink R_FR 26 "TokenFrames$FrameReader" "most" "I" : Cond) ∈ lw_g := lw_gm (lw_t0 (List.mem_of_getElem? (i := 151) (by first | rfl | decide +kernel))) (by first | rfl | decide +kernel)
theorem w_292 : (.fieldLink R_FR 15 "TokenFrames$FrameReader" "to" "LTokenFrames$Row;" : Cond) ∈ lw_g := lw_gm (lw_t0 (List.mem_of_getElem? (i := 148) (by first | rfl | decide +kernel))) (by first | rfl | decide +kernel)
theorem w_293 : (.methodLink R_FR 118 y_Row_addFrom : Cond) ∈ lw_g := lw_gm (lw_t2 (List.mem_of_getElem? (i := 36) (by first | rfl | decide +kernel))) (by first | rfl | decide +kernel)
theorem w_294 : (.constant R_FR 105 (2147483647) : Cond) ∈ lw_g := lw_gm (lw_t2 (List.mem_of_getElem? (i := 31) (by first | rfl | decide +kernel))) (by first | rfl | decide +kernel)
theorem w_295 : (.fieldLink R_FR 90 "TokenFrames$FrameReader" "greatest" "I" : Cond) ∈ lw_g := lw_gm (lw_t0 (List.mem_of_getElem? (i := 153) (by first | rfl | decide +kernel))) (by first | rfl | decide +kernel)
theorem w_296 : (.methodLink R_FR 96 y_FR_has : Cond) ∈ lw_g := lw_gm (lw_t2 (List.mem_of_getElem? (i := 14) (by first | rfl | decide +kernel))) (by first | rfl | decide +kernel)
theorem w_297 : (.instanceMethod y_FR_has : Cond) ∈ lw_g := lw_gm (lw_t2 (List.mem_of_getElem? (i := 16) (by first | rfl | decide +kernel))) (by first | rfl | decide +kernel)
theorem w_298 : (.selects R_FR y_FR_has y_FR_has : Cond) ∈ lw_g := lw_gm (List.mem_append_left _ (List.mem_of_getElem? (i := 19) (by first | rfl | decide +kernel))) (by first | rfl | decide +kernel)
theorem w_299 : (.code y_FR_has cd_FR_has 2 (some .boolean) : Cond) ∈ lw_g := lw_gm (lw_t2 (List.mem_of_getElem? (i := 17) (by first | rfl | decide +kernel))) (by first | rfl | decide +kernel)
theorem w_300 : (.fieldLink R_FR 18 "TokenFrames$FrameReader" "blocks" "LTokenFrames$BlockReader;" : Cond) ∈ lw_g := lw_gm (lw_t0 (List.mem_of_getElem? (i := 149) (by first | rfl | decide +kernel))) (by first | rfl | decide +kernel)
theorem w_301 : (.fieldLink R_FR 65 "TokenFrames$FrameReader" "start" "I" : Cond) ∈ lw_g := lw_gm (lw_t0 (List.mem_of_getElem? (i := 155) (by first | rfl | decide +kernel))) (by first | rfl | decide +kernel)
theorem w_302 : (.methodLink R_FR 109 y_BR_read : Cond) ∈ lw_g := lw_gm (lw_t2 (List.mem_of_getElem? (i := 37) (by first | rfl | decide +kernel))) (by first | rfl | decide +kernel)
theorem w_303 : (.methodLink R_FR 115 y_BR_where : Cond) ∈ lw_g := lw_gm (lw_t2 (List.mem_of_getElem? (i := 38) (by first | rfl | decide +kernel))) (by first | rfl | decide +kernel)
theorem w_304 : (.methodLink R_FR 106 y_FR_takeBytes : Cond) ∈ lw_g := lw_gm (lw_t2 (List.mem_of_getElem? (i := 32) (by first | rfl | decide +kernel))) (by first | rfl | decide +kernel)
theorem w_305 : (.instanceMethod y_FR_takeBytes : Cond) ∈ lw_g := lw_gm (lw_t2 (List.mem_of_getElem? (i := 34) (by first | rfl | decide +kernel))) (by first | rfl | decide +kernel)
theorem w_306 : (.selects R_FR y_FR_takeBytes y_FR_takeBytes : Cond) ∈ lw_g := lw_gm (List.mem_append_left _ (List.mem_of_getElem? (i := 23) (by first | rfl | decide +kernel))) (by first | rfl | decide +kernel)
theorem w_307 : (.code y_FR_takeBytes cd_FR_takeBytes 4 (some .int) : Cond) ∈ lw_g := lw_gm (lw_t2 (List.mem_of_getElem? (i := 35) (by first | rfl | decide +kernel))) (by first | rfl | decide +kernel)
theorem w_308 : (.methodLink R_FR 99 y_Sum_of : Cond) ∈ lw_g := lw_gm (lw_t2 (List.mem_of_getElem? (i := 18) (by first | rfl | decide +kernel))) (by first | rfl | decide +kernel)
theorem w_309 : (.methodLink R_FR 80 y_Row_get : Cond) ∈ lw_g := lw_gm (lw_t2 (List.mem_of_getElem? (i := 7) (by first | rfl | decide +kernel))) (by first | rfl | decide +kernel)
theorem w_310 : (.fieldLink R_FR 93 "TokenFrames$FrameReader" "sizeAt" "I" : Cond) ∈ lw_g := lw_gm (lw_t0 (List.mem_of_getElem? (i := 154) (by first | rfl | decide +kernel))) (by first | rfl | decide +kernel)
theorem w_311 : (.methodLink R_FR 122 y_FR_sizeIs : Cond) ∈ lw_g := lw_gm (lw_t2 (List.mem_of_getElem? (i := 23) (by first | rfl | decide +kernel))) (by first | rfl | decide +kernel)
theorem w_312 : (.instanceMethod y_FR_sizeIs : Cond) ∈ lw_g := lw_gm (lw_t2 (List.mem_of_getElem? (i := 25) (by first | rfl | decide +kernel))) (by first | rfl | decide +kernel)
theorem w_313 : (.selects R_FR y_FR_sizeIs y_FR_sizeIs : Cond) ∈ lw_g := lw_gm (List.mem_append_left _ (List.mem_of_getElem? (i := 21) (by first | rfl | decide +kernel))) (by first | rfl | decide +kernel)
theorem w_314 : (.code y_FR_sizeIs cd_FR_sizeIs 2 (some .boolean) : Cond) ∈ lw_g := lw_gm (lw_t2 (List.mem_of_getElem? (i := 26) (by first | rfl | decide +kernel))) (by first | rfl | decide +kernel)
theorem w_315 : (.methodLink R_FR 68 y_FR_readFlags : Cond) ∈ lw_g := lw_gm (lw_t2 (List.mem_of_getElem? (i := 3) (by first | rfl | decide +kernel))) (by first | rfl | decide +kernel)
theorem w_316 : (.instanceMethod y_FR_readFlags : Cond) ∈ lw_g := lw_gm (lw_t2 (List.mem_of_getElem? (i := 5) (by first | rfl | decide +kernel))) (by first | rfl | decide +kernel)
theorem w_317 : (.selects R_FR y_FR_readFlags y_FR_readFlags : Cond) ∈ lw_g := lw_gm (List.mem_append_left _ (List.mem_of_getElem? (i := 17) (by first | rfl | decide +kernel))) (by first | rfl | decide +kernel)
theorem w_318 : (.code y_FR_readFlags cd_FR_readFlags 2 (some .int) : Cond) ∈ lw_g := lw_gm (lw_t2 (List.mem_of_getElem? (i := 6) (by first | rfl | decide +kernel))) (by first | rfl | decide +kernel)
theorem w_319 : (.methodLink R_FR 71 y_FR_readHead : Cond) ∈ lw_g := lw_gm (lw_t2 (List.mem_of_getElem? (i := 10) (by first | rfl | decide +kernel))) (by first | rfl | decide +kernel)
theorem w_320 : (.instanceMethod y_FR_readHead : Cond) ∈ lw_g := lw_gm (lw_t2 (List.mem_of_getElem? (i := 12) (by first | rfl | decide +kernel))) (by first | rfl | decide +kernel)
theorem w_321 : (.selects R_FR y_FR_readHead y_FR_readHead : Cond) ∈ lw_g := lw_gm (List.mem_append_left _ (List.mem_of_getElem? (i := 18) (by first | rfl | decide +kernel))) (by first | rfl | decide +kernel)
theorem w_322 : (.code y_FR_readHead cd_FR_readHead 3 (some .int) : Cond) ∈ lw_g := lw_gm (lw_t2 (List.mem_of_getElem? (i := 13) (by first | rfl | decide +kernel))) (by first | rfl | decide +kernel)
theorem w_323 : (.methodLink R_FR 77 y_FR_readBlock : Cond) ∈ lw_g := lw_gm (lw_t2 (List.mem_of_getElem? (i := 27) (by first | rfl | decide +kernel))) (by first | rfl | decide +kernel)
theorem w_324 : (.instanceMethod y_FR_readBlock : Cond) ∈ lw_g := lw_gm (lw_t2 (List.mem_of_getElem? (i := 29) (by first | rfl | decide +kernel))) (by first | rfl | decide +kernel)
theorem w_325 : (.selects R_FR y_FR_readBlock y_FR_readBlock : Cond) ∈ lw_g := lw_gm (List.mem_append_left _ (List.mem_of_getElem? (i := 22) (by first | rfl | decide +kernel))) (by first | rfl | decide +kernel)
theorem w_326 : (.code y_FR_readBlock cd_FR_readBlock 7 (some .int) : Cond) ∈ lw_g := lw_gm (lw_t2 (List.mem_of_getElem? (i := 30) (by first | rfl | decide +kernel))) (by first | rfl | decide +kernel)
theorem w_327 : (.methodLink R_FR 74 y_FR_readTail : Cond) ∈ lw_g := lw_gm (lw_t2 (List.mem_of_getElem? (i := 19) (by first | rfl | decide +kernel))) (by first | rfl | decide +kernel)
theorem w_328 : (.instanceMethod y_FR_readTail : Cond) ∈ lw_g := lw_gm (lw_t2 (List.mem_of_getElem? (i := 21) (by first | rfl | decide +kernel))) (by first | rfl | decide +kernel)
theorem w_329 : (.selects R_FR y_FR_readTail y_FR_readTail : Cond) ∈ lw_g := lw_gm (List.mem_append_left _ (List.mem_of_getElem? (i := 20) (by first | rfl | decide +kernel))) (by first | rfl | decide +kernel)
theorem w_330 : (.code y_FR_readTail cd_FR_readTail 1 (some .int) : Cond) ∈ lw_g := lw_gm (lw_t2 (List.mem_of_getElem? (i := 22) (by first | rfl | decide +kernel))) (by first | rfl | decide +kernel)
theorem w_331 : (.constant R_FR 48 (407708164) : Cond) ∈ lw_g := lw_gm (lw_t1 (List.mem_of_getElem? (i := 238) (by first | rfl | decide +kernel))) (by first | rfl | decide +kernel)
theorem w_332 : (.constant R_FR 52 (407710288) : Cond) ∈ lw_g := lw_gm (lw_t2 (List.mem_of_getElem? (i := 39) (by first | rfl | decide +kernel))) (by first | rfl | decide +kernel)
theorem w_333 : (.methodLink R_FR 53 y_FR_passSpare : Cond) ∈ lw_g := lw_gm (lw_t2 (List.mem_of_getElem? (i := 40) (by first | rfl | decide +kernel))) (by first | rfl | decide +kernel)
theorem w_334 : (.instanceMethod y_FR_passSpare : Cond) ∈ lw_g := lw_gm (lw_t2 (List.mem_of_getElem? (i := 42) (by first | rfl | decide +kernel))) (by first | rfl | decide +kernel)
theorem w_335 : (.selects R_FR y_FR_passSpare y_FR_passSpare : Cond) ∈ lw_g := lw_gm (List.mem_append_left _ (List.mem_of_getElem? (i := 24) (by first | rfl | decide +kernel))) (by first | rfl | decide +kernel)
theorem w_336 : (.code y_FR_passSpare cd_FR_passSpare 3 (some .int) : Cond) ∈ lw_g := lw_gm (lw_t2 (List.mem_of_getElem? (i := 43) (by first | rfl | decide +kernel))) (by first | rfl | decide +kernel)
theorem w_337 : (.methodLink R_FR 49 y_FR_readFrame : Cond) ∈ lw_g := lw_gm (lw_t1 (List.mem_of_getElem? (i := 239) (by first | rfl | decide +kernel))) (by first | rfl | decide +kernel)
theorem w_338 : (.instanceMethod y_FR_readFrame : Cond) ∈ lw_g := lw_gm (lw_t2 (List.mem_of_getElem? (i := 1) (by first | rfl | decide +kernel))) (by first | rfl | decide +kernel)
theorem w_339 : (.selects R_FR y_FR_readFrame y_FR_readFrame : Cond) ∈ lw_g := lw_gm (List.mem_append_left _ (List.mem_of_getElem? (i := 16) (by first | rfl | decide +kernel))) (by first | rfl | decide +kernel)
theorem w_340 : (.code y_FR_readFrame cd_FR_readFrame 5 (some .int) : Cond) ∈ lw_g := lw_gm (lw_t2 (List.mem_of_getElem? (i := 2) (by first | rfl | decide +kernel))) (by first | rfl | decide +kernel)
theorem w_341 : (.fieldLink R_T 59 "TokenFrames" "frameReader" "LTokenFrames$FrameReader;" : Cond) ∈ lw_g := lw_gm (lw_t0 (List.mem_of_getElem? (i := 185) (by first | rfl | decide +kernel))) (by first | rfl | decide +kernel)
theorem w_342 : (.methodLink R_T 122 y_FR_readFrames : Cond) ∈ lw_g := lw_gm (lw_t1 (List.mem_of_getElem? (i := 220) (by first | rfl | decide +kernel))) (by first | rfl | decide +kernel)
theorem w_343 : (.instanceMethod y_FR_readFrames : Cond) ∈ lw_g := lw_gm (lw_t1 (List.mem_of_getElem? (i := 221) (by first | rfl | decide +kernel))) (by first | rfl | decide +kernel)
theorem w_344 : (.selects R_FR y_FR_readFrames y_FR_readFrames : Cond) ∈ lw_g := lw_gm (lw_t1 (List.mem_of_getElem? (i := 222) (by first | rfl | decide +kernel))) (by first | rfl | decide +kernel)
theorem w_345 : (.code y_FR_readFrames cd_FR_readFrames 5 (some .int) : Cond) ∈ lw_g := lw_gm (lw_t1 (List.mem_of_getElem? (i := 223) (by first | rfl | decide +kernel))) (by first | rfl | decide +kernel)
theorem w_346 : (.methodLink R_T 126 y_FR_where : Cond) ∈ lw_g := lw_gm (lw_t2 (List.mem_of_getElem? (i := 45) (by first | rfl | decide +kernel))) (by first | rfl | decide +kernel)
theorem w_347 : (.instanceMethod y_FR_where : Cond) ∈ lw_g := lw_gm (lw_t2 (List.mem_of_getElem? (i := 46) (by first | rfl | decide +kernel))) (by first | rfl | decide +kernel)
theorem w_348 : (.selects R_FR y_FR_where y_FR_where : Cond) ∈ lw_g := lw_gm (lw_t2 (List.mem_of_getElem? (i := 47) (by first | rfl | decide +kernel))) (by first | rfl | decide +kernel)
theorem w_349 : (.code y_FR_where cd_FR_where 1 (some .int) : Cond) ∈ lw_g := lw_gm (lw_t2 (List.mem_of_getElem? (i := 48) (by first | rfl | decide +kernel))) (by first | rfl | decide +kernel)
theorem w_350 : (.methodLink R_T 67 y_Row_add : Cond) ∈ lw_g := lw_gm (lw_t0 (List.mem_of_getElem? (i := 214) (by first | rfl | decide +kernel))) (by first | rfl | decide +kernel)
theorem w_351 : ∀ w ∈ u_ws R_Mo T_Mo 21, w ∈ lw_g := fun w h => lw_gm ((by decide +kernel : ∀ w ∈ u_ws R_Mo T_Mo 21, w ∈ lw_tbl) w h) ((by decide +kernel : ∀ w ∈ u_ws R_Mo T_Mo 21, goodWord w = true) w h)
theorem w_352 : (.fieldLink R_Mo 93 "TokenFramesModel" "partSize" "I" : Cond) ∈ lw_g := lw_gm (lw_t2 (List.mem_of_getElem? (i := 86) (by first | rfl | decide +kernel))) (by first | rfl | decide +kernel)
theorem w_353 : (.fieldLink R_Mo 25 "TokenFramesModel" "part" "[I" : Cond) ∈ lw_g := lw_gm (lw_t2 (List.mem_of_getElem? (i := 85) (by first | rfl | decide +kernel))) (by first | rfl | decide +kernel)
theorem w_354 : (.methodLink R_Mo 96 y_Mo_say : Cond) ∈ lw_g := lw_gm (lw_t2 (List.mem_of_getElem? (i := 215) (by first | rfl | decide +kernel))) (by first | rfl | decide +kernel)
theorem w_355 : (.instanceMethod y_Mo_say : Cond) ∈ lw_g := lw_gm (lw_t2 (List.mem_of_getElem? (i := 217) (by first | rfl | decide +kernel))) (by first | rfl | decide +kernel)
theorem w_356 : (.selects R_Mo y_Mo_say y_Mo_say : Cond) ∈ lw_g := lw_gm (List.mem_append_left _ (List.mem_of_getElem? (i := 33) (by first | rfl | decide +kernel))) (by first | rfl | decide +kernel)
theorem w_357 : (.initialized R_Mo : Cond) ∈ lw_g := lw_gm (lw_t0 (List.mem_of_getElem? (i := 9) (by first | rfl | decide +kernel))) (by first | rfl | decide +kernel)
theorem w_358 : (.code y_Mo_say cd_Mo_say 2 none : Cond) ∈ lw_g := lw_gm (lw_t2 (List.mem_of_getElem? (i := 218) (by first | rfl | decide +kernel))) (by first | rfl | decide +kernel)
theorem w_359 : (.fieldLink R_Mo 124 "TokenFramesModel" "number" "I" : Cond) ∈ lw_g := lw_gm (lw_t2 (List.mem_of_getElem? (i := 93) (by first | rfl | decide +kernel))) (by first | rfl | decide +kernel)
theorem w_360 : (.fieldLink R_Mo 127 "TokenFramesModel" "at" "I" : Cond) ∈ lw_g := lw_gm (lw_t2 (List.mem_of_getElem? (i := 92) (by first | rfl | decide +kernel))) (by first | rfl | decide +kernel)
theorem w_361 : (.fieldLink R_Mo 7 "TokenFramesModel" "in" "[I" : Cond) ∈ lw_g := lw_gm (lw_t2 (List.mem_of_getElem? (i := 73) (by first | rfl | decide +kernel))) (by first | rfl | decide +kernel)
theorem w_362 : (.fieldLink R_Mo 38 "TokenFramesModel" "inSize" "I" : Cond) ∈ lw_g := lw_gm (lw_t2 (List.mem_of_getElem? (i := 76) (by first | rfl | decide +kernel))) (by first | rfl | decide +kernel)
theorem w_363 : (.fieldLink R_Mo 19 "TokenFramesModel" "data" "[I" : Cond) ∈ lw_g := lw_gm (lw_t2 (List.mem_of_getElem? (i := 80) (by first | rfl | decide +kernel))) (by first | rfl | decide +kernel)
theorem w_364 : (.fieldLink R_Mo 78 "TokenFramesModel" "dataSize" "I" : Cond) ∈ lw_g := lw_gm (lw_t2 (List.mem_of_getElem? (i := 81) (by first | rfl | decide +kernel))) (by first | rfl | decide +kernel)
theorem w_365 : (.fieldLink R_Mo 47 "TokenFramesModel" "historySize" "I" : Cond) ∈ lw_g := lw_gm (lw_t2 (List.mem_of_getElem? (i := 78) (by first | rfl | decide +kernel))) (by first | rfl | decide +kernel)
theorem w_366 : (.fieldLink R_Mo 16 "TokenFramesModel" "history" "[I" : Cond) ∈ lw_g := lw_gm (lw_t2 (List.mem_of_getElem? (i := 75) (by first | rfl | decide +kernel))) (by first | rfl | decide +kernel)
theorem w_367 : (.fieldLink R_Mo 130 "TokenFramesModel" "backSize" "I" : Cond) ∈ lw_g := lw_gm (lw_t2 (List.mem_of_getElem? (i := 88) (by first | rfl | decide +kernel))) (by first | rfl | decide +kernel)
theorem w_368 : (.fieldLink R_Mo 28 "TokenFramesModel" "back" "[I" : Cond) ∈ lw_g := lw_gm (lw_t2 (List.mem_of_getElem? (i := 87) (by first | rfl | decide +kernel))) (by first | rfl | decide +kernel)
theorem w_369 : (.fieldLink R_Mo 44 "TokenFramesModel" "outSize" "I" : Cond) ∈ lw_g := lw_gm (lw_t2 (List.mem_of_getElem? (i := 77) (by first | rfl | decide +kernel))) (by first | rfl | decide +kernel)
theorem w_370 : (.fieldLink R_Mo 13 "TokenFramesModel" "out" "[I" : Cond) ∈ lw_g := lw_gm (lw_t2 (List.mem_of_getElem? (i := 74) (by first | rfl | decide +kernel))) (by first | rfl | decide +kernel)
theorem w_371 : (.methodLink R_Mo 100 y_Mo_added : Cond) ∈ lw_g := lw_gm (lw_t2 (List.mem_of_getElem? (i := 219) (by first | rfl | decide +kernel))) (by first | rfl | decide +kernel)
theorem w_372 : (.instanceMethod y_Mo_added : Cond) ∈ lw_g := lw_gm (lw_t2 (List.mem_of_getElem? (i := 221) (by first | rfl | decide +kernel))) (by first | rfl | decide +kernel)
theorem w_373 : (.selects R_Mo y_Mo_added y_Mo_added : Cond) ∈ lw_g := lw_gm (List.mem_append_left _ (List.mem_of_getElem? (i := 34) (by first | rfl | decide +kernel))) (by first | rfl | decide +kernel)
theorem w_374 : (.code y_Mo_added cd_Mo_added 3 none : Cond) ∈ lw_g := lw_gm (lw_t2 (List.mem_of_getElem? (i := 222) (by first | rfl | decide +kernel))) (by first | rfl | decide +kernel)
theorem w_375 : (.constant R_Mo 81 (65535) : Cond) ∈ lw_g := lw_gm (lw_t2 (List.mem_of_getElem? (i := 206) (by first | rfl | decide +kernel))) (by first | rfl | decide +kernel)
theorem w_376 : (.methodLink R_Mo 82 y_Mo_alike : Cond) ∈ lw_g := lw_gm (lw_t2 (List.mem_of_getElem? (i := 207) (by first | rfl | decide +kernel))) (by first | rfl | decide +kernel)
theorem w_377 : (.instanceMethod y_Mo_alike : Cond) ∈ lw_g := lw_gm (lw_t2 (List.mem_of_getElem? (i := 209) (by first | rfl | decide +kernel))) (by first | rfl | decide +kernel)
theorem w_378 : (.selects R_Mo y_Mo_alike y_Mo_alike : Cond) ∈ lw_g := lw_gm (List.mem_append_left _ (List.mem_of_getElem? (i := 31) (by first | rfl | decide +kernel))) (by first | rfl | decide +kernel)
theorem w_379 : (.code y_Mo_alike cd_Mo_alike 5 (some .int) : Cond) ∈ lw_g := lw_gm (lw_t2 (List.mem_of_getElem? (i := 210) (by first | rfl | decide +kernel))) (by first | rfl | decide +kernel)
theorem w_380 : (.fieldLink R_Mo 86 "TokenFramesModel" "found" "I" : Cond) ∈ lw_g := lw_gm (lw_t2 (List.mem_of_getElem? (i := 82) (by first | rfl | decide +kernel))) (by first | rfl | decide +kernel)
theorem w_381 : (.methodLink R_Mo 89 y_Mo_match : Cond) ∈ lw_g := lw_gm (lw_t2 (List.mem_of_getElem? (i := 202) (by first | rfl | decide +kernel))) (by first | rfl | decide +kernel)
theorem w_382 : (.instanceMethod y_Mo_match : Cond) ∈ lw_g := lw_gm (lw_t2 (List.mem_of_getElem? (i := 204) (by first | rfl | decide +kernel))) (by first | rfl | decide +kernel)
theorem w_383 : (.selects R_Mo y_Mo_match y_Mo_match : Cond) ∈ lw_g := lw_gm (List.mem_append_left _ (List.mem_of_getElem? (i := 30) (by first | rfl | decide +kernel))) (by first | rfl | decide +kernel)
theorem w_384 : (.code y_Mo_match cd_Mo_match 8 (some .int) : Cond) ∈ lw_g := lw_gm (lw_t2 (List.mem_of_getElem? (i := 205) (by first | rfl | decide +kernel))) (by first | rfl | decide +kernel)
theorem w_385 : (.methodLink R_Mo 106 y_Mo_sequence : Cond) ∈ lw_g := lw_gm (lw_t2 (List.mem_of_getElem? (i := 211) (by first | rfl | decide +kernel))) (by first | rfl | decide +kernel)
theorem w_386 : (.instanceMethod y_Mo_sequence : Cond) ∈ lw_g := lw_gm (lw_t2 (List.mem_of_getElem? (i := 213) (by first | rfl | decide +kernel))) (by first | rfl | decide +kernel)
theorem w_387 : (.selects R_Mo y_Mo_sequence y_Mo_sequence : Cond) ∈ lw_g := lw_gm (List.mem_append_left _ (List.mem_of_getElem? (i := 32) (by first | rfl | decide +kernel))) (by first | rfl | decide +kernel)
theorem w_388 : (.code y_Mo_sequence cd_Mo_sequence 8 none : Cond) ∈ lw_g := lw_gm (lw_t2 (List.mem_of_getElem? (i := 214) (by first | rfl | decide +kernel))) (by first | rfl | decide +kernel)
theorem w_389 : (.methodLink R_Mo 103 y_Mo_taken : Cond) ∈ lw_g := lw_gm (lw_t2 (List.mem_of_getElem? (i := 198) (by first | rfl | decide +kernel))) (by first | rfl | decide +kernel)
theorem w_390 : (.instanceMethod y_Mo_taken : Cond) ∈ lw_g := lw_gm (lw_t2 (List.mem_of_getElem? (i := 200) (by first | rfl | decide +kernel))) (by first | rfl | decide +kernel)
theorem w_391 : (.selects R_Mo y_Mo_taken y_Mo_taken : Cond) ∈ lw_g := lw_gm (List.mem_append_left _ (List.mem_of_getElem? (i := 29) (by first | rfl | decide +kernel))) (by first | rfl | decide +kernel)
theorem w_392 : (.code y_Mo_taken cd_Mo_taken 5 (some .int) : Cond) ∈ lw_g := lw_gm (lw_t2 (List.mem_of_getElem? (i := 201) (by first | rfl | decide +kernel))) (by first | rfl | decide +kernel)
theorem w_393 : (.methodLink R_Mo 110 y_Mo_begin : Cond) ∈ lw_g := lw_gm (lw_t2 (List.mem_of_getElem? (i := 186) (by first | rfl | decide +kernel))) (by first | rfl | decide +kernel)
theorem w_394 : (.instanceMethod y_Mo_begin : Cond) ∈ lw_g := lw_gm (lw_t2 (List.mem_of_getElem? (i := 188) (by first | rfl | decide +kernel))) (by first | rfl | decide +kernel)
theorem w_395 : (.selects R_Mo y_Mo_begin y_Mo_begin : Cond) ∈ lw_g := lw_gm (List.mem_append_left _ (List.mem_of_getElem? (i := 26) (by first | rfl | decide +kernel))) (by first | rfl | decide +kernel)
theorem w_396 : (.code y_Mo_begin cd_Mo_begin 2 none : Cond) ∈ lw_g := lw_gm (lw_t2 (List.mem_of_getElem? (i := 189) (by first | rfl | decide +kernel))) (by first | rfl | decide +kernel)
theorem w_397 : (.methodLink R_Mo 113 y_Mo_append : Cond) ∈ lw_g := lw_gm (lw_t2 (List.mem_of_getElem? (i := 190) (by first | rfl | decide +kernel))) (by first | rfl | decide +kernel)
theorem w_398 : (.instanceMethod y_Mo_append : Cond) ∈ lw_g := lw_gm (lw_t2 (List.mem_of_getElem? (i := 192) (by first | rfl | decide +kernel))) (by first | rfl | decide +kernel)
theorem w_399 : (.selects R_Mo y_Mo_append y_Mo_append : Cond) ∈ lw_g := lw_gm (List.mem_append_left _ (List.mem_of_getElem? (i := 27) (by first | rfl | decide +kernel))) (by first | rfl | decide +kernel)
theorem w_400 : (.code y_Mo_append cd_Mo_append 4 none : Cond) ∈ lw_g := lw_gm (lw_t2 (List.mem_of_getElem? (i := 193) (by first | rfl | decide +kernel))) (by first | rfl | decide +kernel)
theorem w_401 : (.methodLink R_Mo 117 y_Mo_writeBlock : Cond) ∈ lw_g := lw_gm (lw_t2 (List.mem_of_getElem? (i := 194) (by first | rfl | decide +kernel))) (by first | rfl | decide +kernel)
theorem w_402 : (.instanceMethod y_Mo_writeBlock : Cond) ∈ lw_g := lw_gm (lw_t2 (List.mem_of_getElem? (i := 196) (by first | rfl | decide +kernel))) (by first | rfl | decide +kernel)
theorem w_403 : (.selects R_Mo y_Mo_writeBlock y_Mo_writeBlock : Cond) ∈ lw_g := lw_gm (List.mem_append_left _ (List.mem_of_getElem? (i := 28) (by first | rfl | decide +kernel))) (by first | rfl | decide +kernel)
theorem w_404 : (.code y_Mo_writeBlock cd_Mo_writeBlock 6 none : Cond) ∈ lw_g := lw_gm (lw_t2 (List.mem_of_getElem? (i := 197) (by first | rfl | decide +kernel))) (by first | rfl | decide +kernel)
theorem w_405 : (.methodLink R_Mo 120 y_Mo_show : Cond) ∈ lw_g := lw_gm (lw_t2 (List.mem_of_getElem? (i := 223) (by first | rfl | decide +kernel))) (by first | rfl | decide +kernel)
theorem w_406 : (.instanceMethod y_Mo_show : Cond) ∈ lw_g := lw_gm (lw_t2 (List.mem_of_getElem? (i := 225) (by first | rfl | decide +kernel))) (by first | rfl | decide +kernel)
theorem w_407 : (.selects R_Mo y_Mo_show y_Mo_show : Cond) ∈ lw_g := lw_gm (List.mem_append_left _ (List.mem_of_getElem? (i := 35) (by first | rfl | decide +kernel))) (by first | rfl | decide +kernel)
theorem w_408 : (.code y_Mo_show cd_Mo_show 4 (some .int) : Cond) ∈ lw_g := lw_gm (lw_t2 (List.mem_of_getElem? (i := 226) (by first | rfl | decide +kernel))) (by first | rfl | decide +kernel)
theorem w_409 : (.fieldLink R_Mo 133 "TokenFramesModel" "place" "I" : Cond) ∈ lw_g := lw_gm (lw_t2 (List.mem_of_getElem? (i := 79) (by first | rfl | decide +kernel))) (by first | rfl | decide +kernel)
theorem w_410 : (.fieldLink R_Mo 146 "TokenFramesModel" "madeSize" "I" : Cond) ∈ lw_g := lw_gm (lw_t2 (List.mem_of_getElem? (i := 84) (by first | rfl | decide +kernel))) (by first | rfl | decide +kernel)
theorem w_411 : (.fieldLink R_Mo 22 "TokenFramesModel" "made" "[I" : Cond) ∈ lw_g := lw_gm (lw_t2 (List.mem_of_getElem? (i := 83) (by first | rfl | decide +kernel))) (by first | rfl | decide +kernel)
theorem w_412 : (.constantLong R_Mo 42 (255) : Cond) ∈ lw_g := lw_gm (lw_t2 (List.mem_of_getElem? (i := 142) (by first | rfl | decide +kernel))) (by first | rfl | decide +kernel)
theorem w_413 : (.methodLink R_Mo 149 y_Mo_make : Cond) ∈ lw_g := lw_gm (lw_t3 (List.mem_of_getElem? (i := 15) (by first | rfl | decide +kernel))) (by first | rfl | decide +kernel)
theorem w_414 : (.instanceMethod y_Mo_make : Cond) ∈ lw_g := lw_gm (lw_t3 (List.mem_of_getElem? (i := 17) (by first | rfl | decide +kernel))) (by first | rfl | decide +kernel)
theorem w_415 : (.selects R_Mo y_Mo_make y_Mo_make : Cond) ∈ lw_g := lw_gm (List.mem_append_left _ (List.mem_of_getElem? (i := 40) (by first | rfl | decide +kernel))) (by first | rfl | decide +kernel)
theorem w_416 : (.code y_Mo_make cd_Mo_make 2 none : Cond) ∈ lw_g := lw_gm (lw_t3 (List.mem_of_getElem? (i := 18) (by first | rfl | decide +kernel))) (by first | rfl | decide +kernel)
theorem w_417 : (.constantLong R_Mo 50 (4294967295) : Cond) ∈ lw_g := lw_gm (lw_t2 (List.mem_of_getElem? (i := 172) (by first | rfl | decide +kernel))) (by first | rfl | decide +kernel)
theorem w_418 : (.constantLong R_Mo 52 (2654435761) : Cond) ∈ lw_g := lw_gm (lw_t2 (List.mem_of_getElem? (i := 167) (by first | rfl | decide +kernel))) (by first | rfl | decide +kernel)
theorem w_419 : (.constantLong R_Mo 54 (2246822519) : Cond) ∈ lw_g := lw_gm (lw_t2 (List.mem_of_getElem? (i := 168) (by first | rfl | decide +kernel))) (by first | rfl | decide +kernel)
theorem w_420 : (.constantLong R_Mo 56 (3266489917) : Cond) ∈ lw_g := lw_gm (lw_t2 (List.mem_of_getElem? (i := 169) (by first | rfl | decide +kernel))) (by first | rfl | decide +kernel)
theorem w_421 : (.constantLong R_Mo 58 (668265263) : Cond) ∈ lw_g := lw_gm (lw_t2 (List.mem_of_getElem? (i := 170) (by first | rfl | decide +kernel))) (by first | rfl | decide +kernel)
theorem w_422 : (.constantLong R_Mo 60 (374761393) : Cond) ∈ lw_g := lw_gm (lw_t2 (List.mem_of_getElem? (i := 171) (by first | rfl | decide +kernel))) (by first | rfl | decide +kernel)
theorem w_423 : (.methodLink R_Mo 66 y_Mo_times : Cond) ∈ lw_g := lw_gm (lw_t2 (List.mem_of_getElem? (i := 176) (by first | rfl | decide +kernel))) (by first | rfl | decide +kernel)
theorem w_424 : (.static y_Mo_times : Cond) ∈ lw_g := lw_gm (lw_t2 (List.mem_of_getElem? (i := 177) (by first | rfl | decide +kernel))) (by first | rfl | decide +kernel)
theorem w_425 : (.code y_Mo_times cd_Mo_times 4 (some .long) : Cond) ∈ lw_g := lw_gm (lw_t2 (List.mem_of_getElem? (i := 178) (by first | rfl | decide +kernel))) (by first | rfl | decide +kernel)
theorem w_426 : (.methodLink R_Mo 70 y_Mo_turned : Cond) ∈ lw_g := lw_gm (lw_t2 (List.mem_of_getElem? (i := 179) (by first | rfl | decide +kernel))) (by first | rfl | decide +kernel)
theorem w_427 : (.static y_Mo_turned : Cond) ∈ lw_g := lw_gm (lw_t2 (List.mem_of_getElem? (i := 180) (by first | rfl | decide +kernel))) (by first | rfl | decide +kernel)
theorem w_428 : (.code y_Mo_turned cd_Mo_turned 3 (some .long) : Cond) ∈ lw_g := lw_gm (lw_t2 (List.mem_of_getElem? (i := 181) (by first | rfl | decide +kernel))) (by first | rfl | decide +kernel)
theorem w_429 : (.methodLink R_Mo 62 y_Mo_word : Cond) ∈ lw_g := lw_gm (lw_t2 (List.mem_of_getElem? (i := 173) (by first | rfl | decide +kernel))) (by first | rfl | decide +kernel)
theorem w_430 : (.static y_Mo_word : Cond) ∈ lw_g := lw_gm (lw_t2 (List.mem_of_getElem? (i := 174) (by first | rfl | decide +kernel))) (by first | rfl | decide +kernel)
theorem w_431 : (.code y_Mo_word cd_Mo_word 2 (some .long) : Cond) ∈ lw_g := lw_gm (lw_t2 (List.mem_of_getElem? (i := 175) (by first | rfl | decide +kernel))) (by first | rfl | decide +kernel)
theorem w_432 : (.fieldLink R_Mo 34 "TokenFramesModel" "lane" "[J" : Cond) ∈ lw_g := lw_gm (lw_t2 (List.mem_of_getElem? (i := 91) (by first | rfl | decide +kernel))) (by first | rfl | decide +kernel)
theorem w_433 : (.methodLink R_Mo 152 y_Mo_areFlags : Cond) ∈ lw_g := lw_gm (lw_t3 (List.mem_of_getElem? (i := 7) (by first | rfl | decide +kernel))) (by first | rfl | decide +kernel)
theorem w_434 : (.static y_Mo_areFlags : Cond) ∈ lw_g := lw_gm (lw_t3 (List.mem_of_getElem? (i := 8) (by first | rfl | decide +kernel))) (by first | rfl | decide +kernel)
theorem w_435 : (.code y_Mo_areFlags cd_Mo_areFlags 1 (some .boolean) : Cond) ∈ lw_g := lw_gm (lw_t3 (List.mem_of_getElem? (i := 9) (by first | rfl | decide +kernel))) (by first | rfl | decide +kernel)
theorem w_436 : (.constantLong R_Mo 156 (407708164) : Cond) ∈ lw_g := lw_gm (lw_t3 (List.mem_of_getElem? (i := 10) (by first | rfl | decide +kernel))) (by first | rfl | decide +kernel)
theorem w_437 : (.methodLink R_Mo 158 y_Mo_makeNumber : Cond) ∈ lw_g := lw_gm (lw_t3 (List.mem_of_getElem? (i := 11) (by first | rfl | decide +kernel))) (by first | rfl | decide +kernel)
theorem w_438 : (.instanceMethod y_Mo_makeNumber : Cond) ∈ lw_g := lw_gm (lw_t3 (List.mem_of_getElem? (i := 13) (by first | rfl | decide +kernel))) (by first | rfl | decide +kernel)
theorem w_439 : (.selects R_Mo y_Mo_makeNumber y_Mo_makeNumber : Cond) ∈ lw_g := lw_gm (List.mem_append_left _ (List.mem_of_getElem? (i := 39) (by first | rfl | decide +kernel))) (by first | rfl | decide +kernel)
theorem w_440 : (.code y_Mo_makeNumber cd_Mo_makeNumber 5 none : Cond) ∈ lw_g := lw_gm (lw_t3 (List.mem_of_getElem? (i := 14) (by first | rfl | decide +kernel))) (by first | rfl | decide +kernel)
theorem w_441 : (.methodLink R_Mo 74 y_Mo_sumOf : Cond) ∈ lw_g := lw_gm (lw_t2 (List.mem_of_getElem? (i := 163) (by first | rfl | decide +kernel))) (by first | rfl | decide +kernel)
theorem w_442 : (.instanceMethod y_Mo_sumOf : Cond) ∈ lw_g := lw_gm (lw_t2 (List.mem_of_getElem? (i := 165) (by first | rfl | decide +kernel))) (by first | rfl | decide +kernel)
theorem w_443 : (.selects R_Mo y_Mo_sumOf y_Mo_sumOf : Cond) ∈ lw_g := lw_gm (List.mem_append_left _ (List.mem_of_getElem? (i := 25) (by first | rfl | decide +kernel))) (by first | rfl | decide +kernel)
theorem w_444 : (.code y_Mo_sumOf cd_Mo_sumOf 19 (some .long) : Cond) ∈ lw_g := lw_gm (lw_t2 (List.mem_of_getElem? (i := 166) (by first | rfl | decide +kernel))) (by first | rfl | decide +kernel)
theorem w_445 : (.constantLong R_Mo 162 (2147483648) : Cond) ∈ lw_g := lw_gm (lw_t3 (List.mem_of_getElem? (i := 19) (by first | rfl | decide +kernel))) (by first | rfl | decide +kernel)
theorem w_446 : (.methodLink R_Mo 136 y_Mo_adds : Cond) ∈ lw_g := lw_gm (lw_t2 (List.mem_of_getElem? (i := 239) (by first | rfl | decide +kernel))) (by first | rfl | decide +kernel)
theorem w_447 : (.instanceMethod y_Mo_adds : Cond) ∈ lw_g := lw_gm (lw_t3 (List.mem_of_getElem? (i := 1) (by first | rfl | decide +kernel))) (by first | rfl | decide +kernel)
theorem w_448 : (.selects R_Mo y_Mo_adds y_Mo_adds : Cond) ∈ lw_g := lw_gm (List.mem_append_left _ (List.mem_of_getElem? (i := 38) (by first | rfl | decide +kernel))) (by first | rfl | decide +kernel)
theorem w_449 : (.code y_Mo_adds cd_Mo_adds 4 (some .boolean) : Cond) ∈ lw_g := lw_gm (lw_t3 (List.mem_of_getElem? (i := 2) (by first | rfl | decide +kernel))) (by first | rfl | decide +kernel)
theorem w_450 : (.fieldLink R_Mo 182 "TokenFramesModel" "contentSize" "I" : Cond) ∈ lw_g := lw_gm (lw_t2 (List.mem_of_getElem? (i := 90) (by first | rfl | decide +kernel))) (by first | rfl | decide +kernel)
theorem w_451 : (.methodLink R_Mo 140 y_Mo_beginBack : Cond) ∈ lw_g := lw_gm (lw_t2 (List.mem_of_getElem? (i := 231) (by first | rfl | decide +kernel))) (by first | rfl | decide +kernel)
theorem w_452 : (.instanceMethod y_Mo_beginBack : Cond) ∈ lw_g := lw_gm (lw_t2 (List.mem_of_getElem? (i := 233) (by first | rfl | decide +kernel))) (by first | rfl | decide +kernel)
theorem w_453 : (.selects R_Mo y_Mo_beginBack y_Mo_beginBack : Cond) ∈ lw_g := lw_gm (List.mem_append_left _ (List.mem_of_getElem? (i := 36) (by first | rfl | decide +kernel))) (by first | rfl | decide +kernel)
theorem w_454 : (.code y_Mo_beginBack cd_Mo_beginBack 2 none : Cond) ∈ lw_g := lw_gm (lw_t2 (List.mem_of_getElem? (i := 234) (by first | rfl | decide +kernel))) (by first | rfl | decide +kernel)
theorem w_455 : (.methodLink R_Mo 143 y_Mo_readBlock : Cond) ∈ lw_g := lw_gm (lw_t2 (List.mem_of_getElem? (i := 235) (by first | rfl | decide +kernel))) (by first | rfl | decide +kernel)
theorem w_456 : (.instanceMethod y_Mo_readBlock : Cond) ∈ lw_g := lw_gm (lw_t2 (List.mem_of_getElem? (i := 237) (by first | rfl | decide +kernel))) (by first | rfl | decide +kernel)
theorem w_457 : (.selects R_Mo y_Mo_readBlock y_Mo_readBlock : Cond) ∈ lw_g := lw_gm (List.mem_append_left _ (List.mem_of_getElem? (i := 37) (by first | rfl | decide +kernel))) (by first | rfl | decide +kernel)
theorem w_458 : (.code y_Mo_readBlock cd_Mo_readBlock 9 (some .int) : Cond) ∈ lw_g := lw_gm (lw_t2 (List.mem_of_getElem? (i := 238) (by first | rfl | decide +kernel))) (by first | rfl | decide +kernel)
theorem w_459 : (.fieldLink R_Mo 31 "TokenFramesModel" "content" "[I" : Cond) ∈ lw_g := lw_gm (lw_t2 (List.mem_of_getElem? (i := 89) (by first | rfl | decide +kernel))) (by first | rfl | decide +kernel)
theorem w_460 : (.methodLink R_Mo 167 y_Mo_fault : Cond) ∈ lw_g := lw_gm (lw_t3 (List.mem_of_getElem? (i := 32) (by first | rfl | decide +kernel))) (by first | rfl | decide +kernel)
theorem w_461 : (.instanceMethod y_Mo_fault : Cond) ∈ lw_g := lw_gm (lw_t3 (List.mem_of_getElem? (i := 34) (by first | rfl | decide +kernel))) (by first | rfl | decide +kernel)
theorem w_462 : (.selects R_Mo y_Mo_fault y_Mo_fault : Cond) ∈ lw_g := lw_gm (List.mem_append_left _ (List.mem_of_getElem? (i := 43) (by first | rfl | decide +kernel))) (by first | rfl | decide +kernel)
theorem w_463 : (.code y_Mo_fault cd_Mo_fault 3 (some .int) : Cond) ∈ lw_g := lw_gm (lw_t3 (List.mem_of_getElem? (i := 35) (by first | rfl | decide +kernel))) (by first | rfl | decide +kernel)
theorem w_464 : (.methodLink R_Mo 164 y_Mo_has : Cond) ∈ lw_g := lw_gm (lw_t3 (List.mem_of_getElem? (i := 28) (by first | rfl | decide +kernel))) (by first | rfl | decide +kernel)
theorem w_465 : (.instanceMethod y_Mo_has : Cond) ∈ lw_g := lw_gm (lw_t3 (List.mem_of_getElem? (i := 30) (by first | rfl | decide +kernel))) (by first | rfl | decide +kernel)
theorem w_466 : (.selects R_Mo y_Mo_has y_Mo_has : Cond) ∈ lw_g := lw_gm (List.mem_append_left _ (List.mem_of_getElem? (i := 42) (by first | rfl | decide +kernel))) (by first | rfl | decide +kernel)
theorem w_467 : (.code y_Mo_has cd_Mo_has 2 (some .boolean) : Cond) ∈ lw_g := lw_gm (lw_t3 (List.mem_of_getElem? (i := 31) (by first | rfl | decide +kernel))) (by first | rfl | decide +kernel)
theorem w_468 : (.methodLink R_Mo 170 y_Mo_numberAt : Cond) ∈ lw_g := lw_gm (lw_t3 (List.mem_of_getElem? (i := 36) (by first | rfl | decide +kernel))) (by first | rfl | decide +kernel)
theorem w_469 : (.instanceMethod y_Mo_numberAt : Cond) ∈ lw_g := lw_gm (lw_t3 (List.mem_of_getElem? (i := 38) (by first | rfl | decide +kernel))) (by first | rfl | decide +kernel)
theorem w_470 : (.selects R_Mo y_Mo_numberAt y_Mo_numberAt : Cond) ∈ lw_g := lw_gm (List.mem_append_left _ (List.mem_of_getElem? (i := 44) (by first | rfl | decide +kernel))) (by first | rfl | decide +kernel)
theorem w_471 : (.code y_Mo_numberAt cd_Mo_numberAt 6 (some .long) : Cond) ∈ lw_g := lw_gm (lw_t3 (List.mem_of_getElem? (i := 39) (by first | rfl | decide +kernel))) (by first | rfl | decide +kernel)
theorem w_472 : (.methodLink R_Mo 185 y_Mo_readPart : Cond) ∈ lw_g := lw_gm (lw_t3 (List.mem_of_getElem? (i := 46) (by first | rfl | decide +kernel))) (by first | rfl | decide +kernel)
theorem w_473 : (.instanceMethod y_Mo_readPart : Cond) ∈ lw_g := lw_gm (lw_t3 (List.mem_of_getElem? (i := 48) (by first | rfl | decide +kernel))) (by first | rfl | decide +kernel)
theorem w_474 : (.selects R_Mo y_Mo_readPart y_Mo_readPart : Cond) ∈ lw_g := lw_gm (List.mem_append_left _ (List.mem_of_getElem? (i := 46) (by first | rfl | decide +kernel))) (by first | rfl | decide +kernel)
theorem w_475 : (.code y_Mo_readPart cd_Mo_readPart 17 (some .int) : Cond) ∈ lw_g := lw_gm (lw_t3 (List.mem_of_getElem? (i := 49) (by first | rfl | decide +kernel))) (by first | rfl | decide +kernel)
theorem w_476 : (.constantLong R_Mo 174 (407710288) : Cond) ∈ lw_g := lw_gm (lw_t3 (List.mem_of_getElem? (i := 40) (by first | rfl | decide +kernel))) (by first | rfl | decide +kernel)
theorem w_477 : (.methodLink R_Mo 178 y_Mo_readFrame : Cond) ∈ lw_g := lw_gm (lw_t3 (List.mem_of_getElem? (i := 42) (by first | rfl | decide +kernel))) (by first | rfl | decide +kernel)
theorem w_478 : (.instanceMethod y_Mo_readFrame : Cond) ∈ lw_g := lw_gm (lw_t3 (List.mem_of_getElem? (i := 44) (by first | rfl | decide +kernel))) (by first | rfl | decide +kernel)
theorem w_479 : (.selects R_Mo y_Mo_readFrame y_Mo_readFrame : Cond) ∈ lw_g := lw_gm (List.mem_append_left _ (List.mem_of_getElem? (i := 45) (by first | rfl | decide +kernel))) (by first | rfl | decide +kernel)
theorem w_480 : (.code y_Mo_readFrame cd_Mo_readFrame 11 (some .int) : Cond) ∈ lw_g := lw_gm (lw_t3 (List.mem_of_getElem? (i := 45) (by first | rfl | decide +kernel))) (by first | rfl | decide +kernel)
theorem w_481 : (.constantLong R_Mo 176 (407710303) : Cond) ∈ lw_g := lw_gm (lw_t3 (List.mem_of_getElem? (i := 41) (by first | rfl | decide +kernel))) (by first | rfl | decide +kernel)
theorem w_482 : (.methodLink R_Mo 189 y_Mo_readNext : Cond) ∈ lw_g := lw_gm (lw_t3 (List.mem_of_getElem? (i := 24) (by first | rfl | decide +kernel))) (by first | rfl | decide +kernel)
theorem w_483 : (.instanceMethod y_Mo_readNext : Cond) ∈ lw_g := lw_gm (lw_t3 (List.mem_of_getElem? (i := 26) (by first | rfl | decide +kernel))) (by first | rfl | decide +kernel)
theorem w_484 : (.selects R_Mo y_Mo_readNext y_Mo_readNext : Cond) ∈ lw_g := lw_gm (List.mem_append_left _ (List.mem_of_getElem? (i := 41) (by first | rfl | decide +kernel))) (by first | rfl | decide +kernel)
theorem w_485 : (.code y_Mo_readNext cd_Mo_readNext 6 (some .int) : Cond) ∈ lw_g := lw_gm (lw_t3 (List.mem_of_getElem? (i := 27) (by first | rfl | decide +kernel))) (by first | rfl | decide +kernel)
theorem w_486 : (.methodLink R_Row 1 objectInit : Cond) ∈ lw_g := lw_gm (lw_t0 (List.mem_of_getElem? (i := 26) (by first | rfl | decide +kernel))) (by first | rfl | decide +kernel)
theorem w_487 : (.instanceMethod objectInit : Cond) ∈ lw_g := lw_gm (lw_t0 (List.mem_of_getElem? (i := 19) (by first | rfl | decide +kernel))) (by first | rfl | decide +kernel)
theorem w_488 : (.code objectInit ⟨#[0xb1]⟩ 1 none : Cond) ∈ lw_g := lw_gm (lw_t0 (List.mem_of_getElem? (i := 20) (by first | rfl | decide +kernel))) (by first | rfl | decide +kernel)
theorem w_489 : (.arrayClass .byte : Cond) ∈ lw_g := lw_gm (lw_t0 (List.mem_of_getElem? (i := 37) (by first | rfl | decide +kernel))) (by first | rfl | decide +kernel)
theorem w_490 : (.methodLink R_Mat 3 objectInit : Cond) ∈ lw_g := lw_gm (lw_t0 (List.mem_of_getElem? (i := 49) (by first | rfl | decide +kernel))) (by first | rfl | decide +kernel)
theorem w_491 : (.classLink R_Mat 9 R_Row : Cond) ∈ lw_g := lw_gm (lw_t0 (List.mem_of_getElem? (i := 50) (by first | rfl | decide +kernel))) (by first | rfl | decide +kernel)
theorem w_492 : (.instantiable R_Row 2 : Cond) ∈ lw_g := lw_gm (lw_t0 (List.mem_of_getElem? (i := 22) (by first | rfl | decide +kernel))) (by first | rfl | decide +kernel)
theorem w_493 : (.code y_Row_init cd_Row_init 2 none : Cond) ∈ lw_g := lw_gm (lw_t0 (List.mem_of_getElem? (i := 25) (by first | rfl | decide +kernel))) (by first | rfl | decide +kernel)
theorem w_494 : (.methodLink R_Mat 11 y_Row_init : Cond) ∈ lw_g := lw_gm (lw_t0 (List.mem_of_getElem? (i := 51) (by first | rfl | decide +kernel))) (by first | rfl | decide +kernel)
theorem w_495 : (.instanceMethod y_Row_init : Cond) ∈ lw_g := lw_gm (lw_t0 (List.mem_of_getElem? (i := 24) (by first | rfl | decide +kernel))) (by first | rfl | decide +kernel)
theorem w_496 : (.arrayClass .int : Cond) ∈ lw_g := lw_gm (lw_t0 (List.mem_of_getElem? (i := 71) (by first | rfl | decide +kernel))) (by first | rfl | decide +kernel)
theorem w_497 : (.methodLink R_BW 3 objectInit : Cond) ∈ lw_g := lw_gm (lw_t0 (List.mem_of_getElem? (i := 43) (by first | rfl | decide +kernel))) (by first | rfl | decide +kernel)
theorem w_498 : (.classLink R_BW 15 R_Mat : Cond) ∈ lw_g := lw_gm (lw_t0 (List.mem_of_getElem? (i := 44) (by first | rfl | decide +kernel))) (by first | rfl | decide +kernel)
theorem w_499 : (.instantiable R_Mat 6 : Cond) ∈ lw_g := lw_gm (lw_t0 (List.mem_of_getElem? (i := 45) (by first | rfl | decide +kernel))) (by first | rfl | decide +kernel)
theorem w_500 : (.code y_Mat_init cd_Mat_init 1 none : Cond) ∈ lw_g := lw_gm (lw_t0 (List.mem_of_getElem? (i := 48) (by first | rfl | decide +kernel))) (by first | rfl | decide +kernel)
theorem w_501 : (.methodLink R_BW 17 y_Mat_init : Cond) ∈ lw_g := lw_gm (lw_t0 (List.mem_of_getElem? (i := 46) (by first | rfl | decide +kernel))) (by first | rfl | decide +kernel)
theorem w_502 : (.instanceMethod y_Mat_init : Cond) ∈ lw_g := lw_gm (lw_t0 (List.mem_of_getElem? (i := 47) (by first | rfl | decide +kernel))) (by first | rfl | decide +kernel)
theorem w_503 : (.methodLink R_BW 22 y_Mat_data : Cond) ∈ lw_g := lw_gm (lw_t0 (List.mem_of_getElem? (i := 72) (by first | rfl | decide +kernel))) (by first | rfl | decide +kernel)
theorem w_504 : (.instanceMethod y_Mat_data : Cond) ∈ lw_g := lw_gm (lw_t0 (List.mem_of_getElem? (i := 73) (by first | rfl | decide +kernel))) (by first | rfl | decide +kernel)
theorem w_505 : (.selects R_Mat y_Mat_data y_Mat_data : Cond) ∈ lw_g := lw_gm (lw_t0 (List.mem_of_getElem? (i := 74) (by first | rfl | decide +kernel))) (by first | rfl | decide +kernel)
theorem w_506 : (.code y_Mat_data cd_Mat_data 1 (some (.object "TokenFrames$Row")) : Cond) ∈ lw_g := lw_gm (lw_t0 (List.mem_of_getElem? (i := 75) (by first | rfl | decide +kernel))) (by first | rfl | decide +kernel)
theorem w_507 : (.methodLink R_FW 3 objectInit : Cond) ∈ lw_g := lw_gm (lw_t0 (List.mem_of_getElem? (i := 91) (by first | rfl | decide +kernel))) (by first | rfl | decide +kernel)
theorem w_508 : (.classLink R_FW 22 R_Row : Cond) ∈ lw_g := lw_gm (lw_t0 (List.mem_of_getElem? (i := 92) (by first | rfl | decide +kernel))) (by first | rfl | decide +kernel)
theorem w_509 : (.methodLink R_FW 24 y_Row_init : Cond) ∈ lw_g := lw_gm (lw_t0 (List.mem_of_getElem? (i := 93) (by first | rfl | decide +kernel))) (by first | rfl | decide +kernel)
theorem w_510 : (.methodLink R_BR 3 objectInit : Cond) ∈ lw_g := lw_gm (lw_t0 (List.mem_of_getElem? (i := 112) (by first | rfl | decide +kernel))) (by first | rfl | decide +kernel)
theorem w_511 : (.methodLink R_FR 3 objectInit : Cond) ∈ lw_g := lw_gm (lw_t0 (List.mem_of_getElem? (i := 146) (by first | rfl | decide +kernel))) (by first | rfl | decide +kernel)
theorem w_512 : (.methodLink R_T 3 objectInit : Cond) ∈ lw_g := lw_gm (lw_t0 (List.mem_of_getElem? (i := 18) (by first | rfl | decide +kernel))) (by first | rfl | decide +kernel)
theorem w_513 : (.classLink R_T 9 R_Row : Cond) ∈ lw_g := lw_gm (lw_t0 (List.mem_of_getElem? (i := 21) (by first | rfl | decide +kernel))) (by first | rfl | decide +kernel)
theorem w_514 : (.methodLink R_T 11 y_Row_init : Cond) ∈ lw_g := lw_gm (lw_t0 (List.mem_of_getElem? (i := 23) (by first | rfl | decide +kernel))) (by first | rfl | decide +kernel)
theorem w_515 : (.classLink R_T 27 R_BW : Cond) ∈ lw_g := lw_gm (lw_t0 (List.mem_of_getElem? (i := 38) (by first | rfl | decide +kernel))) (by first | rfl | decide +kernel)
theorem w_516 : (.instantiable R_BW 3 : Cond) ∈ lw_g := lw_gm (lw_t0 (List.mem_of_getElem? (i := 39) (by first | rfl | decide +kernel))) (by first | rfl | decide +kernel)
theorem w_517 : (.code y_BW_init cd_BW_init 2 none : Cond) ∈ lw_g := lw_gm (lw_t0 (List.mem_of_getElem? (i := 42) (by first | rfl | decide +kernel))) (by first | rfl | decide +kernel)
theorem w_518 : (.methodLink R_T 29 y_BW_init : Cond) ∈ lw_g := lw_gm (lw_t0 (List.mem_of_getElem? (i := 40) (by first | rfl | decide +kernel))) (by first | rfl | decide +kernel)
theorem w_519 : (.instanceMethod y_BW_init : Cond) ∈ lw_g := lw_gm (lw_t0 (List.mem_of_getElem? (i := 41) (by first | rfl | decide +kernel))) (by first | rfl | decide +kernel)
theorem w_520 : (.classLink R_T 36 R_FW : Cond) ∈ lw_g := lw_gm (lw_t0 (List.mem_of_getElem? (i := 86) (by first | rfl | decide +kernel))) (by first | rfl | decide +kernel)
theorem w_521 : (.instantiable R_FW 4 : Cond) ∈ lw_g := lw_gm (lw_t0 (List.mem_of_getElem? (i := 87) (by first | rfl | decide +kernel))) (by first | rfl | decide +kernel)
theorem w_522 : (.code y_FW_init cd_FW_init 4 none : Cond) ∈ lw_g := lw_gm (lw_t0 (List.mem_of_getElem? (i := 90) (by first | rfl | decide +kernel))) (by first | rfl | decide +kernel)
theorem w_523 : (.methodLink R_T 38 y_FW_init : Cond) ∈ lw_g := lw_gm (lw_t0 (List.mem_of_getElem? (i := 88) (by first | rfl | decide +kernel))) (by first | rfl | decide +kernel)
theorem w_524 : (.instanceMethod y_FW_init : Cond) ∈ lw_g := lw_gm (lw_t0 (List.mem_of_getElem? (i := 89) (by first | rfl | decide +kernel))) (by first | rfl | decide +kernel)
theorem w_525 : (.classLink R_T 45 R_BR : Cond) ∈ lw_g := lw_gm (lw_t0 (List.mem_of_getElem? (i := 107) (by first | rfl | decide +kernel))) (by first | rfl | decide +kernel)
theorem w_526 : (.instantiable R_BR 9 : Cond) ∈ lw_g := lw_gm (lw_t0 (List.mem_of_getElem? (i := 108) (by first | rfl | decide +kernel))) (by first | rfl | decide +kernel)
theorem w_527 : (.code y_BR_init cd_BR_init 4 none : Cond) ∈ lw_g := lw_gm (lw_t0 (List.mem_of_getElem? (i := 111) (by first | rfl | decide +kernel))) (by first | rfl | decide +kernel)
theorem w_528 : (.methodLink R_T 47 y_BR_init : Cond) ∈ lw_g := lw_gm (lw_t0 (List.mem_of_getElem? (i := 109) (by first | rfl | decide +kernel))) (by first | rfl | decide +kernel)
theorem w_529 : (.instanceMethod y_BR_init : Cond) ∈ lw_g := lw_gm (lw_t0 (List.mem_of_getElem? (i := 110) (by first | rfl | decide +kernel))) (by first | rfl | decide +kernel)
theorem w_530 : (.classLink R_T 54 R_FR : Cond) ∈ lw_g := lw_gm (lw_t0 (List.mem_of_getElem? (i := 141) (by first | rfl | decide +kernel))) (by first | rfl | decide +kernel)
theorem w_531 : (.instantiable R_FR 10 : Cond) ∈ lw_g := lw_gm (lw_t0 (List.mem_of_getElem? (i := 142) (by first | rfl | decide +kernel))) (by first | rfl | decide +kernel)
theorem w_532 : (.code y_FR_init cd_FR_init 4 none : Cond) ∈ lw_g := lw_gm (lw_t0 (List.mem_of_getElem? (i := 145) (by first | rfl | decide +kernel))) (by first | rfl | decide +kernel)
theorem w_533 : (.methodLink R_T 56 y_FR_init : Cond) ∈ lw_g := lw_gm (lw_t0 (List.mem_of_getElem? (i := 143) (by first | rfl | decide +kernel))) (by first | rfl | decide +kernel)
theorem w_534 : (.instanceMethod y_FR_init : Cond) ∈ lw_g := lw_gm (lw_t0 (List.mem_of_getElem? (i := 144) (by first | rfl | decide +kernel))) (by first | rfl | decide +kernel)
theorem w_535 : (.methodLink R_Mo 1 objectInit : Cond) ∈ lw_g := lw_gm (lw_t2 (List.mem_of_getElem? (i := 72) (by first | rfl | decide +kernel))) (by first | rfl | decide +kernel)
theorem w_536 : (.arrayClass .long : Cond) ∈ lw_g := lw_gm (lw_t2 (List.mem_of_getElem? (i := 137) (by first | rfl | decide +kernel))) (by first | rfl | decide +kernel)
theorem hd_Row_count : y_Row_count.cls ≠ "java/lang/invoke/MethodHandle" ∧ y_Row_count.cls ≠ "java/lang/invoke/VarHandle" ∧ (parseMethodDescriptor y_Row_count.desc).map (fun d => d.parameters.length) = some 0 := by decide +kernel
theorem hd_Row_hasRoomFor : y_Row_hasRoomFor.cls ≠ "java/lang/invoke/MethodHandle" ∧ y_Row_hasRoomFor.cls ≠ "java/lang/invoke/VarHandle" ∧ (parseMethodDescriptor y_Row_hasRoomFor.desc).map (fun d => d.parameters.length) = some 1 := by decide +kernel
theorem hd_Row_addFrom : y_Row_addFrom.cls ≠ "java/lang/invoke/MethodHandle" ∧ y_Row_addFrom.cls ≠ "java/lang/invoke/VarHandle" ∧ (parseMethodDescriptor y_Row_addFrom.desc).map (fun d => d.parameters.length) = some 3 := by decide +kernel
theorem hd_Row_cutTo : y_Row_cutTo.cls ≠ "java/lang/invoke/MethodHandle" ∧ y_Row_cutTo.cls ≠ "java/lang/invoke/VarHandle" ∧ (parseMethodDescriptor y_Row_cutTo.desc).map (fun d => d.parameters.length) = some 1 := by decide +kernel
theorem hd_Row_become : y_Row_become.cls ≠ "java/lang/invoke/MethodHandle" ∧ y_Row_become.cls ≠ "java/lang/invoke/VarHandle" ∧ (parseMethodDescriptor y_Row_become.desc).map (fun d => d.parameters.length) = some 1 := by decide +kernel
theorem hd_Row_add : y_Row_add.cls ≠ "java/lang/invoke/MethodHandle" ∧ y_Row_add.cls ≠ "java/lang/invoke/VarHandle" ∧ (parseMethodDescriptor y_Row_add.desc).map (fun d => d.parameters.length) = some 1 := by decide +kernel
theorem hd_BW_addGrowth : y_BW_addGrowth.cls ≠ "java/lang/invoke/MethodHandle" ∧ y_BW_addGrowth.cls ≠ "java/lang/invoke/VarHandle" ∧ (parseMethodDescriptor y_BW_addGrowth.desc).map (fun d => d.parameters.length) = some 2 := by decide +kernel
theorem hd_Row_word : y_Row_word.cls ≠ "java/lang/invoke/MethodHandle" ∧ y_Row_word.cls ≠ "java/lang/invoke/VarHandle" ∧ (parseMethodDescriptor y_Row_word.desc).map (fun d => d.parameters.length) = some 1 := by decide +kernel
theorem hd_Mat_slot : y_Mat_slot.cls ≠ "java/lang/invoke/MethodHandle" ∧ y_Mat_slot.cls ≠ "java/lang/invoke/VarHandle" ∧ (parseMethodDescriptor y_Mat_slot.desc).map (fun d => d.parameters.length) = some 1 := by decide +kernel
theorem hd_Mat_enough : y_Mat_enough.cls ≠ "java/lang/invoke/MethodHandle" ∧ y_Mat_enough.cls ≠ "java/lang/invoke/VarHandle" ∧ (parseMethodDescriptor y_Mat_enough.desc).map (fun d => d.parameters.length) = some 2 := by decide +kernel
theorem hd_Row_get : y_Row_get.cls ≠ "java/lang/invoke/MethodHandle" ∧ y_Row_get.cls ≠ "java/lang/invoke/VarHandle" ∧ (parseMethodDescriptor y_Row_get.desc).map (fun d => d.parameters.length) = some 1 := by decide +kernel
theorem hd_Row_same : y_Row_same.cls ≠ "java/lang/invoke/MethodHandle" ∧ y_Row_same.cls ≠ "java/lang/invoke/VarHandle" ∧ (parseMethodDescriptor y_Row_same.desc).map (fun d => d.parameters.length) = some 3 := by decide +kernel
theorem hd_Mat_hold : y_Mat_hold.cls ≠ "java/lang/invoke/MethodHandle" ∧ y_Mat_hold.cls ≠ "java/lang/invoke/VarHandle" ∧ (parseMethodDescriptor y_Mat_hold.desc).map (fun d => d.parameters.length) = some 4 := by decide +kernel
theorem hd_Mat_chainBelow : y_Mat_chainBelow.cls ≠ "java/lang/invoke/MethodHandle" ∧ y_Mat_chainBelow.cls ≠ "java/lang/invoke/VarHandle" ∧ (parseMethodDescriptor y_Mat_chainBelow.desc).map (fun d => d.parameters.length) = some 1 := by decide +kernel
theorem hd_Mat_find : y_Mat_find.cls ≠ "java/lang/invoke/MethodHandle" ∧ y_Mat_find.cls ≠ "java/lang/invoke/VarHandle" ∧ (parseMethodDescriptor y_Mat_find.desc).map (fun d => d.parameters.length) = some 3 := by decide +kernel
theorem hd_BW_addLiterals : y_BW_addLiterals.cls ≠ "java/lang/invoke/MethodHandle" ∧ y_BW_addLiterals.cls ≠ "java/lang/invoke/VarHandle" ∧ (parseMethodDescriptor y_BW_addLiterals.desc).map (fun d => d.parameters.length) = some 4 := by decide +kernel
theorem hd_Mat_look : y_Mat_look.cls ≠ "java/lang/invoke/MethodHandle" ∧ y_Mat_look.cls ≠ "java/lang/invoke/VarHandle" ∧ (parseMethodDescriptor y_Mat_look.desc).map (fun d => d.parameters.length) = some 4 := by decide +kernel
theorem hd_Mat_source : y_Mat_source.cls ≠ "java/lang/invoke/MethodHandle" ∧ y_Mat_source.cls ≠ "java/lang/invoke/VarHandle" ∧ (parseMethodDescriptor y_Mat_source.desc).map (fun d => d.parameters.length) = some 0 := by decide +kernel
theorem hd_BW_addCopy : y_BW_addCopy.cls ≠ "java/lang/invoke/MethodHandle" ∧ y_BW_addCopy.cls ≠ "java/lang/invoke/VarHandle" ∧ (parseMethodDescriptor y_BW_addCopy.desc).map (fun d => d.parameters.length) = some 3 := by decide +kernel
theorem hd_Arr_fill : y_Arr_fill.cls ≠ "java/lang/invoke/MethodHandle" ∧ y_Arr_fill.cls ≠ "java/lang/invoke/VarHandle" ∧ (parseMethodDescriptor y_Arr_fill.desc).map (fun d => d.parameters.length) = some 2 := by decide +kernel
theorem hd_Mat_startOver : y_Mat_startOver.cls ≠ "java/lang/invoke/MethodHandle" ∧ y_Mat_startOver.cls ≠ "java/lang/invoke/VarHandle" ∧ (parseMethodDescriptor y_Mat_startOver.desc).map (fun d => d.parameters.length) = some 1 := by decide +kernel
theorem hd_T_isWay : y_T_isWay.cls ≠ "java/lang/invoke/MethodHandle" ∧ y_T_isWay.cls ≠ "java/lang/invoke/VarHandle" ∧ (parseMethodDescriptor y_T_isWay.desc).map (fun d => d.parameters.length) = some 1 := by decide +kernel
theorem hd_BW_startOver : y_BW_startOver.cls ≠ "java/lang/invoke/MethodHandle" ∧ y_BW_startOver.cls ≠ "java/lang/invoke/VarHandle" ∧ (parseMethodDescriptor y_BW_startOver.desc).map (fun d => d.parameters.length) = some 0 := by decide +kernel
theorem hd_BW_pack : y_BW_pack.cls ≠ "java/lang/invoke/MethodHandle" ∧ y_BW_pack.cls ≠ "java/lang/invoke/VarHandle" ∧ (parseMethodDescriptor y_BW_pack.desc).map (fun d => d.parameters.length) = some 5 := by decide +kernel
theorem hd_T_keepDraft : y_T_keepDraft.cls ≠ "java/lang/invoke/MethodHandle" ∧ y_T_keepDraft.cls ≠ "java/lang/invoke/VarHandle" ∧ (parseMethodDescriptor y_T_keepDraft.desc).map (fun d => d.parameters.length) = some 0 := by decide +kernel
theorem hd_Sum_rotated : y_Sum_rotated.cls ≠ "java/lang/invoke/MethodHandle" ∧ y_Sum_rotated.cls ≠ "java/lang/invoke/VarHandle" ∧ (parseMethodDescriptor y_Sum_rotated.desc).map (fun d => d.parameters.length) = some 2 := by decide +kernel
theorem hd_Sum_lane : y_Sum_lane.cls ≠ "java/lang/invoke/MethodHandle" ∧ y_Sum_lane.cls ≠ "java/lang/invoke/VarHandle" ∧ (parseMethodDescriptor y_Sum_lane.desc).map (fun d => d.parameters.length) = some 2 := by decide +kernel
theorem hd_Sum_ofLanes : y_Sum_ofLanes.cls ≠ "java/lang/invoke/MethodHandle" ∧ y_Sum_ofLanes.cls ≠ "java/lang/invoke/VarHandle" ∧ (parseMethodDescriptor y_Sum_ofLanes.desc).map (fun d => d.parameters.length) = some 3 := by decide +kernel
theorem hd_Row_addWord : y_Row_addWord.cls ≠ "java/lang/invoke/MethodHandle" ∧ y_Row_addWord.cls ≠ "java/lang/invoke/VarHandle" ∧ (parseMethodDescriptor y_Row_addWord.desc).map (fun d => d.parameters.length) = some 1 := by decide +kernel
theorem hd_Sum_of : y_Sum_of.cls ≠ "java/lang/invoke/MethodHandle" ∧ y_Sum_of.cls ≠ "java/lang/invoke/VarHandle" ∧ (parseMethodDescriptor y_Sum_of.desc).map (fun d => d.parameters.length) = some 3 := by decide +kernel
theorem hd_Mat_cutTo : y_Mat_cutTo.cls ≠ "java/lang/invoke/MethodHandle" ∧ y_Mat_cutTo.cls ≠ "java/lang/invoke/VarHandle" ∧ (parseMethodDescriptor y_Mat_cutTo.desc).map (fun d => d.parameters.length) = some 1 := by decide +kernel
theorem hd_BW_dropContent : y_BW_dropContent.cls ≠ "java/lang/invoke/MethodHandle" ∧ y_BW_dropContent.cls ≠ "java/lang/invoke/VarHandle" ∧ (parseMethodDescriptor y_BW_dropContent.desc).map (fun d => d.parameters.length) = some 0 := by decide +kernel
theorem hd_FW_addHead : y_FW_addHead.cls ≠ "java/lang/invoke/MethodHandle" ∧ y_FW_addHead.cls ≠ "java/lang/invoke/VarHandle" ∧ (parseMethodDescriptor y_FW_addHead.desc).map (fun d => d.parameters.length) = some 3 := by decide +kernel
theorem hd_FW_addTail : y_FW_addTail.cls ≠ "java/lang/invoke/MethodHandle" ∧ y_FW_addTail.cls ≠ "java/lang/invoke/VarHandle" ∧ (parseMethodDescriptor y_FW_addTail.desc).map (fun d => d.parameters.length) = some 1 := by decide +kernel
theorem hd_FW_addRow : y_FW_addRow.cls ≠ "java/lang/invoke/MethodHandle" ∧ y_FW_addRow.cls ≠ "java/lang/invoke/VarHandle" ∧ (parseMethodDescriptor y_FW_addRow.desc).map (fun d => d.parameters.length) = some 4 := by decide +kernel
theorem hd_T_areFlags : y_T_areFlags.cls ≠ "java/lang/invoke/MethodHandle" ∧ y_T_areFlags.cls ≠ "java/lang/invoke/VarHandle" ∧ (parseMethodDescriptor y_T_areFlags.desc).map (fun d => d.parameters.length) = some 1 := by decide +kernel
theorem hd_T_isK : y_T_isK.cls ≠ "java/lang/invoke/MethodHandle" ∧ y_T_isK.cls ≠ "java/lang/invoke/VarHandle" ∧ (parseMethodDescriptor y_T_isK.desc).map (fun d => d.parameters.length) = some 1 := by decide +kernel
theorem hd_FW_writeFrame : y_FW_writeFrame.cls ≠ "java/lang/invoke/MethodHandle" ∧ y_FW_writeFrame.cls ≠ "java/lang/invoke/VarHandle" ∧ (parseMethodDescriptor y_FW_writeFrame.desc).map (fun d => d.parameters.length) = some 5 := by decide +kernel
theorem hd_BR_fault : y_BR_fault.cls ≠ "java/lang/invoke/MethodHandle" ∧ y_BR_fault.cls ≠ "java/lang/invoke/VarHandle" ∧ (parseMethodDescriptor y_BR_fault.desc).map (fun d => d.parameters.length) = some 2 := by decide +kernel
theorem hd_Row_pair : y_Row_pair.cls ≠ "java/lang/invoke/MethodHandle" ∧ y_Row_pair.cls ≠ "java/lang/invoke/VarHandle" ∧ (parseMethodDescriptor y_Row_pair.desc).map (fun d => d.parameters.length) = some 1 := by decide +kernel
theorem hd_BR_grown : y_BR_grown.cls ≠ "java/lang/invoke/MethodHandle" ∧ y_BR_grown.cls ≠ "java/lang/invoke/VarHandle" ∧ (parseMethodDescriptor y_BR_grown.desc).map (fun d => d.parameters.length) = some 1 := by decide +kernel
theorem hd_BR_takeLiterals : y_BR_takeLiterals.cls ≠ "java/lang/invoke/MethodHandle" ∧ y_BR_takeLiterals.cls ≠ "java/lang/invoke/VarHandle" ∧ (parseMethodDescriptor y_BR_takeLiterals.desc).map (fun d => d.parameters.length) = some 1 := by decide +kernel
theorem hd_BR_takeDistance : y_BR_takeDistance.cls ≠ "java/lang/invoke/MethodHandle" ∧ y_BR_takeDistance.cls ≠ "java/lang/invoke/VarHandle" ∧ (parseMethodDescriptor y_BR_takeDistance.desc).map (fun d => d.parameters.length) = some 0 := by decide +kernel
theorem hd_BR_takeCopy : y_BR_takeCopy.cls ≠ "java/lang/invoke/MethodHandle" ∧ y_BR_takeCopy.cls ≠ "java/lang/invoke/VarHandle" ∧ (parseMethodDescriptor y_BR_takeCopy.desc).map (fun d => d.parameters.length) = some 2 := by decide +kernel
theorem hd_T_isMost : y_T_isMost.cls ≠ "java/lang/invoke/MethodHandle" ∧ y_T_isMost.cls ≠ "java/lang/invoke/VarHandle" ∧ (parseMethodDescriptor y_T_isMost.desc).map (fun d => d.parameters.length) = some 1 := by decide +kernel
theorem hd_BR_read : y_BR_read.cls ≠ "java/lang/invoke/MethodHandle" ∧ y_BR_read.cls ≠ "java/lang/invoke/VarHandle" ∧ (parseMethodDescriptor y_BR_read.desc).map (fun d => d.parameters.length) = some 4 := by decide +kernel
theorem hd_BR_where : y_BR_where.cls ≠ "java/lang/invoke/MethodHandle" ∧ y_BR_where.cls ≠ "java/lang/invoke/VarHandle" ∧ (parseMethodDescriptor y_BR_where.desc).map (fun d => d.parameters.length) = some 0 := by decide +kernel
theorem hd_FR_fault : y_FR_fault.cls ≠ "java/lang/invoke/MethodHandle" ∧ y_FR_fault.cls ≠ "java/lang/invoke/VarHandle" ∧ (parseMethodDescriptor y_FR_fault.desc).map (fun d => d.parameters.length) = some 2 := by decide +kernel
theorem hd_FR_left : y_FR_left.cls ≠ "java/lang/invoke/MethodHandle" ∧ y_FR_left.cls ≠ "java/lang/invoke/VarHandle" ∧ (parseMethodDescriptor y_FR_left.desc).map (fun d => d.parameters.length) = some 0 := by decide +kernel
theorem hd_FR_cut : y_FR_cut.cls ≠ "java/lang/invoke/MethodHandle" ∧ y_FR_cut.cls ≠ "java/lang/invoke/VarHandle" ∧ (parseMethodDescriptor y_FR_cut.desc).map (fun d => d.parameters.length) = some 0 := by decide +kernel
theorem hd_FR_has : y_FR_has.cls ≠ "java/lang/invoke/MethodHandle" ∧ y_FR_has.cls ≠ "java/lang/invoke/VarHandle" ∧ (parseMethodDescriptor y_FR_has.desc).map (fun d => d.parameters.length) = some 1 := by decide +kernel
theorem hd_FR_takeBytes : y_FR_takeBytes.cls ≠ "java/lang/invoke/MethodHandle" ∧ y_FR_takeBytes.cls ≠ "java/lang/invoke/VarHandle" ∧ (parseMethodDescriptor y_FR_takeBytes.desc).map (fun d => d.parameters.length) = some 2 := by decide +kernel
theorem hd_FR_sizeIs : y_FR_sizeIs.cls ≠ "java/lang/invoke/MethodHandle" ∧ y_FR_sizeIs.cls ≠ "java/lang/invoke/VarHandle" ∧ (parseMethodDescriptor y_FR_sizeIs.desc).map (fun d => d.parameters.length) = some 1 := by decide +kernel
theorem hd_FR_readFlags : y_FR_readFlags.cls ≠ "java/lang/invoke/MethodHandle" ∧ y_FR_readFlags.cls ≠ "java/lang/invoke/VarHandle" ∧ (parseMethodDescriptor y_FR_readFlags.desc).map (fun d => d.parameters.length) = some 0 := by decide +kernel
theorem hd_FR_readHead : y_FR_readHead.cls ≠ "java/lang/invoke/MethodHandle" ∧ y_FR_readHead.cls ≠ "java/lang/invoke/VarHandle" ∧ (parseMethodDescriptor y_FR_readHead.desc).map (fun d => d.parameters.length) = some 1 := by decide +kernel
theorem hd_FR_readBlock : y_FR_readBlock.cls ≠ "java/lang/invoke/MethodHandle" ∧ y_FR_readBlock.cls ≠ "java/lang/invoke/VarHandle" ∧ (parseMethodDescriptor y_FR_readBlock.desc).map (fun d => d.parameters.length) = some 1 := by decide +kernel
theorem hd_FR_readTail : y_FR_readTail.cls ≠ "java/lang/invoke/MethodHandle" ∧ y_FR_readTail.cls ≠ "java/lang/invoke/VarHandle" ∧ (parseMethodDescriptor y_FR_readTail.desc).map (fun d => d.parameters.length) = some 0 := by decide +kernel
theorem hd_FR_passSpare : y_FR_passSpare.cls ≠ "java/lang/invoke/MethodHandle" ∧ y_FR_passSpare.cls ≠ "java/lang/invoke/VarHandle" ∧ (parseMethodDescriptor y_FR_passSpare.desc).map (fun d => d.parameters.length) = some 0 := by decide +kernel
theorem hd_FR_readFrame : y_FR_readFrame.cls ≠ "java/lang/invoke/MethodHandle" ∧ y_FR_readFrame.cls ≠ "java/lang/invoke/VarHandle" ∧ (parseMethodDescriptor y_FR_readFrame.desc).map (fun d => d.parameters.length) = some 0 := by decide +kernel
theorem hd_FR_readFrames : y_FR_readFrames.cls ≠ "java/lang/invoke/MethodHandle" ∧ y_FR_readFrames.cls ≠ "java/lang/invoke/VarHandle" ∧ (parseMethodDescriptor y_FR_readFrames.desc).map (fun d => d.parameters.length) = some 1 := by decide +kernel
theorem hd_FR_where : y_FR_where.cls ≠ "java/lang/invoke/MethodHandle" ∧ y_FR_where.cls ≠ "java/lang/invoke/VarHandle" ∧ (parseMethodDescriptor y_FR_where.desc).map (fun d => d.parameters.length) = some 0 := by decide +kernel
theorem hd_Mo_say : y_Mo_say.cls ≠ "java/lang/invoke/MethodHandle" ∧ y_Mo_say.cls ≠ "java/lang/invoke/VarHandle" ∧ (parseMethodDescriptor y_Mo_say.desc).map (fun d => d.parameters.length) = some 1 := by decide +kernel
theorem hd_Mo_added : y_Mo_added.cls ≠ "java/lang/invoke/MethodHandle" ∧ y_Mo_added.cls ≠ "java/lang/invoke/VarHandle" ∧ (parseMethodDescriptor y_Mo_added.desc).map (fun d => d.parameters.length) = some 1 := by decide +kernel
theorem hd_Mo_alike : y_Mo_alike.cls ≠ "java/lang/invoke/MethodHandle" ∧ y_Mo_alike.cls ≠ "java/lang/invoke/VarHandle" ∧ (parseMethodDescriptor y_Mo_alike.desc).map (fun d => d.parameters.length) = some 3 := by decide +kernel
theorem hd_Mo_match : y_Mo_match.cls ≠ "java/lang/invoke/MethodHandle" ∧ y_Mo_match.cls ≠ "java/lang/invoke/VarHandle" ∧ (parseMethodDescriptor y_Mo_match.desc).map (fun d => d.parameters.length) = some 2 := by decide +kernel
theorem hd_Mo_sequence : y_Mo_sequence.cls ≠ "java/lang/invoke/MethodHandle" ∧ y_Mo_sequence.cls ≠ "java/lang/invoke/VarHandle" ∧ (parseMethodDescriptor y_Mo_sequence.desc).map (fun d => d.parameters.length) = some 4 := by decide +kernel
theorem hd_Mo_taken : y_Mo_taken.cls ≠ "java/lang/invoke/MethodHandle" ∧ y_Mo_taken.cls ≠ "java/lang/invoke/VarHandle" ∧ (parseMethodDescriptor y_Mo_taken.desc).map (fun d => d.parameters.length) = some 2 := by decide +kernel
theorem hd_Mo_begin : y_Mo_begin.cls ≠ "java/lang/invoke/MethodHandle" ∧ y_Mo_begin.cls ≠ "java/lang/invoke/VarHandle" ∧ (parseMethodDescriptor y_Mo_begin.desc).map (fun d => d.parameters.length) = some 0 := by decide +kernel
theorem hd_Mo_append : y_Mo_append.cls ≠ "java/lang/invoke/MethodHandle" ∧ y_Mo_append.cls ≠ "java/lang/invoke/VarHandle" ∧ (parseMethodDescriptor y_Mo_append.desc).map (fun d => d.parameters.length) = some 2 := by decide +kernel
theorem hd_Mo_writeBlock : y_Mo_writeBlock.cls ≠ "java/lang/invoke/MethodHandle" ∧ y_Mo_writeBlock.cls ≠ "java/lang/invoke/VarHandle" ∧ (parseMethodDescriptor y_Mo_writeBlock.desc).map (fun d => d.parameters.length) = some 2 := by decide +kernel
theorem hd_Mo_show : y_Mo_show.cls ≠ "java/lang/invoke/MethodHandle" ∧ y_Mo_show.cls ≠ "java/lang/invoke/VarHandle" ∧ (parseMethodDescriptor y_Mo_show.desc).map (fun d => d.parameters.length) = some 2 := by decide +kernel
theorem hd_Mo_make : y_Mo_make.cls ≠ "java/lang/invoke/MethodHandle" ∧ y_Mo_make.cls ≠ "java/lang/invoke/VarHandle" ∧ (parseMethodDescriptor y_Mo_make.desc).map (fun d => d.parameters.length) = some 1 := by decide +kernel
theorem hd_Mo_times : y_Mo_times.cls ≠ "java/lang/invoke/MethodHandle" ∧ y_Mo_times.cls ≠ "java/lang/invoke/VarHandle" ∧ (parseMethodDescriptor y_Mo_times.desc).map (fun d => d.parameters.length) = some 2 := by decide +kernel
theorem hd_Mo_turned : y_Mo_turned.cls ≠ "java/lang/invoke/MethodHandle" ∧ y_Mo_turned.cls ≠ "java/lang/invoke/VarHandle" ∧ (parseMethodDescriptor y_Mo_turned.desc).map (fun d => d.parameters.length) = some 2 := by decide +kernel
theorem hd_Mo_word : y_Mo_word.cls ≠ "java/lang/invoke/MethodHandle" ∧ y_Mo_word.cls ≠ "java/lang/invoke/VarHandle" ∧ (parseMethodDescriptor y_Mo_word.desc).map (fun d => d.parameters.length) = some 2 := by decide +kernel
theorem hd_Mo_areFlags : y_Mo_areFlags.cls ≠ "java/lang/invoke/MethodHandle" ∧ y_Mo_areFlags.cls ≠ "java/lang/invoke/VarHandle" ∧ (parseMethodDescriptor y_Mo_areFlags.desc).map (fun d => d.parameters.length) = some 1 := by decide +kernel
theorem hd_Mo_makeNumber : y_Mo_makeNumber.cls ≠ "java/lang/invoke/MethodHandle" ∧ y_Mo_makeNumber.cls ≠ "java/lang/invoke/VarHandle" ∧ (parseMethodDescriptor y_Mo_makeNumber.desc).map (fun d => d.parameters.length) = some 2 := by decide +kernel
theorem hd_Mo_sumOf : y_Mo_sumOf.cls ≠ "java/lang/invoke/MethodHandle" ∧ y_Mo_sumOf.cls ≠ "java/lang/invoke/VarHandle" ∧ (parseMethodDescriptor y_Mo_sumOf.desc).map (fun d => d.parameters.length) = some 3 := by decide +kernel
theorem hd_Mo_adds : y_Mo_adds.cls ≠ "java/lang/invoke/MethodHandle" ∧ y_Mo_adds.cls ≠ "java/lang/invoke/VarHandle" ∧ (parseMethodDescriptor y_Mo_adds.desc).map (fun d => d.parameters.length) = some 2 := by decide +kernel
theorem hd_Mo_beginBack : y_Mo_beginBack.cls ≠ "java/lang/invoke/MethodHandle" ∧ y_Mo_beginBack.cls ≠ "java/lang/invoke/VarHandle" ∧ (parseMethodDescriptor y_Mo_beginBack.desc).map (fun d => d.parameters.length) = some 0 := by decide +kernel
theorem hd_Mo_readBlock : y_Mo_readBlock.cls ≠ "java/lang/invoke/MethodHandle" ∧ y_Mo_readBlock.cls ≠ "java/lang/invoke/VarHandle" ∧ (parseMethodDescriptor y_Mo_readBlock.desc).map (fun d => d.parameters.length) = some 3 := by decide +kernel
theorem hd_Mo_fault : y_Mo_fault.cls ≠ "java/lang/invoke/MethodHandle" ∧ y_Mo_fault.cls ≠ "java/lang/invoke/VarHandle" ∧ (parseMethodDescriptor y_Mo_fault.desc).map (fun d => d.parameters.length) = some 2 := by decide +kernel
theorem hd_Mo_has : y_Mo_has.cls ≠ "java/lang/invoke/MethodHandle" ∧ y_Mo_has.cls ≠ "java/lang/invoke/VarHandle" ∧ (parseMethodDescriptor y_Mo_has.desc).map (fun d => d.parameters.length) = some 1 := by decide +kernel
theorem hd_Mo_numberAt : y_Mo_numberAt.cls ≠ "java/lang/invoke/MethodHandle" ∧ y_Mo_numberAt.cls ≠ "java/lang/invoke/VarHandle" ∧ (parseMethodDescriptor y_Mo_numberAt.desc).map (fun d => d.parameters.length) = some 2 := by decide +kernel
theorem hd_Mo_readPart : y_Mo_readPart.cls ≠ "java/lang/invoke/MethodHandle" ∧ y_Mo_readPart.cls ≠ "java/lang/invoke/VarHandle" ∧ (parseMethodDescriptor y_Mo_readPart.desc).map (fun d => d.parameters.length) = some 5 := by decide +kernel
theorem hd_Mo_readFrame : y_Mo_readFrame.cls ≠ "java/lang/invoke/MethodHandle" ∧ y_Mo_readFrame.cls ≠ "java/lang/invoke/VarHandle" ∧ (parseMethodDescriptor y_Mo_readFrame.desc).map (fun d => d.parameters.length) = some 1 := by decide +kernel
theorem hd_Mo_readNext : y_Mo_readNext.cls ≠ "java/lang/invoke/MethodHandle" ∧ y_Mo_readNext.cls ≠ "java/lang/invoke/VarHandle" ∧ (parseMethodDescriptor y_Mo_readNext.desc).map (fun d => d.parameters.length) = some 1 := by decide +kernel
theorem hd_Row_init : y_Row_init.cls ≠ "java/lang/invoke/MethodHandle" ∧ y_Row_init.cls ≠ "java/lang/invoke/VarHandle" ∧ (parseMethodDescriptor y_Row_init.desc).map (fun d => d.parameters.length) = some 1 := by decide +kernel
theorem hd_Mat_init : y_Mat_init.cls ≠ "java/lang/invoke/MethodHandle" ∧ y_Mat_init.cls ≠ "java/lang/invoke/VarHandle" ∧ (parseMethodDescriptor y_Mat_init.desc).map (fun d => d.parameters.length) = some 0 := by decide +kernel
theorem hd_Mat_data : y_Mat_data.cls ≠ "java/lang/invoke/MethodHandle" ∧ y_Mat_data.cls ≠ "java/lang/invoke/VarHandle" ∧ (parseMethodDescriptor y_Mat_data.desc).map (fun d => d.parameters.length) = some 0 := by decide +kernel
theorem hd_BW_init : y_BW_init.cls ≠ "java/lang/invoke/MethodHandle" ∧ y_BW_init.cls ≠ "java/lang/invoke/VarHandle" ∧ (parseMethodDescriptor y_BW_init.desc).map (fun d => d.parameters.length) = some 1 := by decide +kernel
theorem hd_FW_init : y_FW_init.cls ≠ "java/lang/invoke/MethodHandle" ∧ y_FW_init.cls ≠ "java/lang/invoke/VarHandle" ∧ (parseMethodDescriptor y_FW_init.desc).map (fun d => d.parameters.length) = some 3 := by decide +kernel
theorem hd_BR_init : y_BR_init.cls ≠ "java/lang/invoke/MethodHandle" ∧ y_BR_init.cls ≠ "java/lang/invoke/VarHandle" ∧ (parseMethodDescriptor y_BR_init.desc).map (fun d => d.parameters.length) = some 3 := by decide +kernel
theorem hd_FR_init : y_FR_init.cls ≠ "java/lang/invoke/MethodHandle" ∧ y_FR_init.cls ≠ "java/lang/invoke/VarHandle" ∧ (parseMethodDescriptor y_FR_init.desc).map (fun d => d.parameters.length) = some 3 := by decide +kernel
end
section
theorem d_Arr_fill_0 : decode cd_Arr_fill 0 = .ok (.iconst 0, 1) := by decide +kernel
theorem d_Arr_fill_1 : decode cd_Arr_fill 1 = .ok (.istore_n 2, 1) := by decide +kernel
theorem d_Arr_fill_2 : decode cd_Arr_fill 2 = .ok (.aload_n 0, 1) := by decide +kernel
theorem d_Arr_fill_3 : decode cd_Arr_fill 3 = .ok (.arraylength, 1) := by decide +kernel
theorem d_Arr_fill_4 : decode cd_Arr_fill 4 = .ok (.istore_n 3, 1) := by decide +kernel
theorem d_Arr_fill_5 : decode cd_Arr_fill 5 = .ok (.iload_n 2, 1) := by decide +kernel
theorem d_Arr_fill_6 : decode cd_Arr_fill 6 = .ok (.iload_n 3, 1) := by decide +kernel
theorem d_Arr_fill_7 : decode cd_Arr_fill 7 = .ok (.if_icmp .ge 13, 3) := by decide +kernel
theorem d_Arr_fill_10 : decode cd_Arr_fill 10 = .ok (.aload_n 0, 1) := by decide +kernel
theorem d_Arr_fill_11 : decode cd_Arr_fill 11 = .ok (.iload_n 2, 1) := by decide +kernel
theorem d_Arr_fill_12 : decode cd_Arr_fill 12 = .ok (.iload_n 1, 1) := by decide +kernel
theorem d_Arr_fill_13 : decode cd_Arr_fill 13 = .ok (.iastore, 1) := by decide +kernel
theorem d_Arr_fill_14 : decode cd_Arr_fill 14 = .ok (.iinc 2 1, 3) := by decide +kernel
theorem d_Arr_fill_17 : decode cd_Arr_fill 17 = .ok (.goto (-12), 3) := by decide +kernel
theorem d_Arr_fill_20 : decode cd_Arr_fill 20 = .ok (.return_, 1) := by decide +kernel
end
section
abbrev wd_Arr_fill (a : Nat) (cB cI cJ : ClassId) (aL : Nat) (af : Nat → Int32) : va_W := [(a, .inl (cI, aL, .inl af))]
abbrev rm_Arr_fill : Room := { frames := 0, cells := 0, slots := 0, locals := 0 }
section
variable {p : Program} {l : Launch} {e : Env} {s : State} {m : MethodId} {args : Array Value} {below : List Frame} {meth : Method} {c : Code} {dC : Nat → ClassId} {dI : Nat → Nat → Nat} {A : Nat → Prop} {cB cI cJ : ClassId} {H : Heap} {locs : List Loc} {ls : Array Slot} {N : Nat} {a aL : Nat}
noncomputable def b_Arr_fill_5 (aL : Nat) (x1 : Int32) (x3 : Int32)  (kh5 : Int32 → (Nat → Int32) → Option ((Nat → Int32))) (x2 : Int32) (af : Nat → Int32) : Option ((Nat → Int32)) :=
  (if x3 ≤ x2 then (some af : Option ((Nat → Int32))) else as_ (vp_in x2 aL) ((kh5 (x2 + 1) (upd af x2.toNatClampNeg x1))))
set_option maxHeartbeats 4000000 in
set_option maxRecDepth 100000 in
theorem k_Arr_fill_5 {af_z : Nat → Int32} (C : Fx p s m args meth c cd_Arr_fill 4 R_Arr lw_g none) (hK : va_K (dC, dI) vwCl [(cB, .byte), (cI, .int), (cJ, .long)] s) (hA : ∀ q, s.heap.size ≤ q → A q) (x1 : Int32) (x3 : Int32)  : ∀ (n : Nat) (x2 : Int32) (af : Nat → Int32), loop2 (b_Arr_fill_5 aL x1 x3 ) n x2 af = some af_z → ∀ (H : Heap) (locs : List Loc), va_P (dC, dI) vwCl (wd_Arr_fill a cB cI cJ aL af) H → va_D A (wd_Arr_fill a cB cI cJ aL af) → va_S A s.heap H locs → ∀ (ls : Array Slot), lv_has ls 4 [(0, .ref a), (1, .int x1), (2, .int x2), (3, .int x3)] → W p l e rm_Arr_fill s m args below meth c H locs 0 0 (MQ below (sQv (dC, dI) vwCl [(cB, .byte), (cI, .int), (cJ, .long)] A (wd_Arr_fill a cB cI cJ aL af_z)) args s 0 0 A) (F0 m 5 ls []) := by
  obtain ⟨hx, hb, hml, hown, hts, hr, hlocks, hZ⟩ := id C
  intro n
  induction n with
  | zero => intro x2 af hf; cases hf
  | succ n ih5 =>
    intro x2 af hf H locs hP hD hS ls hl
    have hf : b_Arr_fill_5 aL x1 x3  (loop2 (b_Arr_fill_5 aL x1 x3 ) n) x2 af = some af_z := hf
    generalize loop2 (b_Arr_fill_5 aL x1 x3 ) n = kh5 at hf ih5
    unfold b_Arr_fill_5 at hf
    refine lv_iload_n hx hb d_Arr_fill_5 rfl (lv_at hl 2 rfl) ?_
    refine lv_iload_n hx hb d_Arr_fill_6 rfl (lv_at hl 3 rfl) ?_
    refine lv_icmp_ge (tgt := 20) hx hb d_Arr_fill_7 (by decide) (fun c_7 => ?_) (fun c_7 => ?_)
    · have hf := br_pos c_7 hf
      cases hf
      exact s_vret hx hb hr hlocks hP hK hD hS d_Arr_fill_20
    · have hf := br_neg c_7 hf
      refine lv_aload_n hx hb d_Arr_fill_10 rfl (lv_at hl 0 rfl) ?_
      refine lv_iload_n hx hb d_Arr_fill_11 rfl (lv_at hl 2 rfl) ?_
      refine lv_iload_n hx hb d_Arr_fill_12 rfl (lv_at hl 1 rfl) ?_
      obtain ⟨h_in, hf⟩ := as_some hf
      refine va_iast hx hb hK hP hD hS 0 1 rfl rfl h_in d_Arr_fill_13 (fun H locs hP hD hS => ?_)
      have hP : va_P (dC, dI) vwCl (wd_Arr_fill a cB cI cJ aL (upd af x2.toNatClampNeg x1)) H := hP
      have hD : va_D A (wd_Arr_fill a cB cI cJ aL (upd af x2.toNatClampNeg x1)) := hD
      refine lv_iinc (v := (x2 + 1)) (lv' := [(2, .int (x2 + 1)), (0, .ref a), (1, .int x1), (3, .int x3)]) hx hb d_Arr_fill_14 hl (k := 2) rfl (congrArg (fun z => x2 + z) (by decide)) (by decide) rfl (fun ls hl => ?_)
      refine lv_goto (tgt := 5) hx hb d_Arr_fill_17 (by decide) ?_
      exact ih5 (x2 + 1) (upd af x2.toNatClampNeg x1) hf _ _ hP hD hS _ (lv_sub hl [1, 2, 0, 3] rfl)
noncomputable def j_Arr_fill_0 (N : Nat) (aL : Nat) (x1 : Int32) (af : Nat → Int32)  : Option ((Nat → Int32)) :=
  (loop2 (b_Arr_fill_5 aL x1 (Int32.ofNat aL) ) N (0 : Int32) af)
set_option maxHeartbeats 4000000 in
set_option maxRecDepth 100000 in
theorem k_Arr_fill_0 {af_z : Nat → Int32} (C : Fx p s m args meth c cd_Arr_fill 4 R_Arr lw_g none) (hK : va_K (dC, dI) vwCl [(cB, .byte), (cI, .int), (cJ, .long)] s) (hA : ∀ q, s.heap.size ≤ q → A q) (x1 : Int32) (af : Nat → Int32)  (hf : j_Arr_fill_0 N aL x1 af  = some af_z) (hP : va_P (dC, dI) vwCl (wd_Arr_fill a cB cI cJ aL af) H) (hD : va_D A (wd_Arr_fill a cB cI cJ aL af)) (hS : va_S A s.heap H locs) (hl : lv_has ls 4 [(0, .ref a), (1, .int x1)]) : W p l e rm_Arr_fill s m args below meth c H locs 0 0 (MQ below (sQv (dC, dI) vwCl [(cB, .byte), (cI, .int), (cJ, .long)] A (wd_Arr_fill a cB cI cJ aL af_z)) args s 0 0 A) (F0 m 0 ls []) := by
  obtain ⟨hx, hb, hml, hown, hts, hr, hlocks, hZ⟩ := id C
  unfold j_Arr_fill_0 at hf
  refine lv_iconst (v := 0) hx hb d_Arr_fill_0 (by decide) ?_
  refine lv_istore_n (lv' := [(2, .int (0 : Int32)), (0, .ref a), (1, .int x1)]) hx hb d_Arr_fill_1 rfl hl (by decide) rfl (fun ls hl => ?_)
  refine lv_aload_n hx hb d_Arr_fill_2 rfl (lv_at hl 1 rfl) ?_
  refine va_alen (v := (Int32.ofNat aL)) hx hb hK hP 0 1 rfl rfl rfl d_Arr_fill_3 ?_
  refine lv_istore_n (lv' := [(3, .int (Int32.ofNat aL)), (2, .int (0 : Int32)), (0, .ref a), (1, .int x1)]) hx hb d_Arr_fill_4 rfl hl (by decide) rfl (fun ls hl => ?_)
  exact k_Arr_fill_5 C hK hA x1 (Int32.ofNat aL)  N (0 : Int32) af hf _ _ hP hD hS _ (lv_sub hl [2, 3, 1, 0] rfl)
end
noncomputable abbrev f_Arr_fill (N : Nat) (aL : Nat) (x1 : Int32) (af : Nat → Int32) : Option ((Nat → Int32)) := j_Arr_fill_0 N aL x1 af
set_option maxRecDepth 100000 in
theorem c_Arr_fill {N : Nat} (l : Launch) (dC : Nat → ClassId) (dI : Nat → Nat → Nat) (cB cI cJ : ClassId) (a aL : Nat) (af : Nat → Int32) (x1 : Int32) {af_z : Nat → Int32} (hf : f_Arr_fill N aL x1 af = some af_z) : MetV l y_Arr_fill ws_Arr_fill rm_Arr_fill (dC, dI) vwCl [(cB, .byte), (cI, .int), (cJ, .long)] [.ref a, .int x1] (wd_Arr_fill a cB cI cJ aL af)  (wd_Arr_fill a cB cI cJ aL af_z) 0 0 :=
  s_ofv (bytes := cd_Arr_fill) (maxL := 4) (ret := none) (by decide) rfl (Nat.le_of_ble_eq_true rfl) (fun p e s m below meth c A ls C hK hA hP hD hS hl => k_Arr_fill_0 C hK hA x1 af hf hP hD hS (lv_sub hl [0, 1] rfl))
end
section
theorem d_Row_init_0 : decode cd_Row_init 0 = .ok (.aload_n 0, 1) := by decide +kernel
theorem d_Row_init_1 : decode cd_Row_init 1 = .ok (.invokespecial 1, 3) := by decide +kernel
theorem d_Row_init_4 : decode cd_Row_init 4 = .ok (.aload_n 0, 1) := by decide +kernel
theorem d_Row_init_5 : decode cd_Row_init 5 = .ok (.iconst 0, 1) := by decide +kernel
theorem d_Row_init_6 : decode cd_Row_init 6 = .ok (.iload_n 1, 1) := by decide +kernel
theorem d_Row_init_7 : decode cd_Row_init 7 = .ok (.invokestatic 7, 3) := by decide +kernel
theorem d_Row_init_10 : decode cd_Row_init 10 = .ok (.newarray .byte, 2) := by decide +kernel
theorem d_Row_init_12 : decode cd_Row_init 12 = .ok (.putfield 13, 3) := by decide +kernel
theorem d_Row_init_15 : decode cd_Row_init 15 = .ok (.return_, 1) := by decide +kernel
theorem d_Row_hasRoomFor_0 : decode cd_Row_hasRoomFor 0 = .ok (.lload_n 1, 1) := by decide +kernel
theorem d_Row_hasRoomFor_1 : decode cd_Row_hasRoomFor 1 = .ok (.aload_n 0, 1) := by decide +kernel
theorem d_Row_hasRoomFor_2 : decode cd_Row_hasRoomFor 2 = .ok (.getfield 13, 3) := by decide +kernel
theorem d_Row_hasRoomFor_5 : decode cd_Row_hasRoomFor 5 = .ok (.arraylength, 1) := by decide +kernel
theorem d_Row_hasRoomFor_6 : decode cd_Row_hasRoomFor 6 = .ok (.aload_n 0, 1) := by decide +kernel
theorem d_Row_hasRoomFor_7 : decode cd_Row_hasRoomFor 7 = .ok (.getfield 19, 3) := by decide +kernel
theorem d_Row_hasRoomFor_10 : decode cd_Row_hasRoomFor 10 = .ok (.isub, 1) := by decide +kernel
theorem d_Row_hasRoomFor_11 : decode cd_Row_hasRoomFor 11 = .ok (.i2l, 1) := by decide +kernel
theorem d_Row_hasRoomFor_12 : decode cd_Row_hasRoomFor 12 = .ok (.lcmp, 1) := by decide +kernel
theorem d_Row_hasRoomFor_13 : decode cd_Row_hasRoomFor 13 = .ok (.ifCond .gt 7, 3) := by decide +kernel
theorem d_Row_hasRoomFor_16 : decode cd_Row_hasRoomFor 16 = .ok (.iconst 1, 1) := by decide +kernel
theorem d_Row_hasRoomFor_17 : decode cd_Row_hasRoomFor 17 = .ok (.goto 4, 3) := by decide +kernel
theorem d_Row_hasRoomFor_20 : decode cd_Row_hasRoomFor 20 = .ok (.iconst 0, 1) := by decide +kernel
theorem d_Row_hasRoomFor_21 : decode cd_Row_hasRoomFor 21 = .ok (.ireturn, 1) := by decide +kernel
theorem d_Row_add_0 : decode cd_Row_add 0 = .ok (.aload_n 0, 1) := by decide +kernel
theorem d_Row_add_1 : decode cd_Row_add 1 = .ok (.getfield 19, 3) := by decide +kernel
theorem d_Row_add_4 : decode cd_Row_add 4 = .ok (.ifCond .lt 15, 3) := by decide +kernel
theorem d_Row_add_7 : decode cd_Row_add 7 = .ok (.aload_n 0, 1) := by decide +kernel
theorem d_Row_add_8 : decode cd_Row_add 8 = .ok (.getfield 19, 3) := by decide +kernel
theorem d_Row_add_11 : decode cd_Row_add 11 = .ok (.aload_n 0, 1) := by decide +kernel
theorem d_Row_add_12 : decode cd_Row_add 12 = .ok (.getfield 13, 3) := by decide +kernel
theorem d_Row_add_15 : decode cd_Row_add 15 = .ok (.arraylength, 1) := by decide +kernel
theorem d_Row_add_16 : decode cd_Row_add 16 = .ok (.if_icmp .lt 5, 3) := by decide +kernel
theorem d_Row_add_19 : decode cd_Row_add 19 = .ok (.iconst 0, 1) := by decide +kernel
theorem d_Row_add_20 : decode cd_Row_add 20 = .ok (.ireturn, 1) := by decide +kernel
theorem d_Row_add_21 : decode cd_Row_add 21 = .ok (.aload_n 0, 1) := by decide +kernel
theorem d_Row_add_22 : decode cd_Row_add 22 = .ok (.getfield 13, 3) := by decide +kernel
theorem d_Row_add_25 : decode cd_Row_add 25 = .ok (.aload_n 0, 1) := by decide +kernel
theorem d_Row_add_26 : decode cd_Row_add 26 = .ok (.getfield 19, 3) := by decide +kernel
theorem d_Row_add_29 : decode cd_Row_add 29 = .ok (.iload_n 1, 1) := by decide +kernel
theorem d_Row_add_30 : decode cd_Row_add 30 = .ok (.i2b, 1) := by decide +kernel
theorem d_Row_add_31 : decode cd_Row_add 31 = .ok (.bastore, 1) := by decide +kernel
theorem d_Row_add_32 : decode cd_Row_add 32 = .ok (.aload_n 0, 1) := by decide +kernel
theorem d_Row_add_33 : decode cd_Row_add 33 = .ok (.dup, 1) := by decide +kernel
theorem d_Row_add_34 : decode cd_Row_add 34 = .ok (.getfield 19, 3) := by decide +kernel
theorem d_Row_add_37 : decode cd_Row_add 37 = .ok (.iconst 1, 1) := by decide +kernel
theorem d_Row_add_38 : decode cd_Row_add 38 = .ok (.iadd, 1) := by decide +kernel
theorem d_Row_add_39 : decode cd_Row_add 39 = .ok (.putfield 19, 3) := by decide +kernel
theorem d_Row_add_42 : decode cd_Row_add 42 = .ok (.iconst 1, 1) := by decide +kernel
theorem d_Row_add_43 : decode cd_Row_add 43 = .ok (.ireturn, 1) := by decide +kernel
theorem d_Row_count_0 : decode cd_Row_count 0 = .ok (.aload_n 0, 1) := by decide +kernel
theorem d_Row_count_1 : decode cd_Row_count 1 = .ok (.getfield 19, 3) := by decide +kernel
theorem d_Row_count_4 : decode cd_Row_count 4 = .ok (.ireturn, 1) := by decide +kernel
theorem d_Row_addFrom_0 : decode cd_Row_addFrom 0 = .ok (.iload_n 3, 1) := by decide +kernel
theorem d_Row_addFrom_1 : decode cd_Row_addFrom 1 = .ok (.iload_n 2, 1) := by decide +kernel
theorem d_Row_addFrom_2 : decode cd_Row_addFrom 2 = .ok (.isub, 1) := by decide +kernel
theorem d_Row_addFrom_3 : decode cd_Row_addFrom 3 = .ok (.istore 4, 2) := by decide +kernel
theorem d_Row_addFrom_5 : decode cd_Row_addFrom 5 = .ok (.iload_n 2, 1) := by decide +kernel
theorem d_Row_addFrom_6 : decode cd_Row_addFrom 6 = .ok (.ifCond .lt 31, 3) := by decide +kernel
theorem d_Row_addFrom_9 : decode cd_Row_addFrom 9 = .ok (.iload 4, 2) := by decide +kernel
theorem d_Row_addFrom_11 : decode cd_Row_addFrom 11 = .ok (.ifCond .lt 26, 3) := by decide +kernel
theorem d_Row_addFrom_14 : decode cd_Row_addFrom 14 = .ok (.iload_n 3, 1) := by decide +kernel
theorem d_Row_addFrom_15 : decode cd_Row_addFrom 15 = .ok (.aload_n 1, 1) := by decide +kernel
theorem d_Row_addFrom_16 : decode cd_Row_addFrom 16 = .ok (.getfield 19, 3) := by decide +kernel
theorem d_Row_addFrom_19 : decode cd_Row_addFrom 19 = .ok (.if_icmp .gt 18, 3) := by decide +kernel
theorem d_Row_addFrom_22 : decode cd_Row_addFrom 22 = .ok (.iload 4, 2) := by decide +kernel
theorem d_Row_addFrom_24 : decode cd_Row_addFrom 24 = .ok (.aload_n 0, 1) := by decide +kernel
theorem d_Row_addFrom_25 : decode cd_Row_addFrom 25 = .ok (.getfield 13, 3) := by decide +kernel
theorem d_Row_addFrom_28 : decode cd_Row_addFrom 28 = .ok (.arraylength, 1) := by decide +kernel
theorem d_Row_addFrom_29 : decode cd_Row_addFrom 29 = .ok (.aload_n 0, 1) := by decide +kernel
theorem d_Row_addFrom_30 : decode cd_Row_addFrom 30 = .ok (.getfield 19, 3) := by decide +kernel
theorem d_Row_addFrom_33 : decode cd_Row_addFrom 33 = .ok (.isub, 1) := by decide +kernel
theorem d_Row_addFrom_34 : decode cd_Row_addFrom 34 = .ok (.if_icmp .le 5, 3) := by decide +kernel
theorem d_Row_addFrom_37 : decode cd_Row_addFrom 37 = .ok (.iconst 0, 1) := by decide +kernel
theorem d_Row_addFrom_38 : decode cd_Row_addFrom 38 = .ok (.ireturn, 1) := by decide +kernel
theorem d_Row_addFrom_39 : decode cd_Row_addFrom 39 = .ok (.aload_n 1, 1) := by decide +kernel
theorem d_Row_addFrom_40 : decode cd_Row_addFrom 40 = .ok (.getfield 13, 3) := by decide +kernel
theorem d_Row_addFrom_43 : decode cd_Row_addFrom 43 = .ok (.iload_n 2, 1) := by decide +kernel
theorem d_Row_addFrom_44 : decode cd_Row_addFrom 44 = .ok (.aload_n 0, 1) := by decide +kernel
theorem d_Row_addFrom_45 : decode cd_Row_addFrom 45 = .ok (.getfield 13, 3) := by decide +kernel
theorem d_Row_addFrom_48 : decode cd_Row_addFrom 48 = .ok (.aload_n 0, 1) := by decide +kernel
theorem d_Row_addFrom_49 : decode cd_Row_addFrom 49 = .ok (.getfield 19, 3) := by decide +kernel
theorem d_Row_addFrom_52 : decode cd_Row_addFrom 52 = .ok (.iload 4, 2) := by decide +kernel
theorem d_Row_addFrom_54 : decode cd_Row_addFrom 54 = .ok (.invokestatic 30, 3) := by decide +kernel
theorem d_Row_addFrom_57 : decode cd_Row_addFrom 57 = .ok (.aload_n 0, 1) := by decide +kernel
theorem d_Row_addFrom_58 : decode cd_Row_addFrom 58 = .ok (.dup, 1) := by decide +kernel
theorem d_Row_addFrom_59 : decode cd_Row_addFrom 59 = .ok (.getfield 19, 3) := by decide +kernel
theorem d_Row_addFrom_62 : decode cd_Row_addFrom 62 = .ok (.iload 4, 2) := by decide +kernel
theorem d_Row_addFrom_64 : decode cd_Row_addFrom 64 = .ok (.iadd, 1) := by decide +kernel
theorem d_Row_addFrom_65 : decode cd_Row_addFrom 65 = .ok (.putfield 19, 3) := by decide +kernel
theorem d_Row_addFrom_68 : decode cd_Row_addFrom 68 = .ok (.iconst 1, 1) := by decide +kernel
theorem d_Row_addFrom_69 : decode cd_Row_addFrom 69 = .ok (.ireturn, 1) := by decide +kernel
theorem d_Row_cutTo_0 : decode cd_Row_cutTo 0 = .ok (.aload_n 0, 1) := by decide +kernel
theorem d_Row_cutTo_1 : decode cd_Row_cutTo 1 = .ok (.iconst 0, 1) := by decide +kernel
theorem d_Row_cutTo_2 : decode cd_Row_cutTo 2 = .ok (.aload_n 0, 1) := by decide +kernel
theorem d_Row_cutTo_3 : decode cd_Row_cutTo 3 = .ok (.getfield 19, 3) := by decide +kernel
theorem d_Row_cutTo_6 : decode cd_Row_cutTo 6 = .ok (.iload_n 1, 1) := by decide +kernel
theorem d_Row_cutTo_7 : decode cd_Row_cutTo 7 = .ok (.invokestatic 23, 3) := by decide +kernel
theorem d_Row_cutTo_10 : decode cd_Row_cutTo 10 = .ok (.invokestatic 7, 3) := by decide +kernel
theorem d_Row_cutTo_13 : decode cd_Row_cutTo 13 = .ok (.putfield 19, 3) := by decide +kernel
theorem d_Row_cutTo_16 : decode cd_Row_cutTo 16 = .ok (.return_, 1) := by decide +kernel
theorem d_Row_become_0 : decode cd_Row_become 0 = .ok (.aload_n 0, 1) := by decide +kernel
theorem d_Row_become_1 : decode cd_Row_become 1 = .ok (.iconst 0, 1) := by decide +kernel
theorem d_Row_become_2 : decode cd_Row_become 2 = .ok (.invokevirtual 36, 3) := by decide +kernel
theorem d_Row_become_5 : decode cd_Row_become 5 = .ok (.aload_n 0, 1) := by decide +kernel
theorem d_Row_become_6 : decode cd_Row_become 6 = .ok (.aload_n 1, 1) := by decide +kernel
theorem d_Row_become_7 : decode cd_Row_become 7 = .ok (.iconst 0, 1) := by decide +kernel
theorem d_Row_become_8 : decode cd_Row_become 8 = .ok (.aload_n 1, 1) := by decide +kernel
theorem d_Row_become_9 : decode cd_Row_become 9 = .ok (.getfield 19, 3) := by decide +kernel
theorem d_Row_become_12 : decode cd_Row_become 12 = .ok (.invokevirtual 40, 3) := by decide +kernel
theorem d_Row_become_15 : decode cd_Row_become 15 = .ok (.pop, 1) := by decide +kernel
theorem d_Row_become_16 : decode cd_Row_become 16 = .ok (.return_, 1) := by decide +kernel
theorem d_Row_word_0 : decode cd_Row_word 0 = .ok (.iload_n 1, 1) := by decide +kernel
theorem d_Row_word_1 : decode cd_Row_word 1 = .ok (.ifCond .lt 25, 3) := by decide +kernel
theorem d_Row_word_4 : decode cd_Row_word 4 = .ok (.iload_n 1, 1) := by decide +kernel
theorem d_Row_word_5 : decode cd_Row_word 5 = .ok (.aload_n 0, 1) := by decide +kernel
theorem d_Row_word_6 : decode cd_Row_word 6 = .ok (.getfield 19, 3) := by decide +kernel
theorem d_Row_word_9 : decode cd_Row_word 9 = .ok (.iconst 4, 1) := by decide +kernel
theorem d_Row_word_10 : decode cd_Row_word 10 = .ok (.isub, 1) := by decide +kernel
theorem d_Row_word_11 : decode cd_Row_word 11 = .ok (.if_icmp .gt 15, 3) := by decide +kernel
theorem d_Row_word_14 : decode cd_Row_word 14 = .ok (.aload_n 0, 1) := by decide +kernel
theorem d_Row_word_15 : decode cd_Row_word 15 = .ok (.getfield 19, 3) := by decide +kernel
theorem d_Row_word_18 : decode cd_Row_word 18 = .ok (.aload_n 0, 1) := by decide +kernel
theorem d_Row_word_19 : decode cd_Row_word 19 = .ok (.getfield 13, 3) := by decide +kernel
theorem d_Row_word_22 : decode cd_Row_word 22 = .ok (.arraylength, 1) := by decide +kernel
theorem d_Row_word_23 : decode cd_Row_word 23 = .ok (.if_icmp .le 5, 3) := by decide +kernel
theorem d_Row_word_26 : decode cd_Row_word 26 = .ok (.iconst 0, 1) := by decide +kernel
theorem d_Row_word_27 : decode cd_Row_word 27 = .ok (.ireturn, 1) := by decide +kernel
theorem d_Row_word_28 : decode cd_Row_word 28 = .ok (.aload_n 0, 1) := by decide +kernel
theorem d_Row_word_29 : decode cd_Row_word 29 = .ok (.getfield 13, 3) := by decide +kernel
theorem d_Row_word_32 : decode cd_Row_word 32 = .ok (.iload_n 1, 1) := by decide +kernel
theorem d_Row_word_33 : decode cd_Row_word 33 = .ok (.baload, 1) := by decide +kernel
theorem d_Row_word_34 : decode cd_Row_word 34 = .ok (.sipush 255, 3) := by decide +kernel
theorem d_Row_word_37 : decode cd_Row_word 37 = .ok (.iand, 1) := by decide +kernel
theorem d_Row_word_38 : decode cd_Row_word 38 = .ok (.aload_n 0, 1) := by decide +kernel
theorem d_Row_word_39 : decode cd_Row_word 39 = .ok (.getfield 13, 3) := by decide +kernel
theorem d_Row_word_42 : decode cd_Row_word 42 = .ok (.iload_n 1, 1) := by decide +kernel
theorem d_Row_word_43 : decode cd_Row_word 43 = .ok (.iconst 1, 1) := by decide +kernel
theorem d_Row_word_44 : decode cd_Row_word 44 = .ok (.iadd, 1) := by decide +kernel
theorem d_Row_word_45 : decode cd_Row_word 45 = .ok (.baload, 1) := by decide +kernel
theorem d_Row_word_46 : decode cd_Row_word 46 = .ok (.sipush 255, 3) := by decide +kernel
theorem d_Row_word_49 : decode cd_Row_word 49 = .ok (.iand, 1) := by decide +kernel
theorem d_Row_word_50 : decode cd_Row_word 50 = .ok (.bipush 8, 2) := by decide +kernel
theorem d_Row_word_52 : decode cd_Row_word 52 = .ok (.ishl, 1) := by decide +kernel
theorem d_Row_word_53 : decode cd_Row_word 53 = .ok (.ior, 1) := by decide +kernel
theorem d_Row_word_54 : decode cd_Row_word 54 = .ok (.aload_n 0, 1) := by decide +kernel
theorem d_Row_word_55 : decode cd_Row_word 55 = .ok (.getfield 13, 3) := by decide +kernel
theorem d_Row_word_58 : decode cd_Row_word 58 = .ok (.iload_n 1, 1) := by decide +kernel
theorem d_Row_word_59 : decode cd_Row_word 59 = .ok (.iconst 2, 1) := by decide +kernel
theorem d_Row_word_60 : decode cd_Row_word 60 = .ok (.iadd, 1) := by decide +kernel
theorem d_Row_word_61 : decode cd_Row_word 61 = .ok (.baload, 1) := by decide +kernel
theorem d_Row_word_62 : decode cd_Row_word 62 = .ok (.sipush 255, 3) := by decide +kernel
theorem d_Row_word_65 : decode cd_Row_word 65 = .ok (.iand, 1) := by decide +kernel
theorem d_Row_word_66 : decode cd_Row_word 66 = .ok (.bipush 16, 2) := by decide +kernel
theorem d_Row_word_68 : decode cd_Row_word 68 = .ok (.ishl, 1) := by decide +kernel
theorem d_Row_word_69 : decode cd_Row_word 69 = .ok (.ior, 1) := by decide +kernel
theorem d_Row_word_70 : decode cd_Row_word 70 = .ok (.aload_n 0, 1) := by decide +kernel
theorem d_Row_word_71 : decode cd_Row_word 71 = .ok (.getfield 13, 3) := by decide +kernel
theorem d_Row_word_74 : decode cd_Row_word 74 = .ok (.iload_n 1, 1) := by decide +kernel
theorem d_Row_word_75 : decode cd_Row_word 75 = .ok (.iconst 3, 1) := by decide +kernel
theorem d_Row_word_76 : decode cd_Row_word 76 = .ok (.iadd, 1) := by decide +kernel
theorem d_Row_word_77 : decode cd_Row_word 77 = .ok (.baload, 1) := by decide +kernel
theorem d_Row_word_78 : decode cd_Row_word 78 = .ok (.sipush 255, 3) := by decide +kernel
theorem d_Row_word_81 : decode cd_Row_word 81 = .ok (.iand, 1) := by decide +kernel
theorem d_Row_word_82 : decode cd_Row_word 82 = .ok (.bipush 24, 2) := by decide +kernel
theorem d_Row_word_84 : decode cd_Row_word 84 = .ok (.ishl, 1) := by decide +kernel
theorem d_Row_word_85 : decode cd_Row_word 85 = .ok (.ior, 1) := by decide +kernel
theorem d_Row_word_86 : decode cd_Row_word 86 = .ok (.ireturn, 1) := by decide +kernel
theorem d_Row_get_0 : decode cd_Row_get 0 = .ok (.iload_n 1, 1) := by decide +kernel
theorem d_Row_get_1 : decode cd_Row_get 1 = .ok (.ifCond .lt 33, 3) := by decide +kernel
theorem d_Row_get_4 : decode cd_Row_get 4 = .ok (.iload_n 1, 1) := by decide +kernel
theorem d_Row_get_5 : decode cd_Row_get 5 = .ok (.aload_n 0, 1) := by decide +kernel
theorem d_Row_get_6 : decode cd_Row_get 6 = .ok (.getfield 19, 3) := by decide +kernel
theorem d_Row_get_9 : decode cd_Row_get 9 = .ok (.if_icmp .ge 25, 3) := by decide +kernel
theorem d_Row_get_12 : decode cd_Row_get 12 = .ok (.iload_n 1, 1) := by decide +kernel
theorem d_Row_get_13 : decode cd_Row_get 13 = .ok (.aload_n 0, 1) := by decide +kernel
theorem d_Row_get_14 : decode cd_Row_get 14 = .ok (.getfield 13, 3) := by decide +kernel
theorem d_Row_get_17 : decode cd_Row_get 17 = .ok (.arraylength, 1) := by decide +kernel
theorem d_Row_get_18 : decode cd_Row_get 18 = .ok (.if_icmp .ge 16, 3) := by decide +kernel
theorem d_Row_get_21 : decode cd_Row_get 21 = .ok (.aload_n 0, 1) := by decide +kernel
theorem d_Row_get_22 : decode cd_Row_get 22 = .ok (.getfield 13, 3) := by decide +kernel
theorem d_Row_get_25 : decode cd_Row_get 25 = .ok (.iload_n 1, 1) := by decide +kernel
theorem d_Row_get_26 : decode cd_Row_get 26 = .ok (.baload, 1) := by decide +kernel
theorem d_Row_get_27 : decode cd_Row_get 27 = .ok (.sipush 255, 3) := by decide +kernel
theorem d_Row_get_30 : decode cd_Row_get 30 = .ok (.iand, 1) := by decide +kernel
theorem d_Row_get_31 : decode cd_Row_get 31 = .ok (.goto 4, 3) := by decide +kernel
theorem d_Row_get_34 : decode cd_Row_get 34 = .ok (.iconst (-1), 1) := by decide +kernel
theorem d_Row_get_35 : decode cd_Row_get 35 = .ok (.ireturn, 1) := by decide +kernel
theorem d_Row_same_0 : decode cd_Row_same 0 = .ok (.iload_n 3, 1) := by decide +kernel
theorem d_Row_same_1 : decode cd_Row_same 1 = .ok (.aload_n 0, 1) := by decide +kernel
theorem d_Row_same_2 : decode cd_Row_same 2 = .ok (.getfield 19, 3) := by decide +kernel
theorem d_Row_same_5 : decode cd_Row_same 5 = .ok (.invokestatic 23, 3) := by decide +kernel
theorem d_Row_same_8 : decode cd_Row_same 8 = .ok (.iload_n 2, 1) := by decide +kernel
theorem d_Row_same_9 : decode cd_Row_same 9 = .ok (.isub, 1) := by decide +kernel
theorem d_Row_same_10 : decode cd_Row_same 10 = .ok (.istore 4, 2) := by decide +kernel
theorem d_Row_same_12 : decode cd_Row_same 12 = .ok (.iload_n 1, 1) := by decide +kernel
theorem d_Row_same_13 : decode cd_Row_same 13 = .ok (.ifCond .lt 20, 3) := by decide +kernel
theorem d_Row_same_16 : decode cd_Row_same 16 = .ok (.iload_n 1, 1) := by decide +kernel
theorem d_Row_same_17 : decode cd_Row_same 17 = .ok (.iload_n 2, 1) := by decide +kernel
theorem d_Row_same_18 : decode cd_Row_same 18 = .ok (.if_icmp .gt 15, 3) := by decide +kernel
theorem d_Row_same_21 : decode cd_Row_same 21 = .ok (.aload_n 0, 1) := by decide +kernel
theorem d_Row_same_22 : decode cd_Row_same 22 = .ok (.getfield 19, 3) := by decide +kernel
theorem d_Row_same_25 : decode cd_Row_same 25 = .ok (.aload_n 0, 1) := by decide +kernel
theorem d_Row_same_26 : decode cd_Row_same 26 = .ok (.getfield 13, 3) := by decide +kernel
theorem d_Row_same_29 : decode cd_Row_same 29 = .ok (.arraylength, 1) := by decide +kernel
theorem d_Row_same_30 : decode cd_Row_same 30 = .ok (.if_icmp .le 5, 3) := by decide +kernel
theorem d_Row_same_33 : decode cd_Row_same 33 = .ok (.iconst 0, 1) := by decide +kernel
theorem d_Row_same_34 : decode cd_Row_same 34 = .ok (.ireturn, 1) := by decide +kernel
theorem d_Row_same_35 : decode cd_Row_same 35 = .ok (.iconst 0, 1) := by decide +kernel
theorem d_Row_same_36 : decode cd_Row_same 36 = .ok (.istore 5, 2) := by decide +kernel
theorem d_Row_same_38 : decode cd_Row_same 38 = .ok (.iload 5, 2) := by decide +kernel
theorem d_Row_same_40 : decode cd_Row_same 40 = .ok (.iload 4, 2) := by decide +kernel
theorem d_Row_same_42 : decode cd_Row_same 42 = .ok (.if_icmp .ge 33, 3) := by decide +kernel
theorem d_Row_same_45 : decode cd_Row_same 45 = .ok (.aload_n 0, 1) := by decide +kernel
theorem d_Row_same_46 : decode cd_Row_same 46 = .ok (.getfield 13, 3) := by decide +kernel
theorem d_Row_same_49 : decode cd_Row_same 49 = .ok (.iload_n 1, 1) := by decide +kernel
theorem d_Row_same_50 : decode cd_Row_same 50 = .ok (.iload 5, 2) := by decide +kernel
theorem d_Row_same_52 : decode cd_Row_same 52 = .ok (.iadd, 1) := by decide +kernel
theorem d_Row_same_53 : decode cd_Row_same 53 = .ok (.baload, 1) := by decide +kernel
theorem d_Row_same_54 : decode cd_Row_same 54 = .ok (.aload_n 0, 1) := by decide +kernel
theorem d_Row_same_55 : decode cd_Row_same 55 = .ok (.getfield 13, 3) := by decide +kernel
theorem d_Row_same_58 : decode cd_Row_same 58 = .ok (.iload_n 2, 1) := by decide +kernel
theorem d_Row_same_59 : decode cd_Row_same 59 = .ok (.iload 5, 2) := by decide +kernel
theorem d_Row_same_61 : decode cd_Row_same 61 = .ok (.iadd, 1) := by decide +kernel
theorem d_Row_same_62 : decode cd_Row_same 62 = .ok (.baload, 1) := by decide +kernel
theorem d_Row_same_63 : decode cd_Row_same 63 = .ok (.if_icmp .eq 6, 3) := by decide +kernel
theorem d_Row_same_66 : decode cd_Row_same 66 = .ok (.iload 5, 2) := by decide +kernel
theorem d_Row_same_68 : decode cd_Row_same 68 = .ok (.ireturn, 1) := by decide +kernel
theorem d_Row_same_69 : decode cd_Row_same 69 = .ok (.iinc 5 1, 3) := by decide +kernel
theorem d_Row_same_72 : decode cd_Row_same 72 = .ok (.goto (-34), 3) := by decide +kernel
theorem d_Row_same_75 : decode cd_Row_same 75 = .ok (.iconst 0, 1) := by decide +kernel
theorem d_Row_same_76 : decode cd_Row_same 76 = .ok (.iload 4, 2) := by decide +kernel
theorem d_Row_same_78 : decode cd_Row_same 78 = .ok (.invokestatic 7, 3) := by decide +kernel
theorem d_Row_same_81 : decode cd_Row_same 81 = .ok (.ireturn, 1) := by decide +kernel
theorem d_Row_pair_0 : decode cd_Row_pair 0 = .ok (.iload_n 1, 1) := by decide +kernel
theorem d_Row_pair_1 : decode cd_Row_pair 1 = .ok (.ifCond .lt 25, 3) := by decide +kernel
theorem d_Row_pair_4 : decode cd_Row_pair 4 = .ok (.iload_n 1, 1) := by decide +kernel
theorem d_Row_pair_5 : decode cd_Row_pair 5 = .ok (.aload_n 0, 1) := by decide +kernel
theorem d_Row_pair_6 : decode cd_Row_pair 6 = .ok (.getfield 19, 3) := by decide +kernel
theorem d_Row_pair_9 : decode cd_Row_pair 9 = .ok (.iconst 2, 1) := by decide +kernel
theorem d_Row_pair_10 : decode cd_Row_pair 10 = .ok (.isub, 1) := by decide +kernel
theorem d_Row_pair_11 : decode cd_Row_pair 11 = .ok (.if_icmp .gt 15, 3) := by decide +kernel
theorem d_Row_pair_14 : decode cd_Row_pair 14 = .ok (.aload_n 0, 1) := by decide +kernel
theorem d_Row_pair_15 : decode cd_Row_pair 15 = .ok (.getfield 19, 3) := by decide +kernel
theorem d_Row_pair_18 : decode cd_Row_pair 18 = .ok (.aload_n 0, 1) := by decide +kernel
theorem d_Row_pair_19 : decode cd_Row_pair 19 = .ok (.getfield 13, 3) := by decide +kernel
theorem d_Row_pair_22 : decode cd_Row_pair 22 = .ok (.arraylength, 1) := by decide +kernel
theorem d_Row_pair_23 : decode cd_Row_pair 23 = .ok (.if_icmp .le 5, 3) := by decide +kernel
theorem d_Row_pair_26 : decode cd_Row_pair 26 = .ok (.iconst 0, 1) := by decide +kernel
theorem d_Row_pair_27 : decode cd_Row_pair 27 = .ok (.ireturn, 1) := by decide +kernel
theorem d_Row_pair_28 : decode cd_Row_pair 28 = .ok (.aload_n 0, 1) := by decide +kernel
theorem d_Row_pair_29 : decode cd_Row_pair 29 = .ok (.getfield 13, 3) := by decide +kernel
theorem d_Row_pair_32 : decode cd_Row_pair 32 = .ok (.iload_n 1, 1) := by decide +kernel
theorem d_Row_pair_33 : decode cd_Row_pair 33 = .ok (.baload, 1) := by decide +kernel
theorem d_Row_pair_34 : decode cd_Row_pair 34 = .ok (.sipush 255, 3) := by decide +kernel
theorem d_Row_pair_37 : decode cd_Row_pair 37 = .ok (.iand, 1) := by decide +kernel
theorem d_Row_pair_38 : decode cd_Row_pair 38 = .ok (.aload_n 0, 1) := by decide +kernel
theorem d_Row_pair_39 : decode cd_Row_pair 39 = .ok (.getfield 13, 3) := by decide +kernel
theorem d_Row_pair_42 : decode cd_Row_pair 42 = .ok (.iload_n 1, 1) := by decide +kernel
theorem d_Row_pair_43 : decode cd_Row_pair 43 = .ok (.iconst 1, 1) := by decide +kernel
theorem d_Row_pair_44 : decode cd_Row_pair 44 = .ok (.iadd, 1) := by decide +kernel
theorem d_Row_pair_45 : decode cd_Row_pair 45 = .ok (.baload, 1) := by decide +kernel
theorem d_Row_pair_46 : decode cd_Row_pair 46 = .ok (.sipush 255, 3) := by decide +kernel
theorem d_Row_pair_49 : decode cd_Row_pair 49 = .ok (.iand, 1) := by decide +kernel
theorem d_Row_pair_50 : decode cd_Row_pair 50 = .ok (.bipush 8, 2) := by decide +kernel
theorem d_Row_pair_52 : decode cd_Row_pair 52 = .ok (.ishl, 1) := by decide +kernel
theorem d_Row_pair_53 : decode cd_Row_pair 53 = .ok (.ior, 1) := by decide +kernel
theorem d_Row_pair_54 : decode cd_Row_pair 54 = .ok (.ireturn, 1) := by decide +kernel
theorem d_Row_addWord_0 : decode cd_Row_addWord 0 = .ok (.aload_n 0, 1) := by decide +kernel
theorem d_Row_addWord_1 : decode cd_Row_addWord 1 = .ok (.iload_n 1, 1) := by decide +kernel
theorem d_Row_addWord_2 : decode cd_Row_addWord 2 = .ok (.invokevirtual 26, 3) := by decide +kernel
theorem d_Row_addWord_5 : decode cd_Row_addWord 5 = .ok (.ifCond .eq 40, 3) := by decide +kernel
theorem d_Row_addWord_8 : decode cd_Row_addWord 8 = .ok (.aload_n 0, 1) := by decide +kernel
theorem d_Row_addWord_9 : decode cd_Row_addWord 9 = .ok (.iload_n 1, 1) := by decide +kernel
theorem d_Row_addWord_10 : decode cd_Row_addWord 10 = .ok (.bipush 8, 2) := by decide +kernel
theorem d_Row_addWord_12 : decode cd_Row_addWord 12 = .ok (.ishr, 1) := by decide +kernel
theorem d_Row_addWord_13 : decode cd_Row_addWord 13 = .ok (.invokevirtual 26, 3) := by decide +kernel
theorem d_Row_addWord_16 : decode cd_Row_addWord 16 = .ok (.ifCond .eq 29, 3) := by decide +kernel
theorem d_Row_addWord_19 : decode cd_Row_addWord 19 = .ok (.aload_n 0, 1) := by decide +kernel
theorem d_Row_addWord_20 : decode cd_Row_addWord 20 = .ok (.iload_n 1, 1) := by decide +kernel
theorem d_Row_addWord_21 : decode cd_Row_addWord 21 = .ok (.bipush 16, 2) := by decide +kernel
theorem d_Row_addWord_23 : decode cd_Row_addWord 23 = .ok (.ishr, 1) := by decide +kernel
theorem d_Row_addWord_24 : decode cd_Row_addWord 24 = .ok (.invokevirtual 26, 3) := by decide +kernel
theorem d_Row_addWord_27 : decode cd_Row_addWord 27 = .ok (.ifCond .eq 18, 3) := by decide +kernel
theorem d_Row_addWord_30 : decode cd_Row_addWord 30 = .ok (.aload_n 0, 1) := by decide +kernel
theorem d_Row_addWord_31 : decode cd_Row_addWord 31 = .ok (.iload_n 1, 1) := by decide +kernel
theorem d_Row_addWord_32 : decode cd_Row_addWord 32 = .ok (.bipush 24, 2) := by decide +kernel
theorem d_Row_addWord_34 : decode cd_Row_addWord 34 = .ok (.ishr, 1) := by decide +kernel
theorem d_Row_addWord_35 : decode cd_Row_addWord 35 = .ok (.invokevirtual 26, 3) := by decide +kernel
theorem d_Row_addWord_38 : decode cd_Row_addWord 38 = .ok (.ifCond .eq 7, 3) := by decide +kernel
theorem d_Row_addWord_41 : decode cd_Row_addWord 41 = .ok (.iconst 1, 1) := by decide +kernel
theorem d_Row_addWord_42 : decode cd_Row_addWord 42 = .ok (.goto 4, 3) := by decide +kernel
theorem d_Row_addWord_45 : decode cd_Row_addWord 45 = .ok (.iconst 0, 1) := by decide +kernel
theorem d_Row_addWord_46 : decode cd_Row_addWord 46 = .ok (.ireturn, 1) := by decide +kernel
end
section
abbrev wd_Row_addFrom (r ra o oa : Nat) (cB cI cJ : ClassId) (rL oL : Nat) (rn : Int32) (rf : Nat → Int32) (on : Int32) (of : Nat → Int32) : va_W := [(r, .inr (1, [.ref ra, .int rn])), (ra, .inl (cB, rL, .inl rf)), (o, .inr (1, [.ref oa, .int on])), (oa, .inl (cB, oL, .inl of))]
abbrev rm_Row_addFrom : Room := { frames := 1, cells := 0, slots := 0, locals := 18 }
section
variable {p : Program} {l : Launch} {e : Env} {s : State} {m : MethodId} {args : Array Value} {below : List Frame} {meth : Method} {c : Code} {dC : Nat → ClassId} {dI : Nat → Nat → Nat} {A : Nat → Prop} {cB cI cJ : ClassId} {H : Heap} {locs : List Loc} {ls : Array Slot} {N : Nat} {r ra o oa rL oL : Nat}
noncomputable def j_Row_addFrom_0 (rL : Nat) (oL : Nat) (x2 : Int32) (x3 : Int32) (rn : Int32) (rf : Nat → Int32) (on : Int32) (of : Nat → Int32)  : Option (Int32 × Int32 × (Nat → Int32)) :=
  (if x2 < 0 then (some ((0 : Int32), rn, rf) : Option (Int32 × Int32 × (Nat → Int32))) else (if (x3 - x2) < 0 then (some ((0 : Int32), rn, rf) : Option (Int32 × Int32 × (Nat → Int32))) else (if on < x3 then (some ((0 : Int32), rn, rf) : Option (Int32 × Int32 × (Nat → Int32))) else (if (x3 - x2) ≤ ((Int32.ofNat rL) - rn) then as_ ((¬ x2 < 0) ∧ (¬ rn < 0) ∧ (¬ (x3 - x2) < 0) ∧ (x2.toNatClampNeg + (x3 - x2).toNatClampNeg ≤ oL) ∧ (rn.toNatClampNeg + (x3 - x2).toNatClampNeg ≤ rL) ∧ (∀ i, i < (x3 - x2).toNatClampNeg → fits .byte (.int (of (x2.toNatClampNeg + i))) = true)) ((some ((1 : Int32), (rn + (x3 - x2)), (va_cpy of rf x2.toNatClampNeg rn.toNatClampNeg (x3 - x2).toNatClampNeg)) : Option (Int32 × Int32 × (Nat → Int32)))) else (some ((0 : Int32), rn, rf) : Option (Int32 × Int32 × (Nat → Int32)))))))
set_option maxHeartbeats 4000000 in
set_option maxRecDepth 100000 in
theorem k_Row_addFrom_0 {r_z : Int32} {rn_z : Int32} {rf_z : Nat → Int32} (C : Fx p s m args meth c cd_Row_addFrom 5 R_Row lw_g (some .boolean)) (hK : va_K (dC, dI) vwCl [(cB, .byte), (cI, .int), (cJ, .long)] s) (hA : ∀ q, s.heap.size ≤ q → A q) (x2 : Int32) (x3 : Int32) (rn : Int32) (rf : Nat → Int32) (on : Int32) (of : Nat → Int32)  (hf : j_Row_addFrom_0 rL oL x2 x3 rn rf on of  = some (r_z, rn_z, rf_z)) (hP : va_P (dC, dI) vwCl (wd_Row_addFrom r ra o oa cB cI cJ rL oL rn rf on of) H) (hD : va_D A (wd_Row_addFrom r ra o oa cB cI cJ rL oL rn rf on of)) (hS : va_S A s.heap H locs) (hl : lv_has ls 5 [(0, .ref r), (1, .ref o), (2, .int x2), (3, .int x3)]) : W p l e rm_Row_addFrom s m args below meth c H locs 0 0 (MQ below (sQi (dC, dI) vwCl [(cB, .byte), (cI, .int), (cJ, .long)] A r_z (wd_Row_addFrom r ra o oa cB cI cJ rL oL rn_z rf_z on of)) args s 0 0 A) (F0 m 0 ls []) := by
  obtain ⟨hx, hb, hml, hown, hts, hr, hlocks, hZ⟩ := id C
  unfold j_Row_addFrom_0 at hf
  refine lv_iload_n hx hb d_Row_addFrom_0 rfl (lv_at hl 3 rfl) ?_
  refine lv_iload_n hx hb d_Row_addFrom_1 rfl (lv_at hl 2 rfl) ?_
  refine lv_isub hx hb d_Row_addFrom_2 ?_
  refine lv_istore (lv' := [(4, .int (x3 - x2)), (0, .ref r), (1, .ref o), (2, .int x2), (3, .int x3)]) hx hb d_Row_addFrom_3 hl (by decide) rfl (fun ls hl => ?_)
  refine lv_iload_n hx hb d_Row_addFrom_5 rfl (lv_at hl 3 rfl) ?_
  refine lv_if_lt (tgt := 37) hx hb d_Row_addFrom_6 (by decide) (fun c_6 => ?_) (fun c_6 => ?_)
  · have hf := br_pos c_6 hf
    refine lv_iconst (v := 0) hx hb d_Row_addFrom_37 (by decide) ?_
    cases hf
    exact s_zret hx hb hr (by decide) hlocks hP hK hD hS d_Row_addFrom_38
  · have hf := br_neg c_6 hf
    refine lv_iload hx hb d_Row_addFrom_9 (lv_at hl 0 rfl) ?_
    refine lv_if_lt (tgt := 37) hx hb d_Row_addFrom_11 (by decide) (fun c_11 => ?_) (fun c_11 => ?_)
    · have hf := br_pos c_11 hf
      refine lv_iconst (v := 0) hx hb d_Row_addFrom_37 (by decide) ?_
      cases hf
      exact s_zret hx hb hr (by decide) hlocks hP hK hD hS d_Row_addFrom_38
    · have hf := br_neg c_11 hf
      refine lv_iload_n hx hb d_Row_addFrom_14 rfl (lv_at hl 4 rfl) ?_
      refine lv_aload_n hx hb d_Row_addFrom_15 rfl (lv_at hl 2 rfl) ?_
      refine va_get (D := (dC, dI)) (ci := 1) (v := .int on) (C := R_Row) (T := T_Row) (N := 2) hx hb hts w_0 hown hK hP 2 rfl rfl 1 (by decide) (hts _ w_1) (fun _ h9 => h9) rfl d_Row_addFrom_16 ?_
      refine lv_icmp_gt (tgt := 37) hx hb d_Row_addFrom_19 (by decide) (fun c_19 => ?_) (fun c_19 => ?_)
      · have hf := br_pos c_19 hf
        refine lv_iconst (v := 0) hx hb d_Row_addFrom_37 (by decide) ?_
        cases hf
        exact s_zret hx hb hr (by decide) hlocks hP hK hD hS d_Row_addFrom_38
      · have hf := br_neg c_19 hf
        refine lv_iload hx hb d_Row_addFrom_22 (lv_at hl 0 rfl) ?_
        refine lv_aload_n hx hb d_Row_addFrom_24 rfl (lv_at hl 1 rfl) ?_
        refine va_get (D := (dC, dI)) (ci := 1) (v := .ref ra) (C := R_Row) (T := T_Row) (N := 2) hx hb hts w_0 hown hK hP 0 rfl rfl 0 (by decide) (hts _ w_2) (fun _ h9 => h9) rfl d_Row_addFrom_25 ?_
        refine va_alen (v := (Int32.ofNat rL)) hx hb hK hP 1 0 rfl rfl rfl d_Row_addFrom_28 ?_
        refine lv_aload_n hx hb d_Row_addFrom_29 rfl (lv_at hl 1 rfl) ?_
        refine va_get (D := (dC, dI)) (ci := 1) (v := .int rn) (C := R_Row) (T := T_Row) (N := 2) hx hb hts w_0 hown hK hP 0 rfl rfl 1 (by decide) (hts _ w_1) (fun _ h9 => h9) rfl d_Row_addFrom_30 ?_
        refine lv_isub hx hb d_Row_addFrom_33 ?_
        refine lv_icmp_le (tgt := 39) hx hb d_Row_addFrom_34 (by decide) (fun c_34 => ?_) (fun c_34 => ?_)
        · have hf := br_pos c_34 hf
          refine lv_aload_n hx hb d_Row_addFrom_39 rfl (lv_at hl 2 rfl) ?_
          refine va_get (D := (dC, dI)) (ci := 1) (v := .ref oa) (C := R_Row) (T := T_Row) (N := 2) hx hb hts w_0 hown hK hP 2 rfl rfl 0 (by decide) (hts _ w_2) (fun _ h9 => h9) rfl d_Row_addFrom_40 ?_
          refine lv_iload_n hx hb d_Row_addFrom_43 rfl (lv_at hl 3 rfl) ?_
          refine lv_aload_n hx hb d_Row_addFrom_44 rfl (lv_at hl 1 rfl) ?_
          refine va_get (D := (dC, dI)) (ci := 1) (v := .ref ra) (C := R_Row) (T := T_Row) (N := 2) hx hb hts w_0 hown hK hP 0 rfl rfl 0 (by decide) (hts _ w_2) (fun _ h9 => h9) rfl d_Row_addFrom_45 ?_
          refine lv_aload_n hx hb d_Row_addFrom_48 rfl (lv_at hl 1 rfl) ?_
          refine va_get (D := (dC, dI)) (ci := 1) (v := .int rn) (C := R_Row) (T := T_Row) (N := 2) hx hb hts w_0 hown hK hP 0 rfl rfl 1 (by decide) (hts _ w_1) (fun _ h9 => h9) rfl d_Row_addFrom_49 ?_
          refine lv_iload hx hb d_Row_addFrom_52 (lv_at hl 0 rfl) ?_
          obtain ⟨⟨h1c, h2c, h3c, h4c, h5c, h6c⟩, hf⟩ := as_some hf
          refine va_copyi (ty := .byte) hx hb (hml.trans hl.1.symm) hown (hts _ w_3) (hts _ w_4) (hts _ w_5) (hts _ w_6) hK hP hD hS 3 1 0 0 rfl rfl rfl rfl rfl h1c h2c h3c h4c h5c h6c (Nat.le_of_ble_eq_true rfl) (by decide +kernel) d_Row_addFrom_54 (fun H locs hP hD hS => ?_)
          have hP : va_P (dC, dI) vwCl (wd_Row_addFrom r ra o oa cB cI cJ rL oL rn (va_cpy of rf x2.toNatClampNeg rn.toNatClampNeg (x3 - x2).toNatClampNeg) on of) H := hP
          have hD : va_D A (wd_Row_addFrom r ra o oa cB cI cJ rL oL rn (va_cpy of rf x2.toNatClampNeg rn.toNatClampNeg (x3 - x2).toNatClampNeg) on of) := hD
          refine lv_aload_n hx hb d_Row_addFrom_57 rfl (lv_at hl 1 rfl) ?_
          refine lv_dup hx hb d_Row_addFrom_58 rfl ?_
          refine va_get (D := (dC, dI)) (ci := 1) (v := .int rn) (C := R_Row) (T := T_Row) (N := 2) hx hb hts w_0 hown hK hP 0 rfl rfl 1 (by decide) (hts _ w_1) (fun _ h9 => h9) rfl d_Row_addFrom_59 ?_
          refine lv_iload hx hb d_Row_addFrom_62 (lv_at hl 0 rfl) ?_
          refine lv_iadd hx hb d_Row_addFrom_64 ?_
          refine va_put (D := (dC, dI)) (ci := 1) (v := .int (rn + (x3 - x2))) (ty := .int) (C := R_Row) (T := T_Row) (N := 2) hx hb hts w_0 ty_Row ty_Row_ok nm_Row hown hK hP hD hS 0 rfl rfl 1 (by decide) (hts _ w_1) (fun _ h9 => h9) rfl (by decide +kernel) rfl rfl (Nat.le_of_ble_eq_true rfl) d_Row_addFrom_65 (fun H locs hP hD hS => ?_)
          have hP : va_P (dC, dI) vwCl (wd_Row_addFrom r ra o oa cB cI cJ rL oL (rn + (x3 - x2)) (va_cpy of rf x2.toNatClampNeg rn.toNatClampNeg (x3 - x2).toNatClampNeg) on of) H := hP
          have hD : va_D A (wd_Row_addFrom r ra o oa cB cI cJ rL oL (rn + (x3 - x2)) (va_cpy of rf x2.toNatClampNeg rn.toNatClampNeg (x3 - x2).toNatClampNeg) on of) := hD
          refine lv_iconst (v := 1) hx hb d_Row_addFrom_68 (by decide) ?_
          cases hf
          exact s_zret hx hb hr (by decide) hlocks hP hK hD hS d_Row_addFrom_69
        · have hf := br_neg c_34 hf
          refine lv_iconst (v := 0) hx hb d_Row_addFrom_37 (by decide) ?_
          cases hf
          exact s_zret hx hb hr (by decide) hlocks hP hK hD hS d_Row_addFrom_38
end
noncomputable abbrev f_Row_addFrom (rL : Nat) (oL : Nat) (x2 : Int32) (x3 : Int32) (rn : Int32) (rf : Nat → Int32) (on : Int32) (of : Nat → Int32) : Option (Int32 × Int32 × (Nat → Int32)) := j_Row_addFrom_0 rL oL x2 x3 rn rf on of
set_option maxRecDepth 100000 in
theorem c_Row_addFrom (l : Launch) (dC : Nat → ClassId) (dI : Nat → Nat → Nat) (cB cI cJ : ClassId) (r ra o oa rL oL : Nat) (rn : Int32) (rf : Nat → Int32) (on : Int32) (of : Nat → Int32) (x2 : Int32) (x3 : Int32) {r_z : Int32} {rn_z : Int32} {rf_z : Nat → Int32} (hf : f_Row_addFrom rL oL x2 x3 rn rf on of = some (r_z, rn_z, rf_z)) : MetI l y_Row_addFrom ws_Row_addFrom rm_Row_addFrom (dC, dI) vwCl [(cB, .byte), (cI, .int), (cJ, .long)] [.ref r, .ref o, .int x2, .int x3] (wd_Row_addFrom r ra o oa cB cI cJ rL oL rn rf on of) r_z (wd_Row_addFrom r ra o oa cB cI cJ rL oL rn_z rf_z on of) 0 0 :=
  s_ofi (bytes := cd_Row_addFrom) (maxL := 5) (ret := (some .boolean)) (by decide) rfl (Nat.le_of_ble_eq_true rfl) (fun p e s m below meth c A ls C hK hA hP hD hS hl => k_Row_addFrom_0 C hK hA x2 x3 rn rf on of hf hP hD hS (lv_sub hl [0, 1, 2, 3] rfl))
abbrev wd_Row_addFrom_s (r ra : Nat) (cB cI cJ : ClassId) (rL : Nat) (rn : Int32) (rf : Nat → Int32) : va_W := [(r, .inr (1, [.ref ra, .int rn])), (ra, .inl (cB, rL, .inl rf))]
abbrev rm_Row_addFrom_s : Room := { frames := 1, cells := 0, slots := 0, locals := 18 }
section
variable {p : Program} {l : Launch} {e : Env} {s : State} {m : MethodId} {args : Array Value} {below : List Frame} {meth : Method} {c : Code} {dC : Nat → ClassId} {dI : Nat → Nat → Nat} {A : Nat → Prop} {cB cI cJ : ClassId} {H : Heap} {locs : List Loc} {ls : Array Slot} {N : Nat} {r ra rL : Nat}
noncomputable def j_Row_addFrom_s_0 (rL : Nat) (x2 : Int32) (x3 : Int32) (rn : Int32) (rf : Nat → Int32)  : Option (Int32 × Int32 × (Nat → Int32)) :=
  (if x2 < 0 then (some ((0 : Int32), rn, rf) : Option (Int32 × Int32 × (Nat → Int32))) else (if (x3 - x2) < 0 then (some ((0 : Int32), rn, rf) : Option (Int32 × Int32 × (Nat → Int32))) else (if rn < x3 then (some ((0 : Int32), rn, rf) : Option (Int32 × Int32 × (Nat → Int32))) else (if (x3 - x2) ≤ ((Int32.ofNat rL) - rn) then as_ ((¬ x2 < 0) ∧ (¬ rn < 0) ∧ (¬ (x3 - x2) < 0) ∧ (x2.toNatClampNeg + (x3 - x2).toNatClampNeg ≤ rL) ∧ (rn.toNatClampNeg + (x3 - x2).toNatClampNeg ≤ rL) ∧ (∀ i, i < (x3 - x2).toNatClampNeg → fits .byte (.int (rf (x2.toNatClampNeg + i))) = true)) ((some ((1 : Int32), (rn + (x3 - x2)), (va_cpy rf rf x2.toNatClampNeg rn.toNatClampNeg (x3 - x2).toNatClampNeg)) : Option (Int32 × Int32 × (Nat → Int32)))) else (some ((0 : Int32), rn, rf) : Option (Int32 × Int32 × (Nat → Int32)))))))
set_option maxHeartbeats 4000000 in
set_option maxRecDepth 100000 in
theorem k_Row_addFrom_s_0 {r_z : Int32} {rn_z : Int32} {rf_z : Nat → Int32} (C : Fx p s m args meth c cd_Row_addFrom 5 R_Row lw_g (some .boolean)) (hK : va_K (dC, dI) vwCl [(cB, .byte), (cI, .int), (cJ, .long)] s) (hA : ∀ q, s.heap.size ≤ q → A q) (x2 : Int32) (x3 : Int32) (rn : Int32) (rf : Nat → Int32)  (hf : j_Row_addFrom_s_0 rL x2 x3 rn rf  = some (r_z, rn_z, rf_z)) (hP : va_P (dC, dI) vwCl (wd_Row_addFrom_s r ra cB cI cJ rL rn rf) H) (hD : va_D A (wd_Row_addFrom_s r ra cB cI cJ rL rn rf)) (hS : va_S A s.heap H locs) (hl : lv_has ls 5 [(0, .ref r), (1, .ref r), (2, .int x2), (3, .int x3)]) : W p l e rm_Row_addFrom_s s m args below meth c H locs 0 0 (MQ below (sQi (dC, dI) vwCl [(cB, .byte), (cI, .int), (cJ, .long)] A r_z (wd_Row_addFrom_s r ra cB cI cJ rL rn_z rf_z)) args s 0 0 A) (F0 m 0 ls []) := by
  obtain ⟨hx, hb, hml, hown, hts, hr, hlocks, hZ⟩ := id C
  unfold j_Row_addFrom_s_0 at hf
  refine lv_iload_n hx hb d_Row_addFrom_0 rfl (lv_at hl 3 rfl) ?_
  refine lv_iload_n hx hb d_Row_addFrom_1 rfl (lv_at hl 2 rfl) ?_
  refine lv_isub hx hb d_Row_addFrom_2 ?_
  refine lv_istore (lv' := [(4, .int (x3 - x2)), (0, .ref r), (1, .ref r), (2, .int x2), (3, .int x3)]) hx hb d_Row_addFrom_3 hl (by decide) rfl (fun ls hl => ?_)
  refine lv_iload_n hx hb d_Row_addFrom_5 rfl (lv_at hl 3 rfl) ?_
  refine lv_if_lt (tgt := 37) hx hb d_Row_addFrom_6 (by decide) (fun c_6 => ?_) (fun c_6 => ?_)
  · have hf := br_pos c_6 hf
    refine lv_iconst (v := 0) hx hb d_Row_addFrom_37 (by decide) ?_
    cases hf
    exact s_zret hx hb hr (by decide) hlocks hP hK hD hS d_Row_addFrom_38
  · have hf := br_neg c_6 hf
    refine lv_iload hx hb d_Row_addFrom_9 (lv_at hl 0 rfl) ?_
    refine lv_if_lt (tgt := 37) hx hb d_Row_addFrom_11 (by decide) (fun c_11 => ?_) (fun c_11 => ?_)
    · have hf := br_pos c_11 hf
      refine lv_iconst (v := 0) hx hb d_Row_addFrom_37 (by decide) ?_
      cases hf
      exact s_zret hx hb hr (by decide) hlocks hP hK hD hS d_Row_addFrom_38
    · have hf := br_neg c_11 hf
      refine lv_iload_n hx hb d_Row_addFrom_14 rfl (lv_at hl 4 rfl) ?_
      refine lv_aload_n hx hb d_Row_addFrom_15 rfl (lv_at hl 2 rfl) ?_
      refine va_get (D := (dC, dI)) (ci := 1) (v := .int rn) (C := R_Row) (T := T_Row) (N := 2) hx hb hts w_0 hown hK hP 0 rfl rfl 1 (by decide) (hts _ w_1) (fun _ h9 => h9) rfl d_Row_addFrom_16 ?_
      refine lv_icmp_gt (tgt := 37) hx hb d_Row_addFrom_19 (by decide) (fun c_19 => ?_) (fun c_19 => ?_)
      · have hf := br_pos c_19 hf
        refine lv_iconst (v := 0) hx hb d_Row_addFrom_37 (by decide) ?_
        cases hf
        exact s_zret hx hb hr (by decide) hlocks hP hK hD hS d_Row_addFrom_38
      · have hf := br_neg c_19 hf
        refine lv_iload hx hb d_Row_addFrom_22 (lv_at hl 0 rfl) ?_
        refine lv_aload_n hx hb d_Row_addFrom_24 rfl (lv_at hl 1 rfl) ?_
        refine va_get (D := (dC, dI)) (ci := 1) (v := .ref ra) (C := R_Row) (T := T_Row) (N := 2) hx hb hts w_0 hown hK hP 0 rfl rfl 0 (by decide) (hts _ w_2) (fun _ h9 => h9) rfl d_Row_addFrom_25 ?_
        refine va_alen (v := (Int32.ofNat rL)) hx hb hK hP 1 0 rfl rfl rfl d_Row_addFrom_28 ?_
        refine lv_aload_n hx hb d_Row_addFrom_29 rfl (lv_at hl 1 rfl) ?_
        refine va_get (D := (dC, dI)) (ci := 1) (v := .int rn) (C := R_Row) (T := T_Row) (N := 2) hx hb hts w_0 hown hK hP 0 rfl rfl 1 (by decide) (hts _ w_1) (fun _ h9 => h9) rfl d_Row_addFrom_30 ?_
        refine lv_isub hx hb d_Row_addFrom_33 ?_
        refine lv_icmp_le (tgt := 39) hx hb d_Row_addFrom_34 (by decide) (fun c_34 => ?_) (fun c_34 => ?_)
        · have hf := br_pos c_34 hf
          refine lv_aload_n hx hb d_Row_addFrom_39 rfl (lv_at hl 2 rfl) ?_
          refine va_get (D := (dC, dI)) (ci := 1) (v := .ref ra) (C := R_Row) (T := T_Row) (N := 2) hx hb hts w_0 hown hK hP 0 rfl rfl 0 (by decide) (hts _ w_2) (fun _ h9 => h9) rfl d_Row_addFrom_40 ?_
          refine lv_iload_n hx hb d_Row_addFrom_43 rfl (lv_at hl 3 rfl) ?_
          refine lv_aload_n hx hb d_Row_addFrom_44 rfl (lv_at hl 1 rfl) ?_
          refine va_get (D := (dC, dI)) (ci := 1) (v := .ref ra) (C := R_Row) (T := T_Row) (N := 2) hx hb hts w_0 hown hK hP 0 rfl rfl 0 (by decide) (hts _ w_2) (fun _ h9 => h9) rfl d_Row_addFrom_45 ?_
          refine lv_aload_n hx hb d_Row_addFrom_48 rfl (lv_at hl 1 rfl) ?_
          refine va_get (D := (dC, dI)) (ci := 1) (v := .int rn) (C := R_Row) (T := T_Row) (N := 2) hx hb hts w_0 hown hK hP 0 rfl rfl 1 (by decide) (hts _ w_1) (fun _ h9 => h9) rfl d_Row_addFrom_49 ?_
          refine lv_iload hx hb d_Row_addFrom_52 (lv_at hl 0 rfl) ?_
          obtain ⟨⟨h1c, h2c, h3c, h4c, h5c, h6c⟩, hf⟩ := as_some hf
          refine va_copyi (ty := .byte) hx hb (hml.trans hl.1.symm) hown (hts _ w_3) (hts _ w_4) (hts _ w_5) (hts _ w_6) hK hP hD hS 1 1 0 0 rfl rfl rfl rfl rfl h1c h2c h3c h4c h5c h6c (Nat.le_of_ble_eq_true rfl) (by decide +kernel) d_Row_addFrom_54 (fun H locs hP hD hS => ?_)
          have hP : va_P (dC, dI) vwCl (wd_Row_addFrom_s r ra cB cI cJ rL rn (va_cpy rf rf x2.toNatClampNeg rn.toNatClampNeg (x3 - x2).toNatClampNeg)) H := hP
          have hD : va_D A (wd_Row_addFrom_s r ra cB cI cJ rL rn (va_cpy rf rf x2.toNatClampNeg rn.toNatClampNeg (x3 - x2).toNatClampNeg)) := hD
          refine lv_aload_n hx hb d_Row_addFrom_57 rfl (lv_at hl 1 rfl) ?_
          refine lv_dup hx hb d_Row_addFrom_58 rfl ?_
          refine va_get (D := (dC, dI)) (ci := 1) (v := .int rn) (C := R_Row) (T := T_Row) (N := 2) hx hb hts w_0 hown hK hP 0 rfl rfl 1 (by decide) (hts _ w_1) (fun _ h9 => h9) rfl d_Row_addFrom_59 ?_
          refine lv_iload hx hb d_Row_addFrom_62 (lv_at hl 0 rfl) ?_
          refine lv_iadd hx hb d_Row_addFrom_64 ?_
          refine va_put (D := (dC, dI)) (ci := 1) (v := .int (rn + (x3 - x2))) (ty := .int) (C := R_Row) (T := T_Row) (N := 2) hx hb hts w_0 ty_Row ty_Row_ok nm_Row hown hK hP hD hS 0 rfl rfl 1 (by decide) (hts _ w_1) (fun _ h9 => h9) rfl (by decide +kernel) rfl rfl (Nat.le_of_ble_eq_true rfl) d_Row_addFrom_65 (fun H locs hP hD hS => ?_)
          have hP : va_P (dC, dI) vwCl (wd_Row_addFrom_s r ra cB cI cJ rL (rn + (x3 - x2)) (va_cpy rf rf x2.toNatClampNeg rn.toNatClampNeg (x3 - x2).toNatClampNeg)) H := hP
          have hD : va_D A (wd_Row_addFrom_s r ra cB cI cJ rL (rn + (x3 - x2)) (va_cpy rf rf x2.toNatClampNeg rn.toNatClampNeg (x3 - x2).toNatClampNeg)) := hD
          refine lv_iconst (v := 1) hx hb d_Row_addFrom_68 (by decide) ?_
          cases hf
          exact s_zret hx hb hr (by decide) hlocks hP hK hD hS d_Row_addFrom_69
        · have hf := br_neg c_34 hf
          refine lv_iconst (v := 0) hx hb d_Row_addFrom_37 (by decide) ?_
          cases hf
          exact s_zret hx hb hr (by decide) hlocks hP hK hD hS d_Row_addFrom_38
end
noncomputable abbrev f_Row_addFrom_s (rL : Nat) (x2 : Int32) (x3 : Int32) (rn : Int32) (rf : Nat → Int32) : Option (Int32 × Int32 × (Nat → Int32)) := j_Row_addFrom_s_0 rL x2 x3 rn rf
set_option maxRecDepth 100000 in
theorem c_Row_addFrom_s (l : Launch) (dC : Nat → ClassId) (dI : Nat → Nat → Nat) (cB cI cJ : ClassId) (r ra rL : Nat) (rn : Int32) (rf : Nat → Int32) (x2 : Int32) (x3 : Int32) {r_z : Int32} {rn_z : Int32} {rf_z : Nat → Int32} (hf : f_Row_addFrom_s rL x2 x3 rn rf = some (r_z, rn_z, rf_z)) : MetI l y_Row_addFrom ws_Row_addFrom rm_Row_addFrom_s (dC, dI) vwCl [(cB, .byte), (cI, .int), (cJ, .long)] [.ref r, .ref r, .int x2, .int x3] (wd_Row_addFrom_s r ra cB cI cJ rL rn rf) r_z (wd_Row_addFrom_s r ra cB cI cJ rL rn_z rf_z) 0 0 :=
  s_ofi (bytes := cd_Row_addFrom) (maxL := 5) (ret := (some .boolean)) (by decide) rfl (Nat.le_of_ble_eq_true rfl) (fun p e s m below meth c A ls C hK hA hP hD hS hl => k_Row_addFrom_s_0 C hK hA x2 x3 rn rf hf hP hD hS (lv_sub hl [0, 1, 2, 3] rfl))
end
section
abbrev wd_Row_count (r ra : Nat) (cB cI cJ : ClassId) (rn : Int32) : va_W := [(r, .inr (1, [.ref ra, .int rn]))]
abbrev rm_Row_count : Room := { frames := 0, cells := 0, slots := 0, locals := 0 }
section
variable {p : Program} {l : Launch} {e : Env} {s : State} {m : MethodId} {args : Array Value} {below : List Frame} {meth : Method} {c : Code} {dC : Nat → ClassId} {dI : Nat → Nat → Nat} {A : Nat → Prop} {cB cI cJ : ClassId} {H : Heap} {locs : List Loc} {ls : Array Slot} {N : Nat} {r ra : Nat}
noncomputable def j_Row_count_0 (rn : Int32)  : Option (Int32) :=
  (some rn : Option (Int32))
set_option maxHeartbeats 4000000 in
set_option maxRecDepth 100000 in
theorem k_Row_count_0 {r_z : Int32} (C : Fx p s m args meth c cd_Row_count 1 R_Row lw_g (some .int)) (hK : va_K (dC, dI) vwCl [(cB, .byte), (cI, .int), (cJ, .long)] s) (hA : ∀ q, s.heap.size ≤ q → A q) (rn : Int32)  (hf : j_Row_count_0 rn  = some r_z) (hP : va_P (dC, dI) vwCl (wd_Row_count r ra cB cI cJ rn) H) (hD : va_D A (wd_Row_count r ra cB cI cJ rn)) (hS : va_S A s.heap H locs) (hl : lv_has ls 1 [(0, .ref r)]) : W p l e rm_Row_count s m args below meth c H locs 0 0 (MQ below (sQi (dC, dI) vwCl [(cB, .byte), (cI, .int), (cJ, .long)] A r_z (wd_Row_count r ra cB cI cJ rn)) args s 0 0 A) (F0 m 0 ls []) := by
  obtain ⟨hx, hb, hml, hown, hts, hr, hlocks, hZ⟩ := id C
  unfold j_Row_count_0 at hf
  refine lv_aload_n hx hb d_Row_count_0 rfl (lv_at hl 0 rfl) ?_
  refine va_get (D := (dC, dI)) (ci := 1) (v := .int rn) (C := R_Row) (T := T_Row) (N := 2) hx hb hts w_0 hown hK hP 0 rfl rfl 1 (by decide) (hts _ w_1) (fun _ h9 => h9) rfl d_Row_count_1 ?_
  cases hf
  exact s_iret hx hb hr hlocks hP hK hD hS d_Row_count_4
end
noncomputable abbrev f_Row_count (rn : Int32) : Option (Int32) := j_Row_count_0 rn
set_option maxRecDepth 100000 in
theorem c_Row_count (l : Launch) (dC : Nat → ClassId) (dI : Nat → Nat → Nat) (cB cI cJ : ClassId) (r ra : Nat) (rn : Int32)  {r_z : Int32} (hf : f_Row_count rn = some r_z) : MetI l y_Row_count ws_Row_count rm_Row_count (dC, dI) vwCl [(cB, .byte), (cI, .int), (cJ, .long)] [.ref r] (wd_Row_count r ra cB cI cJ rn) r_z (wd_Row_count r ra cB cI cJ rn) 0 0 :=
  s_ofi (bytes := cd_Row_count) (maxL := 1) (ret := (some .int)) (by decide) rfl (Nat.le_of_ble_eq_true rfl) (fun p e s m below meth c A ls C hK hA hP hD hS hl => k_Row_count_0 C hK hA rn hf hP hD hS (lv_sub hl [0] rfl))
end
section
abbrev wd_Row_hasRoomFor (r ra : Nat) (cB cI cJ : ClassId) (rL : Nat) (rn : Int32) (rf : Nat → Int32) : va_W := [(r, .inr (1, [.ref ra, .int rn])), (ra, .inl (cB, rL, .inl rf))]
abbrev rm_Row_hasRoomFor : Room := { frames := 0, cells := 0, slots := 0, locals := 0 }
section
variable {p : Program} {l : Launch} {e : Env} {s : State} {m : MethodId} {args : Array Value} {below : List Frame} {meth : Method} {c : Code} {dC : Nat → ClassId} {dI : Nat → Nat → Nat} {A : Nat → Prop} {cB cI cJ : ClassId} {H : Heap} {locs : List Loc} {ls : Array Slot} {N : Nat} {r ra rL : Nat}
noncomputable def j_Row_hasRoomFor_0 (rL : Nat) (x1 : Int64) (rn : Int32)  : Option (Int32) :=
  (if 0 < (lg_cmp x1 (((Int32.ofNat rL) - rn).toInt64)) then (some (0 : Int32) : Option (Int32)) else (some (1 : Int32) : Option (Int32)))
set_option maxHeartbeats 4000000 in
set_option maxRecDepth 100000 in
theorem k_Row_hasRoomFor_0 {r_z : Int32} (C : Fx p s m args meth c cd_Row_hasRoomFor 3 R_Row lw_g (some .boolean)) (hK : va_K (dC, dI) vwCl [(cB, .byte), (cI, .int), (cJ, .long)] s) (hA : ∀ q, s.heap.size ≤ q → A q) (x1 : Int64) (rn : Int32) (rf : Nat → Int32)  (hf : j_Row_hasRoomFor_0 rL x1 rn  = some r_z) (hP : va_P (dC, dI) vwCl (wd_Row_hasRoomFor r ra cB cI cJ rL rn rf) H) (hD : va_D A (wd_Row_hasRoomFor r ra cB cI cJ rL rn rf)) (hS : va_S A s.heap H locs) (hl : lv_has ls 3 [(0, .ref r), (1, .long x1)]) : W p l e rm_Row_hasRoomFor s m args below meth c H locs 0 0 (MQ below (sQi (dC, dI) vwCl [(cB, .byte), (cI, .int), (cJ, .long)] A r_z (wd_Row_hasRoomFor r ra cB cI cJ rL rn rf)) args s 0 0 A) (F0 m 0 ls []) := by
  obtain ⟨hx, hb, hml, hown, hts, hr, hlocks, hZ⟩ := id C
  unfold j_Row_hasRoomFor_0 at hf
  refine lv_lload_n hx hb d_Row_hasRoomFor_0 rfl (lv_at hl 1 rfl) ?_
  refine lv_aload_n hx hb d_Row_hasRoomFor_1 rfl (lv_at hl 0 rfl) ?_
  refine va_get (D := (dC, dI)) (ci := 1) (v := .ref ra) (C := R_Row) (T := T_Row) (N := 2) hx hb hts w_0 hown hK hP 0 rfl rfl 0 (by decide) (hts _ w_2) (fun _ h9 => h9) rfl d_Row_hasRoomFor_2 ?_
  refine va_alen (v := (Int32.ofNat rL)) hx hb hK hP 1 0 rfl rfl rfl d_Row_hasRoomFor_5 ?_
  refine lv_aload_n hx hb d_Row_hasRoomFor_6 rfl (lv_at hl 0 rfl) ?_
  refine va_get (D := (dC, dI)) (ci := 1) (v := .int rn) (C := R_Row) (T := T_Row) (N := 2) hx hb hts w_0 hown hK hP 0 rfl rfl 1 (by decide) (hts _ w_1) (fun _ h9 => h9) rfl d_Row_hasRoomFor_7 ?_
  refine lv_isub hx hb d_Row_hasRoomFor_10 ?_
  refine lv_i2l (v := (((Int32.ofNat rL) - rn).toInt64)) hx hb d_Row_hasRoomFor_11 rfl ?_
  refine W.lcmp hx hb d_Row_hasRoomFor_12 ?_
  refine lv_if_gt (tgt := 20) hx hb d_Row_hasRoomFor_13 (by decide) (fun c_13 => ?_) (fun c_13 => ?_)
  · have hf := br_pos c_13 hf
    refine lv_iconst (v := 0) hx hb d_Row_hasRoomFor_20 (by decide) ?_
    cases hf
    exact s_zret hx hb hr (by decide) hlocks hP hK hD hS d_Row_hasRoomFor_21
  · have hf := br_neg c_13 hf
    refine lv_iconst (v := 1) hx hb d_Row_hasRoomFor_16 (by decide) ?_
    refine lv_goto (tgt := 21) hx hb d_Row_hasRoomFor_17 (by decide) ?_
    cases hf
    exact s_zret hx hb hr (by decide) hlocks hP hK hD hS d_Row_hasRoomFor_21
end
noncomputable abbrev f_Row_hasRoomFor (rL : Nat) (x1 : Int64) (rn : Int32) : Option (Int32) := j_Row_hasRoomFor_0 rL x1 rn
set_option maxRecDepth 100000 in
theorem c_Row_hasRoomFor (l : Launch) (dC : Nat → ClassId) (dI : Nat → Nat → Nat) (cB cI cJ : ClassId) (r ra rL : Nat) (rn : Int32) (rf : Nat → Int32) (x1 : Int64) {r_z : Int32} (hf : f_Row_hasRoomFor rL x1 rn = some r_z) : MetI l y_Row_hasRoomFor ws_Row_hasRoomFor rm_Row_hasRoomFor (dC, dI) vwCl [(cB, .byte), (cI, .int), (cJ, .long)] [.ref r, .long x1] (wd_Row_hasRoomFor r ra cB cI cJ rL rn rf) r_z (wd_Row_hasRoomFor r ra cB cI cJ rL rn rf) 0 0 :=
  s_ofi (bytes := cd_Row_hasRoomFor) (maxL := 3) (ret := (some .boolean)) (by decide) rfl (Nat.le_of_ble_eq_true rfl) (fun p e s m below meth c A ls C hK hA hP hD hS hl => k_Row_hasRoomFor_0 C hK hA x1 rn rf hf hP hD hS (lv_sub hl [0, 1] rfl))
end
section
abbrev wd_Row_cutTo (r ra : Nat) (cB cI cJ : ClassId) (rn : Int32) : va_W := [(r, .inr (1, [.ref ra, .int rn]))]
abbrev rm_Row_cutTo : Room := { frames := 1, cells := 0, slots := 0, locals := 15 }
section
variable {p : Program} {l : Launch} {e : Env} {s : State} {m : MethodId} {args : Array Value} {below : List Frame} {meth : Method} {c : Code} {dC : Nat → ClassId} {dI : Nat → Nat → Nat} {A : Nat → Prop} {cB cI cJ : ClassId} {H : Heap} {locs : List Loc} {ls : Array Slot} {N : Nat} {r ra : Nat}
noncomputable def j_Row_cutTo_0 (x1 : Int32) (rn : Int32)  : Option (Int32) :=
  (some (mx (0 : Int32) (mn rn x1)) : Option (Int32))
set_option maxHeartbeats 4000000 in
set_option maxRecDepth 100000 in
theorem k_Row_cutTo_0 {rn_z : Int32} (C : Fx p s m args meth c cd_Row_cutTo 2 R_Row lw_g none) (hK : va_K (dC, dI) vwCl [(cB, .byte), (cI, .int), (cJ, .long)] s) (hA : ∀ q, s.heap.size ≤ q → A q) (x1 : Int32) (rn : Int32)  (hf : j_Row_cutTo_0 x1 rn  = some rn_z) (hP : va_P (dC, dI) vwCl (wd_Row_cutTo r ra cB cI cJ rn) H) (hD : va_D A (wd_Row_cutTo r ra cB cI cJ rn)) (hS : va_S A s.heap H locs) (hl : lv_has ls 2 [(0, .ref r), (1, .int x1)]) : W p l e rm_Row_cutTo s m args below meth c H locs 0 0 (MQ below (sQv (dC, dI) vwCl [(cB, .byte), (cI, .int), (cJ, .long)] A (wd_Row_cutTo r ra cB cI cJ rn_z)) args s 0 0 A) (F0 m 0 ls []) := by
  obtain ⟨hx, hb, hml, hown, hts, hr, hlocks, hZ⟩ := id C
  unfold j_Row_cutTo_0 at hf
  refine lv_aload_n hx hb d_Row_cutTo_0 rfl (lv_at hl 0 rfl) ?_
  refine lv_iconst (v := 0) hx hb d_Row_cutTo_1 (by decide) ?_
  refine lv_aload_n hx hb d_Row_cutTo_2 rfl (lv_at hl 0 rfl) ?_
  refine va_get (D := (dC, dI)) (ci := 1) (v := .int rn) (C := R_Row) (T := T_Row) (N := 2) hx hb hts w_0 hown hK hP 0 rfl rfl 1 (by decide) (hts _ w_1) (fun _ h9 => h9) rfl d_Row_cutTo_3 ?_
  refine lv_iload_n hx hb d_Row_cutTo_6 rfl (lv_at hl 1 rfl) ?_
  refine s_mmin hx hb (hml.trans hl.1.symm) hown (hts _ w_22) (hts _ w_23) (hts _ w_24) (hts _ w_25) (Nat.le_of_ble_eq_true rfl) (Nat.le_of_ble_eq_true rfl) (Nat.zero_le _) (Nat.zero_le _) d_Row_cutTo_7 ?_
  refine s_mmax hx hb (hml.trans hl.1.symm) hown (hts _ w_26) (hts _ w_27) (hts _ w_24) (hts _ w_28) (Nat.le_of_ble_eq_true rfl) (Nat.le_of_ble_eq_true rfl) (Nat.zero_le _) (Nat.zero_le _) d_Row_cutTo_10 ?_
  refine va_put (D := (dC, dI)) (ci := 1) (v := .int (mx (0 : Int32) (mn rn x1))) (ty := .int) (C := R_Row) (T := T_Row) (N := 2) hx hb hts w_0 ty_Row ty_Row_ok nm_Row hown hK hP hD hS 0 rfl rfl 1 (by decide) (hts _ w_1) (fun _ h9 => h9) rfl (by decide +kernel) rfl rfl (Nat.le_of_ble_eq_true rfl) d_Row_cutTo_13 (fun H locs hP hD hS => ?_)
  have hP : va_P (dC, dI) vwCl (wd_Row_cutTo r ra cB cI cJ (mx (0 : Int32) (mn rn x1))) H := hP
  have hD : va_D A (wd_Row_cutTo r ra cB cI cJ (mx (0 : Int32) (mn rn x1))) := hD
  cases hf
  exact s_vret hx hb hr hlocks hP hK hD hS d_Row_cutTo_16
end
noncomputable abbrev f_Row_cutTo (x1 : Int32) (rn : Int32) : Option (Int32) := j_Row_cutTo_0 x1 rn
set_option maxRecDepth 100000 in
theorem c_Row_cutTo (l : Launch) (dC : Nat → ClassId) (dI : Nat → Nat → Nat) (cB cI cJ : ClassId) (r ra : Nat) (rn : Int32) (x1 : Int32) {rn_z : Int32} (hf : f_Row_cutTo x1 rn = some rn_z) : MetV l y_Row_cutTo ws_Row_cutTo rm_Row_cutTo (dC, dI) vwCl [(cB, .byte), (cI, .int), (cJ, .long)] [.ref r, .int x1] (wd_Row_cutTo r ra cB cI cJ rn)  (wd_Row_cutTo r ra cB cI cJ rn_z) 0 0 :=
  s_ofv (bytes := cd_Row_cutTo) (maxL := 2) (ret := none) (by decide) rfl (Nat.le_of_ble_eq_true rfl) (fun p e s m below meth c A ls C hK hA hP hD hS hl => k_Row_cutTo_0 C hK hA x1 rn hf hP hD hS (lv_sub hl [0, 1] rfl))
end
section
abbrev wd_Row_become (r ra o oa : Nat) (cB cI cJ : ClassId) (rL oL : Nat) (rn : Int32) (rf : Nat → Int32) (on : Int32) (of : Nat → Int32) : va_W := [(r, .inr (1, [.ref ra, .int rn])), (ra, .inl (cB, rL, .inl rf)), (o, .inr (1, [.ref oa, .int on])), (oa, .inl (cB, oL, .inl of))]
abbrev rm_Row_become : Room := { frames := 2, cells := 0, slots := 0, locals := 42 }
section
variable {p : Program} {l : Launch} {e : Env} {s : State} {m : MethodId} {args : Array Value} {below : List Frame} {meth : Method} {c : Code} {dC : Nat → ClassId} {dI : Nat → Nat → Nat} {A : Nat → Prop} {cB cI cJ : ClassId} {H : Heap} {locs : List Loc} {ls : Array Slot} {N : Nat} {r ra o oa rL oL : Nat}
noncomputable def j_Row_become_0 (rL : Nat) (oL : Nat) (rn : Int32) (rf : Nat → Int32) (on : Int32) (of : Nat → Int32)  : Option (Int32 × (Nat → Int32)) :=
  bd1 (f_Row_cutTo (0 : Int32) rn) (fun rn_2 => bd3 (f_Row_addFrom rL oL (0 : Int32) on rn_2 rf on of) (fun r12 rn_12 rf_12 => (some (rn_12, rf_12) : Option (Int32 × (Nat → Int32)))))
set_option maxHeartbeats 4000000 in
set_option maxRecDepth 100000 in
theorem k_Row_become_0 {rn_z : Int32} {rf_z : Nat → Int32} (C : Fx p s m args meth c cd_Row_become 2 R_Row lw_g none) (hK : va_K (dC, dI) vwCl [(cB, .byte), (cI, .int), (cJ, .long)] s) (hA : ∀ q, s.heap.size ≤ q → A q) (rn : Int32) (rf : Nat → Int32) (on : Int32) (of : Nat → Int32)  (hf : j_Row_become_0 rL oL rn rf on of  = some (rn_z, rf_z)) (hP : va_P (dC, dI) vwCl (wd_Row_become r ra o oa cB cI cJ rL oL rn rf on of) H) (hD : va_D A (wd_Row_become r ra o oa cB cI cJ rL oL rn rf on of)) (hS : va_S A s.heap H locs) (hl : lv_has ls 2 [(0, .ref r), (1, .ref o)]) : W p l e rm_Row_become s m args below meth c H locs 0 0 (MQ below (sQv (dC, dI) vwCl [(cB, .byte), (cI, .int), (cJ, .long)] A (wd_Row_become r ra o oa cB cI cJ rL oL rn_z rf_z on of)) args s 0 0 A) (F0 m 0 ls []) := by
  obtain ⟨hx, hb, hml, hown, hts, hr, hlocks, hZ⟩ := id C
  unfold j_Row_become_0 at hf
  refine lv_aload_n hx hb d_Row_become_0 rfl (lv_at hl 0 rfl) ?_
  refine lv_iconst (v := 0) hx hb d_Row_become_1 (by decide) ?_
  obtain ⟨rn_2, hc2, hf⟩ := bd1_some hf
  refine s_Vv (As := [.int (0 : Int32)]) (rest := []) (wr := [(ra, .inl (cB, rL, .inl rf)), (o, .inr (1, [.ref oa, .int on])), (oa, .inl (cB, oL, .inl of))]) (ws' := wd_Row_become r ra o oa cB cI cJ rL oL rn_2 rf on of) C.call (c_Row_cutTo l dC dI cB cI cJ r ra  rn (0 : Int32) hc2) (cwV 1 hts (gd_V w_29 w_30 w_31 w_12 w_32) rfl rfl rfl ⟨rfl, hd_Row_cutTo⟩ ⟨Nat.le_of_ble_eq_true rfl, Nat.le_of_ble_eq_true rfl⟩) rfl hl.1 rfl (Nat.le_of_ble_eq_true rfl) d_Row_become_2 ⟨Nat.le_of_ble_eq_true rfl, Nat.le_of_ble_eq_true rfl⟩ hZ hK hP hD hS hA 1 0 rfl rfl [0] [1, 2, 3] [3, 0, 1, 2] rfl rfl rfl rfl (by decide) rfl rfl (fun H locs hP hD hS => ?_)
  refine lv_aload_n hx hb d_Row_become_5 rfl (lv_at hl 0 rfl) ?_
  refine lv_aload_n hx hb d_Row_become_6 rfl (lv_at hl 1 rfl) ?_
  refine lv_iconst (v := 0) hx hb d_Row_become_7 (by decide) ?_
  refine lv_aload_n hx hb d_Row_become_8 rfl (lv_at hl 1 rfl) ?_
  refine va_get (D := (dC, dI)) (ci := 1) (v := .int on) (C := R_Row) (T := T_Row) (N := 2) hx hb hts w_0 hown hK hP 2 rfl rfl 1 (by decide) (hts _ w_1) (fun _ h9 => h9) rfl d_Row_become_9 ?_
  obtain ⟨r12, rn_12, rf_12, hc12, hf⟩ := bd3_some hf
  refine s_Vi (As := [.ref o, .int (0 : Int32), .int on]) (rest := []) (wr := []) (ws' := wd_Row_become r ra o oa cB cI cJ rL oL rn_12 rf_12 on of) C.call (c_Row_addFrom l dC dI cB cI cJ r ra o oa rL oL rn_2 rf on of (0 : Int32) on hc12) (cwV 3 hts (gd_V w_33 w_19 w_20 w_12 w_21) rfl rfl rfl ⟨rfl, hd_Row_addFrom⟩ ⟨Nat.le_of_ble_eq_true rfl, Nat.le_of_ble_eq_true rfl⟩) rfl hl.1 rfl (Nat.le_of_ble_eq_true rfl) d_Row_become_12 ⟨Nat.le_of_ble_eq_true rfl, Nat.le_of_ble_eq_true rfl⟩ hZ hK hP hD hS hA 1 0 rfl rfl [0, 1, 2, 3] [] [0, 1, 2, 3] rfl rfl rfl rfl (by decide) rfl rfl (fun H locs hP hD hS => ?_)
  refine lv_pop hx hb d_Row_become_15 rfl ?_
  cases hf
  exact s_vret hx hb hr hlocks hP hK hD hS d_Row_become_16
end
noncomputable abbrev f_Row_become (rL : Nat) (oL : Nat) (rn : Int32) (rf : Nat → Int32) (on : Int32) (of : Nat → Int32) : Option (Int32 × (Nat → Int32)) := j_Row_become_0 rL oL rn rf on of
set_option maxRecDepth 100000 in
theorem c_Row_become (l : Launch) (dC : Nat → ClassId) (dI : Nat → Nat → Nat) (cB cI cJ : ClassId) (r ra o oa rL oL : Nat) (rn : Int32) (rf : Nat → Int32) (on : Int32) (of : Nat → Int32)  {rn_z : Int32} {rf_z : Nat → Int32} (hf : f_Row_become rL oL rn rf on of = some (rn_z, rf_z)) : MetV l y_Row_become ws_Row_become rm_Row_become (dC, dI) vwCl [(cB, .byte), (cI, .int), (cJ, .long)] [.ref r, .ref o] (wd_Row_become r ra o oa cB cI cJ rL oL rn rf on of)  (wd_Row_become r ra o oa cB cI cJ rL oL rn_z rf_z on of) 0 0 :=
  s_ofv (bytes := cd_Row_become) (maxL := 2) (ret := none) (by decide) rfl (Nat.le_of_ble_eq_true rfl) (fun p e s m below meth c A ls C hK hA hP hD hS hl => k_Row_become_0 C hK hA rn rf on of hf hP hD hS (lv_sub hl [0, 1] rfl))
end
section
abbrev wd_Row_add (r ra : Nat) (cB cI cJ : ClassId) (rL : Nat) (rn : Int32) (rf : Nat → Int32) : va_W := [(r, .inr (1, [.ref ra, .int rn])), (ra, .inl (cB, rL, .inl rf))]
abbrev rm_Row_add : Room := { frames := 0, cells := 0, slots := 0, locals := 0 }
section
variable {p : Program} {l : Launch} {e : Env} {s : State} {m : MethodId} {args : Array Value} {below : List Frame} {meth : Method} {c : Code} {dC : Nat → ClassId} {dI : Nat → Nat → Nat} {A : Nat → Prop} {cB cI cJ : ClassId} {H : Heap} {locs : List Loc} {ls : Array Slot} {N : Nat} {r ra rL : Nat}
noncomputable def j_Row_add_0 (rL : Nat) (x1 : Int32) (rn : Int32) (rf : Nat → Int32)  : Option (Int32 × Int32 × (Nat → Int32)) :=
  (if rn < 0 then (some ((0 : Int32), rn, rf) : Option (Int32 × Int32 × (Nat → Int32))) else (if rn < (Int32.ofNat rL) then as_ (vp_in rn rL) ((some ((1 : Int32), (rn + (1 : Int32)), (upd rf rn.toNatClampNeg (vp_nar .byte (x1.toInt8.toInt32)))) : Option (Int32 × Int32 × (Nat → Int32)))) else (some ((0 : Int32), rn, rf) : Option (Int32 × Int32 × (Nat → Int32)))))
set_option maxHeartbeats 4000000 in
set_option maxRecDepth 100000 in
theorem k_Row_add_0 {r_z : Int32} {rn_z : Int32} {rf_z : Nat → Int32} (C : Fx p s m args meth c cd_Row_add 2 R_Row lw_g (some .boolean)) (hK : va_K (dC, dI) vwCl [(cB, .byte), (cI, .int), (cJ, .long)] s) (hA : ∀ q, s.heap.size ≤ q → A q) (x1 : Int32) (rn : Int32) (rf : Nat → Int32)  (hf : j_Row_add_0 rL x1 rn rf  = some (r_z, rn_z, rf_z)) (hP : va_P (dC, dI) vwCl (wd_Row_add r ra cB cI cJ rL rn rf) H) (hD : va_D A (wd_Row_add r ra cB cI cJ rL rn rf)) (hS : va_S A s.heap H locs) (hl : lv_has ls 2 [(0, .ref r), (1, .int x1)]) : W p l e rm_Row_add s m args below meth c H locs 0 0 (MQ below (sQi (dC, dI) vwCl [(cB, .byte), (cI, .int), (cJ, .long)] A r_z (wd_Row_add r ra cB cI cJ rL rn_z rf_z)) args s 0 0 A) (F0 m 0 ls []) := by
  obtain ⟨hx, hb, hml, hown, hts, hr, hlocks, hZ⟩ := id C
  unfold j_Row_add_0 at hf
  refine lv_aload_n hx hb d_Row_add_0 rfl (lv_at hl 0 rfl) ?_
  refine va_get (D := (dC, dI)) (ci := 1) (v := .int rn) (C := R_Row) (T := T_Row) (N := 2) hx hb hts w_0 hown hK hP 0 rfl rfl 1 (by decide) (hts _ w_1) (fun _ h9 => h9) rfl d_Row_add_1 ?_
  refine lv_if_lt (tgt := 19) hx hb d_Row_add_4 (by decide) (fun c_4 => ?_) (fun c_4 => ?_)
  · have hf := br_pos c_4 hf
    refine lv_iconst (v := 0) hx hb d_Row_add_19 (by decide) ?_
    cases hf
    exact s_zret hx hb hr (by decide) hlocks hP hK hD hS d_Row_add_20
  · have hf := br_neg c_4 hf
    refine lv_aload_n hx hb d_Row_add_7 rfl (lv_at hl 0 rfl) ?_
    refine va_get (D := (dC, dI)) (ci := 1) (v := .int rn) (C := R_Row) (T := T_Row) (N := 2) hx hb hts w_0 hown hK hP 0 rfl rfl 1 (by decide) (hts _ w_1) (fun _ h9 => h9) rfl d_Row_add_8 ?_
    refine lv_aload_n hx hb d_Row_add_11 rfl (lv_at hl 0 rfl) ?_
    refine va_get (D := (dC, dI)) (ci := 1) (v := .ref ra) (C := R_Row) (T := T_Row) (N := 2) hx hb hts w_0 hown hK hP 0 rfl rfl 0 (by decide) (hts _ w_2) (fun _ h9 => h9) rfl d_Row_add_12 ?_
    refine va_alen (v := (Int32.ofNat rL)) hx hb hK hP 1 0 rfl rfl rfl d_Row_add_15 ?_
    refine lv_icmp_lt (tgt := 21) hx hb d_Row_add_16 (by decide) (fun c_16 => ?_) (fun c_16 => ?_)
    · have hf := br_pos c_16 hf
      refine lv_aload_n hx hb d_Row_add_21 rfl (lv_at hl 0 rfl) ?_
      refine va_get (D := (dC, dI)) (ci := 1) (v := .ref ra) (C := R_Row) (T := T_Row) (N := 2) hx hb hts w_0 hown hK hP 0 rfl rfl 0 (by decide) (hts _ w_2) (fun _ h9 => h9) rfl d_Row_add_22 ?_
      refine lv_aload_n hx hb d_Row_add_25 rfl (lv_at hl 0 rfl) ?_
      refine va_get (D := (dC, dI)) (ci := 1) (v := .int rn) (C := R_Row) (T := T_Row) (N := 2) hx hb hts w_0 hown hK hP 0 rfl rfl 1 (by decide) (hts _ w_1) (fun _ h9 => h9) rfl d_Row_add_26 ?_
      refine lv_iload_n hx hb d_Row_add_29 rfl (lv_at hl 1 rfl) ?_
      refine lv_i2b (v := (x1.toInt8.toInt32)) hx hb d_Row_add_30 rfl ?_
      obtain ⟨h_in, hf⟩ := as_some hf
      refine va_bast hx hb hK hP hD hS 1 0 rfl rfl h_in d_Row_add_31 (fun H locs hP hD hS => ?_)
      have hP : va_P (dC, dI) vwCl (wd_Row_add r ra cB cI cJ rL rn (upd rf rn.toNatClampNeg (vp_nar .byte (x1.toInt8.toInt32)))) H := hP
      have hD : va_D A (wd_Row_add r ra cB cI cJ rL rn (upd rf rn.toNatClampNeg (vp_nar .byte (x1.toInt8.toInt32)))) := hD
      refine lv_aload_n hx hb d_Row_add_32 rfl (lv_at hl 0 rfl) ?_
      refine lv_dup hx hb d_Row_add_33 rfl ?_
      refine va_get (D := (dC, dI)) (ci := 1) (v := .int rn) (C := R_Row) (T := T_Row) (N := 2) hx hb hts w_0 hown hK hP 0 rfl rfl 1 (by decide) (hts _ w_1) (fun _ h9 => h9) rfl d_Row_add_34 ?_
      refine lv_iconst (v := 1) hx hb d_Row_add_37 (by decide) ?_
      refine lv_iadd hx hb d_Row_add_38 ?_
      refine va_put (D := (dC, dI)) (ci := 1) (v := .int (rn + (1 : Int32))) (ty := .int) (C := R_Row) (T := T_Row) (N := 2) hx hb hts w_0 ty_Row ty_Row_ok nm_Row hown hK hP hD hS 0 rfl rfl 1 (by decide) (hts _ w_1) (fun _ h9 => h9) rfl (by decide +kernel) rfl rfl (Nat.le_of_ble_eq_true rfl) d_Row_add_39 (fun H locs hP hD hS => ?_)
      have hP : va_P (dC, dI) vwCl (wd_Row_add r ra cB cI cJ rL (rn + (1 : Int32)) (upd rf rn.toNatClampNeg (vp_nar .byte (x1.toInt8.toInt32)))) H := hP
      have hD : va_D A (wd_Row_add r ra cB cI cJ rL (rn + (1 : Int32)) (upd rf rn.toNatClampNeg (vp_nar .byte (x1.toInt8.toInt32)))) := hD
      refine lv_iconst (v := 1) hx hb d_Row_add_42 (by decide) ?_
      cases hf
      exact s_zret hx hb hr (by decide) hlocks hP hK hD hS d_Row_add_43
    · have hf := br_neg c_16 hf
      refine lv_iconst (v := 0) hx hb d_Row_add_19 (by decide) ?_
      cases hf
      exact s_zret hx hb hr (by decide) hlocks hP hK hD hS d_Row_add_20
end
noncomputable abbrev f_Row_add (rL : Nat) (x1 : Int32) (rn : Int32) (rf : Nat → Int32) : Option (Int32 × Int32 × (Nat → Int32)) := j_Row_add_0 rL x1 rn rf
set_option maxRecDepth 100000 in
theorem c_Row_add (l : Launch) (dC : Nat → ClassId) (dI : Nat → Nat → Nat) (cB cI cJ : ClassId) (r ra rL : Nat) (rn : Int32) (rf : Nat → Int32) (x1 : Int32) {r_z : Int32} {rn_z : Int32} {rf_z : Nat → Int32} (hf : f_Row_add rL x1 rn rf = some (r_z, rn_z, rf_z)) : MetI l y_Row_add ws_Row_add rm_Row_add (dC, dI) vwCl [(cB, .byte), (cI, .int), (cJ, .long)] [.ref r, .int x1] (wd_Row_add r ra cB cI cJ rL rn rf) r_z (wd_Row_add r ra cB cI cJ rL rn_z rf_z) 0 0 :=
  s_ofi (bytes := cd_Row_add) (maxL := 2) (ret := (some .boolean)) (by decide) rfl (Nat.le_of_ble_eq_true rfl) (fun p e s m below meth c A ls C hK hA hP hD hS hl => k_Row_add_0 C hK hA x1 rn rf hf hP hD hS (lv_sub hl [0, 1] rfl))
end
section
abbrev wd_Row_word (r ra : Nat) (cB cI cJ : ClassId) (rL : Nat) (rn : Int32) (rf : Nat → Int32) : va_W := [(r, .inr (1, [.ref ra, .int rn])), (ra, .inl (cB, rL, .inl rf))]
abbrev rm_Row_word : Room := { frames := 0, cells := 0, slots := 0, locals := 0 }
section
variable {p : Program} {l : Launch} {e : Env} {s : State} {m : MethodId} {args : Array Value} {below : List Frame} {meth : Method} {c : Code} {dC : Nat → ClassId} {dI : Nat → Nat → Nat} {A : Nat → Prop} {cB cI cJ : ClassId} {H : Heap} {locs : List Loc} {ls : Array Slot} {N : Nat} {r ra rL : Nat}
noncomputable def j_Row_word_0 (rL : Nat) (x1 : Int32) (rn : Int32) (rf : Nat → Int32)  : Option (Int32) :=
  (if x1 < 0 then (some (0 : Int32) : Option (Int32)) else (if (rn - (4 : Int32)) < x1 then (some (0 : Int32) : Option (Int32)) else (if rn ≤ (Int32.ofNat rL) then as_ (vp_in x1 rL) (as_ (vp_in (x1 + (1 : Int32)) rL) (as_ (vp_in (x1 + (2 : Int32)) rL) (as_ (vp_in (x1 + (3 : Int32)) rL) ((some (((((rf x1.toNatClampNeg) &&& (255 : Int32)) ||| (((rf (x1 + (1 : Int32)).toNatClampNeg) &&& (255 : Int32)) <<< ((8 : Int32) &&& 31))) ||| (((rf (x1 + (2 : Int32)).toNatClampNeg) &&& (255 : Int32)) <<< ((16 : Int32) &&& 31))) ||| (((rf (x1 + (3 : Int32)).toNatClampNeg) &&& (255 : Int32)) <<< ((24 : Int32) &&& 31))) : Option (Int32)))))) else (some (0 : Int32) : Option (Int32)))))
set_option maxHeartbeats 4000000 in
set_option maxRecDepth 100000 in
theorem k_Row_word_0 {r_z : Int32} (C : Fx p s m args meth c cd_Row_word 2 R_Row lw_g (some .int)) (hK : va_K (dC, dI) vwCl [(cB, .byte), (cI, .int), (cJ, .long)] s) (hA : ∀ q, s.heap.size ≤ q → A q) (x1 : Int32) (rn : Int32) (rf : Nat → Int32)  (hf : j_Row_word_0 rL x1 rn rf  = some r_z) (hP : va_P (dC, dI) vwCl (wd_Row_word r ra cB cI cJ rL rn rf) H) (hD : va_D A (wd_Row_word r ra cB cI cJ rL rn rf)) (hS : va_S A s.heap H locs) (hl : lv_has ls 2 [(0, .ref r), (1, .int x1)]) : W p l e rm_Row_word s m args below meth c H locs 0 0 (MQ below (sQi (dC, dI) vwCl [(cB, .byte), (cI, .int), (cJ, .long)] A r_z (wd_Row_word r ra cB cI cJ rL rn rf)) args s 0 0 A) (F0 m 0 ls []) := by
  obtain ⟨hx, hb, hml, hown, hts, hr, hlocks, hZ⟩ := id C
  unfold j_Row_word_0 at hf
  refine lv_iload_n hx hb d_Row_word_0 rfl (lv_at hl 1 rfl) ?_
  refine lv_if_lt (tgt := 26) hx hb d_Row_word_1 (by decide) (fun c_1 => ?_) (fun c_1 => ?_)
  · have hf := br_pos c_1 hf
    refine lv_iconst (v := 0) hx hb d_Row_word_26 (by decide) ?_
    cases hf
    exact s_iret hx hb hr hlocks hP hK hD hS d_Row_word_27
  · have hf := br_neg c_1 hf
    refine lv_iload_n hx hb d_Row_word_4 rfl (lv_at hl 1 rfl) ?_
    refine lv_aload_n hx hb d_Row_word_5 rfl (lv_at hl 0 rfl) ?_
    refine va_get (D := (dC, dI)) (ci := 1) (v := .int rn) (C := R_Row) (T := T_Row) (N := 2) hx hb hts w_0 hown hK hP 0 rfl rfl 1 (by decide) (hts _ w_1) (fun _ h9 => h9) rfl d_Row_word_6 ?_
    refine lv_iconst (v := 4) hx hb d_Row_word_9 (by decide) ?_
    refine lv_isub hx hb d_Row_word_10 ?_
    refine lv_icmp_gt (tgt := 26) hx hb d_Row_word_11 (by decide) (fun c_11 => ?_) (fun c_11 => ?_)
    · have hf := br_pos c_11 hf
      refine lv_iconst (v := 0) hx hb d_Row_word_26 (by decide) ?_
      cases hf
      exact s_iret hx hb hr hlocks hP hK hD hS d_Row_word_27
    · have hf := br_neg c_11 hf
      refine lv_aload_n hx hb d_Row_word_14 rfl (lv_at hl 0 rfl) ?_
      refine va_get (D := (dC, dI)) (ci := 1) (v := .int rn) (C := R_Row) (T := T_Row) (N := 2) hx hb hts w_0 hown hK hP 0 rfl rfl 1 (by decide) (hts _ w_1) (fun _ h9 => h9) rfl d_Row_word_15 ?_
      refine lv_aload_n hx hb d_Row_word_18 rfl (lv_at hl 0 rfl) ?_
      refine va_get (D := (dC, dI)) (ci := 1) (v := .ref ra) (C := R_Row) (T := T_Row) (N := 2) hx hb hts w_0 hown hK hP 0 rfl rfl 0 (by decide) (hts _ w_2) (fun _ h9 => h9) rfl d_Row_word_19 ?_
      refine va_alen (v := (Int32.ofNat rL)) hx hb hK hP 1 0 rfl rfl rfl d_Row_word_22 ?_
      refine lv_icmp_le (tgt := 28) hx hb d_Row_word_23 (by decide) (fun c_23 => ?_) (fun c_23 => ?_)
      · have hf := br_pos c_23 hf
        refine lv_aload_n hx hb d_Row_word_28 rfl (lv_at hl 0 rfl) ?_
        refine va_get (D := (dC, dI)) (ci := 1) (v := .ref ra) (C := R_Row) (T := T_Row) (N := 2) hx hb hts w_0 hown hK hP 0 rfl rfl 0 (by decide) (hts _ w_2) (fun _ h9 => h9) rfl d_Row_word_29 ?_
        refine lv_iload_n hx hb d_Row_word_32 rfl (lv_at hl 1 rfl) ?_
        obtain ⟨h_in, hf⟩ := as_some hf
        refine va_bald hx hb hK hP 1 0 rfl rfl h_in d_Row_word_33 ?_
        refine lv_sipush (v := 255) hx hb d_Row_word_34 (by decide) ?_
        refine lv_iand hx hb d_Row_word_37 ?_
        refine lv_aload_n hx hb d_Row_word_38 rfl (lv_at hl 0 rfl) ?_
        refine va_get (D := (dC, dI)) (ci := 1) (v := .ref ra) (C := R_Row) (T := T_Row) (N := 2) hx hb hts w_0 hown hK hP 0 rfl rfl 0 (by decide) (hts _ w_2) (fun _ h9 => h9) rfl d_Row_word_39 ?_
        refine lv_iload_n hx hb d_Row_word_42 rfl (lv_at hl 1 rfl) ?_
        refine lv_iconst (v := 1) hx hb d_Row_word_43 (by decide) ?_
        refine lv_iadd hx hb d_Row_word_44 ?_
        obtain ⟨h_in, hf⟩ := as_some hf
        refine va_bald hx hb hK hP 1 0 rfl rfl h_in d_Row_word_45 ?_
        refine lv_sipush (v := 255) hx hb d_Row_word_46 (by decide) ?_
        refine lv_iand hx hb d_Row_word_49 ?_
        refine lv_bipush (v := 8) hx hb d_Row_word_50 (by decide) ?_
        refine lv_ishl hx hb d_Row_word_52 ?_
        refine lv_ior hx hb d_Row_word_53 ?_
        refine lv_aload_n hx hb d_Row_word_54 rfl (lv_at hl 0 rfl) ?_
        refine va_get (D := (dC, dI)) (ci := 1) (v := .ref ra) (C := R_Row) (T := T_Row) (N := 2) hx hb hts w_0 hown hK hP 0 rfl rfl 0 (by decide) (hts _ w_2) (fun _ h9 => h9) rfl d_Row_word_55 ?_
        refine lv_iload_n hx hb d_Row_word_58 rfl (lv_at hl 1 rfl) ?_
        refine lv_iconst (v := 2) hx hb d_Row_word_59 (by decide) ?_
        refine lv_iadd hx hb d_Row_word_60 ?_
        obtain ⟨h_in, hf⟩ := as_some hf
        refine va_bald hx hb hK hP 1 0 rfl rfl h_in d_Row_word_61 ?_
        refine lv_sipush (v := 255) hx hb d_Row_word_62 (by decide) ?_
        refine lv_iand hx hb d_Row_word_65 ?_
        refine lv_bipush (v := 16) hx hb d_Row_word_66 (by decide) ?_
        refine lv_ishl hx hb d_Row_word_68 ?_
        refine lv_ior hx hb d_Row_word_69 ?_
        refine lv_aload_n hx hb d_Row_word_70 rfl (lv_at hl 0 rfl) ?_
        refine va_get (D := (dC, dI)) (ci := 1) (v := .ref ra) (C := R_Row) (T := T_Row) (N := 2) hx hb hts w_0 hown hK hP 0 rfl rfl 0 (by decide) (hts _ w_2) (fun _ h9 => h9) rfl d_Row_word_71 ?_
        refine lv_iload_n hx hb d_Row_word_74 rfl (lv_at hl 1 rfl) ?_
        refine lv_iconst (v := 3) hx hb d_Row_word_75 (by decide) ?_
        refine lv_iadd hx hb d_Row_word_76 ?_
        obtain ⟨h_in, hf⟩ := as_some hf
        refine va_bald hx hb hK hP 1 0 rfl rfl h_in d_Row_word_77 ?_
        refine lv_sipush (v := 255) hx hb d_Row_word_78 (by decide) ?_
        refine lv_iand hx hb d_Row_word_81 ?_
        refine lv_bipush (v := 24) hx hb d_Row_word_82 (by decide) ?_
        refine lv_ishl hx hb d_Row_word_84 ?_
        refine lv_ior hx hb d_Row_word_85 ?_
        cases hf
        exact s_iret hx hb hr hlocks hP hK hD hS d_Row_word_86
      · have hf := br_neg c_23 hf
        refine lv_iconst (v := 0) hx hb d_Row_word_26 (by decide) ?_
        cases hf
        exact s_iret hx hb hr hlocks hP hK hD hS d_Row_word_27
end
noncomputable abbrev f_Row_word (rL : Nat) (x1 : Int32) (rn : Int32) (rf : Nat → Int32) : Option (Int32) := j_Row_word_0 rL x1 rn rf
set_option maxRecDepth 100000 in
theorem c_Row_word (l : Launch) (dC : Nat → ClassId) (dI : Nat → Nat → Nat) (cB cI cJ : ClassId) (r ra rL : Nat) (rn : Int32) (rf : Nat → Int32) (x1 : Int32) {r_z : Int32} (hf : f_Row_word rL x1 rn rf = some r_z) : MetI l y_Row_word ws_Row_word rm_Row_word (dC, dI) vwCl [(cB, .byte), (cI, .int), (cJ, .long)] [.ref r, .int x1] (wd_Row_word r ra cB cI cJ rL rn rf) r_z (wd_Row_word r ra cB cI cJ rL rn rf) 0 0 :=
  s_ofi (bytes := cd_Row_word) (maxL := 2) (ret := (some .int)) (by decide) rfl (Nat.le_of_ble_eq_true rfl) (fun p e s m below meth c A ls C hK hA hP hD hS hl => k_Row_word_0 C hK hA x1 rn rf hf hP hD hS (lv_sub hl [0, 1] rfl))
end
section
abbrev wd_Row_get (r ra : Nat) (cB cI cJ : ClassId) (rL : Nat) (rn : Int32) (rf : Nat → Int32) : va_W := [(r, .inr (1, [.ref ra, .int rn])), (ra, .inl (cB, rL, .inl rf))]
abbrev rm_Row_get : Room := { frames := 0, cells := 0, slots := 0, locals := 0 }
section
variable {p : Program} {l : Launch} {e : Env} {s : State} {m : MethodId} {args : Array Value} {below : List Frame} {meth : Method} {c : Code} {dC : Nat → ClassId} {dI : Nat → Nat → Nat} {A : Nat → Prop} {cB cI cJ : ClassId} {H : Heap} {locs : List Loc} {ls : Array Slot} {N : Nat} {r ra rL : Nat}
noncomputable def j_Row_get_0 (rL : Nat) (x1 : Int32) (rn : Int32) (rf : Nat → Int32)  : Option (Int32) :=
  (if x1 < 0 then (some (-1 : Int32) : Option (Int32)) else (if rn ≤ x1 then (some (-1 : Int32) : Option (Int32)) else (if (Int32.ofNat rL) ≤ x1 then (some (-1 : Int32) : Option (Int32)) else as_ (vp_in x1 rL) ((some ((rf x1.toNatClampNeg) &&& (255 : Int32)) : Option (Int32))))))
set_option maxHeartbeats 4000000 in
set_option maxRecDepth 100000 in
theorem k_Row_get_0 {r_z : Int32} (C : Fx p s m args meth c cd_Row_get 2 R_Row lw_g (some .int)) (hK : va_K (dC, dI) vwCl [(cB, .byte), (cI, .int), (cJ, .long)] s) (hA : ∀ q, s.heap.size ≤ q → A q) (x1 : Int32) (rn : Int32) (rf : Nat → Int32)  (hf : j_Row_get_0 rL x1 rn rf  = some r_z) (hP : va_P (dC, dI) vwCl (wd_Row_get r ra cB cI cJ rL rn rf) H) (hD : va_D A (wd_Row_get r ra cB cI cJ rL rn rf)) (hS : va_S A s.heap H locs) (hl : lv_has ls 2 [(0, .ref r), (1, .int x1)]) : W p l e rm_Row_get s m args below meth c H locs 0 0 (MQ below (sQi (dC, dI) vwCl [(cB, .byte), (cI, .int), (cJ, .long)] A r_z (wd_Row_get r ra cB cI cJ rL rn rf)) args s 0 0 A) (F0 m 0 ls []) := by
  obtain ⟨hx, hb, hml, hown, hts, hr, hlocks, hZ⟩ := id C
  unfold j_Row_get_0 at hf
  refine lv_iload_n hx hb d_Row_get_0 rfl (lv_at hl 1 rfl) ?_
  refine lv_if_lt (tgt := 34) hx hb d_Row_get_1 (by decide) (fun c_1 => ?_) (fun c_1 => ?_)
  · have hf := br_pos c_1 hf
    refine lv_iconst (v := -1) hx hb d_Row_get_34 (by decide) ?_
    cases hf
    exact s_iret hx hb hr hlocks hP hK hD hS d_Row_get_35
  · have hf := br_neg c_1 hf
    refine lv_iload_n hx hb d_Row_get_4 rfl (lv_at hl 1 rfl) ?_
    refine lv_aload_n hx hb d_Row_get_5 rfl (lv_at hl 0 rfl) ?_
    refine va_get (D := (dC, dI)) (ci := 1) (v := .int rn) (C := R_Row) (T := T_Row) (N := 2) hx hb hts w_0 hown hK hP 0 rfl rfl 1 (by decide) (hts _ w_1) (fun _ h9 => h9) rfl d_Row_get_6 ?_
    refine lv_icmp_ge (tgt := 34) hx hb d_Row_get_9 (by decide) (fun c_9 => ?_) (fun c_9 => ?_)
    · have hf := br_pos c_9 hf
      refine lv_iconst (v := -1) hx hb d_Row_get_34 (by decide) ?_
      cases hf
      exact s_iret hx hb hr hlocks hP hK hD hS d_Row_get_35
    · have hf := br_neg c_9 hf
      refine lv_iload_n hx hb d_Row_get_12 rfl (lv_at hl 1 rfl) ?_
      refine lv_aload_n hx hb d_Row_get_13 rfl (lv_at hl 0 rfl) ?_
      refine va_get (D := (dC, dI)) (ci := 1) (v := .ref ra) (C := R_Row) (T := T_Row) (N := 2) hx hb hts w_0 hown hK hP 0 rfl rfl 0 (by decide) (hts _ w_2) (fun _ h9 => h9) rfl d_Row_get_14 ?_
      refine va_alen (v := (Int32.ofNat rL)) hx hb hK hP 1 0 rfl rfl rfl d_Row_get_17 ?_
      refine lv_icmp_ge (tgt := 34) hx hb d_Row_get_18 (by decide) (fun c_18 => ?_) (fun c_18 => ?_)
      · have hf := br_pos c_18 hf
        refine lv_iconst (v := -1) hx hb d_Row_get_34 (by decide) ?_
        cases hf
        exact s_iret hx hb hr hlocks hP hK hD hS d_Row_get_35
      · have hf := br_neg c_18 hf
        refine lv_aload_n hx hb d_Row_get_21 rfl (lv_at hl 0 rfl) ?_
        refine va_get (D := (dC, dI)) (ci := 1) (v := .ref ra) (C := R_Row) (T := T_Row) (N := 2) hx hb hts w_0 hown hK hP 0 rfl rfl 0 (by decide) (hts _ w_2) (fun _ h9 => h9) rfl d_Row_get_22 ?_
        refine lv_iload_n hx hb d_Row_get_25 rfl (lv_at hl 1 rfl) ?_
        obtain ⟨h_in, hf⟩ := as_some hf
        refine va_bald hx hb hK hP 1 0 rfl rfl h_in d_Row_get_26 ?_
        refine lv_sipush (v := 255) hx hb d_Row_get_27 (by decide) ?_
        refine lv_iand hx hb d_Row_get_30 ?_
        refine lv_goto (tgt := 35) hx hb d_Row_get_31 (by decide) ?_
        cases hf
        exact s_iret hx hb hr hlocks hP hK hD hS d_Row_get_35
end
noncomputable abbrev f_Row_get (rL : Nat) (x1 : Int32) (rn : Int32) (rf : Nat → Int32) : Option (Int32) := j_Row_get_0 rL x1 rn rf
set_option maxRecDepth 100000 in
theorem c_Row_get (l : Launch) (dC : Nat → ClassId) (dI : Nat → Nat → Nat) (cB cI cJ : ClassId) (r ra rL : Nat) (rn : Int32) (rf : Nat → Int32) (x1 : Int32) {r_z : Int32} (hf : f_Row_get rL x1 rn rf = some r_z) : MetI l y_Row_get ws_Row_get rm_Row_get (dC, dI) vwCl [(cB, .byte), (cI, .int), (cJ, .long)] [.ref r, .int x1] (wd_Row_get r ra cB cI cJ rL rn rf) r_z (wd_Row_get r ra cB cI cJ rL rn rf) 0 0 :=
  s_ofi (bytes := cd_Row_get) (maxL := 2) (ret := (some .int)) (by decide) rfl (Nat.le_of_ble_eq_true rfl) (fun p e s m below meth c A ls C hK hA hP hD hS hl => k_Row_get_0 C hK hA x1 rn rf hf hP hD hS (lv_sub hl [0, 1] rfl))
end
section
abbrev wd_Row_same (r ra : Nat) (cB cI cJ : ClassId) (rL : Nat) (rn : Int32) (rf : Nat → Int32) : va_W := [(r, .inr (1, [.ref ra, .int rn])), (ra, .inl (cB, rL, .inl rf))]
abbrev rm_Row_same : Room := { frames := 1, cells := 0, slots := 0, locals := 13 }
section
variable {p : Program} {l : Launch} {e : Env} {s : State} {m : MethodId} {args : Array Value} {below : List Frame} {meth : Method} {c : Code} {dC : Nat → ClassId} {dI : Nat → Nat → Nat} {A : Nat → Prop} {cB cI cJ : ClassId} {H : Heap} {locs : List Loc} {ls : Array Slot} {N : Nat} {r ra rL : Nat}
noncomputable def b_Row_same_38 (rL : Nat) (x1 : Int32) (x2 : Int32) (x4 : Int32) (rf : Nat → Int32)  (kh38 : Int32 → Option (Int32)) (x5 : Int32) : Option (Int32) :=
  (if x4 ≤ x5 then (some (mx (0 : Int32) x4) : Option (Int32)) else as_ (vp_in (x1 + x5) rL) (as_ (vp_in (x2 + x5) rL) ((if (rf (x1 + x5).toNatClampNeg) = (rf (x2 + x5).toNatClampNeg) then (kh38 (x5 + 1)) else (some x5 : Option (Int32))))))
set_option maxHeartbeats 4000000 in
set_option maxRecDepth 100000 in
theorem k_Row_same_38 {r_z : Int32} (C : Fx p s m args meth c cd_Row_same 6 R_Row lw_g (some .int)) (hK : va_K (dC, dI) vwCl [(cB, .byte), (cI, .int), (cJ, .long)] s) (hA : ∀ q, s.heap.size ≤ q → A q) (x1 : Int32) (x2 : Int32) (x4 : Int32) (rn : Int32) (rf : Nat → Int32)  : ∀ (n : Nat) (x5 : Int32), loop1 (b_Row_same_38 rL x1 x2 x4 rf ) n x5 = some r_z → ∀ (H : Heap) (locs : List Loc), va_P (dC, dI) vwCl (wd_Row_same r ra cB cI cJ rL rn rf) H → va_D A (wd_Row_same r ra cB cI cJ rL rn rf) → va_S A s.heap H locs → ∀ (ls : Array Slot), lv_has ls 6 [(0, .ref r), (1, .int x1), (2, .int x2), (4, .int x4), (5, .int x5)] → W p l e rm_Row_same s m args below meth c H locs 0 0 (MQ below (sQi (dC, dI) vwCl [(cB, .byte), (cI, .int), (cJ, .long)] A r_z (wd_Row_same r ra cB cI cJ rL rn rf)) args s 0 0 A) (F0 m 38 ls []) := by
  obtain ⟨hx, hb, hml, hown, hts, hr, hlocks, hZ⟩ := id C
  intro n
  induction n with
  | zero => intro x5 hf; cases hf
  | succ n ih38 =>
    intro x5 hf H locs hP hD hS ls hl
    have hf : b_Row_same_38 rL x1 x2 x4 rf  (loop1 (b_Row_same_38 rL x1 x2 x4 rf ) n) x5 = some r_z := hf
    generalize loop1 (b_Row_same_38 rL x1 x2 x4 rf ) n = kh38 at hf ih38
    unfold b_Row_same_38 at hf
    refine lv_iload hx hb d_Row_same_38 (lv_at hl 4 rfl) ?_
    refine lv_iload hx hb d_Row_same_40 (lv_at hl 3 rfl) ?_
    refine lv_icmp_ge (tgt := 75) hx hb d_Row_same_42 (by decide) (fun c_42 => ?_) (fun c_42 => ?_)
    · have hf := br_pos c_42 hf
      refine lv_iconst (v := 0) hx hb d_Row_same_75 (by decide) ?_
      refine lv_iload hx hb d_Row_same_76 (lv_at hl 3 rfl) ?_
      refine s_mmax hx hb (hml.trans hl.1.symm) hown (hts _ w_26) (hts _ w_27) (hts _ w_24) (hts _ w_28) (Nat.le_of_ble_eq_true rfl) (Nat.le_of_ble_eq_true rfl) (Nat.zero_le _) (Nat.zero_le _) d_Row_same_78 ?_
      cases hf
      exact s_iret hx hb hr hlocks hP hK hD hS d_Row_same_81
    · have hf := br_neg c_42 hf
      refine lv_aload_n hx hb d_Row_same_45 rfl (lv_at hl 0 rfl) ?_
      refine va_get (D := (dC, dI)) (ci := 1) (v := .ref ra) (C := R_Row) (T := T_Row) (N := 2) hx hb hts w_0 hown hK hP 0 rfl rfl 0 (by decide) (hts _ w_2) (fun _ h9 => h9) rfl d_Row_same_46 ?_
      refine lv_iload_n hx hb d_Row_same_49 rfl (lv_at hl 1 rfl) ?_
      refine lv_iload hx hb d_Row_same_50 (lv_at hl 4 rfl) ?_
      refine lv_iadd hx hb d_Row_same_52 ?_
      obtain ⟨h_in, hf⟩ := as_some hf
      refine va_bald hx hb hK hP 1 0 rfl rfl h_in d_Row_same_53 ?_
      refine lv_aload_n hx hb d_Row_same_54 rfl (lv_at hl 0 rfl) ?_
      refine va_get (D := (dC, dI)) (ci := 1) (v := .ref ra) (C := R_Row) (T := T_Row) (N := 2) hx hb hts w_0 hown hK hP 0 rfl rfl 0 (by decide) (hts _ w_2) (fun _ h9 => h9) rfl d_Row_same_55 ?_
      refine lv_iload_n hx hb d_Row_same_58 rfl (lv_at hl 2 rfl) ?_
      refine lv_iload hx hb d_Row_same_59 (lv_at hl 4 rfl) ?_
      refine lv_iadd hx hb d_Row_same_61 ?_
      obtain ⟨h_in, hf⟩ := as_some hf
      refine va_bald hx hb hK hP 1 0 rfl rfl h_in d_Row_same_62 ?_
      refine lv_icmp_eq (tgt := 69) hx hb d_Row_same_63 (by decide) (fun c_63 => ?_) (fun c_63 => ?_)
      · have hf := br_pos c_63 hf
        refine lv_iinc (v := (x5 + 1)) (lv' := [(5, .int (x5 + 1)), (0, .ref r), (1, .int x1), (2, .int x2), (4, .int x4)]) hx hb d_Row_same_69 hl (k := 4) rfl (congrArg (fun z => x5 + z) (by decide)) (by decide) rfl (fun ls hl => ?_)
        refine lv_goto (tgt := 38) hx hb d_Row_same_72 (by decide) ?_
        exact ih38 (x5 + 1) hf _ _ hP hD hS _ (lv_sub hl [1, 2, 3, 4, 0] rfl)
      · have hf := br_neg c_63 hf
        refine lv_iload hx hb d_Row_same_66 (lv_at hl 4 rfl) ?_
        cases hf
        exact s_iret hx hb hr hlocks hP hK hD hS d_Row_same_68
noncomputable def j_Row_same_0 (N : Nat) (rL : Nat) (x1 : Int32) (x2 : Int32) (x3 : Int32) (rn : Int32) (rf : Nat → Int32)  : Option (Int32) :=
  (if x1 < 0 then (some (0 : Int32) : Option (Int32)) else (if x2 < x1 then (some (0 : Int32) : Option (Int32)) else (if rn ≤ (Int32.ofNat rL) then (loop1 (b_Row_same_38 rL x1 x2 ((mn x3 rn) - x2) rf ) N (0 : Int32)) else (some (0 : Int32) : Option (Int32)))))
set_option maxHeartbeats 4000000 in
set_option maxRecDepth 100000 in
theorem k_Row_same_0 {r_z : Int32} (C : Fx p s m args meth c cd_Row_same 6 R_Row lw_g (some .int)) (hK : va_K (dC, dI) vwCl [(cB, .byte), (cI, .int), (cJ, .long)] s) (hA : ∀ q, s.heap.size ≤ q → A q) (x1 : Int32) (x2 : Int32) (x3 : Int32) (rn : Int32) (rf : Nat → Int32)  (hf : j_Row_same_0 N rL x1 x2 x3 rn rf  = some r_z) (hP : va_P (dC, dI) vwCl (wd_Row_same r ra cB cI cJ rL rn rf) H) (hD : va_D A (wd_Row_same r ra cB cI cJ rL rn rf)) (hS : va_S A s.heap H locs) (hl : lv_has ls 6 [(0, .ref r), (1, .int x1), (2, .int x2), (3, .int x3)]) : W p l e rm_Row_same s m args below meth c H locs 0 0 (MQ below (sQi (dC, dI) vwCl [(cB, .byte), (cI, .int), (cJ, .long)] A r_z (wd_Row_same r ra cB cI cJ rL rn rf)) args s 0 0 A) (F0 m 0 ls []) := by
  obtain ⟨hx, hb, hml, hown, hts, hr, hlocks, hZ⟩ := id C
  unfold j_Row_same_0 at hf
  refine lv_iload_n hx hb d_Row_same_0 rfl (lv_at hl 3 rfl) ?_
  refine lv_aload_n hx hb d_Row_same_1 rfl (lv_at hl 0 rfl) ?_
  refine va_get (D := (dC, dI)) (ci := 1) (v := .int rn) (C := R_Row) (T := T_Row) (N := 2) hx hb hts w_0 hown hK hP 0 rfl rfl 1 (by decide) (hts _ w_1) (fun _ h9 => h9) rfl d_Row_same_2 ?_
  refine s_mmin hx hb (hml.trans hl.1.symm) hown (hts _ w_22) (hts _ w_23) (hts _ w_24) (hts _ w_25) (Nat.le_of_ble_eq_true rfl) (Nat.le_of_ble_eq_true rfl) (Nat.zero_le _) (Nat.zero_le _) d_Row_same_5 ?_
  refine lv_iload_n hx hb d_Row_same_8 rfl (lv_at hl 2 rfl) ?_
  refine lv_isub hx hb d_Row_same_9 ?_
  refine lv_istore (lv' := [(4, .int ((mn x3 rn) - x2)), (0, .ref r), (1, .int x1), (2, .int x2), (3, .int x3)]) hx hb d_Row_same_10 hl (by decide) rfl (fun ls hl => ?_)
  refine lv_iload_n hx hb d_Row_same_12 rfl (lv_at hl 2 rfl) ?_
  refine lv_if_lt (tgt := 33) hx hb d_Row_same_13 (by decide) (fun c_13 => ?_) (fun c_13 => ?_)
  · have hf := br_pos c_13 hf
    refine lv_iconst (v := 0) hx hb d_Row_same_33 (by decide) ?_
    cases hf
    exact s_iret hx hb hr hlocks hP hK hD hS d_Row_same_34
  · have hf := br_neg c_13 hf
    refine lv_iload_n hx hb d_Row_same_16 rfl (lv_at hl 2 rfl) ?_
    refine lv_iload_n hx hb d_Row_same_17 rfl (lv_at hl 3 rfl) ?_
    refine lv_icmp_gt (tgt := 33) hx hb d_Row_same_18 (by decide) (fun c_18 => ?_) (fun c_18 => ?_)
    · have hf := br_pos c_18 hf
      refine lv_iconst (v := 0) hx hb d_Row_same_33 (by decide) ?_
      cases hf
      exact s_iret hx hb hr hlocks hP hK hD hS d_Row_same_34
    · have hf := br_neg c_18 hf
      refine lv_aload_n hx hb d_Row_same_21 rfl (lv_at hl 1 rfl) ?_
      refine va_get (D := (dC, dI)) (ci := 1) (v := .int rn) (C := R_Row) (T := T_Row) (N := 2) hx hb hts w_0 hown hK hP 0 rfl rfl 1 (by decide) (hts _ w_1) (fun _ h9 => h9) rfl d_Row_same_22 ?_
      refine lv_aload_n hx hb d_Row_same_25 rfl (lv_at hl 1 rfl) ?_
      refine va_get (D := (dC, dI)) (ci := 1) (v := .ref ra) (C := R_Row) (T := T_Row) (N := 2) hx hb hts w_0 hown hK hP 0 rfl rfl 0 (by decide) (hts _ w_2) (fun _ h9 => h9) rfl d_Row_same_26 ?_
      refine va_alen (v := (Int32.ofNat rL)) hx hb hK hP 1 0 rfl rfl rfl d_Row_same_29 ?_
      refine lv_icmp_le (tgt := 35) hx hb d_Row_same_30 (by decide) (fun c_30 => ?_) (fun c_30 => ?_)
      · have hf := br_pos c_30 hf
        refine lv_iconst (v := 0) hx hb d_Row_same_35 (by decide) ?_
        refine lv_istore (lv' := [(5, .int (0 : Int32)), (4, .int ((mn x3 rn) - x2)), (0, .ref r), (1, .int x1), (2, .int x2), (3, .int x3)]) hx hb d_Row_same_36 hl (by decide) rfl (fun ls hl => ?_)
        exact k_Row_same_38 C hK hA x1 x2 ((mn x3 rn) - x2) rn rf  N (0 : Int32) hf _ _ hP hD hS _ (lv_sub hl [2, 3, 4, 1, 0] rfl)
      · have hf := br_neg c_30 hf
        refine lv_iconst (v := 0) hx hb d_Row_same_33 (by decide) ?_
        cases hf
        exact s_iret hx hb hr hlocks hP hK hD hS d_Row_same_34
end
noncomputable abbrev f_Row_same (N : Nat) (rL : Nat) (x1 : Int32) (x2 : Int32) (x3 : Int32) (rn : Int32) (rf : Nat → Int32) : Option (Int32) := j_Row_same_0 N rL x1 x2 x3 rn rf
set_option maxRecDepth 100000 in
theorem c_Row_same {N : Nat} (l : Launch) (dC : Nat → ClassId) (dI : Nat → Nat → Nat) (cB cI cJ : ClassId) (r ra rL : Nat) (rn : Int32) (rf : Nat → Int32) (x1 : Int32) (x2 : Int32) (x3 : Int32) {r_z : Int32} (hf : f_Row_same N rL x1 x2 x3 rn rf = some r_z) : MetI l y_Row_same ws_Row_same rm_Row_same (dC, dI) vwCl [(cB, .byte), (cI, .int), (cJ, .long)] [.ref r, .int x1, .int x2, .int x3] (wd_Row_same r ra cB cI cJ rL rn rf) r_z (wd_Row_same r ra cB cI cJ rL rn rf) 0 0 :=
  s_ofi (bytes := cd_Row_same) (maxL := 6) (ret := (some .int)) (by decide) rfl (Nat.le_of_ble_eq_true rfl) (fun p e s m below meth c A ls C hK hA hP hD hS hl => k_Row_same_0 C hK hA x1 x2 x3 rn rf hf hP hD hS (lv_sub hl [0, 1, 2, 3] rfl))
end
section
abbrev wd_Row_addWord (r ra : Nat) (cB cI cJ : ClassId) (rL : Nat) (rn : Int32) (rf : Nat → Int32) : va_W := [(r, .inr (1, [.ref ra, .int rn])), (ra, .inl (cB, rL, .inl rf))]
abbrev rm_Row_addWord : Room := { frames := 1, cells := 0, slots := 0, locals := 21 }
section
variable {p : Program} {l : Launch} {e : Env} {s : State} {m : MethodId} {args : Array Value} {below : List Frame} {meth : Method} {c : Code} {dC : Nat → ClassId} {dI : Nat → Nat → Nat} {A : Nat → Prop} {cB cI cJ : ClassId} {H : Heap} {locs : List Loc} {ls : Array Slot} {N : Nat} {r ra rL : Nat}
noncomputable def j_Row_addWord_0 (rL : Nat) (x1 : Int32) (rn : Int32) (rf : Nat → Int32)  : Option (Int32 × Int32 × (Nat → Int32)) :=
  bd3 (f_Row_add rL x1 rn rf) (fun r2 rn_2 rf_2 => (if r2 = 0 then (some ((0 : Int32), rn_2, rf_2) : Option (Int32 × Int32 × (Nat → Int32))) else bd3 (f_Row_add rL (x1 >>> ((8 : Int32) &&& 31)) rn_2 rf_2) (fun r13 rn_13 rf_13 => (if r13 = 0 then (some ((0 : Int32), rn_13, rf_13) : Option (Int32 × Int32 × (Nat → Int32))) else bd3 (f_Row_add rL (x1 >>> ((16 : Int32) &&& 31)) rn_13 rf_13) (fun r24 rn_24 rf_24 => (if r24 = 0 then (some ((0 : Int32), rn_24, rf_24) : Option (Int32 × Int32 × (Nat → Int32))) else bd3 (f_Row_add rL (x1 >>> ((24 : Int32) &&& 31)) rn_24 rf_24) (fun r35 rn_35 rf_35 => (if r35 = 0 then (some ((0 : Int32), rn_35, rf_35) : Option (Int32 × Int32 × (Nat → Int32))) else (some ((1 : Int32), rn_35, rf_35) : Option (Int32 × Int32 × (Nat → Int32)))))))))))
set_option maxHeartbeats 4000000 in
set_option maxRecDepth 100000 in
theorem k_Row_addWord_0 {r_z : Int32} {rn_z : Int32} {rf_z : Nat → Int32} (C : Fx p s m args meth c cd_Row_addWord 2 R_Row lw_g (some .boolean)) (hK : va_K (dC, dI) vwCl [(cB, .byte), (cI, .int), (cJ, .long)] s) (hA : ∀ q, s.heap.size ≤ q → A q) (x1 : Int32) (rn : Int32) (rf : Nat → Int32)  (hf : j_Row_addWord_0 rL x1 rn rf  = some (r_z, rn_z, rf_z)) (hP : va_P (dC, dI) vwCl (wd_Row_addWord r ra cB cI cJ rL rn rf) H) (hD : va_D A (wd_Row_addWord r ra cB cI cJ rL rn rf)) (hS : va_S A s.heap H locs) (hl : lv_has ls 2 [(0, .ref r), (1, .int x1)]) : W p l e rm_Row_addWord s m args below meth c H locs 0 0 (MQ below (sQi (dC, dI) vwCl [(cB, .byte), (cI, .int), (cJ, .long)] A r_z (wd_Row_addWord r ra cB cI cJ rL rn_z rf_z)) args s 0 0 A) (F0 m 0 ls []) := by
  obtain ⟨hx, hb, hml, hown, hts, hr, hlocks, hZ⟩ := id C
  unfold j_Row_addWord_0 at hf
  refine lv_aload_n hx hb d_Row_addWord_0 rfl (lv_at hl 0 rfl) ?_
  refine lv_iload_n hx hb d_Row_addWord_1 rfl (lv_at hl 1 rfl) ?_
  obtain ⟨r2, rn_2, rf_2, hc2, hf⟩ := bd3_some hf
  refine s_Vi (As := [.int x1]) (rest := []) (wr := []) (ws' := wd_Row_addWord r ra cB cI cJ rL rn_2 rf_2) C.call (c_Row_add l dC dI cB cI cJ r ra rL rn rf x1 hc2) (cwV 1 hts (gd_V w_157 w_41 w_42 w_12 w_43) rfl rfl rfl ⟨rfl, hd_Row_add⟩ ⟨Nat.le_of_ble_eq_true rfl, Nat.le_of_ble_eq_true rfl⟩) rfl hl.1 rfl (Nat.le_of_ble_eq_true rfl) d_Row_addWord_2 ⟨Nat.le_of_ble_eq_true rfl, Nat.le_of_ble_eq_true rfl⟩ hZ hK hP hD hS hA 1 0 rfl rfl [0, 1] [] [0, 1] rfl rfl rfl rfl (by decide) rfl rfl (fun H locs hP hD hS => ?_)
  refine lv_if_eq (tgt := 45) hx hb d_Row_addWord_5 (by decide) (fun c_5 => ?_) (fun c_5 => ?_)
  · have hf := br_pos c_5 hf
    refine lv_iconst (v := 0) hx hb d_Row_addWord_45 (by decide) ?_
    cases hf
    exact s_zret hx hb hr (by decide) hlocks hP hK hD hS d_Row_addWord_46
  · have hf := br_neg c_5 hf
    refine lv_aload_n hx hb d_Row_addWord_8 rfl (lv_at hl 0 rfl) ?_
    refine lv_iload_n hx hb d_Row_addWord_9 rfl (lv_at hl 1 rfl) ?_
    refine lv_bipush (v := 8) hx hb d_Row_addWord_10 (by decide) ?_
    refine lv_ishr hx hb d_Row_addWord_12 ?_
    obtain ⟨r13, rn_13, rf_13, hc13, hf⟩ := bd3_some hf
    refine s_Vi (As := [.int (x1 >>> ((8 : Int32) &&& 31))]) (rest := []) (wr := []) (ws' := wd_Row_addWord r ra cB cI cJ rL rn_13 rf_13) C.call (c_Row_add l dC dI cB cI cJ r ra rL rn_2 rf_2 (x1 >>> ((8 : Int32) &&& 31)) hc13) (cwV 1 hts (gd_V w_157 w_41 w_42 w_12 w_43) rfl rfl rfl ⟨rfl, hd_Row_add⟩ ⟨Nat.le_of_ble_eq_true rfl, Nat.le_of_ble_eq_true rfl⟩) rfl hl.1 rfl (Nat.le_of_ble_eq_true rfl) d_Row_addWord_13 ⟨Nat.le_of_ble_eq_true rfl, Nat.le_of_ble_eq_true rfl⟩ hZ hK hP hD hS hA 1 0 rfl rfl [0, 1] [] [0, 1] rfl rfl rfl rfl (by decide) rfl rfl (fun H locs hP hD hS => ?_)
    refine lv_if_eq (tgt := 45) hx hb d_Row_addWord_16 (by decide) (fun c_16 => ?_) (fun c_16 => ?_)
    · have hf := br_pos c_16 hf
      refine lv_iconst (v := 0) hx hb d_Row_addWord_45 (by decide) ?_
      cases hf
      exact s_zret hx hb hr (by decide) hlocks hP hK hD hS d_Row_addWord_46
    · have hf := br_neg c_16 hf
      refine lv_aload_n hx hb d_Row_addWord_19 rfl (lv_at hl 0 rfl) ?_
      refine lv_iload_n hx hb d_Row_addWord_20 rfl (lv_at hl 1 rfl) ?_
      refine lv_bipush (v := 16) hx hb d_Row_addWord_21 (by decide) ?_
      refine lv_ishr hx hb d_Row_addWord_23 ?_
      obtain ⟨r24, rn_24, rf_24, hc24, hf⟩ := bd3_some hf
      refine s_Vi (As := [.int (x1 >>> ((16 : Int32) &&& 31))]) (rest := []) (wr := []) (ws' := wd_Row_addWord r ra cB cI cJ rL rn_24 rf_24) C.call (c_Row_add l dC dI cB cI cJ r ra rL rn_13 rf_13 (x1 >>> ((16 : Int32) &&& 31)) hc24) (cwV 1 hts (gd_V w_157 w_41 w_42 w_12 w_43) rfl rfl rfl ⟨rfl, hd_Row_add⟩ ⟨Nat.le_of_ble_eq_true rfl, Nat.le_of_ble_eq_true rfl⟩) rfl hl.1 rfl (Nat.le_of_ble_eq_true rfl) d_Row_addWord_24 ⟨Nat.le_of_ble_eq_true rfl, Nat.le_of_ble_eq_true rfl⟩ hZ hK hP hD hS hA 1 0 rfl rfl [0, 1] [] [0, 1] rfl rfl rfl rfl (by decide) rfl rfl (fun H locs hP hD hS => ?_)
      refine lv_if_eq (tgt := 45) hx hb d_Row_addWord_27 (by decide) (fun c_27 => ?_) (fun c_27 => ?_)
      · have hf := br_pos c_27 hf
        refine lv_iconst (v := 0) hx hb d_Row_addWord_45 (by decide) ?_
        cases hf
        exact s_zret hx hb hr (by decide) hlocks hP hK hD hS d_Row_addWord_46
      · have hf := br_neg c_27 hf
        refine lv_aload_n hx hb d_Row_addWord_30 rfl (lv_at hl 0 rfl) ?_
        refine lv_iload_n hx hb d_Row_addWord_31 rfl (lv_at hl 1 rfl) ?_
        refine lv_bipush (v := 24) hx hb d_Row_addWord_32 (by decide) ?_
        refine lv_ishr hx hb d_Row_addWord_34 ?_
        obtain ⟨r35, rn_35, rf_35, hc35, hf⟩ := bd3_some hf
        refine s_Vi (As := [.int (x1 >>> ((24 : Int32) &&& 31))]) (rest := []) (wr := []) (ws' := wd_Row_addWord r ra cB cI cJ rL rn_35 rf_35) C.call (c_Row_add l dC dI cB cI cJ r ra rL rn_24 rf_24 (x1 >>> ((24 : Int32) &&& 31)) hc35) (cwV 1 hts (gd_V w_157 w_41 w_42 w_12 w_43) rfl rfl rfl ⟨rfl, hd_Row_add⟩ ⟨Nat.le_of_ble_eq_true rfl, Nat.le_of_ble_eq_true rfl⟩) rfl hl.1 rfl (Nat.le_of_ble_eq_true rfl) d_Row_addWord_35 ⟨Nat.le_of_ble_eq_true rfl, Nat.le_of_ble_eq_true rfl⟩ hZ hK hP hD hS hA 1 0 rfl rfl [0, 1] [] [0, 1] rfl rfl rfl rfl (by decide) rfl rfl (fun H locs hP hD hS => ?_)
        refine lv_if_eq (tgt := 45) hx hb d_Row_addWord_38 (by decide) (fun c_38 => ?_) (fun c_38 => ?_)
        · have hf := br_pos c_38 hf
          refine lv_iconst (v := 0) hx hb d_Row_addWord_45 (by decide) ?_
          cases hf
          exact s_zret hx hb hr (by decide) hlocks hP hK hD hS d_Row_addWord_46
        · have hf := br_neg c_38 hf
          refine lv_iconst (v := 1) hx hb d_Row_addWord_41 (by decide) ?_
          refine lv_goto (tgt := 46) hx hb d_Row_addWord_42 (by decide) ?_
          cases hf
          exact s_zret hx hb hr (by decide) hlocks hP hK hD hS d_Row_addWord_46
end
noncomputable abbrev f_Row_addWord (rL : Nat) (x1 : Int32) (rn : Int32) (rf : Nat → Int32) : Option (Int32 × Int32 × (Nat → Int32)) := j_Row_addWord_0 rL x1 rn rf
set_option maxRecDepth 100000 in
theorem c_Row_addWord (l : Launch) (dC : Nat → ClassId) (dI : Nat → Nat → Nat) (cB cI cJ : ClassId) (r ra rL : Nat) (rn : Int32) (rf : Nat → Int32) (x1 : Int32) {r_z : Int32} {rn_z : Int32} {rf_z : Nat → Int32} (hf : f_Row_addWord rL x1 rn rf = some (r_z, rn_z, rf_z)) : MetI l y_Row_addWord ws_Row_addWord rm_Row_addWord (dC, dI) vwCl [(cB, .byte), (cI, .int), (cJ, .long)] [.ref r, .int x1] (wd_Row_addWord r ra cB cI cJ rL rn rf) r_z (wd_Row_addWord r ra cB cI cJ rL rn_z rf_z) 0 0 :=
  s_ofi (bytes := cd_Row_addWord) (maxL := 2) (ret := (some .boolean)) (by decide) rfl (Nat.le_of_ble_eq_true rfl) (fun p e s m below meth c A ls C hK hA hP hD hS hl => k_Row_addWord_0 C hK hA x1 rn rf hf hP hD hS (lv_sub hl [0, 1] rfl))
end
section
abbrev wd_Row_pair (r ra : Nat) (cB cI cJ : ClassId) (rL : Nat) (rn : Int32) (rf : Nat → Int32) : va_W := [(r, .inr (1, [.ref ra, .int rn])), (ra, .inl (cB, rL, .inl rf))]
abbrev rm_Row_pair : Room := { frames := 0, cells := 0, slots := 0, locals := 0 }
section
variable {p : Program} {l : Launch} {e : Env} {s : State} {m : MethodId} {args : Array Value} {below : List Frame} {meth : Method} {c : Code} {dC : Nat → ClassId} {dI : Nat → Nat → Nat} {A : Nat → Prop} {cB cI cJ : ClassId} {H : Heap} {locs : List Loc} {ls : Array Slot} {N : Nat} {r ra rL : Nat}
noncomputable def j_Row_pair_0 (rL : Nat) (x1 : Int32) (rn : Int32) (rf : Nat → Int32)  : Option (Int32) :=
  (if x1 < 0 then (some (0 : Int32) : Option (Int32)) else (if (rn - (2 : Int32)) < x1 then (some (0 : Int32) : Option (Int32)) else (if rn ≤ (Int32.ofNat rL) then as_ (vp_in x1 rL) (as_ (vp_in (x1 + (1 : Int32)) rL) ((some (((rf x1.toNatClampNeg) &&& (255 : Int32)) ||| (((rf (x1 + (1 : Int32)).toNatClampNeg) &&& (255 : Int32)) <<< ((8 : Int32) &&& 31))) : Option (Int32)))) else (some (0 : Int32) : Option (Int32)))))
set_option maxHeartbeats 4000000 in
set_option maxRecDepth 100000 in
theorem k_Row_pair_0 {r_z : Int32} (C : Fx p s m args meth c cd_Row_pair 2 R_Row lw_g (some .int)) (hK : va_K (dC, dI) vwCl [(cB, .byte), (cI, .int), (cJ, .long)] s) (hA : ∀ q, s.heap.size ≤ q → A q) (x1 : Int32) (rn : Int32) (rf : Nat → Int32)  (hf : j_Row_pair_0 rL x1 rn rf  = some r_z) (hP : va_P (dC, dI) vwCl (wd_Row_pair r ra cB cI cJ rL rn rf) H) (hD : va_D A (wd_Row_pair r ra cB cI cJ rL rn rf)) (hS : va_S A s.heap H locs) (hl : lv_has ls 2 [(0, .ref r), (1, .int x1)]) : W p l e rm_Row_pair s m args below meth c H locs 0 0 (MQ below (sQi (dC, dI) vwCl [(cB, .byte), (cI, .int), (cJ, .long)] A r_z (wd_Row_pair r ra cB cI cJ rL rn rf)) args s 0 0 A) (F0 m 0 ls []) := by
  obtain ⟨hx, hb, hml, hown, hts, hr, hlocks, hZ⟩ := id C
  unfold j_Row_pair_0 at hf
  refine lv_iload_n hx hb d_Row_pair_0 rfl (lv_at hl 1 rfl) ?_
  refine lv_if_lt (tgt := 26) hx hb d_Row_pair_1 (by decide) (fun c_1 => ?_) (fun c_1 => ?_)
  · have hf := br_pos c_1 hf
    refine lv_iconst (v := 0) hx hb d_Row_pair_26 (by decide) ?_
    cases hf
    exact s_iret hx hb hr hlocks hP hK hD hS d_Row_pair_27
  · have hf := br_neg c_1 hf
    refine lv_iload_n hx hb d_Row_pair_4 rfl (lv_at hl 1 rfl) ?_
    refine lv_aload_n hx hb d_Row_pair_5 rfl (lv_at hl 0 rfl) ?_
    refine va_get (D := (dC, dI)) (ci := 1) (v := .int rn) (C := R_Row) (T := T_Row) (N := 2) hx hb hts w_0 hown hK hP 0 rfl rfl 1 (by decide) (hts _ w_1) (fun _ h9 => h9) rfl d_Row_pair_6 ?_
    refine lv_iconst (v := 2) hx hb d_Row_pair_9 (by decide) ?_
    refine lv_isub hx hb d_Row_pair_10 ?_
    refine lv_icmp_gt (tgt := 26) hx hb d_Row_pair_11 (by decide) (fun c_11 => ?_) (fun c_11 => ?_)
    · have hf := br_pos c_11 hf
      refine lv_iconst (v := 0) hx hb d_Row_pair_26 (by decide) ?_
      cases hf
      exact s_iret hx hb hr hlocks hP hK hD hS d_Row_pair_27
    · have hf := br_neg c_11 hf
      refine lv_aload_n hx hb d_Row_pair_14 rfl (lv_at hl 0 rfl) ?_
      refine va_get (D := (dC, dI)) (ci := 1) (v := .int rn) (C := R_Row) (T := T_Row) (N := 2) hx hb hts w_0 hown hK hP 0 rfl rfl 1 (by decide) (hts _ w_1) (fun _ h9 => h9) rfl d_Row_pair_15 ?_
      refine lv_aload_n hx hb d_Row_pair_18 rfl (lv_at hl 0 rfl) ?_
      refine va_get (D := (dC, dI)) (ci := 1) (v := .ref ra) (C := R_Row) (T := T_Row) (N := 2) hx hb hts w_0 hown hK hP 0 rfl rfl 0 (by decide) (hts _ w_2) (fun _ h9 => h9) rfl d_Row_pair_19 ?_
      refine va_alen (v := (Int32.ofNat rL)) hx hb hK hP 1 0 rfl rfl rfl d_Row_pair_22 ?_
      refine lv_icmp_le (tgt := 28) hx hb d_Row_pair_23 (by decide) (fun c_23 => ?_) (fun c_23 => ?_)
      · have hf := br_pos c_23 hf
        refine lv_aload_n hx hb d_Row_pair_28 rfl (lv_at hl 0 rfl) ?_
        refine va_get (D := (dC, dI)) (ci := 1) (v := .ref ra) (C := R_Row) (T := T_Row) (N := 2) hx hb hts w_0 hown hK hP 0 rfl rfl 0 (by decide) (hts _ w_2) (fun _ h9 => h9) rfl d_Row_pair_29 ?_
        refine lv_iload_n hx hb d_Row_pair_32 rfl (lv_at hl 1 rfl) ?_
        obtain ⟨h_in, hf⟩ := as_some hf
        refine va_bald hx hb hK hP 1 0 rfl rfl h_in d_Row_pair_33 ?_
        refine lv_sipush (v := 255) hx hb d_Row_pair_34 (by decide) ?_
        refine lv_iand hx hb d_Row_pair_37 ?_
        refine lv_aload_n hx hb d_Row_pair_38 rfl (lv_at hl 0 rfl) ?_
        refine va_get (D := (dC, dI)) (ci := 1) (v := .ref ra) (C := R_Row) (T := T_Row) (N := 2) hx hb hts w_0 hown hK hP 0 rfl rfl 0 (by decide) (hts _ w_2) (fun _ h9 => h9) rfl d_Row_pair_39 ?_
        refine lv_iload_n hx hb d_Row_pair_42 rfl (lv_at hl 1 rfl) ?_
        refine lv_iconst (v := 1) hx hb d_Row_pair_43 (by decide) ?_
        refine lv_iadd hx hb d_Row_pair_44 ?_
        obtain ⟨h_in, hf⟩ := as_some hf
        refine va_bald hx hb hK hP 1 0 rfl rfl h_in d_Row_pair_45 ?_
        refine lv_sipush (v := 255) hx hb d_Row_pair_46 (by decide) ?_
        refine lv_iand hx hb d_Row_pair_49 ?_
        refine lv_bipush (v := 8) hx hb d_Row_pair_50 (by decide) ?_
        refine lv_ishl hx hb d_Row_pair_52 ?_
        refine lv_ior hx hb d_Row_pair_53 ?_
        cases hf
        exact s_iret hx hb hr hlocks hP hK hD hS d_Row_pair_54
      · have hf := br_neg c_23 hf
        refine lv_iconst (v := 0) hx hb d_Row_pair_26 (by decide) ?_
        cases hf
        exact s_iret hx hb hr hlocks hP hK hD hS d_Row_pair_27
end
noncomputable abbrev f_Row_pair (rL : Nat) (x1 : Int32) (rn : Int32) (rf : Nat → Int32) : Option (Int32) := j_Row_pair_0 rL x1 rn rf
set_option maxRecDepth 100000 in
theorem c_Row_pair (l : Launch) (dC : Nat → ClassId) (dI : Nat → Nat → Nat) (cB cI cJ : ClassId) (r ra rL : Nat) (rn : Int32) (rf : Nat → Int32) (x1 : Int32) {r_z : Int32} (hf : f_Row_pair rL x1 rn rf = some r_z) : MetI l y_Row_pair ws_Row_pair rm_Row_pair (dC, dI) vwCl [(cB, .byte), (cI, .int), (cJ, .long)] [.ref r, .int x1] (wd_Row_pair r ra cB cI cJ rL rn rf) r_z (wd_Row_pair r ra cB cI cJ rL rn rf) 0 0 :=
  s_ofi (bytes := cd_Row_pair) (maxL := 2) (ret := (some .int)) (by decide) rfl (Nat.le_of_ble_eq_true rfl) (fun p e s m below meth c A ls C hK hA hP hD hS hl => k_Row_pair_0 C hK hA x1 rn rf hf hP hD hS (lv_sub hl [0, 1] rfl))
end
section
abbrev rm_Row_init8 : Room := { frames := 1, cells := 1, slots := 8000, locals := 14 }
abbrev wn_Row_init8 (cB cI cJ : ClassId) (h0 : Nat) : (Nat) → va_W := (fun (u : Nat) => ([(h0, .inr (1, [.ref u, .int (0 : Int32)])), (u, .inl (cB, 8000, .inl (fun _ => 0)))] : va_W))
set_option maxHeartbeats 4000000 in
set_option maxRecDepth 100000 in
theorem c_Row_init8 (l : Launch) (dC : Nat → ClassId) (dI : Nat → Nat → Nat) (cB cI cJ : ClassId) (h0 : Nat) : MetN l y_Row_init ws_Row_init rm_Row_init8 (dC, dI) vwCl [(cB, .byte), (cI, .int), (cJ, .long)] [.ref h0, .int (8000 : Int32)] [(h0, .inr (1, [.null, .int (0 : Int32)]))] (wn_Row_init8 cB cI cJ h0 ) 1 8000 := by
  refine s_ofn (bytes := cd_Row_init) (maxL := 2) (ret := none) (by decide) rfl (Nat.le_of_ble_eq_true rfl) ?_
  intro p e s m below meth c A ls C hin hK hA hP hD hS hl
  obtain ⟨hx, hb, hml, hown, hts, hr, hlocks, hZ⟩ := id C
  have hl : lv_has ls 2 [(0, .ref h0), (1, .int (8000 : Int32))] := hl
  refine lv_aload_n hx hb d_Row_init_0 rfl (lv_at hl 0 rfl) ?_
  refine W.objInit hx hb hown (hts _ w_486) (hts _ w_487) (hts _ w_488) rfl (by rw [hml]; exact hl.1) rfl d_Row_init_1 (Nat.le_of_ble_eq_true rfl) (Nat.le_of_ble_eq_true rfl) ?_
  refine W.eq (g2 := F0 m 4 ls []) rfl ?_
  refine lv_aload_n hx hb d_Row_init_4 rfl (lv_at hl 0 rfl) ?_
  refine lv_iconst (v := 0) hx hb d_Row_init_5 (by decide) ?_
  refine lv_iload_n hx hb d_Row_init_6 rfl (lv_at hl 1 rfl) ?_
  refine s_mmax hx hb (hml.trans hl.1.symm) hown (hts _ w_26) (hts _ w_27) (hts _ w_24) (hts _ w_28) (Nat.le_of_ble_eq_true rfl) (Nat.le_of_ble_eq_true rfl) (Nat.le_of_ble_eq_true rfl) (Nat.le_of_ble_eq_true rfl) d_Row_init_7 ?_
  refine s_newB (k0 := 8000) 0 hx hb (hts _ w_489) rfl hK hP hD hS hA (by decide) (by decide) (Nat.le_of_ble_eq_true rfl) (Nat.le_of_ble_eq_true rfl) (Nat.le_of_ble_eq_true rfl) d_Row_init_10 (fun q10 H hP hD hS => ?_)
  have hP : va_P (dC, dI) vwCl [(h0, .inr (1, [.null, .int (0 : Int32)])), (q10, .inl (cB, 8000, .inl (fun _ => 0)))] H := hP
  have hD : va_D A [(h0, .inr (1, [.null, .int (0 : Int32)])), (q10, .inl (cB, 8000, .inl (fun _ => 0)))] := hD
  refine W.widen (k := 1) (n := 8000) (Nat.le_of_ble_eq_true rfl) (Nat.le_of_ble_eq_true rfl) ?_
  refine va_putF (D := (dC, dI)) (ci := 1) (v := .ref q10) (ty := .array .byte) (C := R_Row) (T := T_Row) (N := 2) hx hb hts w_0 ty_Row ty_Row_ok nm_Row hown hK hP hD hS 0 rfl rfl 0 (by decide) (hts _ w_2) (fun _ h9 => h9) rfl hin rfl (by decide +kernel) rfl rfl (Nat.le_of_ble_eq_true rfl) d_Row_init_12 (fun H locs hP hD hS => ?_)
  have hP : va_P (dC, dI) vwCl [(h0, .inr (1, [.ref q10, .int (0 : Int32)])), (q10, .inl (cB, 8000, .inl (fun _ => 0)))] H := hP
  have hD : va_D A [(h0, .inr (1, [.ref q10, .int (0 : Int32)])), (q10, .inl (cB, 8000, .inl (fun _ => 0)))] := hD
  exact s_nret (wn := wn_Row_init8 cB cI cJ h0 ) q10 hx hb hr hlocks hP hK hD hS d_Row_init_15
end
section
abbrev rm_Row_init16 : Room := { frames := 1, cells := 1, slots := 16000, locals := 14 }
abbrev wn_Row_init16 (cB cI cJ : ClassId) (h0 : Nat) : (Nat) → va_W := (fun (u : Nat) => ([(h0, .inr (1, [.ref u, .int (0 : Int32)])), (u, .inl (cB, 16000, .inl (fun _ => 0)))] : va_W))
set_option maxHeartbeats 4000000 in
set_option maxRecDepth 100000 in
theorem c_Row_init16 (l : Launch) (dC : Nat → ClassId) (dI : Nat → Nat → Nat) (cB cI cJ : ClassId) (h0 : Nat) : MetN l y_Row_init ws_Row_init rm_Row_init16 (dC, dI) vwCl [(cB, .byte), (cI, .int), (cJ, .long)] [.ref h0, .int (16000 : Int32)] [(h0, .inr (1, [.null, .int (0 : Int32)]))] (wn_Row_init16 cB cI cJ h0 ) 1 16000 := by
  refine s_ofn (bytes := cd_Row_init) (maxL := 2) (ret := none) (by decide) rfl (Nat.le_of_ble_eq_true rfl) ?_
  intro p e s m below meth c A ls C hin hK hA hP hD hS hl
  obtain ⟨hx, hb, hml, hown, hts, hr, hlocks, hZ⟩ := id C
  have hl : lv_has ls 2 [(0, .ref h0), (1, .int (16000 : Int32))] := hl
  refine lv_aload_n hx hb d_Row_init_0 rfl (lv_at hl 0 rfl) ?_
  refine W.objInit hx hb hown (hts _ w_486) (hts _ w_487) (hts _ w_488) rfl (by rw [hml]; exact hl.1) rfl d_Row_init_1 (Nat.le_of_ble_eq_true rfl) (Nat.le_of_ble_eq_true rfl) ?_
  refine W.eq (g2 := F0 m 4 ls []) rfl ?_
  refine lv_aload_n hx hb d_Row_init_4 rfl (lv_at hl 0 rfl) ?_
  refine lv_iconst (v := 0) hx hb d_Row_init_5 (by decide) ?_
  refine lv_iload_n hx hb d_Row_init_6 rfl (lv_at hl 1 rfl) ?_
  refine s_mmax hx hb (hml.trans hl.1.symm) hown (hts _ w_26) (hts _ w_27) (hts _ w_24) (hts _ w_28) (Nat.le_of_ble_eq_true rfl) (Nat.le_of_ble_eq_true rfl) (Nat.le_of_ble_eq_true rfl) (Nat.le_of_ble_eq_true rfl) d_Row_init_7 ?_
  refine s_newB (k0 := 16000) 0 hx hb (hts _ w_489) rfl hK hP hD hS hA (by decide) (by decide) (Nat.le_of_ble_eq_true rfl) (Nat.le_of_ble_eq_true rfl) (Nat.le_of_ble_eq_true rfl) d_Row_init_10 (fun q10 H hP hD hS => ?_)
  have hP : va_P (dC, dI) vwCl [(h0, .inr (1, [.null, .int (0 : Int32)])), (q10, .inl (cB, 16000, .inl (fun _ => 0)))] H := hP
  have hD : va_D A [(h0, .inr (1, [.null, .int (0 : Int32)])), (q10, .inl (cB, 16000, .inl (fun _ => 0)))] := hD
  refine W.widen (k := 1) (n := 16000) (Nat.le_of_ble_eq_true rfl) (Nat.le_of_ble_eq_true rfl) ?_
  refine va_putF (D := (dC, dI)) (ci := 1) (v := .ref q10) (ty := .array .byte) (C := R_Row) (T := T_Row) (N := 2) hx hb hts w_0 ty_Row ty_Row_ok nm_Row hown hK hP hD hS 0 rfl rfl 0 (by decide) (hts _ w_2) (fun _ h9 => h9) rfl hin rfl (by decide +kernel) rfl rfl (Nat.le_of_ble_eq_true rfl) d_Row_init_12 (fun H locs hP hD hS => ?_)
  have hP : va_P (dC, dI) vwCl [(h0, .inr (1, [.ref q10, .int (0 : Int32)])), (q10, .inl (cB, 16000, .inl (fun _ => 0)))] H := hP
  have hD : va_D A [(h0, .inr (1, [.ref q10, .int (0 : Int32)])), (q10, .inl (cB, 16000, .inl (fun _ => 0)))] := hD
  exact s_nret (wn := wn_Row_init16 cB cI cJ h0 ) q10 hx hb hr hlocks hP hK hD hS d_Row_init_15
end
section
theorem d_Sum_of_0 : decode cd_Sum_of 0 = .ok (.iload_n 2, 1) := by decide +kernel
theorem d_Sum_of_1 : decode cd_Sum_of 1 = .ok (.iload_n 1, 1) := by decide +kernel
theorem d_Sum_of_2 : decode cd_Sum_of 2 = .ok (.isub, 1) := by decide +kernel
theorem d_Sum_of_3 : decode cd_Sum_of 3 = .ok (.istore_n 3, 1) := by decide +kernel
theorem d_Sum_of_4 : decode cd_Sum_of 4 = .ok (.iload_n 1, 1) := by decide +kernel
theorem d_Sum_of_5 : decode cd_Sum_of 5 = .ok (.iload_n 3, 1) := by decide +kernel
theorem d_Sum_of_6 : decode cd_Sum_of 6 = .ok (.bipush 16, 2) := by decide +kernel
theorem d_Sum_of_8 : decode cd_Sum_of 8 = .ok (.idiv, 1) := by decide +kernel
theorem d_Sum_of_9 : decode cd_Sum_of 9 = .ok (.bipush 16, 2) := by decide +kernel
theorem d_Sum_of_11 : decode cd_Sum_of 11 = .ok (.imul, 1) := by decide +kernel
theorem d_Sum_of_12 : decode cd_Sum_of 12 = .ok (.iadd, 1) := by decide +kernel
theorem d_Sum_of_13 : decode cd_Sum_of 13 = .ok (.istore 4, 2) := by decide +kernel
theorem d_Sum_of_15 : decode cd_Sum_of 15 = .ok (.iload_n 3, 1) := by decide +kernel
theorem d_Sum_of_16 : decode cd_Sum_of 16 = .ok (.bipush 16, 2) := by decide +kernel
theorem d_Sum_of_18 : decode cd_Sum_of 18 = .ok (.if_icmp .lt 13, 3) := by decide +kernel
theorem d_Sum_of_21 : decode cd_Sum_of 21 = .ok (.aload_n 0, 1) := by decide +kernel
theorem d_Sum_of_22 : decode cd_Sum_of 22 = .ok (.iload_n 1, 1) := by decide +kernel
theorem d_Sum_of_23 : decode cd_Sum_of 23 = .ok (.iload 4, 2) := by decide +kernel
theorem d_Sum_of_25 : decode cd_Sum_of 25 = .ok (.invokestatic 7, 3) := by decide +kernel
theorem d_Sum_of_28 : decode cd_Sum_of 28 = .ok (.goto 5, 3) := by decide +kernel
theorem d_Sum_of_31 : decode cd_Sum_of 31 = .ok (.ldc 13, 2) := by decide +kernel
theorem d_Sum_of_33 : decode cd_Sum_of 33 = .ok (.istore 5, 2) := by decide +kernel
theorem d_Sum_of_35 : decode cd_Sum_of 35 = .ok (.iload 5, 2) := by decide +kernel
theorem d_Sum_of_37 : decode cd_Sum_of 37 = .ok (.iload_n 3, 1) := by decide +kernel
theorem d_Sum_of_38 : decode cd_Sum_of 38 = .ok (.iadd, 1) := by decide +kernel
theorem d_Sum_of_39 : decode cd_Sum_of 39 = .ok (.istore 5, 2) := by decide +kernel
theorem d_Sum_of_41 : decode cd_Sum_of 41 = .ok (.iload_n 2, 1) := by decide +kernel
theorem d_Sum_of_42 : decode cd_Sum_of 42 = .ok (.iload 4, 2) := by decide +kernel
theorem d_Sum_of_44 : decode cd_Sum_of 44 = .ok (.isub, 1) := by decide +kernel
theorem d_Sum_of_45 : decode cd_Sum_of 45 = .ok (.iconst 4, 1) := by decide +kernel
theorem d_Sum_of_46 : decode cd_Sum_of 46 = .ok (.if_icmp .lt 31, 3) := by decide +kernel
theorem d_Sum_of_49 : decode cd_Sum_of 49 = .ok (.iload 5, 2) := by decide +kernel
theorem d_Sum_of_51 : decode cd_Sum_of 51 = .ok (.aload_n 0, 1) := by decide +kernel
theorem d_Sum_of_52 : decode cd_Sum_of 52 = .ok (.iload 4, 2) := by decide +kernel
theorem d_Sum_of_54 : decode cd_Sum_of 54 = .ok (.invokevirtual 14, 3) := by decide +kernel
theorem d_Sum_of_57 : decode cd_Sum_of 57 = .ok (.ldc 20, 2) := by decide +kernel
theorem d_Sum_of_59 : decode cd_Sum_of 59 = .ok (.imul, 1) := by decide +kernel
theorem d_Sum_of_60 : decode cd_Sum_of 60 = .ok (.iadd, 1) := by decide +kernel
theorem d_Sum_of_61 : decode cd_Sum_of 61 = .ok (.bipush 17, 2) := by decide +kernel
theorem d_Sum_of_63 : decode cd_Sum_of 63 = .ok (.invokestatic 21, 3) := by decide +kernel
theorem d_Sum_of_66 : decode cd_Sum_of 66 = .ok (.ldc 25, 2) := by decide +kernel
theorem d_Sum_of_68 : decode cd_Sum_of 68 = .ok (.imul, 1) := by decide +kernel
theorem d_Sum_of_69 : decode cd_Sum_of 69 = .ok (.istore 5, 2) := by decide +kernel
theorem d_Sum_of_71 : decode cd_Sum_of 71 = .ok (.iinc 4 4, 3) := by decide +kernel
theorem d_Sum_of_74 : decode cd_Sum_of 74 = .ok (.goto (-33), 3) := by decide +kernel
theorem d_Sum_of_77 : decode cd_Sum_of 77 = .ok (.iload 4, 2) := by decide +kernel
theorem d_Sum_of_79 : decode cd_Sum_of 79 = .ok (.iload_n 2, 1) := by decide +kernel
theorem d_Sum_of_80 : decode cd_Sum_of 80 = .ok (.if_icmp .ge 31, 3) := by decide +kernel
theorem d_Sum_of_83 : decode cd_Sum_of 83 = .ok (.iload 5, 2) := by decide +kernel
theorem d_Sum_of_85 : decode cd_Sum_of 85 = .ok (.aload_n 0, 1) := by decide +kernel
theorem d_Sum_of_86 : decode cd_Sum_of 86 = .ok (.iload 4, 2) := by decide +kernel
theorem d_Sum_of_88 : decode cd_Sum_of 88 = .ok (.invokevirtual 26, 3) := by decide +kernel
theorem d_Sum_of_91 : decode cd_Sum_of 91 = .ok (.ldc 13, 2) := by decide +kernel
theorem d_Sum_of_93 : decode cd_Sum_of 93 = .ok (.imul, 1) := by decide +kernel
theorem d_Sum_of_94 : decode cd_Sum_of 94 = .ok (.iadd, 1) := by decide +kernel
theorem d_Sum_of_95 : decode cd_Sum_of 95 = .ok (.bipush 11, 2) := by decide +kernel
theorem d_Sum_of_97 : decode cd_Sum_of 97 = .ok (.invokestatic 21, 3) := by decide +kernel
theorem d_Sum_of_100 : decode cd_Sum_of 100 = .ok (.ldc 29, 2) := by decide +kernel
theorem d_Sum_of_102 : decode cd_Sum_of 102 = .ok (.imul, 1) := by decide +kernel
theorem d_Sum_of_103 : decode cd_Sum_of 103 = .ok (.istore 5, 2) := by decide +kernel
theorem d_Sum_of_105 : decode cd_Sum_of 105 = .ok (.iinc 4 1, 3) := by decide +kernel
theorem d_Sum_of_108 : decode cd_Sum_of 108 = .ok (.goto (-31), 3) := by decide +kernel
theorem d_Sum_of_111 : decode cd_Sum_of 111 = .ok (.iload 5, 2) := by decide +kernel
theorem d_Sum_of_113 : decode cd_Sum_of 113 = .ok (.iload 5, 2) := by decide +kernel
theorem d_Sum_of_115 : decode cd_Sum_of 115 = .ok (.bipush 15, 2) := by decide +kernel
theorem d_Sum_of_117 : decode cd_Sum_of 117 = .ok (.iushr, 1) := by decide +kernel
theorem d_Sum_of_118 : decode cd_Sum_of 118 = .ok (.ixor, 1) := by decide +kernel
theorem d_Sum_of_119 : decode cd_Sum_of 119 = .ok (.ldc 30, 2) := by decide +kernel
theorem d_Sum_of_121 : decode cd_Sum_of 121 = .ok (.imul, 1) := by decide +kernel
theorem d_Sum_of_122 : decode cd_Sum_of 122 = .ok (.istore 5, 2) := by decide +kernel
theorem d_Sum_of_124 : decode cd_Sum_of 124 = .ok (.iload 5, 2) := by decide +kernel
theorem d_Sum_of_126 : decode cd_Sum_of 126 = .ok (.iload 5, 2) := by decide +kernel
theorem d_Sum_of_128 : decode cd_Sum_of 128 = .ok (.bipush 13, 2) := by decide +kernel
theorem d_Sum_of_130 : decode cd_Sum_of 130 = .ok (.iushr, 1) := by decide +kernel
theorem d_Sum_of_131 : decode cd_Sum_of 131 = .ok (.ixor, 1) := by decide +kernel
theorem d_Sum_of_132 : decode cd_Sum_of 132 = .ok (.ldc 20, 2) := by decide +kernel
theorem d_Sum_of_134 : decode cd_Sum_of 134 = .ok (.imul, 1) := by decide +kernel
theorem d_Sum_of_135 : decode cd_Sum_of 135 = .ok (.istore 5, 2) := by decide +kernel
theorem d_Sum_of_137 : decode cd_Sum_of 137 = .ok (.iload 5, 2) := by decide +kernel
theorem d_Sum_of_139 : decode cd_Sum_of 139 = .ok (.iload 5, 2) := by decide +kernel
theorem d_Sum_of_141 : decode cd_Sum_of 141 = .ok (.bipush 16, 2) := by decide +kernel
theorem d_Sum_of_143 : decode cd_Sum_of 143 = .ok (.iushr, 1) := by decide +kernel
theorem d_Sum_of_144 : decode cd_Sum_of 144 = .ok (.ixor, 1) := by decide +kernel
theorem d_Sum_of_145 : decode cd_Sum_of 145 = .ok (.ireturn, 1) := by decide +kernel
theorem d_Sum_ofLanes_0 : decode cd_Sum_ofLanes 0 = .ok (.ldc 31, 2) := by decide +kernel
theorem d_Sum_ofLanes_2 : decode cd_Sum_ofLanes 2 = .ok (.istore_n 3, 1) := by decide +kernel
theorem d_Sum_ofLanes_3 : decode cd_Sum_ofLanes 3 = .ok (.ldc 30, 2) := by decide +kernel
theorem d_Sum_ofLanes_5 : decode cd_Sum_ofLanes 5 = .ok (.istore 4, 2) := by decide +kernel
theorem d_Sum_ofLanes_7 : decode cd_Sum_ofLanes 7 = .ok (.iconst 0, 1) := by decide +kernel
theorem d_Sum_ofLanes_8 : decode cd_Sum_ofLanes 8 = .ok (.istore 5, 2) := by decide +kernel
theorem d_Sum_ofLanes_10 : decode cd_Sum_ofLanes 10 = .ok (.ldc 32, 2) := by decide +kernel
theorem d_Sum_ofLanes_12 : decode cd_Sum_ofLanes 12 = .ok (.istore 6, 2) := by decide +kernel
theorem d_Sum_ofLanes_14 : decode cd_Sum_ofLanes 14 = .ok (.iload_n 1, 1) := by decide +kernel
theorem d_Sum_ofLanes_15 : decode cd_Sum_ofLanes 15 = .ok (.istore 7, 2) := by decide +kernel
theorem d_Sum_ofLanes_17 : decode cd_Sum_ofLanes 17 = .ok (.iload 7, 2) := by decide +kernel
theorem d_Sum_ofLanes_19 : decode cd_Sum_ofLanes 19 = .ok (.iload_n 2, 1) := by decide +kernel
theorem d_Sum_ofLanes_20 : decode cd_Sum_ofLanes 20 = .ok (.if_icmp .ge 67, 3) := by decide +kernel
theorem d_Sum_ofLanes_23 : decode cd_Sum_ofLanes 23 = .ok (.iload_n 3, 1) := by decide +kernel
theorem d_Sum_ofLanes_24 : decode cd_Sum_ofLanes 24 = .ok (.aload_n 0, 1) := by decide +kernel
theorem d_Sum_ofLanes_25 : decode cd_Sum_ofLanes 25 = .ok (.iload 7, 2) := by decide +kernel
theorem d_Sum_ofLanes_27 : decode cd_Sum_ofLanes 27 = .ok (.invokevirtual 14, 3) := by decide +kernel
theorem d_Sum_ofLanes_30 : decode cd_Sum_ofLanes 30 = .ok (.invokestatic 33, 3) := by decide +kernel
theorem d_Sum_ofLanes_33 : decode cd_Sum_ofLanes 33 = .ok (.istore_n 3, 1) := by decide +kernel
theorem d_Sum_ofLanes_34 : decode cd_Sum_ofLanes 34 = .ok (.iload 4, 2) := by decide +kernel
theorem d_Sum_ofLanes_36 : decode cd_Sum_ofLanes 36 = .ok (.aload_n 0, 1) := by decide +kernel
theorem d_Sum_ofLanes_37 : decode cd_Sum_ofLanes 37 = .ok (.iload 7, 2) := by decide +kernel
theorem d_Sum_ofLanes_39 : decode cd_Sum_ofLanes 39 = .ok (.iconst 4, 1) := by decide +kernel
theorem d_Sum_ofLanes_40 : decode cd_Sum_ofLanes 40 = .ok (.iadd, 1) := by decide +kernel
theorem d_Sum_ofLanes_41 : decode cd_Sum_ofLanes 41 = .ok (.invokevirtual 14, 3) := by decide +kernel
theorem d_Sum_ofLanes_44 : decode cd_Sum_ofLanes 44 = .ok (.invokestatic 33, 3) := by decide +kernel
theorem d_Sum_ofLanes_47 : decode cd_Sum_ofLanes 47 = .ok (.istore 4, 2) := by decide +kernel
theorem d_Sum_ofLanes_49 : decode cd_Sum_ofLanes 49 = .ok (.iload 5, 2) := by decide +kernel
theorem d_Sum_ofLanes_51 : decode cd_Sum_ofLanes 51 = .ok (.aload_n 0, 1) := by decide +kernel
theorem d_Sum_ofLanes_52 : decode cd_Sum_ofLanes 52 = .ok (.iload 7, 2) := by decide +kernel
theorem d_Sum_ofLanes_54 : decode cd_Sum_ofLanes 54 = .ok (.bipush 8, 2) := by decide +kernel
theorem d_Sum_ofLanes_56 : decode cd_Sum_ofLanes 56 = .ok (.iadd, 1) := by decide +kernel
theorem d_Sum_ofLanes_57 : decode cd_Sum_ofLanes 57 = .ok (.invokevirtual 14, 3) := by decide +kernel
theorem d_Sum_ofLanes_60 : decode cd_Sum_ofLanes 60 = .ok (.invokestatic 33, 3) := by decide +kernel
theorem d_Sum_ofLanes_63 : decode cd_Sum_ofLanes 63 = .ok (.istore 5, 2) := by decide +kernel
theorem d_Sum_ofLanes_65 : decode cd_Sum_ofLanes 65 = .ok (.iload 6, 2) := by decide +kernel
theorem d_Sum_ofLanes_67 : decode cd_Sum_ofLanes 67 = .ok (.aload_n 0, 1) := by decide +kernel
theorem d_Sum_ofLanes_68 : decode cd_Sum_ofLanes 68 = .ok (.iload 7, 2) := by decide +kernel
theorem d_Sum_ofLanes_70 : decode cd_Sum_ofLanes 70 = .ok (.bipush 12, 2) := by decide +kernel
theorem d_Sum_ofLanes_72 : decode cd_Sum_ofLanes 72 = .ok (.iadd, 1) := by decide +kernel
theorem d_Sum_ofLanes_73 : decode cd_Sum_ofLanes 73 = .ok (.invokevirtual 14, 3) := by decide +kernel
theorem d_Sum_ofLanes_76 : decode cd_Sum_ofLanes 76 = .ok (.invokestatic 33, 3) := by decide +kernel
theorem d_Sum_ofLanes_79 : decode cd_Sum_ofLanes 79 = .ok (.istore 6, 2) := by decide +kernel
theorem d_Sum_ofLanes_81 : decode cd_Sum_ofLanes 81 = .ok (.iinc 7 16, 3) := by decide +kernel
theorem d_Sum_ofLanes_84 : decode cd_Sum_ofLanes 84 = .ok (.goto (-67), 3) := by decide +kernel
theorem d_Sum_ofLanes_87 : decode cd_Sum_ofLanes 87 = .ok (.iload_n 3, 1) := by decide +kernel
theorem d_Sum_ofLanes_88 : decode cd_Sum_ofLanes 88 = .ok (.iconst 1, 1) := by decide +kernel
theorem d_Sum_ofLanes_89 : decode cd_Sum_ofLanes 89 = .ok (.invokestatic 21, 3) := by decide +kernel
theorem d_Sum_ofLanes_92 : decode cd_Sum_ofLanes 92 = .ok (.iload 4, 2) := by decide +kernel
theorem d_Sum_ofLanes_94 : decode cd_Sum_ofLanes 94 = .ok (.bipush 7, 2) := by decide +kernel
theorem d_Sum_ofLanes_96 : decode cd_Sum_ofLanes 96 = .ok (.invokestatic 21, 3) := by decide +kernel
theorem d_Sum_ofLanes_99 : decode cd_Sum_ofLanes 99 = .ok (.iadd, 1) := by decide +kernel
theorem d_Sum_ofLanes_100 : decode cd_Sum_ofLanes 100 = .ok (.iload 5, 2) := by decide +kernel
theorem d_Sum_ofLanes_102 : decode cd_Sum_ofLanes 102 = .ok (.bipush 12, 2) := by decide +kernel
theorem d_Sum_ofLanes_104 : decode cd_Sum_ofLanes 104 = .ok (.invokestatic 21, 3) := by decide +kernel
theorem d_Sum_ofLanes_107 : decode cd_Sum_ofLanes 107 = .ok (.iadd, 1) := by decide +kernel
theorem d_Sum_ofLanes_108 : decode cd_Sum_ofLanes 108 = .ok (.iload 6, 2) := by decide +kernel
theorem d_Sum_ofLanes_110 : decode cd_Sum_ofLanes 110 = .ok (.bipush 18, 2) := by decide +kernel
theorem d_Sum_ofLanes_112 : decode cd_Sum_ofLanes 112 = .ok (.invokestatic 21, 3) := by decide +kernel
theorem d_Sum_ofLanes_115 : decode cd_Sum_ofLanes 115 = .ok (.iadd, 1) := by decide +kernel
theorem d_Sum_ofLanes_116 : decode cd_Sum_ofLanes 116 = .ok (.ireturn, 1) := by decide +kernel
theorem d_Sum_lane_0 : decode cd_Sum_lane 0 = .ok (.iload_n 0, 1) := by decide +kernel
theorem d_Sum_lane_1 : decode cd_Sum_lane 1 = .ok (.iload_n 1, 1) := by decide +kernel
theorem d_Sum_lane_2 : decode cd_Sum_lane 2 = .ok (.ldc 30, 2) := by decide +kernel
theorem d_Sum_lane_4 : decode cd_Sum_lane 4 = .ok (.imul, 1) := by decide +kernel
theorem d_Sum_lane_5 : decode cd_Sum_lane 5 = .ok (.iadd, 1) := by decide +kernel
theorem d_Sum_lane_6 : decode cd_Sum_lane 6 = .ok (.bipush 13, 2) := by decide +kernel
theorem d_Sum_lane_8 : decode cd_Sum_lane 8 = .ok (.invokestatic 21, 3) := by decide +kernel
theorem d_Sum_lane_11 : decode cd_Sum_lane 11 = .ok (.ldc 29, 2) := by decide +kernel
theorem d_Sum_lane_13 : decode cd_Sum_lane 13 = .ok (.imul, 1) := by decide +kernel
theorem d_Sum_lane_14 : decode cd_Sum_lane 14 = .ok (.ireturn, 1) := by decide +kernel
theorem d_Sum_rotated_0 : decode cd_Sum_rotated 0 = .ok (.iload_n 0, 1) := by decide +kernel
theorem d_Sum_rotated_1 : decode cd_Sum_rotated 1 = .ok (.iload_n 1, 1) := by decide +kernel
theorem d_Sum_rotated_2 : decode cd_Sum_rotated 2 = .ok (.ishl, 1) := by decide +kernel
theorem d_Sum_rotated_3 : decode cd_Sum_rotated 3 = .ok (.iload_n 0, 1) := by decide +kernel
theorem d_Sum_rotated_4 : decode cd_Sum_rotated 4 = .ok (.bipush 32, 2) := by decide +kernel
theorem d_Sum_rotated_6 : decode cd_Sum_rotated 6 = .ok (.iload_n 1, 1) := by decide +kernel
theorem d_Sum_rotated_7 : decode cd_Sum_rotated 7 = .ok (.isub, 1) := by decide +kernel
theorem d_Sum_rotated_8 : decode cd_Sum_rotated 8 = .ok (.iushr, 1) := by decide +kernel
theorem d_Sum_rotated_9 : decode cd_Sum_rotated 9 = .ok (.ior, 1) := by decide +kernel
theorem d_Sum_rotated_10 : decode cd_Sum_rotated 10 = .ok (.ireturn, 1) := by decide +kernel
end
section
abbrev wd_Sum_rotated (cB cI cJ : ClassId) : va_W := []
abbrev rm_Sum_rotated : Room := { frames := 0, cells := 0, slots := 0, locals := 0 }
section
variable {p : Program} {l : Launch} {e : Env} {s : State} {m : MethodId} {args : Array Value} {below : List Frame} {meth : Method} {c : Code} {dC : Nat → ClassId} {dI : Nat → Nat → Nat} {A : Nat → Prop} {cB cI cJ : ClassId} {H : Heap} {locs : List Loc} {ls : Array Slot} {N : Nat} 
noncomputable def j_Sum_rotated_0 (x0 : Int32) (x1 : Int32)  : Option (Int32) :=
  (some ((x0 <<< (x1 &&& 31)) ||| (us32 x0 ((32 : Int32) - x1))) : Option (Int32))
set_option maxHeartbeats 4000000 in
set_option maxRecDepth 100000 in
theorem k_Sum_rotated_0 {r_z : Int32} (C : Fx p s m args meth c cd_Sum_rotated 2 R_Sum lw_g (some .int)) (hK : va_K (dC, dI) vwCl [(cB, .byte), (cI, .int), (cJ, .long)] s) (hA : ∀ q, s.heap.size ≤ q → A q) (x0 : Int32) (x1 : Int32)  (hf : j_Sum_rotated_0 x0 x1  = some r_z) (hP : va_P (dC, dI) vwCl (wd_Sum_rotated cB cI cJ) H) (hD : va_D A (wd_Sum_rotated cB cI cJ)) (hS : va_S A s.heap H locs) (hl : lv_has ls 2 [(0, .int x0), (1, .int x1)]) : W p l e rm_Sum_rotated s m args below meth c H locs 0 0 (MQ below (sQi (dC, dI) vwCl [(cB, .byte), (cI, .int), (cJ, .long)] A r_z (wd_Sum_rotated cB cI cJ)) args s 0 0 A) (F0 m 0 ls []) := by
  obtain ⟨hx, hb, hml, hown, hts, hr, hlocks, hZ⟩ := id C
  unfold j_Sum_rotated_0 at hf
  refine lv_iload_n hx hb d_Sum_rotated_0 rfl (lv_at hl 0 rfl) ?_
  refine lv_iload_n hx hb d_Sum_rotated_1 rfl (lv_at hl 1 rfl) ?_
  refine lv_ishl hx hb d_Sum_rotated_2 ?_
  refine lv_iload_n hx hb d_Sum_rotated_3 rfl (lv_at hl 0 rfl) ?_
  refine lv_bipush (v := 32) hx hb d_Sum_rotated_4 (by decide) ?_
  refine lv_iload_n hx hb d_Sum_rotated_6 rfl (lv_at hl 1 rfl) ?_
  refine lv_isub hx hb d_Sum_rotated_7 ?_
  refine lv_iushr (v := (us32 x0 ((32 : Int32) - x1))) hx hb d_Sum_rotated_8 rfl ?_
  refine lv_ior hx hb d_Sum_rotated_9 ?_
  cases hf
  exact s_iret hx hb hr hlocks hP hK hD hS d_Sum_rotated_10
end
noncomputable abbrev f_Sum_rotated (x0 : Int32) (x1 : Int32) : Option (Int32) := j_Sum_rotated_0 x0 x1
set_option maxRecDepth 100000 in
theorem c_Sum_rotated (l : Launch) (dC : Nat → ClassId) (dI : Nat → Nat → Nat) (cB cI cJ : ClassId)   (x0 : Int32) (x1 : Int32) {r_z : Int32} (hf : f_Sum_rotated x0 x1 = some r_z) : MetI l y_Sum_rotated ws_Sum_rotated rm_Sum_rotated (dC, dI) vwCl [(cB, .byte), (cI, .int), (cJ, .long)] [.int x0, .int x1] (wd_Sum_rotated cB cI cJ) r_z (wd_Sum_rotated cB cI cJ) 0 0 :=
  s_ofi (bytes := cd_Sum_rotated) (maxL := 2) (ret := (some .int)) (by decide) rfl (Nat.le_of_ble_eq_true rfl) (fun p e s m below meth c A ls C hK hA hP hD hS hl => k_Sum_rotated_0 C hK hA x0 x1 hf hP hD hS (lv_sub hl [0, 1] rfl))
end
section
abbrev wd_Sum_lane (cB cI cJ : ClassId) : va_W := []
abbrev rm_Sum_lane : Room := { frames := 1, cells := 0, slots := 0, locals := 21 }
section
variable {p : Program} {l : Launch} {e : Env} {s : State} {m : MethodId} {args : Array Value} {below : List Frame} {meth : Method} {c : Code} {dC : Nat → ClassId} {dI : Nat → Nat → Nat} {A : Nat → Prop} {cB cI cJ : ClassId} {H : Heap} {locs : List Loc} {ls : Array Slot} {N : Nat} 
noncomputable def j_Sum_lane_0 (x0 : Int32) (x1 : Int32)  : Option (Int32) :=
  bd1 (f_Sum_rotated (x0 + (x1 * (-2048144777 : Int32))) (13 : Int32)) (fun r8 => (some (r8 * (-1640531535 : Int32)) : Option (Int32)))
set_option maxHeartbeats 4000000 in
set_option maxRecDepth 100000 in
theorem k_Sum_lane_0 {r_z : Int32} (C : Fx p s m args meth c cd_Sum_lane 2 R_Sum lw_g (some .int)) (hK : va_K (dC, dI) vwCl [(cB, .byte), (cI, .int), (cJ, .long)] s) (hA : ∀ q, s.heap.size ≤ q → A q) (x0 : Int32) (x1 : Int32)  (hf : j_Sum_lane_0 x0 x1  = some r_z) (hP : va_P (dC, dI) vwCl (wd_Sum_lane cB cI cJ) H) (hD : va_D A (wd_Sum_lane cB cI cJ)) (hS : va_S A s.heap H locs) (hl : lv_has ls 2 [(0, .int x0), (1, .int x1)]) : W p l e rm_Sum_lane s m args below meth c H locs 0 0 (MQ below (sQi (dC, dI) vwCl [(cB, .byte), (cI, .int), (cJ, .long)] A r_z (wd_Sum_lane cB cI cJ)) args s 0 0 A) (F0 m 0 ls []) := by
  obtain ⟨hx, hb, hml, hown, hts, hr, hlocks, hZ⟩ := id C
  unfold j_Sum_lane_0 at hf
  refine lv_iload_n hx hb d_Sum_lane_0 rfl (lv_at hl 0 rfl) ?_
  refine lv_iload_n hx hb d_Sum_lane_1 rfl (lv_at hl 1 rfl) ?_
  refine lv_ldc (v := -2048144777) hx hb hown (hts _ w_138) d_Sum_lane_2 ?_
  refine lv_imul hx hb d_Sum_lane_4 ?_
  refine lv_iadd hx hb d_Sum_lane_5 ?_
  refine lv_bipush (v := 13) hx hb d_Sum_lane_6 (by decide) ?_
  obtain ⟨r8, hc8, hf⟩ := bd1_some hf
  refine s_Si (As := [.int (x0 + (x1 * (-2048144777 : Int32))), .int (13 : Int32)]) (rest := []) (wr := []) (ws' := wd_Sum_lane cB cI cJ) C.call (c_Sum_rotated l dC dI cB cI cJ    (x0 + (x1 * (-2048144777 : Int32))) (13 : Int32) hc8) (va_cwS 2 hts (gd_S w_139 w_140 w_141 w_142) rfl rfl rfl hd_Sum_rotated ⟨Nat.le_of_ble_eq_true rfl, Nat.le_of_ble_eq_true rfl⟩) rfl hl.1 rfl (Nat.le_of_ble_eq_true rfl) d_Sum_lane_8 ⟨Nat.le_of_ble_eq_true rfl, Nat.le_of_ble_eq_true rfl⟩ hZ hK hP hD hS hA [] [] [] rfl rfl rfl rfl (by decide) rfl rfl (fun H locs hP hD hS => ?_)
  refine lv_ldc (v := -1640531535) hx hb hown (hts _ w_143) d_Sum_lane_11 ?_
  refine lv_imul hx hb d_Sum_lane_13 ?_
  cases hf
  exact s_iret hx hb hr hlocks hP hK hD hS d_Sum_lane_14
end
noncomputable abbrev f_Sum_lane (x0 : Int32) (x1 : Int32) : Option (Int32) := j_Sum_lane_0 x0 x1
set_option maxRecDepth 100000 in
theorem c_Sum_lane (l : Launch) (dC : Nat → ClassId) (dI : Nat → Nat → Nat) (cB cI cJ : ClassId)   (x0 : Int32) (x1 : Int32) {r_z : Int32} (hf : f_Sum_lane x0 x1 = some r_z) : MetI l y_Sum_lane ws_Sum_lane rm_Sum_lane (dC, dI) vwCl [(cB, .byte), (cI, .int), (cJ, .long)] [.int x0, .int x1] (wd_Sum_lane cB cI cJ) r_z (wd_Sum_lane cB cI cJ) 0 0 :=
  s_ofi (bytes := cd_Sum_lane) (maxL := 2) (ret := (some .int)) (by decide) rfl (Nat.le_of_ble_eq_true rfl) (fun p e s m below meth c A ls C hK hA hP hD hS hl => k_Sum_lane_0 C hK hA x0 x1 hf hP hD hS (lv_sub hl [0, 1] rfl))
end
section
abbrev wd_Sum_ofLanes (r ra : Nat) (cB cI cJ : ClassId) (rL : Nat) (rn : Int32) (rf : Nat → Int32) : va_W := [(r, .inr (1, [.ref ra, .int rn])), (ra, .inl (cB, rL, .inl rf))]
abbrev rm_Sum_ofLanes : Room := { frames := 2, cells := 0, slots := 0, locals := 42 }
section
variable {p : Program} {l : Launch} {e : Env} {s : State} {m : MethodId} {args : Array Value} {below : List Frame} {meth : Method} {c : Code} {dC : Nat → ClassId} {dI : Nat → Nat → Nat} {A : Nat → Prop} {cB cI cJ : ClassId} {H : Heap} {locs : List Loc} {ls : Array Slot} {N : Nat} {r ra rL : Nat}
noncomputable def b_Sum_ofLanes_17 (rL : Nat) (x2 : Int32) (rn : Int32) (rf : Nat → Int32)  (kh17 : Int32 → Int32 → Int32 → Int32 → Int32 → Option (Int32)) (x3 : Int32) (x4 : Int32) (x5 : Int32) (x6 : Int32) (x7 : Int32) : Option (Int32) :=
  (if x2 ≤ x7 then bd1 (f_Sum_rotated x3 (1 : Int32)) (fun r89 => bd1 (f_Sum_rotated x4 (7 : Int32)) (fun r96 => bd1 (f_Sum_rotated x5 (12 : Int32)) (fun r104 => bd1 (f_Sum_rotated x6 (18 : Int32)) (fun r112 => (some (((r89 + r96) + r104) + r112) : Option (Int32)))))) else bd1 (f_Row_word rL x7 rn rf) (fun r27 => bd1 (f_Sum_lane x3 r27) (fun r30 => bd1 (f_Row_word rL (x7 + (4 : Int32)) rn rf) (fun r41 => bd1 (f_Sum_lane x4 r41) (fun r44 => bd1 (f_Row_word rL (x7 + (8 : Int32)) rn rf) (fun r57 => bd1 (f_Sum_lane x5 r57) (fun r60 => bd1 (f_Row_word rL (x7 + (12 : Int32)) rn rf) (fun r73 => bd1 (f_Sum_lane x6 r73) (fun r76 => (kh17 r30 r44 r60 r76 (x7 + 16)))))))))))
set_option maxHeartbeats 4000000 in
set_option maxRecDepth 100000 in
theorem k_Sum_ofLanes_17 {r_z : Int32} (C : Fx p s m args meth c cd_Sum_ofLanes 8 R_Sum lw_g (some .int)) (hK : va_K (dC, dI) vwCl [(cB, .byte), (cI, .int), (cJ, .long)] s) (hA : ∀ q, s.heap.size ≤ q → A q) (x2 : Int32) (rn : Int32) (rf : Nat → Int32)  : ∀ (n : Nat) (x3 : Int32) (x4 : Int32) (x5 : Int32) (x6 : Int32) (x7 : Int32), loop5 (b_Sum_ofLanes_17 rL x2 rn rf ) n x3 x4 x5 x6 x7 = some r_z → ∀ (H : Heap) (locs : List Loc), va_P (dC, dI) vwCl (wd_Sum_ofLanes r ra cB cI cJ rL rn rf) H → va_D A (wd_Sum_ofLanes r ra cB cI cJ rL rn rf) → va_S A s.heap H locs → ∀ (ls : Array Slot), lv_has ls 8 [(0, .ref r), (2, .int x2), (3, .int x3), (4, .int x4), (5, .int x5), (6, .int x6), (7, .int x7)] → W p l e rm_Sum_ofLanes s m args below meth c H locs 0 0 (MQ below (sQi (dC, dI) vwCl [(cB, .byte), (cI, .int), (cJ, .long)] A r_z (wd_Sum_ofLanes r ra cB cI cJ rL rn rf)) args s 0 0 A) (F0 m 17 ls []) := by
  obtain ⟨hx, hb, hml, hown, hts, hr, hlocks, hZ⟩ := id C
  intro n
  induction n with
  | zero => intro x3 x4 x5 x6 x7 hf; cases hf
  | succ n ih17 =>
    intro x3 x4 x5 x6 x7 hf H locs hP hD hS ls hl
    have hf : b_Sum_ofLanes_17 rL x2 rn rf  (loop5 (b_Sum_ofLanes_17 rL x2 rn rf ) n) x3 x4 x5 x6 x7 = some r_z := hf
    generalize loop5 (b_Sum_ofLanes_17 rL x2 rn rf ) n = kh17 at hf ih17
    unfold b_Sum_ofLanes_17 at hf
    refine lv_iload hx hb d_Sum_ofLanes_17 (lv_at hl 6 rfl) ?_
    refine lv_iload_n hx hb d_Sum_ofLanes_19 rfl (lv_at hl 1 rfl) ?_
    refine lv_icmp_ge (tgt := 87) hx hb d_Sum_ofLanes_20 (by decide) (fun c_20 => ?_) (fun c_20 => ?_)
    · have hf := br_pos c_20 hf
      refine lv_iload_n hx hb d_Sum_ofLanes_87 rfl (lv_at hl 2 rfl) ?_
      refine lv_iconst (v := 1) hx hb d_Sum_ofLanes_88 (by decide) ?_
      obtain ⟨r89, hc89, hf⟩ := bd1_some hf
      refine s_Si (As := [.int x3, .int (1 : Int32)]) (rest := []) (wr := [(r, .inr (1, [.ref ra, .int rn])), (ra, .inl (cB, rL, .inl rf))]) (ws' := wd_Sum_ofLanes r ra cB cI cJ rL rn rf) C.call (c_Sum_rotated l dC dI cB cI cJ    x3 (1 : Int32) hc89) (va_cwS 2 hts (gd_S w_139 w_140 w_141 w_142) rfl rfl rfl hd_Sum_rotated ⟨Nat.le_of_ble_eq_true rfl, Nat.le_of_ble_eq_true rfl⟩) rfl hl.1 rfl (Nat.le_of_ble_eq_true rfl) d_Sum_ofLanes_89 ⟨Nat.le_of_ble_eq_true rfl, Nat.le_of_ble_eq_true rfl⟩ hZ hK hP hD hS hA [] [0, 1] [0, 1] rfl rfl rfl rfl (by decide) rfl rfl (fun H locs hP hD hS => ?_)
      refine lv_iload hx hb d_Sum_ofLanes_92 (lv_at hl 3 rfl) ?_
      refine lv_bipush (v := 7) hx hb d_Sum_ofLanes_94 (by decide) ?_
      obtain ⟨r96, hc96, hf⟩ := bd1_some hf
      refine s_Si (As := [.int x4, .int (7 : Int32)]) (rest := [.int r89]) (wr := [(r, .inr (1, [.ref ra, .int rn])), (ra, .inl (cB, rL, .inl rf))]) (ws' := wd_Sum_ofLanes r ra cB cI cJ rL rn rf) C.call (c_Sum_rotated l dC dI cB cI cJ    x4 (7 : Int32) hc96) (va_cwS 2 hts (gd_S w_139 w_140 w_141 w_142) rfl rfl rfl hd_Sum_rotated ⟨Nat.le_of_ble_eq_true rfl, Nat.le_of_ble_eq_true rfl⟩) rfl hl.1 rfl (Nat.le_of_ble_eq_true rfl) d_Sum_ofLanes_96 ⟨Nat.le_of_ble_eq_true rfl, Nat.le_of_ble_eq_true rfl⟩ hZ hK hP hD hS hA [] [0, 1] [0, 1] rfl rfl rfl rfl (by decide) rfl rfl (fun H locs hP hD hS => ?_)
      refine lv_iadd hx hb d_Sum_ofLanes_99 ?_
      refine lv_iload hx hb d_Sum_ofLanes_100 (lv_at hl 4 rfl) ?_
      refine lv_bipush (v := 12) hx hb d_Sum_ofLanes_102 (by decide) ?_
      obtain ⟨r104, hc104, hf⟩ := bd1_some hf
      refine s_Si (As := [.int x5, .int (12 : Int32)]) (rest := [.int (r89 + r96)]) (wr := [(r, .inr (1, [.ref ra, .int rn])), (ra, .inl (cB, rL, .inl rf))]) (ws' := wd_Sum_ofLanes r ra cB cI cJ rL rn rf) C.call (c_Sum_rotated l dC dI cB cI cJ    x5 (12 : Int32) hc104) (va_cwS 2 hts (gd_S w_139 w_140 w_141 w_142) rfl rfl rfl hd_Sum_rotated ⟨Nat.le_of_ble_eq_true rfl, Nat.le_of_ble_eq_true rfl⟩) rfl hl.1 rfl (Nat.le_of_ble_eq_true rfl) d_Sum_ofLanes_104 ⟨Nat.le_of_ble_eq_true rfl, Nat.le_of_ble_eq_true rfl⟩ hZ hK hP hD hS hA [] [0, 1] [0, 1] rfl rfl rfl rfl (by decide) rfl rfl (fun H locs hP hD hS => ?_)
      refine lv_iadd hx hb d_Sum_ofLanes_107 ?_
      refine lv_iload hx hb d_Sum_ofLanes_108 (lv_at hl 5 rfl) ?_
      refine lv_bipush (v := 18) hx hb d_Sum_ofLanes_110 (by decide) ?_
      obtain ⟨r112, hc112, hf⟩ := bd1_some hf
      refine s_Si (As := [.int x6, .int (18 : Int32)]) (rest := [.int ((r89 + r96) + r104)]) (wr := [(r, .inr (1, [.ref ra, .int rn])), (ra, .inl (cB, rL, .inl rf))]) (ws' := wd_Sum_ofLanes r ra cB cI cJ rL rn rf) C.call (c_Sum_rotated l dC dI cB cI cJ    x6 (18 : Int32) hc112) (va_cwS 2 hts (gd_S w_139 w_140 w_141 w_142) rfl rfl rfl hd_Sum_rotated ⟨Nat.le_of_ble_eq_true rfl, Nat.le_of_ble_eq_true rfl⟩) rfl hl.1 rfl (Nat.le_of_ble_eq_true rfl) d_Sum_ofLanes_112 ⟨Nat.le_of_ble_eq_true rfl, Nat.le_of_ble_eq_true rfl⟩ hZ hK hP hD hS hA [] [0, 1] [0, 1] rfl rfl rfl rfl (by decide) rfl rfl (fun H locs hP hD hS => ?_)
      refine lv_iadd hx hb d_Sum_ofLanes_115 ?_
      cases hf
      exact s_iret hx hb hr hlocks hP hK hD hS d_Sum_ofLanes_116
    · have hf := br_neg c_20 hf
      refine lv_iload_n hx hb d_Sum_ofLanes_23 rfl (lv_at hl 2 rfl) ?_
      refine lv_aload_n hx hb d_Sum_ofLanes_24 rfl (lv_at hl 0 rfl) ?_
      refine lv_iload hx hb d_Sum_ofLanes_25 (lv_at hl 6 rfl) ?_
      obtain ⟨r27, hc27, hf⟩ := bd1_some hf
      refine s_Vi (As := [.int x7]) (rest := [.int x3]) (wr := []) (ws' := wd_Sum_ofLanes r ra cB cI cJ rL rn rf) C.call (c_Row_word l dC dI cB cI cJ r ra rL rn rf x7 hc27) (cwV 1 hts (gd_V w_146 w_58 w_59 w_12 w_60) rfl rfl rfl ⟨rfl, hd_Row_word⟩ ⟨Nat.le_of_ble_eq_true rfl, Nat.le_of_ble_eq_true rfl⟩) rfl hl.1 rfl (Nat.le_of_ble_eq_true rfl) d_Sum_ofLanes_27 ⟨Nat.le_of_ble_eq_true rfl, Nat.le_of_ble_eq_true rfl⟩ hZ hK hP hD hS hA 1 0 rfl rfl [0, 1] [] [0, 1] rfl rfl rfl rfl (by decide) rfl rfl (fun H locs hP hD hS => ?_)
      obtain ⟨r30, hc30, hf⟩ := bd1_some hf
      refine s_Si (As := [.int x3, .int r27]) (rest := []) (wr := [(r, .inr (1, [.ref ra, .int rn])), (ra, .inl (cB, rL, .inl rf))]) (ws' := wd_Sum_ofLanes r ra cB cI cJ rL rn rf) C.call (c_Sum_lane l dC dI cB cI cJ    x3 r27 hc30) (va_cwS 2 hts (gd_S w_147 w_148 w_141 w_149) rfl rfl rfl hd_Sum_lane ⟨Nat.le_of_ble_eq_true rfl, Nat.le_of_ble_eq_true rfl⟩) rfl hl.1 rfl (Nat.le_of_ble_eq_true rfl) d_Sum_ofLanes_30 ⟨Nat.le_of_ble_eq_true rfl, Nat.le_of_ble_eq_true rfl⟩ hZ hK hP hD hS hA [] [0, 1] [0, 1] rfl rfl rfl rfl (by decide) rfl rfl (fun H locs hP hD hS => ?_)
      refine lv_istore_n (lv' := [(3, .int r30), (0, .ref r), (2, .int x2), (4, .int x4), (5, .int x5), (6, .int x6), (7, .int x7)]) hx hb d_Sum_ofLanes_33 rfl hl (by decide) rfl (fun ls hl => ?_)
      refine lv_iload hx hb d_Sum_ofLanes_34 (lv_at hl 3 rfl) ?_
      refine lv_aload_n hx hb d_Sum_ofLanes_36 rfl (lv_at hl 1 rfl) ?_
      refine lv_iload hx hb d_Sum_ofLanes_37 (lv_at hl 6 rfl) ?_
      refine lv_iconst (v := 4) hx hb d_Sum_ofLanes_39 (by decide) ?_
      refine lv_iadd hx hb d_Sum_ofLanes_40 ?_
      obtain ⟨r41, hc41, hf⟩ := bd1_some hf
      refine s_Vi (As := [.int (x7 + (4 : Int32))]) (rest := [.int x4]) (wr := []) (ws' := wd_Sum_ofLanes r ra cB cI cJ rL rn rf) C.call (c_Row_word l dC dI cB cI cJ r ra rL rn rf (x7 + (4 : Int32)) hc41) (cwV 1 hts (gd_V w_146 w_58 w_59 w_12 w_60) rfl rfl rfl ⟨rfl, hd_Row_word⟩ ⟨Nat.le_of_ble_eq_true rfl, Nat.le_of_ble_eq_true rfl⟩) rfl hl.1 rfl (Nat.le_of_ble_eq_true rfl) d_Sum_ofLanes_41 ⟨Nat.le_of_ble_eq_true rfl, Nat.le_of_ble_eq_true rfl⟩ hZ hK hP hD hS hA 1 0 rfl rfl [0, 1] [] [0, 1] rfl rfl rfl rfl (by decide) rfl rfl (fun H locs hP hD hS => ?_)
      obtain ⟨r44, hc44, hf⟩ := bd1_some hf
      refine s_Si (As := [.int x4, .int r41]) (rest := []) (wr := [(r, .inr (1, [.ref ra, .int rn])), (ra, .inl (cB, rL, .inl rf))]) (ws' := wd_Sum_ofLanes r ra cB cI cJ rL rn rf) C.call (c_Sum_lane l dC dI cB cI cJ    x4 r41 hc44) (va_cwS 2 hts (gd_S w_147 w_148 w_141 w_149) rfl rfl rfl hd_Sum_lane ⟨Nat.le_of_ble_eq_true rfl, Nat.le_of_ble_eq_true rfl⟩) rfl hl.1 rfl (Nat.le_of_ble_eq_true rfl) d_Sum_ofLanes_44 ⟨Nat.le_of_ble_eq_true rfl, Nat.le_of_ble_eq_true rfl⟩ hZ hK hP hD hS hA [] [0, 1] [0, 1] rfl rfl rfl rfl (by decide) rfl rfl (fun H locs hP hD hS => ?_)
      refine lv_istore (lv' := [(4, .int r44), (3, .int r30), (0, .ref r), (2, .int x2), (5, .int x5), (6, .int x6), (7, .int x7)]) hx hb d_Sum_ofLanes_47 hl (by decide) rfl (fun ls hl => ?_)
      refine lv_iload hx hb d_Sum_ofLanes_49 (lv_at hl 4 rfl) ?_
      refine lv_aload_n hx hb d_Sum_ofLanes_51 rfl (lv_at hl 2 rfl) ?_
      refine lv_iload hx hb d_Sum_ofLanes_52 (lv_at hl 6 rfl) ?_
      refine lv_bipush (v := 8) hx hb d_Sum_ofLanes_54 (by decide) ?_
      refine lv_iadd hx hb d_Sum_ofLanes_56 ?_
      obtain ⟨r57, hc57, hf⟩ := bd1_some hf
      refine s_Vi (As := [.int (x7 + (8 : Int32))]) (rest := [.int x5]) (wr := []) (ws' := wd_Sum_ofLanes r ra cB cI cJ rL rn rf) C.call (c_Row_word l dC dI cB cI cJ r ra rL rn rf (x7 + (8 : Int32)) hc57) (cwV 1 hts (gd_V w_146 w_58 w_59 w_12 w_60) rfl rfl rfl ⟨rfl, hd_Row_word⟩ ⟨Nat.le_of_ble_eq_true rfl, Nat.le_of_ble_eq_true rfl⟩) rfl hl.1 rfl (Nat.le_of_ble_eq_true rfl) d_Sum_ofLanes_57 ⟨Nat.le_of_ble_eq_true rfl, Nat.le_of_ble_eq_true rfl⟩ hZ hK hP hD hS hA 1 0 rfl rfl [0, 1] [] [0, 1] rfl rfl rfl rfl (by decide) rfl rfl (fun H locs hP hD hS => ?_)
      obtain ⟨r60, hc60, hf⟩ := bd1_some hf
      refine s_Si (As := [.int x5, .int r57]) (rest := []) (wr := [(r, .inr (1, [.ref ra, .int rn])), (ra, .inl (cB, rL, .inl rf))]) (ws' := wd_Sum_ofLanes r ra cB cI cJ rL rn rf) C.call (c_Sum_lane l dC dI cB cI cJ    x5 r57 hc60) (va_cwS 2 hts (gd_S w_147 w_148 w_141 w_149) rfl rfl rfl hd_Sum_lane ⟨Nat.le_of_ble_eq_true rfl, Nat.le_of_ble_eq_true rfl⟩) rfl hl.1 rfl (Nat.le_of_ble_eq_true rfl) d_Sum_ofLanes_60 ⟨Nat.le_of_ble_eq_true rfl, Nat.le_of_ble_eq_true rfl⟩ hZ hK hP hD hS hA [] [0, 1] [0, 1] rfl rfl rfl rfl (by decide) rfl rfl (fun H locs hP hD hS => ?_)
      refine lv_istore (lv' := [(5, .int r60), (4, .int r44), (3, .int r30), (0, .ref r), (2, .int x2), (6, .int x6), (7, .int x7)]) hx hb d_Sum_ofLanes_63 hl (by decide) rfl (fun ls hl => ?_)
      refine lv_iload hx hb d_Sum_ofLanes_65 (lv_at hl 5 rfl) ?_
      refine lv_aload_n hx hb d_Sum_ofLanes_67 rfl (lv_at hl 3 rfl) ?_
      refine lv_iload hx hb d_Sum_ofLanes_68 (lv_at hl 6 rfl) ?_
      refine lv_bipush (v := 12) hx hb d_Sum_ofLanes_70 (by decide) ?_
      refine lv_iadd hx hb d_Sum_ofLanes_72 ?_
      obtain ⟨r73, hc73, hf⟩ := bd1_some hf
      refine s_Vi (As := [.int (x7 + (12 : Int32))]) (rest := [.int x6]) (wr := []) (ws' := wd_Sum_ofLanes r ra cB cI cJ rL rn rf) C.call (c_Row_word l dC dI cB cI cJ r ra rL rn rf (x7 + (12 : Int32)) hc73) (cwV 1 hts (gd_V w_146 w_58 w_59 w_12 w_60) rfl rfl rfl ⟨rfl, hd_Row_word⟩ ⟨Nat.le_of_ble_eq_true rfl, Nat.le_of_ble_eq_true rfl⟩) rfl hl.1 rfl (Nat.le_of_ble_eq_true rfl) d_Sum_ofLanes_73 ⟨Nat.le_of_ble_eq_true rfl, Nat.le_of_ble_eq_true rfl⟩ hZ hK hP hD hS hA 1 0 rfl rfl [0, 1] [] [0, 1] rfl rfl rfl rfl (by decide) rfl rfl (fun H locs hP hD hS => ?_)
      obtain ⟨r76, hc76, hf⟩ := bd1_some hf
      refine s_Si (As := [.int x6, .int r73]) (rest := []) (wr := [(r, .inr (1, [.ref ra, .int rn])), (ra, .inl (cB, rL, .inl rf))]) (ws' := wd_Sum_ofLanes r ra cB cI cJ rL rn rf) C.call (c_Sum_lane l dC dI cB cI cJ    x6 r73 hc76) (va_cwS 2 hts (gd_S w_147 w_148 w_141 w_149) rfl rfl rfl hd_Sum_lane ⟨Nat.le_of_ble_eq_true rfl, Nat.le_of_ble_eq_true rfl⟩) rfl hl.1 rfl (Nat.le_of_ble_eq_true rfl) d_Sum_ofLanes_76 ⟨Nat.le_of_ble_eq_true rfl, Nat.le_of_ble_eq_true rfl⟩ hZ hK hP hD hS hA [] [0, 1] [0, 1] rfl rfl rfl rfl (by decide) rfl rfl (fun H locs hP hD hS => ?_)
      refine lv_istore (lv' := [(6, .int r76), (5, .int r60), (4, .int r44), (3, .int r30), (0, .ref r), (2, .int x2), (7, .int x7)]) hx hb d_Sum_ofLanes_79 hl (by decide) rfl (fun ls hl => ?_)
      refine lv_iinc (v := (x7 + 16)) (lv' := [(7, .int (x7 + 16)), (6, .int r76), (5, .int r60), (4, .int r44), (3, .int r30), (0, .ref r), (2, .int x2)]) hx hb d_Sum_ofLanes_81 hl (k := 6) rfl (congrArg (fun z => x7 + z) (by decide)) (by decide) rfl (fun ls hl => ?_)
      refine lv_goto (tgt := 17) hx hb d_Sum_ofLanes_84 (by decide) ?_
      exact ih17 r30 r44 r60 r76 (x7 + 16) hf _ _ hP hD hS _ (lv_sub hl [5, 6, 4, 3, 2, 1, 0] rfl)
noncomputable def j_Sum_ofLanes_0 (N : Nat) (rL : Nat) (x1 : Int32) (x2 : Int32) (rn : Int32) (rf : Nat → Int32)  : Option (Int32) :=
  (loop5 (b_Sum_ofLanes_17 rL x2 rn rf ) N (606290984 : Int32) (-2048144777 : Int32) (0 : Int32) (1640531535 : Int32) x1)
set_option maxHeartbeats 4000000 in
set_option maxRecDepth 100000 in
theorem k_Sum_ofLanes_0 {r_z : Int32} (C : Fx p s m args meth c cd_Sum_ofLanes 8 R_Sum lw_g (some .int)) (hK : va_K (dC, dI) vwCl [(cB, .byte), (cI, .int), (cJ, .long)] s) (hA : ∀ q, s.heap.size ≤ q → A q) (x1 : Int32) (x2 : Int32) (rn : Int32) (rf : Nat → Int32)  (hf : j_Sum_ofLanes_0 N rL x1 x2 rn rf  = some r_z) (hP : va_P (dC, dI) vwCl (wd_Sum_ofLanes r ra cB cI cJ rL rn rf) H) (hD : va_D A (wd_Sum_ofLanes r ra cB cI cJ rL rn rf)) (hS : va_S A s.heap H locs) (hl : lv_has ls 8 [(0, .ref r), (1, .int x1), (2, .int x2)]) : W p l e rm_Sum_ofLanes s m args below meth c H locs 0 0 (MQ below (sQi (dC, dI) vwCl [(cB, .byte), (cI, .int), (cJ, .long)] A r_z (wd_Sum_ofLanes r ra cB cI cJ rL rn rf)) args s 0 0 A) (F0 m 0 ls []) := by
  obtain ⟨hx, hb, hml, hown, hts, hr, hlocks, hZ⟩ := id C
  unfold j_Sum_ofLanes_0 at hf
  refine lv_ldc (v := 606290984) hx hb hown (hts _ w_144) d_Sum_ofLanes_0 ?_
  refine lv_istore_n (lv' := [(3, .int (606290984 : Int32)), (0, .ref r), (1, .int x1), (2, .int x2)]) hx hb d_Sum_ofLanes_2 rfl hl (by decide) rfl (fun ls hl => ?_)
  refine lv_ldc (v := -2048144777) hx hb hown (hts _ w_138) d_Sum_ofLanes_3 ?_
  refine lv_istore (lv' := [(4, .int (-2048144777 : Int32)), (3, .int (606290984 : Int32)), (0, .ref r), (1, .int x1), (2, .int x2)]) hx hb d_Sum_ofLanes_5 hl (by decide) rfl (fun ls hl => ?_)
  refine lv_iconst (v := 0) hx hb d_Sum_ofLanes_7 (by decide) ?_
  refine lv_istore (lv' := [(5, .int (0 : Int32)), (4, .int (-2048144777 : Int32)), (3, .int (606290984 : Int32)), (0, .ref r), (1, .int x1), (2, .int x2)]) hx hb d_Sum_ofLanes_8 hl (by decide) rfl (fun ls hl => ?_)
  refine lv_ldc (v := 1640531535) hx hb hown (hts _ w_145) d_Sum_ofLanes_10 ?_
  refine lv_istore (lv' := [(6, .int (1640531535 : Int32)), (5, .int (0 : Int32)), (4, .int (-2048144777 : Int32)), (3, .int (606290984 : Int32)), (0, .ref r), (1, .int x1), (2, .int x2)]) hx hb d_Sum_ofLanes_12 hl (by decide) rfl (fun ls hl => ?_)
  refine lv_iload_n hx hb d_Sum_ofLanes_14 rfl (lv_at hl 5 rfl) ?_
  refine lv_istore (lv' := [(7, .int x1), (6, .int (1640531535 : Int32)), (5, .int (0 : Int32)), (4, .int (-2048144777 : Int32)), (3, .int (606290984 : Int32)), (0, .ref r), (1, .int x1), (2, .int x2)]) hx hb d_Sum_ofLanes_15 hl (by decide) rfl (fun ls hl => ?_)
  exact k_Sum_ofLanes_17 C hK hA x2 rn rf  N (606290984 : Int32) (-2048144777 : Int32) (0 : Int32) (1640531535 : Int32) x1 hf _ _ hP hD hS _ (lv_sub hl [5, 7, 4, 3, 2, 1, 0] rfl)
end
noncomputable abbrev f_Sum_ofLanes (N : Nat) (rL : Nat) (x1 : Int32) (x2 : Int32) (rn : Int32) (rf : Nat → Int32) : Option (Int32) := j_Sum_ofLanes_0 N rL x1 x2 rn rf
set_option maxRecDepth 100000 in
theorem c_Sum_ofLanes {N : Nat} (l : Launch) (dC : Nat → ClassId) (dI : Nat → Nat → Nat) (cB cI cJ : ClassId) (r ra rL : Nat) (rn : Int32) (rf : Nat → Int32) (x1 : Int32) (x2 : Int32) {r_z : Int32} (hf : f_Sum_ofLanes N rL x1 x2 rn rf = some r_z) : MetI l y_Sum_ofLanes ws_Sum_ofLanes rm_Sum_ofLanes (dC, dI) vwCl [(cB, .byte), (cI, .int), (cJ, .long)] [.ref r, .int x1, .int x2] (wd_Sum_ofLanes r ra cB cI cJ rL rn rf) r_z (wd_Sum_ofLanes r ra cB cI cJ rL rn rf) 0 0 :=
  s_ofi (bytes := cd_Sum_ofLanes) (maxL := 8) (ret := (some .int)) (by decide) rfl (Nat.le_of_ble_eq_true rfl) (fun p e s m below meth c A ls C hK hA hP hD hS hl => k_Sum_ofLanes_0 C hK hA x1 x2 rn rf hf hP hD hS (lv_sub hl [0, 1, 2] rfl))
end
section
abbrev wd_Sum_of (r ra : Nat) (cB cI cJ : ClassId) (rL : Nat) (rn : Int32) (rf : Nat → Int32) : va_W := [(r, .inr (1, [.ref ra, .int rn])), (ra, .inl (cB, rL, .inl rf))]
abbrev rm_Sum_of : Room := { frames := 3, cells := 0, slots := 0, locals := 69 }
section
variable {p : Program} {l : Launch} {e : Env} {s : State} {m : MethodId} {args : Array Value} {below : List Frame} {meth : Method} {c : Code} {dC : Nat → ClassId} {dI : Nat → Nat → Nat} {A : Nat → Prop} {cB cI cJ : ClassId} {H : Heap} {locs : List Loc} {ls : Array Slot} {N : Nat} {r ra rL : Nat}
noncomputable def b_Sum_of_77 (rL : Nat) (x2 : Int32) (rn : Int32) (rf : Nat → Int32)  (kh77 : Int32 → Int32 → Option (Int32)) (x4 : Int32) (x5 : Int32) : Option (Int32) :=
  (if x2 ≤ x4 then (some (((((x5 ^^^ (us32 x5 (15 : Int32))) * (-2048144777 : Int32)) ^^^ (us32 ((x5 ^^^ (us32 x5 (15 : Int32))) * (-2048144777 : Int32)) (13 : Int32))) * (-1028477379 : Int32)) ^^^ (us32 ((((x5 ^^^ (us32 x5 (15 : Int32))) * (-2048144777 : Int32)) ^^^ (us32 ((x5 ^^^ (us32 x5 (15 : Int32))) * (-2048144777 : Int32)) (13 : Int32))) * (-1028477379 : Int32)) (16 : Int32))) : Option (Int32)) else bd1 (f_Row_get rL x4 rn rf) (fun r88 => bd1 (f_Sum_rotated (x5 + (r88 * (374761393 : Int32))) (11 : Int32)) (fun r97 => (kh77 (x4 + 1) (r97 * (-1640531535 : Int32))))))
set_option maxHeartbeats 4000000 in
set_option maxRecDepth 100000 in
theorem k_Sum_of_77 {r_z : Int32} (C : Fx p s m args meth c cd_Sum_of 6 R_Sum lw_g (some .int)) (hK : va_K (dC, dI) vwCl [(cB, .byte), (cI, .int), (cJ, .long)] s) (hA : ∀ q, s.heap.size ≤ q → A q) (x2 : Int32) (rn : Int32) (rf : Nat → Int32)  : ∀ (n : Nat) (x4 : Int32) (x5 : Int32), loop2 (b_Sum_of_77 rL x2 rn rf ) n x4 x5 = some r_z → ∀ (H : Heap) (locs : List Loc), va_P (dC, dI) vwCl (wd_Sum_of r ra cB cI cJ rL rn rf) H → va_D A (wd_Sum_of r ra cB cI cJ rL rn rf) → va_S A s.heap H locs → ∀ (ls : Array Slot), lv_has ls 6 [(0, .ref r), (2, .int x2), (4, .int x4), (5, .int x5)] → W p l e rm_Sum_of s m args below meth c H locs 0 0 (MQ below (sQi (dC, dI) vwCl [(cB, .byte), (cI, .int), (cJ, .long)] A r_z (wd_Sum_of r ra cB cI cJ rL rn rf)) args s 0 0 A) (F0 m 77 ls []) := by
  obtain ⟨hx, hb, hml, hown, hts, hr, hlocks, hZ⟩ := id C
  intro n
  induction n with
  | zero => intro x4 x5 hf; cases hf
  | succ n ih77 =>
    intro x4 x5 hf H locs hP hD hS ls hl
    have hf : b_Sum_of_77 rL x2 rn rf  (loop2 (b_Sum_of_77 rL x2 rn rf ) n) x4 x5 = some r_z := hf
    generalize loop2 (b_Sum_of_77 rL x2 rn rf ) n = kh77 at hf ih77
    unfold b_Sum_of_77 at hf
    refine lv_iload hx hb d_Sum_of_77 (lv_at hl 2 rfl) ?_
    refine lv_iload_n hx hb d_Sum_of_79 rfl (lv_at hl 1 rfl) ?_
    refine lv_icmp_ge (tgt := 111) hx hb d_Sum_of_80 (by decide) (fun c_80 => ?_) (fun c_80 => ?_)
    · have hf := br_pos c_80 hf
      refine lv_iload hx hb d_Sum_of_111 (lv_at hl 3 rfl) ?_
      refine lv_iload hx hb d_Sum_of_113 (lv_at hl 3 rfl) ?_
      refine lv_bipush (v := 15) hx hb d_Sum_of_115 (by decide) ?_
      refine lv_iushr (v := (us32 x5 (15 : Int32))) hx hb d_Sum_of_117 rfl ?_
      refine lv_ixor hx hb d_Sum_of_118 ?_
      refine lv_ldc (v := -2048144777) hx hb hown (hts _ w_138) d_Sum_of_119 ?_
      refine lv_imul hx hb d_Sum_of_121 ?_
      refine lv_istore (lv' := [(5, .int ((x5 ^^^ (us32 x5 (15 : Int32))) * (-2048144777 : Int32))), (0, .ref r), (2, .int x2), (4, .int x4)]) hx hb d_Sum_of_122 hl (by decide) rfl (fun ls hl => ?_)
      refine lv_iload hx hb d_Sum_of_124 (lv_at hl 0 rfl) ?_
      refine lv_iload hx hb d_Sum_of_126 (lv_at hl 0 rfl) ?_
      refine lv_bipush (v := 13) hx hb d_Sum_of_128 (by decide) ?_
      refine lv_iushr (v := (us32 ((x5 ^^^ (us32 x5 (15 : Int32))) * (-2048144777 : Int32)) (13 : Int32))) hx hb d_Sum_of_130 rfl ?_
      refine lv_ixor hx hb d_Sum_of_131 ?_
      refine lv_ldc (v := -1028477379) hx hb hown (hts _ w_151) d_Sum_of_132 ?_
      refine lv_imul hx hb d_Sum_of_134 ?_
      refine lv_istore (lv' := [(5, .int ((((x5 ^^^ (us32 x5 (15 : Int32))) * (-2048144777 : Int32)) ^^^ (us32 ((x5 ^^^ (us32 x5 (15 : Int32))) * (-2048144777 : Int32)) (13 : Int32))) * (-1028477379 : Int32))), (0, .ref r), (2, .int x2), (4, .int x4)]) hx hb d_Sum_of_135 hl (by decide) rfl (fun ls hl => ?_)
      refine lv_iload hx hb d_Sum_of_137 (lv_at hl 0 rfl) ?_
      refine lv_iload hx hb d_Sum_of_139 (lv_at hl 0 rfl) ?_
      refine lv_bipush (v := 16) hx hb d_Sum_of_141 (by decide) ?_
      refine lv_iushr (v := (us32 ((((x5 ^^^ (us32 x5 (15 : Int32))) * (-2048144777 : Int32)) ^^^ (us32 ((x5 ^^^ (us32 x5 (15 : Int32))) * (-2048144777 : Int32)) (13 : Int32))) * (-1028477379 : Int32)) (16 : Int32))) hx hb d_Sum_of_143 rfl ?_
      refine lv_ixor hx hb d_Sum_of_144 ?_
      cases hf
      exact s_iret hx hb hr hlocks hP hK hD hS d_Sum_of_145
    · have hf := br_neg c_80 hf
      refine lv_iload hx hb d_Sum_of_83 (lv_at hl 3 rfl) ?_
      refine lv_aload_n hx hb d_Sum_of_85 rfl (lv_at hl 0 rfl) ?_
      refine lv_iload hx hb d_Sum_of_86 (lv_at hl 2 rfl) ?_
      obtain ⟨r88, hc88, hf⟩ := bd1_some hf
      refine s_Vi (As := [.int x4]) (rest := [.int x5]) (wr := []) (ws' := wd_Sum_of r ra cB cI cJ rL rn rf) C.call (c_Row_get l dC dI cB cI cJ r ra rL rn rf x4 hc88) (cwV 1 hts (gd_V w_152 w_72 w_73 w_12 w_74) rfl rfl rfl ⟨rfl, hd_Row_get⟩ ⟨Nat.le_of_ble_eq_true rfl, Nat.le_of_ble_eq_true rfl⟩) rfl hl.1 rfl (Nat.le_of_ble_eq_true rfl) d_Sum_of_88 ⟨Nat.le_of_ble_eq_true rfl, Nat.le_of_ble_eq_true rfl⟩ hZ hK hP hD hS hA 1 0 rfl rfl [0, 1] [] [0, 1] rfl rfl rfl rfl (by decide) rfl rfl (fun H locs hP hD hS => ?_)
      refine lv_ldc (v := 374761393) hx hb hown (hts _ w_150) d_Sum_of_91 ?_
      refine lv_imul hx hb d_Sum_of_93 ?_
      refine lv_iadd hx hb d_Sum_of_94 ?_
      refine lv_bipush (v := 11) hx hb d_Sum_of_95 (by decide) ?_
      obtain ⟨r97, hc97, hf⟩ := bd1_some hf
      refine s_Si (As := [.int (x5 + (r88 * (374761393 : Int32))), .int (11 : Int32)]) (rest := []) (wr := [(r, .inr (1, [.ref ra, .int rn])), (ra, .inl (cB, rL, .inl rf))]) (ws' := wd_Sum_of r ra cB cI cJ rL rn rf) C.call (c_Sum_rotated l dC dI cB cI cJ    (x5 + (r88 * (374761393 : Int32))) (11 : Int32) hc97) (va_cwS 2 hts (gd_S w_139 w_140 w_141 w_142) rfl rfl rfl hd_Sum_rotated ⟨Nat.le_of_ble_eq_true rfl, Nat.le_of_ble_eq_true rfl⟩) rfl hl.1 rfl (Nat.le_of_ble_eq_true rfl) d_Sum_of_97 ⟨Nat.le_of_ble_eq_true rfl, Nat.le_of_ble_eq_true rfl⟩ hZ hK hP hD hS hA [] [0, 1] [0, 1] rfl rfl rfl rfl (by decide) rfl rfl (fun H locs hP hD hS => ?_)
      refine lv_ldc (v := -1640531535) hx hb hown (hts _ w_143) d_Sum_of_100 ?_
      refine lv_imul hx hb d_Sum_of_102 ?_
      refine lv_istore (lv' := [(5, .int (r97 * (-1640531535 : Int32))), (0, .ref r), (2, .int x2), (4, .int x4)]) hx hb d_Sum_of_103 hl (by decide) rfl (fun ls hl => ?_)
      refine lv_iinc (v := (x4 + 1)) (lv' := [(4, .int (x4 + 1)), (5, .int (r97 * (-1640531535 : Int32))), (0, .ref r), (2, .int x2)]) hx hb d_Sum_of_105 hl (k := 3) rfl (congrArg (fun z => x4 + z) (by decide)) (by decide) rfl (fun ls hl => ?_)
      refine lv_goto (tgt := 77) hx hb d_Sum_of_108 (by decide) ?_
      exact ih77 (x4 + 1) (r97 * (-1640531535 : Int32)) hf _ _ hP hD hS _ (lv_sub hl [2, 3, 0, 1] rfl)
noncomputable def b_Sum_of_41 (N : Nat) (rL : Nat) (x2 : Int32) (rn : Int32) (rf : Nat → Int32)  (kh41 : Int32 → Int32 → Option (Int32)) (x4 : Int32) (x5 : Int32) : Option (Int32) :=
  (if (x2 - x4) < (4 : Int32) then (loop2 (b_Sum_of_77 rL x2 rn rf ) N x4 x5) else bd1 (f_Row_word rL x4 rn rf) (fun r54 => bd1 (f_Sum_rotated (x5 + (r54 * (-1028477379 : Int32))) (17 : Int32)) (fun r63 => (kh41 (x4 + 4) (r63 * (668265263 : Int32))))))
set_option maxHeartbeats 4000000 in
set_option maxRecDepth 100000 in
theorem k_Sum_of_41 {r_z : Int32} (C : Fx p s m args meth c cd_Sum_of 6 R_Sum lw_g (some .int)) (hK : va_K (dC, dI) vwCl [(cB, .byte), (cI, .int), (cJ, .long)] s) (hA : ∀ q, s.heap.size ≤ q → A q) (x2 : Int32) (rn : Int32) (rf : Nat → Int32)  : ∀ (n : Nat) (x4 : Int32) (x5 : Int32), loop2 (b_Sum_of_41 N rL x2 rn rf ) n x4 x5 = some r_z → ∀ (H : Heap) (locs : List Loc), va_P (dC, dI) vwCl (wd_Sum_of r ra cB cI cJ rL rn rf) H → va_D A (wd_Sum_of r ra cB cI cJ rL rn rf) → va_S A s.heap H locs → ∀ (ls : Array Slot), lv_has ls 6 [(0, .ref r), (2, .int x2), (4, .int x4), (5, .int x5)] → W p l e rm_Sum_of s m args below meth c H locs 0 0 (MQ below (sQi (dC, dI) vwCl [(cB, .byte), (cI, .int), (cJ, .long)] A r_z (wd_Sum_of r ra cB cI cJ rL rn rf)) args s 0 0 A) (F0 m 41 ls []) := by
  obtain ⟨hx, hb, hml, hown, hts, hr, hlocks, hZ⟩ := id C
  intro n
  induction n with
  | zero => intro x4 x5 hf; cases hf
  | succ n ih41 =>
    intro x4 x5 hf H locs hP hD hS ls hl
    have hf : b_Sum_of_41 N rL x2 rn rf  (loop2 (b_Sum_of_41 N rL x2 rn rf ) n) x4 x5 = some r_z := hf
    generalize loop2 (b_Sum_of_41 N rL x2 rn rf ) n = kh41 at hf ih41
    unfold b_Sum_of_41 at hf
    refine lv_iload_n hx hb d_Sum_of_41 rfl (lv_at hl 1 rfl) ?_
    refine lv_iload hx hb d_Sum_of_42 (lv_at hl 2 rfl) ?_
    refine lv_isub hx hb d_Sum_of_44 ?_
    refine lv_iconst (v := 4) hx hb d_Sum_of_45 (by decide) ?_
    refine lv_icmp_lt (tgt := 77) hx hb d_Sum_of_46 (by decide) (fun c_46 => ?_) (fun c_46 => ?_)
    · have hf := br_pos c_46 hf
      exact k_Sum_of_77 C hK hA x2 rn rf  N x4 x5 hf _ _ hP hD hS _ (lv_sub hl [0, 1, 2, 3] rfl)
    · have hf := br_neg c_46 hf
      refine lv_iload hx hb d_Sum_of_49 (lv_at hl 3 rfl) ?_
      refine lv_aload_n hx hb d_Sum_of_51 rfl (lv_at hl 0 rfl) ?_
      refine lv_iload hx hb d_Sum_of_52 (lv_at hl 2 rfl) ?_
      obtain ⟨r54, hc54, hf⟩ := bd1_some hf
      refine s_Vi (As := [.int x4]) (rest := [.int x5]) (wr := []) (ws' := wd_Sum_of r ra cB cI cJ rL rn rf) C.call (c_Row_word l dC dI cB cI cJ r ra rL rn rf x4 hc54) (cwV 1 hts (gd_V w_146 w_58 w_59 w_12 w_60) rfl rfl rfl ⟨rfl, hd_Row_word⟩ ⟨Nat.le_of_ble_eq_true rfl, Nat.le_of_ble_eq_true rfl⟩) rfl hl.1 rfl (Nat.le_of_ble_eq_true rfl) d_Sum_of_54 ⟨Nat.le_of_ble_eq_true rfl, Nat.le_of_ble_eq_true rfl⟩ hZ hK hP hD hS hA 1 0 rfl rfl [0, 1] [] [0, 1] rfl rfl rfl rfl (by decide) rfl rfl (fun H locs hP hD hS => ?_)
      refine lv_ldc (v := -1028477379) hx hb hown (hts _ w_151) d_Sum_of_57 ?_
      refine lv_imul hx hb d_Sum_of_59 ?_
      refine lv_iadd hx hb d_Sum_of_60 ?_
      refine lv_bipush (v := 17) hx hb d_Sum_of_61 (by decide) ?_
      obtain ⟨r63, hc63, hf⟩ := bd1_some hf
      refine s_Si (As := [.int (x5 + (r54 * (-1028477379 : Int32))), .int (17 : Int32)]) (rest := []) (wr := [(r, .inr (1, [.ref ra, .int rn])), (ra, .inl (cB, rL, .inl rf))]) (ws' := wd_Sum_of r ra cB cI cJ rL rn rf) C.call (c_Sum_rotated l dC dI cB cI cJ    (x5 + (r54 * (-1028477379 : Int32))) (17 : Int32) hc63) (va_cwS 2 hts (gd_S w_139 w_140 w_141 w_142) rfl rfl rfl hd_Sum_rotated ⟨Nat.le_of_ble_eq_true rfl, Nat.le_of_ble_eq_true rfl⟩) rfl hl.1 rfl (Nat.le_of_ble_eq_true rfl) d_Sum_of_63 ⟨Nat.le_of_ble_eq_true rfl, Nat.le_of_ble_eq_true rfl⟩ hZ hK hP hD hS hA [] [0, 1] [0, 1] rfl rfl rfl rfl (by decide) rfl rfl (fun H locs hP hD hS => ?_)
      refine lv_ldc (v := 668265263) hx hb hown (hts _ w_153) d_Sum_of_66 ?_
      refine lv_imul hx hb d_Sum_of_68 ?_
      refine lv_istore (lv' := [(5, .int (r63 * (668265263 : Int32))), (0, .ref r), (2, .int x2), (4, .int x4)]) hx hb d_Sum_of_69 hl (by decide) rfl (fun ls hl => ?_)
      refine lv_iinc (v := (x4 + 4)) (lv' := [(4, .int (x4 + 4)), (5, .int (r63 * (668265263 : Int32))), (0, .ref r), (2, .int x2)]) hx hb d_Sum_of_71 hl (k := 3) rfl (congrArg (fun z => x4 + z) (by decide)) (by decide) rfl (fun ls hl => ?_)
      refine lv_goto (tgt := 41) hx hb d_Sum_of_74 (by decide) ?_
      exact ih41 (x4 + 4) (r63 * (668265263 : Int32)) hf _ _ hP hD hS _ (lv_sub hl [2, 3, 0, 1] rfl)
noncomputable def j_Sum_of_33 (N : Nat) (rL : Nat) (x2 : Int32) (x3 : Int32) (x4 : Int32) (t0 : Int32) (rn : Int32) (rf : Nat → Int32)  : Option (Int32) :=
  (loop2 (b_Sum_of_41 N rL x2 rn rf ) N x4 (t0 + x3))
set_option maxHeartbeats 4000000 in
set_option maxRecDepth 100000 in
theorem k_Sum_of_33 {r_z : Int32} (C : Fx p s m args meth c cd_Sum_of 6 R_Sum lw_g (some .int)) (hK : va_K (dC, dI) vwCl [(cB, .byte), (cI, .int), (cJ, .long)] s) (hA : ∀ q, s.heap.size ≤ q → A q) (x2 : Int32) (x3 : Int32) (x4 : Int32) (t0 : Int32) (rn : Int32) (rf : Nat → Int32)  (hf : j_Sum_of_33 N rL x2 x3 x4 t0 rn rf  = some r_z) (hP : va_P (dC, dI) vwCl (wd_Sum_of r ra cB cI cJ rL rn rf) H) (hD : va_D A (wd_Sum_of r ra cB cI cJ rL rn rf)) (hS : va_S A s.heap H locs) (hl : lv_has ls 6 [(0, .ref r), (2, .int x2), (3, .int x3), (4, .int x4)]) : W p l e rm_Sum_of s m args below meth c H locs 0 0 (MQ below (sQi (dC, dI) vwCl [(cB, .byte), (cI, .int), (cJ, .long)] A r_z (wd_Sum_of r ra cB cI cJ rL rn rf)) args s 0 0 A) (F0 m 33 ls [.int t0]) := by
  obtain ⟨hx, hb, hml, hown, hts, hr, hlocks, hZ⟩ := id C
  unfold j_Sum_of_33 at hf
  refine lv_istore (lv' := [(5, .int t0), (0, .ref r), (2, .int x2), (3, .int x3), (4, .int x4)]) hx hb d_Sum_of_33 hl (by decide) rfl (fun ls hl => ?_)
  refine lv_iload hx hb d_Sum_of_35 (lv_at hl 0 rfl) ?_
  refine lv_iload_n hx hb d_Sum_of_37 rfl (lv_at hl 3 rfl) ?_
  refine lv_iadd hx hb d_Sum_of_38 ?_
  refine lv_istore (lv' := [(5, .int (t0 + x3)), (0, .ref r), (2, .int x2), (3, .int x3), (4, .int x4)]) hx hb d_Sum_of_39 hl (by decide) rfl (fun ls hl => ?_)
  exact k_Sum_of_41 C hK hA x2 rn rf  N x4 (t0 + x3) hf _ _ hP hD hS _ (lv_sub hl [1, 2, 4, 0] rfl)
noncomputable def j_Sum_of_0 (N : Nat) (rL : Nat) (x1 : Int32) (x2 : Int32) (rn : Int32) (rf : Nat → Int32)  : Option (Int32) :=
  (if (x2 - x1) < (16 : Int32) then (j_Sum_of_33 N rL x2 (x2 - x1) (x1 + (((x2 - x1) / (16 : Int32)) * (16 : Int32))) (374761393 : Int32) rn rf ) else bd1 (f_Sum_ofLanes N rL x1 (x1 + (((x2 - x1) / (16 : Int32)) * (16 : Int32))) rn rf) (fun r25 => (j_Sum_of_33 N rL x2 (x2 - x1) (x1 + (((x2 - x1) / (16 : Int32)) * (16 : Int32))) r25 rn rf )))
set_option maxHeartbeats 4000000 in
set_option maxRecDepth 100000 in
theorem k_Sum_of_0 {r_z : Int32} (C : Fx p s m args meth c cd_Sum_of 6 R_Sum lw_g (some .int)) (hK : va_K (dC, dI) vwCl [(cB, .byte), (cI, .int), (cJ, .long)] s) (hA : ∀ q, s.heap.size ≤ q → A q) (x1 : Int32) (x2 : Int32) (rn : Int32) (rf : Nat → Int32)  (hf : j_Sum_of_0 N rL x1 x2 rn rf  = some r_z) (hP : va_P (dC, dI) vwCl (wd_Sum_of r ra cB cI cJ rL rn rf) H) (hD : va_D A (wd_Sum_of r ra cB cI cJ rL rn rf)) (hS : va_S A s.heap H locs) (hl : lv_has ls 6 [(0, .ref r), (1, .int x1), (2, .int x2)]) : W p l e rm_Sum_of s m args below meth c H locs 0 0 (MQ below (sQi (dC, dI) vwCl [(cB, .byte), (cI, .int), (cJ, .long)] A r_z (wd_Sum_of r ra cB cI cJ rL rn rf)) args s 0 0 A) (F0 m 0 ls []) := by
  obtain ⟨hx, hb, hml, hown, hts, hr, hlocks, hZ⟩ := id C
  unfold j_Sum_of_0 at hf
  refine lv_iload_n hx hb d_Sum_of_0 rfl (lv_at hl 2 rfl) ?_
  refine lv_iload_n hx hb d_Sum_of_1 rfl (lv_at hl 1 rfl) ?_
  refine lv_isub hx hb d_Sum_of_2 ?_
  refine lv_istore_n (lv' := [(3, .int (x2 - x1)), (0, .ref r), (1, .int x1), (2, .int x2)]) hx hb d_Sum_of_3 rfl hl (by decide) rfl (fun ls hl => ?_)
  refine lv_iload_n hx hb d_Sum_of_4 rfl (lv_at hl 2 rfl) ?_
  refine lv_iload_n hx hb d_Sum_of_5 rfl (lv_at hl 0 rfl) ?_
  refine lv_bipush (v := 16) hx hb d_Sum_of_6 (by decide) ?_
  refine lv_idiv hx hb d_Sum_of_8 (by decide) ?_
  refine lv_bipush (v := 16) hx hb d_Sum_of_9 (by decide) ?_
  refine lv_imul hx hb d_Sum_of_11 ?_
  refine lv_iadd hx hb d_Sum_of_12 ?_
  refine lv_istore (lv' := [(4, .int (x1 + (((x2 - x1) / (16 : Int32)) * (16 : Int32)))), (3, .int (x2 - x1)), (0, .ref r), (1, .int x1), (2, .int x2)]) hx hb d_Sum_of_13 hl (by decide) rfl (fun ls hl => ?_)
  refine lv_iload_n hx hb d_Sum_of_15 rfl (lv_at hl 1 rfl) ?_
  refine lv_bipush (v := 16) hx hb d_Sum_of_16 (by decide) ?_
  refine lv_icmp_lt (tgt := 31) hx hb d_Sum_of_18 (by decide) (fun c_18 => ?_) (fun c_18 => ?_)
  · have hf := br_pos c_18 hf
    refine lv_ldc (v := 374761393) hx hb hown (hts _ w_150) d_Sum_of_31 ?_
    exact k_Sum_of_33 C hK hA x2 (x2 - x1) (x1 + (((x2 - x1) / (16 : Int32)) * (16 : Int32))) (374761393 : Int32) rn rf  hf hP hD hS (lv_sub hl [2, 4, 1, 0] rfl)
  · have hf := br_neg c_18 hf
    refine lv_aload_n hx hb d_Sum_of_21 rfl (lv_at hl 2 rfl) ?_
    refine lv_iload_n hx hb d_Sum_of_22 rfl (lv_at hl 3 rfl) ?_
    refine lv_iload hx hb d_Sum_of_23 (lv_at hl 0 rfl) ?_
    obtain ⟨r25, hc25, hf⟩ := bd1_some hf
    refine s_Si (As := [.ref r, .int x1, .int (x1 + (((x2 - x1) / (16 : Int32)) * (16 : Int32)))]) (rest := []) (wr := []) (ws' := wd_Sum_of r ra cB cI cJ rL rn rf) C.call (c_Sum_ofLanes l dC dI cB cI cJ r ra rL rn rf x1 (x1 + (((x2 - x1) / (16 : Int32)) * (16 : Int32))) hc25) (va_cwS 3 hts (gd_S w_154 w_155 w_141 w_156) rfl rfl rfl hd_Sum_ofLanes ⟨Nat.le_of_ble_eq_true rfl, Nat.le_of_ble_eq_true rfl⟩) rfl hl.1 rfl (Nat.le_of_ble_eq_true rfl) d_Sum_of_25 ⟨Nat.le_of_ble_eq_true rfl, Nat.le_of_ble_eq_true rfl⟩ hZ hK hP hD hS hA [0, 1] [] [0, 1] rfl rfl rfl rfl (by decide) rfl rfl (fun H locs hP hD hS => ?_)
    refine lv_goto (tgt := 33) hx hb d_Sum_of_28 (by decide) ?_
    exact k_Sum_of_33 C hK hA x2 (x2 - x1) (x1 + (((x2 - x1) / (16 : Int32)) * (16 : Int32))) r25 rn rf  hf hP hD hS (lv_sub hl [2, 4, 1, 0] rfl)
end
noncomputable abbrev f_Sum_of (N : Nat) (rL : Nat) (x1 : Int32) (x2 : Int32) (rn : Int32) (rf : Nat → Int32) : Option (Int32) := j_Sum_of_0 N rL x1 x2 rn rf
set_option maxRecDepth 100000 in
theorem c_Sum_of {N : Nat} (l : Launch) (dC : Nat → ClassId) (dI : Nat → Nat → Nat) (cB cI cJ : ClassId) (r ra rL : Nat) (rn : Int32) (rf : Nat → Int32) (x1 : Int32) (x2 : Int32) {r_z : Int32} (hf : f_Sum_of N rL x1 x2 rn rf = some r_z) : MetI l y_Sum_of ws_Sum_of rm_Sum_of (dC, dI) vwCl [(cB, .byte), (cI, .int), (cJ, .long)] [.ref r, .int x1, .int x2] (wd_Sum_of r ra cB cI cJ rL rn rf) r_z (wd_Sum_of r ra cB cI cJ rL rn rf) 0 0 :=
  s_ofi (bytes := cd_Sum_of) (maxL := 6) (ret := (some .int)) (by decide) rfl (Nat.le_of_ble_eq_true rfl) (fun p e s m below meth c A ls C hK hA hP hD hS hl => k_Sum_of_0 C hK hA x1 x2 rn rf hf hP hD hS (lv_sub hl [0, 1, 2] rfl))
end
section
theorem d_Mat_init_0 : decode cd_Mat_init 0 = .ok (.aload_n 0, 1) := by decide +kernel
theorem d_Mat_init_1 : decode cd_Mat_init 1 = .ok (.invokespecial 3, 3) := by decide +kernel
theorem d_Mat_init_4 : decode cd_Mat_init 4 = .ok (.aload_n 0, 1) := by decide +kernel
theorem d_Mat_init_5 : decode cd_Mat_init 5 = .ok (.new 9, 3) := by decide +kernel
theorem d_Mat_init_8 : decode cd_Mat_init 8 = .ok (.dup, 1) := by decide +kernel
theorem d_Mat_init_9 : decode cd_Mat_init 9 = .ok (.sipush 16000, 3) := by decide +kernel
theorem d_Mat_init_12 : decode cd_Mat_init 12 = .ok (.invokespecial 11, 3) := by decide +kernel
theorem d_Mat_init_15 : decode cd_Mat_init 15 = .ok (.putfield 14, 3) := by decide +kernel
theorem d_Mat_init_18 : decode cd_Mat_init 18 = .ok (.aload_n 0, 1) := by decide +kernel
theorem d_Mat_init_19 : decode cd_Mat_init 19 = .ok (.sipush 4096, 3) := by decide +kernel
theorem d_Mat_init_22 : decode cd_Mat_init 22 = .ok (.newarray .int, 2) := by decide +kernel
theorem d_Mat_init_24 : decode cd_Mat_init 24 = .ok (.putfield 20, 3) := by decide +kernel
theorem d_Mat_init_27 : decode cd_Mat_init 27 = .ok (.aload_n 0, 1) := by decide +kernel
theorem d_Mat_init_28 : decode cd_Mat_init 28 = .ok (.sipush 16000, 3) := by decide +kernel
theorem d_Mat_init_31 : decode cd_Mat_init 31 = .ok (.newarray .int, 2) := by decide +kernel
theorem d_Mat_init_33 : decode cd_Mat_init 33 = .ok (.putfield 24, 3) := by decide +kernel
theorem d_Mat_init_36 : decode cd_Mat_init 36 = .ok (.return_, 1) := by decide +kernel
theorem d_Mat_data_0 : decode cd_Mat_data 0 = .ok (.aload_n 0, 1) := by decide +kernel
theorem d_Mat_data_1 : decode cd_Mat_data 1 = .ok (.getfield 14, 3) := by decide +kernel
theorem d_Mat_data_4 : decode cd_Mat_data 4 = .ok (.areturn, 1) := by decide +kernel
theorem d_Mat_startOver_0 : decode cd_Mat_startOver 0 = .ok (.aload_n 0, 1) := by decide +kernel
theorem d_Mat_startOver_1 : decode cd_Mat_startOver 1 = .ok (.getfield 14, 3) := by decide +kernel
theorem d_Mat_startOver_4 : decode cd_Mat_startOver 4 = .ok (.aload_n 1, 1) := by decide +kernel
theorem d_Mat_startOver_5 : decode cd_Mat_startOver 5 = .ok (.invokevirtual 31, 3) := by decide +kernel
theorem d_Mat_startOver_8 : decode cd_Mat_startOver 8 = .ok (.aload_n 0, 1) := by decide +kernel
theorem d_Mat_startOver_9 : decode cd_Mat_startOver 9 = .ok (.getfield 20, 3) := by decide +kernel
theorem d_Mat_startOver_12 : decode cd_Mat_startOver 12 = .ok (.iconst (-1), 1) := by decide +kernel
theorem d_Mat_startOver_13 : decode cd_Mat_startOver 13 = .ok (.invokestatic 35, 3) := by decide +kernel
theorem d_Mat_startOver_16 : decode cd_Mat_startOver 16 = .ok (.aload_n 0, 1) := by decide +kernel
theorem d_Mat_startOver_17 : decode cd_Mat_startOver 17 = .ok (.iconst 0, 1) := by decide +kernel
theorem d_Mat_startOver_18 : decode cd_Mat_startOver 18 = .ok (.putfield 41, 3) := by decide +kernel
theorem d_Mat_startOver_21 : decode cd_Mat_startOver 21 = .ok (.return_, 1) := by decide +kernel
theorem d_Mat_look_0 : decode cd_Mat_look 0 = .ok (.aload_n 0, 1) := by decide +kernel
theorem d_Mat_look_1 : decode cd_Mat_look 1 = .ok (.iload_n 1, 1) := by decide +kernel
theorem d_Mat_look_2 : decode cd_Mat_look 2 = .ok (.invokevirtual 63, 3) := by decide +kernel
theorem d_Mat_look_5 : decode cd_Mat_look 5 = .ok (.aload_n 0, 1) := by decide +kernel
theorem d_Mat_look_6 : decode cd_Mat_look 6 = .ok (.iload_n 1, 1) := by decide +kernel
theorem d_Mat_look_7 : decode cd_Mat_look 7 = .ok (.iload_n 2, 1) := by decide +kernel
theorem d_Mat_look_8 : decode cd_Mat_look 8 = .ok (.iload 4, 2) := by decide +kernel
theorem d_Mat_look_10 : decode cd_Mat_look 10 = .ok (.invokevirtual 66, 3) := by decide +kernel
theorem d_Mat_look_13 : decode cd_Mat_look 13 = .ok (.iload 4, 2) := by decide +kernel
theorem d_Mat_look_15 : decode cd_Mat_look 15 = .ok (.iconst 3, 1) := by decide +kernel
theorem d_Mat_look_16 : decode cd_Mat_look 16 = .ok (.if_icmp .ne 15, 3) := by decide +kernel
theorem d_Mat_look_19 : decode cd_Mat_look 19 = .ok (.aload_n 0, 1) := by decide +kernel
theorem d_Mat_look_20 : decode cd_Mat_look 20 = .ok (.getfield 70, 3) := by decide +kernel
theorem d_Mat_look_23 : decode cd_Mat_look 23 = .ok (.ifCond .eq 8, 3) := by decide +kernel
theorem d_Mat_look_26 : decode cd_Mat_look 26 = .ok (.iload_n 1, 1) := by decide +kernel
theorem d_Mat_look_27 : decode cd_Mat_look 27 = .ok (.iload_n 3, 1) := by decide +kernel
theorem d_Mat_look_28 : decode cd_Mat_look 28 = .ok (.if_icmp .lt 8, 3) := by decide +kernel
theorem d_Mat_look_31 : decode cd_Mat_look 31 = .ok (.aload_n 0, 1) := by decide +kernel
theorem d_Mat_look_32 : decode cd_Mat_look 32 = .ok (.getfield 70, 3) := by decide +kernel
theorem d_Mat_look_35 : decode cd_Mat_look 35 = .ok (.ireturn, 1) := by decide +kernel
theorem d_Mat_look_36 : decode cd_Mat_look 36 = .ok (.aload_n 0, 1) := by decide +kernel
theorem d_Mat_look_37 : decode cd_Mat_look 37 = .ok (.getfield 70, 3) := by decide +kernel
theorem d_Mat_look_40 : decode cd_Mat_look 40 = .ok (.istore 5, 2) := by decide +kernel
theorem d_Mat_look_42 : decode cd_Mat_look 42 = .ok (.aload_n 0, 1) := by decide +kernel
theorem d_Mat_look_43 : decode cd_Mat_look 43 = .ok (.getfield 27, 3) := by decide +kernel
theorem d_Mat_look_46 : decode cd_Mat_look 46 = .ok (.istore 6, 2) := by decide +kernel
theorem d_Mat_look_48 : decode cd_Mat_look 48 = .ok (.aload_n 0, 1) := by decide +kernel
theorem d_Mat_look_49 : decode cd_Mat_look 49 = .ok (.iload_n 1, 1) := by decide +kernel
theorem d_Mat_look_50 : decode cd_Mat_look 50 = .ok (.iconst 1, 1) := by decide +kernel
theorem d_Mat_look_51 : decode cd_Mat_look 51 = .ok (.iadd, 1) := by decide +kernel
theorem d_Mat_look_52 : decode cd_Mat_look 52 = .ok (.invokevirtual 63, 3) := by decide +kernel
theorem d_Mat_look_55 : decode cd_Mat_look 55 = .ok (.aload_n 0, 1) := by decide +kernel
theorem d_Mat_look_56 : decode cd_Mat_look 56 = .ok (.iload_n 1, 1) := by decide +kernel
theorem d_Mat_look_57 : decode cd_Mat_look 57 = .ok (.iconst 1, 1) := by decide +kernel
theorem d_Mat_look_58 : decode cd_Mat_look 58 = .ok (.iadd, 1) := by decide +kernel
theorem d_Mat_look_59 : decode cd_Mat_look 59 = .ok (.iload_n 2, 1) := by decide +kernel
theorem d_Mat_look_60 : decode cd_Mat_look 60 = .ok (.iload 4, 2) := by decide +kernel
theorem d_Mat_look_62 : decode cd_Mat_look 62 = .ok (.invokevirtual 66, 3) := by decide +kernel
theorem d_Mat_look_65 : decode cd_Mat_look 65 = .ok (.aload_n 0, 1) := by decide +kernel
theorem d_Mat_look_66 : decode cd_Mat_look 66 = .ok (.aload_n 0, 1) := by decide +kernel
theorem d_Mat_look_67 : decode cd_Mat_look 67 = .ok (.getfield 70, 3) := by decide +kernel
theorem d_Mat_look_70 : decode cd_Mat_look 70 = .ok (.iload 5, 2) := by decide +kernel
theorem d_Mat_look_72 : decode cd_Mat_look 72 = .ok (.if_icmp .le 7, 3) := by decide +kernel
theorem d_Mat_look_75 : decode cd_Mat_look 75 = .ok (.iconst 0, 1) := by decide +kernel
theorem d_Mat_look_76 : decode cd_Mat_look 76 = .ok (.goto 5, 3) := by decide +kernel
theorem d_Mat_look_79 : decode cd_Mat_look 79 = .ok (.iload 5, 2) := by decide +kernel
theorem d_Mat_look_81 : decode cd_Mat_look 81 = .ok (.putfield 70, 3) := by decide +kernel
theorem d_Mat_look_84 : decode cd_Mat_look 84 = .ok (.aload_n 0, 1) := by decide +kernel
theorem d_Mat_look_85 : decode cd_Mat_look 85 = .ok (.iload 6, 2) := by decide +kernel
theorem d_Mat_look_87 : decode cd_Mat_look 87 = .ok (.putfield 27, 3) := by decide +kernel
theorem d_Mat_look_90 : decode cd_Mat_look 90 = .ok (.aload_n 0, 1) := by decide +kernel
theorem d_Mat_look_91 : decode cd_Mat_look 91 = .ok (.getfield 70, 3) := by decide +kernel
theorem d_Mat_look_94 : decode cd_Mat_look 94 = .ok (.ireturn, 1) := by decide +kernel
theorem d_Mat_chainBelow_0 : decode cd_Mat_chainBelow 0 = .ok (.aload_n 0, 1) := by decide +kernel
theorem d_Mat_chainBelow_1 : decode cd_Mat_chainBelow 1 = .ok (.getfield 41, 3) := by decide +kernel
theorem d_Mat_chainBelow_4 : decode cd_Mat_chainBelow 4 = .ok (.iload_n 1, 1) := by decide +kernel
theorem d_Mat_chainBelow_5 : decode cd_Mat_chainBelow 5 = .ok (.if_icmp .ge 68, 3) := by decide +kernel
theorem d_Mat_chainBelow_8 : decode cd_Mat_chainBelow 8 = .ok (.aload_n 0, 1) := by decide +kernel
theorem d_Mat_chainBelow_9 : decode cd_Mat_chainBelow 9 = .ok (.getfield 41, 3) := by decide +kernel
theorem d_Mat_chainBelow_12 : decode cd_Mat_chainBelow 12 = .ok (.aload_n 0, 1) := by decide +kernel
theorem d_Mat_chainBelow_13 : decode cd_Mat_chainBelow 13 = .ok (.getfield 24, 3) := by decide +kernel
theorem d_Mat_chainBelow_16 : decode cd_Mat_chainBelow 16 = .ok (.arraylength, 1) := by decide +kernel
theorem d_Mat_chainBelow_17 : decode cd_Mat_chainBelow 17 = .ok (.if_icmp .ge 56, 3) := by decide +kernel
theorem d_Mat_chainBelow_20 : decode cd_Mat_chainBelow 20 = .ok (.aload_n 0, 1) := by decide +kernel
theorem d_Mat_chainBelow_21 : decode cd_Mat_chainBelow 21 = .ok (.getfield 14, 3) := by decide +kernel
theorem d_Mat_chainBelow_24 : decode cd_Mat_chainBelow 24 = .ok (.aload_n 0, 1) := by decide +kernel
theorem d_Mat_chainBelow_25 : decode cd_Mat_chainBelow 25 = .ok (.getfield 41, 3) := by decide +kernel
theorem d_Mat_chainBelow_28 : decode cd_Mat_chainBelow 28 = .ok (.invokevirtual 53, 3) := by decide +kernel
theorem d_Mat_chainBelow_31 : decode cd_Mat_chainBelow 31 = .ok (.invokestatic 57, 3) := by decide +kernel
theorem d_Mat_chainBelow_34 : decode cd_Mat_chainBelow 34 = .ok (.istore_n 2, 1) := by decide +kernel
theorem d_Mat_chainBelow_35 : decode cd_Mat_chainBelow 35 = .ok (.aload_n 0, 1) := by decide +kernel
theorem d_Mat_chainBelow_36 : decode cd_Mat_chainBelow 36 = .ok (.getfield 24, 3) := by decide +kernel
theorem d_Mat_chainBelow_39 : decode cd_Mat_chainBelow 39 = .ok (.aload_n 0, 1) := by decide +kernel
theorem d_Mat_chainBelow_40 : decode cd_Mat_chainBelow 40 = .ok (.getfield 41, 3) := by decide +kernel
theorem d_Mat_chainBelow_43 : decode cd_Mat_chainBelow 43 = .ok (.aload_n 0, 1) := by decide +kernel
theorem d_Mat_chainBelow_44 : decode cd_Mat_chainBelow 44 = .ok (.getfield 20, 3) := by decide +kernel
theorem d_Mat_chainBelow_47 : decode cd_Mat_chainBelow 47 = .ok (.iload_n 2, 1) := by decide +kernel
theorem d_Mat_chainBelow_48 : decode cd_Mat_chainBelow 48 = .ok (.iaload, 1) := by decide +kernel
theorem d_Mat_chainBelow_49 : decode cd_Mat_chainBelow 49 = .ok (.iastore, 1) := by decide +kernel
theorem d_Mat_chainBelow_50 : decode cd_Mat_chainBelow 50 = .ok (.aload_n 0, 1) := by decide +kernel
theorem d_Mat_chainBelow_51 : decode cd_Mat_chainBelow 51 = .ok (.getfield 20, 3) := by decide +kernel
theorem d_Mat_chainBelow_54 : decode cd_Mat_chainBelow 54 = .ok (.iload_n 2, 1) := by decide +kernel
theorem d_Mat_chainBelow_55 : decode cd_Mat_chainBelow 55 = .ok (.aload_n 0, 1) := by decide +kernel
theorem d_Mat_chainBelow_56 : decode cd_Mat_chainBelow 56 = .ok (.getfield 41, 3) := by decide +kernel
theorem d_Mat_chainBelow_59 : decode cd_Mat_chainBelow 59 = .ok (.iastore, 1) := by decide +kernel
theorem d_Mat_chainBelow_60 : decode cd_Mat_chainBelow 60 = .ok (.aload_n 0, 1) := by decide +kernel
theorem d_Mat_chainBelow_61 : decode cd_Mat_chainBelow 61 = .ok (.dup, 1) := by decide +kernel
theorem d_Mat_chainBelow_62 : decode cd_Mat_chainBelow 62 = .ok (.getfield 41, 3) := by decide +kernel
theorem d_Mat_chainBelow_65 : decode cd_Mat_chainBelow 65 = .ok (.iconst 1, 1) := by decide +kernel
theorem d_Mat_chainBelow_66 : decode cd_Mat_chainBelow 66 = .ok (.iadd, 1) := by decide +kernel
theorem d_Mat_chainBelow_67 : decode cd_Mat_chainBelow 67 = .ok (.putfield 41, 3) := by decide +kernel
theorem d_Mat_chainBelow_70 : decode cd_Mat_chainBelow 70 = .ok (.goto (-70), 3) := by decide +kernel
theorem d_Mat_chainBelow_73 : decode cd_Mat_chainBelow 73 = .ok (.return_, 1) := by decide +kernel
theorem d_Mat_slot_0 : decode cd_Mat_slot 0 = .ok (.iload_n 0, 1) := by decide +kernel
theorem d_Mat_slot_1 : decode cd_Mat_slot 1 = .ok (.ldc 87, 2) := by decide +kernel
theorem d_Mat_slot_3 : decode cd_Mat_slot 3 = .ok (.imul, 1) := by decide +kernel
theorem d_Mat_slot_4 : decode cd_Mat_slot 4 = .ok (.bipush 20, 2) := by decide +kernel
theorem d_Mat_slot_6 : decode cd_Mat_slot 6 = .ok (.iushr, 1) := by decide +kernel
theorem d_Mat_slot_7 : decode cd_Mat_slot 7 = .ok (.ireturn, 1) := by decide +kernel
theorem d_Mat_find_0 : decode cd_Mat_find 0 = .ok (.aload_n 0, 1) := by decide +kernel
theorem d_Mat_find_1 : decode cd_Mat_find 1 = .ok (.iconst (-1), 1) := by decide +kernel
theorem d_Mat_find_2 : decode cd_Mat_find 2 = .ok (.putfield 27, 3) := by decide +kernel
theorem d_Mat_find_5 : decode cd_Mat_find 5 = .ok (.aload_n 0, 1) := by decide +kernel
theorem d_Mat_find_6 : decode cd_Mat_find 6 = .ok (.iconst 0, 1) := by decide +kernel
theorem d_Mat_find_7 : decode cd_Mat_find 7 = .ok (.putfield 70, 3) := by decide +kernel
theorem d_Mat_find_10 : decode cd_Mat_find 10 = .ok (.iload_n 2, 1) := by decide +kernel
theorem d_Mat_find_11 : decode cd_Mat_find 11 = .ok (.iload_n 1, 1) := by decide +kernel
theorem d_Mat_find_12 : decode cd_Mat_find 12 = .ok (.isub, 1) := by decide +kernel
theorem d_Mat_find_13 : decode cd_Mat_find 13 = .ok (.iload_n 3, 1) := by decide +kernel
theorem d_Mat_find_14 : decode cd_Mat_find 14 = .ok (.invokestatic 73, 3) := by decide +kernel
theorem d_Mat_find_17 : decode cd_Mat_find 17 = .ok (.istore 4, 2) := by decide +kernel
theorem d_Mat_find_19 : decode cd_Mat_find 19 = .ok (.aload_n 0, 1) := by decide +kernel
theorem d_Mat_find_20 : decode cd_Mat_find 20 = .ok (.getfield 20, 3) := by decide +kernel
theorem d_Mat_find_23 : decode cd_Mat_find 23 = .ok (.aload_n 0, 1) := by decide +kernel
theorem d_Mat_find_24 : decode cd_Mat_find 24 = .ok (.getfield 14, 3) := by decide +kernel
theorem d_Mat_find_27 : decode cd_Mat_find 27 = .ok (.iload_n 1, 1) := by decide +kernel
theorem d_Mat_find_28 : decode cd_Mat_find 28 = .ok (.invokevirtual 53, 3) := by decide +kernel
theorem d_Mat_find_31 : decode cd_Mat_find 31 = .ok (.invokestatic 57, 3) := by decide +kernel
theorem d_Mat_find_34 : decode cd_Mat_find 34 = .ok (.iaload, 1) := by decide +kernel
theorem d_Mat_find_35 : decode cd_Mat_find 35 = .ok (.istore 5, 2) := by decide +kernel
theorem d_Mat_find_37 : decode cd_Mat_find 37 = .ok (.iconst 0, 1) := by decide +kernel
theorem d_Mat_find_38 : decode cd_Mat_find 38 = .ok (.istore 6, 2) := by decide +kernel
theorem d_Mat_find_40 : decode cd_Mat_find 40 = .ok (.iload 6, 2) := by decide +kernel
theorem d_Mat_find_42 : decode cd_Mat_find 42 = .ok (.iload_n 1, 1) := by decide +kernel
theorem d_Mat_find_43 : decode cd_Mat_find 43 = .ok (.if_icmp .ge 93, 3) := by decide +kernel
theorem d_Mat_find_46 : decode cd_Mat_find 46 = .ok (.iload 5, 2) := by decide +kernel
theorem d_Mat_find_48 : decode cd_Mat_find 48 = .ok (.ifCond .lt 88, 3) := by decide +kernel
theorem d_Mat_find_51 : decode cd_Mat_find 51 = .ok (.iload 5, 2) := by decide +kernel
theorem d_Mat_find_53 : decode cd_Mat_find 53 = .ok (.aload_n 0, 1) := by decide +kernel
theorem d_Mat_find_54 : decode cd_Mat_find 54 = .ok (.getfield 24, 3) := by decide +kernel
theorem d_Mat_find_57 : decode cd_Mat_find 57 = .ok (.arraylength, 1) := by decide +kernel
theorem d_Mat_find_58 : decode cd_Mat_find 58 = .ok (.if_icmp .ge 78, 3) := by decide +kernel
theorem d_Mat_find_61 : decode cd_Mat_find 61 = .ok (.aload_n 0, 1) := by decide +kernel
theorem d_Mat_find_62 : decode cd_Mat_find 62 = .ok (.getfield 14, 3) := by decide +kernel
theorem d_Mat_find_65 : decode cd_Mat_find 65 = .ok (.iload 5, 2) := by decide +kernel
theorem d_Mat_find_67 : decode cd_Mat_find 67 = .ok (.aload_n 0, 1) := by decide +kernel
theorem d_Mat_find_68 : decode cd_Mat_find 68 = .ok (.getfield 70, 3) := by decide +kernel
theorem d_Mat_find_71 : decode cd_Mat_find 71 = .ok (.iadd, 1) := by decide +kernel
theorem d_Mat_find_72 : decode cd_Mat_find 72 = .ok (.invokevirtual 76, 3) := by decide +kernel
theorem d_Mat_find_75 : decode cd_Mat_find 75 = .ok (.aload_n 0, 1) := by decide +kernel
theorem d_Mat_find_76 : decode cd_Mat_find 76 = .ok (.getfield 14, 3) := by decide +kernel
theorem d_Mat_find_79 : decode cd_Mat_find 79 = .ok (.iload_n 1, 1) := by decide +kernel
theorem d_Mat_find_80 : decode cd_Mat_find 80 = .ok (.aload_n 0, 1) := by decide +kernel
theorem d_Mat_find_81 : decode cd_Mat_find 81 = .ok (.getfield 70, 3) := by decide +kernel
theorem d_Mat_find_84 : decode cd_Mat_find 84 = .ok (.iadd, 1) := by decide +kernel
theorem d_Mat_find_85 : decode cd_Mat_find 85 = .ok (.invokevirtual 76, 3) := by decide +kernel
theorem d_Mat_find_88 : decode cd_Mat_find 88 = .ok (.if_icmp .ne 23, 3) := by decide +kernel
theorem d_Mat_find_91 : decode cd_Mat_find 91 = .ok (.aload_n 0, 1) := by decide +kernel
theorem d_Mat_find_92 : decode cd_Mat_find 92 = .ok (.iload 5, 2) := by decide +kernel
theorem d_Mat_find_94 : decode cd_Mat_find 94 = .ok (.aload_n 0, 1) := by decide +kernel
theorem d_Mat_find_95 : decode cd_Mat_find 95 = .ok (.getfield 14, 3) := by decide +kernel
theorem d_Mat_find_98 : decode cd_Mat_find 98 = .ok (.iload 5, 2) := by decide +kernel
theorem d_Mat_find_100 : decode cd_Mat_find 100 = .ok (.iload_n 1, 1) := by decide +kernel
theorem d_Mat_find_101 : decode cd_Mat_find 101 = .ok (.iload_n 2, 1) := by decide +kernel
theorem d_Mat_find_102 : decode cd_Mat_find 102 = .ok (.invokevirtual 79, 3) := by decide +kernel
theorem d_Mat_find_105 : decode cd_Mat_find 105 = .ok (.iload 4, 2) := by decide +kernel
theorem d_Mat_find_107 : decode cd_Mat_find 107 = .ok (.iload_n 3, 1) := by decide +kernel
theorem d_Mat_find_108 : decode cd_Mat_find 108 = .ok (.invokevirtual 83, 3) := by decide +kernel
theorem d_Mat_find_111 : decode cd_Mat_find 111 = .ok (.aload_n 0, 1) := by decide +kernel
theorem d_Mat_find_112 : decode cd_Mat_find 112 = .ok (.getfield 70, 3) := by decide +kernel
theorem d_Mat_find_115 : decode cd_Mat_find 115 = .ok (.iload 4, 2) := by decide +kernel
theorem d_Mat_find_117 : decode cd_Mat_find 117 = .ok (.if_icmp .lt 4, 3) := by decide +kernel
theorem d_Mat_find_120 : decode cd_Mat_find 120 = .ok (.return_, 1) := by decide +kernel
theorem d_Mat_find_121 : decode cd_Mat_find 121 = .ok (.aload_n 0, 1) := by decide +kernel
theorem d_Mat_find_122 : decode cd_Mat_find 122 = .ok (.getfield 24, 3) := by decide +kernel
theorem d_Mat_find_125 : decode cd_Mat_find 125 = .ok (.iload 5, 2) := by decide +kernel
theorem d_Mat_find_127 : decode cd_Mat_find 127 = .ok (.iaload, 1) := by decide +kernel
theorem d_Mat_find_128 : decode cd_Mat_find 128 = .ok (.istore 5, 2) := by decide +kernel
theorem d_Mat_find_130 : decode cd_Mat_find 130 = .ok (.iinc 6 1, 3) := by decide +kernel
theorem d_Mat_find_133 : decode cd_Mat_find 133 = .ok (.goto (-93), 3) := by decide +kernel
theorem d_Mat_find_136 : decode cd_Mat_find 136 = .ok (.return_, 1) := by decide +kernel
theorem d_Mat_enough_0 : decode cd_Mat_enough 0 = .ok (.iload_n 1, 1) := by decide +kernel
theorem d_Mat_enough_1 : decode cd_Mat_enough 1 = .ok (.iconst 2, 1) := by decide +kernel
theorem d_Mat_enough_2 : decode cd_Mat_enough 2 = .ok (.if_icmp .lt 5, 3) := by decide +kernel
theorem d_Mat_enough_5 : decode cd_Mat_enough 5 = .ok (.iload_n 0, 1) := by decide +kernel
theorem d_Mat_enough_6 : decode cd_Mat_enough 6 = .ok (.ireturn, 1) := by decide +kernel
theorem d_Mat_enough_7 : decode cd_Mat_enough 7 = .ok (.iload_n 1, 1) := by decide +kernel
theorem d_Mat_enough_8 : decode cd_Mat_enough 8 = .ok (.iconst 1, 1) := by decide +kernel
theorem d_Mat_enough_9 : decode cd_Mat_enough 9 = .ok (.if_icmp .ne 14, 3) := by decide +kernel
theorem d_Mat_enough_12 : decode cd_Mat_enough 12 = .ok (.iload_n 0, 1) := by decide +kernel
theorem d_Mat_enough_13 : decode cd_Mat_enough 13 = .ok (.bipush 8, 2) := by decide +kernel
theorem d_Mat_enough_15 : decode cd_Mat_enough 15 = .ok (.if_icmp .lt 8, 3) := by decide +kernel
theorem d_Mat_enough_18 : decode cd_Mat_enough 18 = .ok (.bipush 8, 2) := by decide +kernel
theorem d_Mat_enough_20 : decode cd_Mat_enough 20 = .ok (.goto 4, 3) := by decide +kernel
theorem d_Mat_enough_23 : decode cd_Mat_enough 23 = .ok (.iconst 4, 1) := by decide +kernel
theorem d_Mat_enough_24 : decode cd_Mat_enough 24 = .ok (.ireturn, 1) := by decide +kernel
theorem d_Mat_hold_0 : decode cd_Mat_hold 0 = .ok (.aload_n 0, 1) := by decide +kernel
theorem d_Mat_hold_1 : decode cd_Mat_hold 1 = .ok (.getfield 70, 3) := by decide +kernel
theorem d_Mat_hold_4 : decode cd_Mat_hold 4 = .ok (.ifCond .eq 22, 3) := by decide +kernel
theorem d_Mat_hold_7 : decode cd_Mat_hold 7 = .ok (.iload_n 2, 1) := by decide +kernel
theorem d_Mat_hold_8 : decode cd_Mat_hold 8 = .ok (.iload_n 3, 1) := by decide +kernel
theorem d_Mat_hold_9 : decode cd_Mat_hold 9 = .ok (.if_icmp .ge 17, 3) := by decide +kernel
theorem d_Mat_hold_12 : decode cd_Mat_hold 12 = .ok (.iload 4, 2) := by decide +kernel
theorem d_Mat_hold_14 : decode cd_Mat_hold 14 = .ok (.iconst 2, 1) := by decide +kernel
theorem d_Mat_hold_15 : decode cd_Mat_hold 15 = .ok (.if_icmp .lt 15, 3) := by decide +kernel
theorem d_Mat_hold_18 : decode cd_Mat_hold 18 = .ok (.iload_n 2, 1) := by decide +kernel
theorem d_Mat_hold_19 : decode cd_Mat_hold 19 = .ok (.aload_n 0, 1) := by decide +kernel
theorem d_Mat_hold_20 : decode cd_Mat_hold 20 = .ok (.getfield 70, 3) := by decide +kernel
theorem d_Mat_hold_23 : decode cd_Mat_hold 23 = .ok (.if_icmp .le 7, 3) := by decide +kernel
theorem d_Mat_hold_26 : decode cd_Mat_hold 26 = .ok (.iconst 1, 1) := by decide +kernel
theorem d_Mat_hold_27 : decode cd_Mat_hold 27 = .ok (.goto 4, 3) := by decide +kernel
theorem d_Mat_hold_30 : decode cd_Mat_hold 30 = .ok (.iconst 0, 1) := by decide +kernel
theorem d_Mat_hold_31 : decode cd_Mat_hold 31 = .ok (.istore 5, 2) := by decide +kernel
theorem d_Mat_hold_33 : decode cd_Mat_hold 33 = .ok (.iload_n 2, 1) := by decide +kernel
theorem d_Mat_hold_34 : decode cd_Mat_hold 34 = .ok (.iconst 4, 1) := by decide +kernel
theorem d_Mat_hold_35 : decode cd_Mat_hold 35 = .ok (.if_icmp .lt 18, 3) := by decide +kernel
theorem d_Mat_hold_38 : decode cd_Mat_hold 38 = .ok (.iload 5, 2) := by decide +kernel
theorem d_Mat_hold_40 : decode cd_Mat_hold 40 = .ok (.ifCond .eq 13, 3) := by decide +kernel
theorem d_Mat_hold_43 : decode cd_Mat_hold 43 = .ok (.aload_n 0, 1) := by decide +kernel
theorem d_Mat_hold_44 : decode cd_Mat_hold 44 = .ok (.iload_n 1, 1) := by decide +kernel
theorem d_Mat_hold_45 : decode cd_Mat_hold 45 = .ok (.putfield 27, 3) := by decide +kernel
theorem d_Mat_hold_48 : decode cd_Mat_hold 48 = .ok (.aload_n 0, 1) := by decide +kernel
theorem d_Mat_hold_49 : decode cd_Mat_hold 49 = .ok (.iload_n 2, 1) := by decide +kernel
theorem d_Mat_hold_50 : decode cd_Mat_hold 50 = .ok (.putfield 70, 3) := by decide +kernel
theorem d_Mat_hold_53 : decode cd_Mat_hold 53 = .ok (.return_, 1) := by decide +kernel
theorem d_Mat_source_0 : decode cd_Mat_source 0 = .ok (.aload_n 0, 1) := by decide +kernel
theorem d_Mat_source_1 : decode cd_Mat_source 1 = .ok (.getfield 27, 3) := by decide +kernel
theorem d_Mat_source_4 : decode cd_Mat_source 4 = .ok (.ireturn, 1) := by decide +kernel
theorem d_Mat_cutTo_0 : decode cd_Mat_cutTo 0 = .ok (.iconst 0, 1) := by decide +kernel
theorem d_Mat_cutTo_1 : decode cd_Mat_cutTo 1 = .ok (.iload_n 1, 1) := by decide +kernel
theorem d_Mat_cutTo_2 : decode cd_Mat_cutTo 2 = .ok (.iconst 3, 1) := by decide +kernel
theorem d_Mat_cutTo_3 : decode cd_Mat_cutTo 3 = .ok (.isub, 1) := by decide +kernel
theorem d_Mat_cutTo_4 : decode cd_Mat_cutTo 4 = .ok (.invokestatic 44, 3) := by decide +kernel
theorem d_Mat_cutTo_7 : decode cd_Mat_cutTo 7 = .ok (.istore_n 2, 1) := by decide +kernel
theorem d_Mat_cutTo_8 : decode cd_Mat_cutTo 8 = .ok (.aload_n 0, 1) := by decide +kernel
theorem d_Mat_cutTo_9 : decode cd_Mat_cutTo 9 = .ok (.getfield 41, 3) := by decide +kernel
theorem d_Mat_cutTo_12 : decode cd_Mat_cutTo 12 = .ok (.aload_n 0, 1) := by decide +kernel
theorem d_Mat_cutTo_13 : decode cd_Mat_cutTo 13 = .ok (.getfield 24, 3) := by decide +kernel
theorem d_Mat_cutTo_16 : decode cd_Mat_cutTo 16 = .ok (.arraylength, 1) := by decide +kernel
theorem d_Mat_cutTo_17 : decode cd_Mat_cutTo 17 = .ok (.invokestatic 50, 3) := by decide +kernel
theorem d_Mat_cutTo_20 : decode cd_Mat_cutTo 20 = .ok (.iconst 1, 1) := by decide +kernel
theorem d_Mat_cutTo_21 : decode cd_Mat_cutTo 21 = .ok (.isub, 1) := by decide +kernel
theorem d_Mat_cutTo_22 : decode cd_Mat_cutTo 22 = .ok (.istore_n 3, 1) := by decide +kernel
theorem d_Mat_cutTo_23 : decode cd_Mat_cutTo 23 = .ok (.iload_n 3, 1) := by decide +kernel
theorem d_Mat_cutTo_24 : decode cd_Mat_cutTo 24 = .ok (.iload_n 2, 1) := by decide +kernel
theorem d_Mat_cutTo_25 : decode cd_Mat_cutTo 25 = .ok (.if_icmp .lt 31, 3) := by decide +kernel
theorem d_Mat_cutTo_28 : decode cd_Mat_cutTo 28 = .ok (.aload_n 0, 1) := by decide +kernel
theorem d_Mat_cutTo_29 : decode cd_Mat_cutTo 29 = .ok (.getfield 20, 3) := by decide +kernel
theorem d_Mat_cutTo_32 : decode cd_Mat_cutTo 32 = .ok (.aload_n 0, 1) := by decide +kernel
theorem d_Mat_cutTo_33 : decode cd_Mat_cutTo 33 = .ok (.getfield 14, 3) := by decide +kernel
theorem d_Mat_cutTo_36 : decode cd_Mat_cutTo 36 = .ok (.iload_n 3, 1) := by decide +kernel
theorem d_Mat_cutTo_37 : decode cd_Mat_cutTo 37 = .ok (.invokevirtual 53, 3) := by decide +kernel
theorem d_Mat_cutTo_40 : decode cd_Mat_cutTo 40 = .ok (.invokestatic 57, 3) := by decide +kernel
theorem d_Mat_cutTo_43 : decode cd_Mat_cutTo 43 = .ok (.aload_n 0, 1) := by decide +kernel
theorem d_Mat_cutTo_44 : decode cd_Mat_cutTo 44 = .ok (.getfield 24, 3) := by decide +kernel
theorem d_Mat_cutTo_47 : decode cd_Mat_cutTo 47 = .ok (.iload_n 3, 1) := by decide +kernel
theorem d_Mat_cutTo_48 : decode cd_Mat_cutTo 48 = .ok (.iaload, 1) := by decide +kernel
theorem d_Mat_cutTo_49 : decode cd_Mat_cutTo 49 = .ok (.iastore, 1) := by decide +kernel
theorem d_Mat_cutTo_50 : decode cd_Mat_cutTo 50 = .ok (.iinc 3 (-1), 3) := by decide +kernel
theorem d_Mat_cutTo_53 : decode cd_Mat_cutTo 53 = .ok (.goto (-30), 3) := by decide +kernel
theorem d_Mat_cutTo_56 : decode cd_Mat_cutTo 56 = .ok (.aload_n 0, 1) := by decide +kernel
theorem d_Mat_cutTo_57 : decode cd_Mat_cutTo 57 = .ok (.aload_n 0, 1) := by decide +kernel
theorem d_Mat_cutTo_58 : decode cd_Mat_cutTo 58 = .ok (.getfield 41, 3) := by decide +kernel
theorem d_Mat_cutTo_61 : decode cd_Mat_cutTo 61 = .ok (.iload_n 2, 1) := by decide +kernel
theorem d_Mat_cutTo_62 : decode cd_Mat_cutTo 62 = .ok (.invokestatic 50, 3) := by decide +kernel
theorem d_Mat_cutTo_65 : decode cd_Mat_cutTo 65 = .ok (.putfield 41, 3) := by decide +kernel
theorem d_Mat_cutTo_68 : decode cd_Mat_cutTo 68 = .ok (.aload_n 0, 1) := by decide +kernel
theorem d_Mat_cutTo_69 : decode cd_Mat_cutTo 69 = .ok (.getfield 14, 3) := by decide +kernel
theorem d_Mat_cutTo_72 : decode cd_Mat_cutTo 72 = .ok (.iload_n 1, 1) := by decide +kernel
theorem d_Mat_cutTo_73 : decode cd_Mat_cutTo 73 = .ok (.invokevirtual 60, 3) := by decide +kernel
theorem d_Mat_cutTo_76 : decode cd_Mat_cutTo 76 = .ok (.return_, 1) := by decide +kernel
end
section
abbrev wd_Mat_slot (cB cI cJ : ClassId) : va_W := []
abbrev rm_Mat_slot : Room := { frames := 0, cells := 0, slots := 0, locals := 0 }
section
variable {p : Program} {l : Launch} {e : Env} {s : State} {m : MethodId} {args : Array Value} {below : List Frame} {meth : Method} {c : Code} {dC : Nat → ClassId} {dI : Nat → Nat → Nat} {A : Nat → Prop} {cB cI cJ : ClassId} {H : Heap} {locs : List Loc} {ls : Array Slot} {N : Nat} 
noncomputable def j_Mat_slot_0 (x0 : Int32)  : Option (Int32) :=
  (some (us32 (x0 * (-1640531535 : Int32)) (20 : Int32)) : Option (Int32))
set_option maxHeartbeats 4000000 in
set_option maxRecDepth 100000 in
theorem k_Mat_slot_0 {r_z : Int32} (C : Fx p s m args meth c cd_Mat_slot 1 R_Mat lw_g (some .int)) (hK : va_K (dC, dI) vwCl [(cB, .byte), (cI, .int), (cJ, .long)] s) (hA : ∀ q, s.heap.size ≤ q → A q) (x0 : Int32)  (hf : j_Mat_slot_0 x0  = some r_z) (hP : va_P (dC, dI) vwCl (wd_Mat_slot cB cI cJ) H) (hD : va_D A (wd_Mat_slot cB cI cJ)) (hS : va_S A s.heap H locs) (hl : lv_has ls 1 [(0, .int x0)]) : W p l e rm_Mat_slot s m args below meth c H locs 0 0 (MQ below (sQi (dC, dI) vwCl [(cB, .byte), (cI, .int), (cJ, .long)] A r_z (wd_Mat_slot cB cI cJ)) args s 0 0 A) (F0 m 0 ls []) := by
  obtain ⟨hx, hb, hml, hown, hts, hr, hlocks, hZ⟩ := id C
  unfold j_Mat_slot_0 at hf
  refine lv_iload_n hx hb d_Mat_slot_0 rfl (lv_at hl 0 rfl) ?_
  refine lv_ldc (v := -1640531535) hx hb hown (hts _ w_52) d_Mat_slot_1 ?_
  refine lv_imul hx hb d_Mat_slot_3 ?_
  refine lv_bipush (v := 20) hx hb d_Mat_slot_4 (by decide) ?_
  refine lv_iushr (v := (us32 (x0 * (-1640531535 : Int32)) (20 : Int32))) hx hb d_Mat_slot_6 rfl ?_
  cases hf
  exact s_iret hx hb hr hlocks hP hK hD hS d_Mat_slot_7
end
noncomputable abbrev f_Mat_slot (x0 : Int32) : Option (Int32) := j_Mat_slot_0 x0
set_option maxRecDepth 100000 in
theorem c_Mat_slot (l : Launch) (dC : Nat → ClassId) (dI : Nat → Nat → Nat) (cB cI cJ : ClassId)   (x0 : Int32) {r_z : Int32} (hf : f_Mat_slot x0 = some r_z) : MetI l y_Mat_slot ws_Mat_slot rm_Mat_slot (dC, dI) vwCl [(cB, .byte), (cI, .int), (cJ, .long)] [.int x0] (wd_Mat_slot cB cI cJ) r_z (wd_Mat_slot cB cI cJ) 0 0 :=
  s_ofi (bytes := cd_Mat_slot) (maxL := 1) (ret := (some .int)) (by decide) rfl (Nat.le_of_ble_eq_true rfl) (fun p e s m below meth c A ls C hK hA hP hD hS hl => k_Mat_slot_0 C hK hA x0 hf hP hD hS (lv_sub hl [0] rfl))
end
section
abbrev wd_Mat_chainBelow (mt d da la ea : Nat) (cB cI cJ : ClassId) (mc : Int32) (ms : Int32) (ml : Int32) (dn : Int32) (df : Nat → Int32) (laf : Nat → Int32) (eaf : Nat → Int32) : va_W := [(mt, .inr (3, [.ref d, .ref la, .ref ea, .int mc, .int ms, .int ml])), (d, .inr (1, [.ref da, .int dn])), (da, .inl (cB, 16000, .inl df)), (la, .inl (cI, 4096, .inl laf)), (ea, .inl (cI, 16000, .inl eaf))]
abbrev rm_Mat_chainBelow : Room := { frames := 1, cells := 0, slots := 0, locals := 21 }
section
variable {p : Program} {l : Launch} {e : Env} {s : State} {m : MethodId} {args : Array Value} {below : List Frame} {meth : Method} {c : Code} {dC : Nat → ClassId} {dI : Nat → Nat → Nat} {A : Nat → Prop} {cB cI cJ : ClassId} {H : Heap} {locs : List Loc} {ls : Array Slot} {N : Nat} {mt d da la ea : Nat}
noncomputable def b_Mat_chainBelow_0 (x1 : Int32) (dn : Int32) (df : Nat → Int32)  (kh0 : Int32 → (Nat → Int32) → (Nat → Int32) → Option (Int32 × (Nat → Int32) × (Nat → Int32))) (mc : Int32) (laf : Nat → Int32) (eaf : Nat → Int32) : Option (Int32 × (Nat → Int32) × (Nat → Int32)) :=
  (if x1 ≤ mc then (some (mc, laf, eaf) : Option (Int32 × (Nat → Int32) × (Nat → Int32))) else (if (Int32.ofNat 16000) ≤ mc then (some (mc, laf, eaf) : Option (Int32 × (Nat → Int32) × (Nat → Int32))) else bd1 (f_Row_word 16000 mc dn df) (fun r28 => bd1 (f_Mat_slot r28) (fun r31 => as_ (vp_in r31 4096) (as_ (vp_in mc 16000) (as_ (vp_in r31 4096) ((kh0 (mc + (1 : Int32)) (upd laf r31.toNatClampNeg mc) (upd eaf mc.toNatClampNeg (laf r31.toNatClampNeg))))))))))
set_option maxHeartbeats 4000000 in
set_option maxRecDepth 100000 in
theorem k_Mat_chainBelow_0 {mc_z : Int32} {laf_z : Nat → Int32} {eaf_z : Nat → Int32} (C : Fx p s m args meth c cd_Mat_chainBelow 3 R_Mat lw_g none) (hK : va_K (dC, dI) vwCl [(cB, .byte), (cI, .int), (cJ, .long)] s) (hA : ∀ q, s.heap.size ≤ q → A q) (x1 : Int32) (ms : Int32) (ml : Int32) (dn : Int32) (df : Nat → Int32)  : ∀ (n : Nat) (mc : Int32) (laf : Nat → Int32) (eaf : Nat → Int32), loop3 (b_Mat_chainBelow_0 x1 dn df ) n mc laf eaf = some (mc_z, laf_z, eaf_z) → ∀ (H : Heap) (locs : List Loc), va_P (dC, dI) vwCl (wd_Mat_chainBelow mt d da la ea cB cI cJ mc ms ml dn df laf eaf) H → va_D A (wd_Mat_chainBelow mt d da la ea cB cI cJ mc ms ml dn df laf eaf) → va_S A s.heap H locs → ∀ (ls : Array Slot), lv_has ls 3 [(0, .ref mt), (1, .int x1)] → W p l e rm_Mat_chainBelow s m args below meth c H locs 0 0 (MQ below (sQv (dC, dI) vwCl [(cB, .byte), (cI, .int), (cJ, .long)] A (wd_Mat_chainBelow mt d da la ea cB cI cJ mc_z ms ml dn df laf_z eaf_z)) args s 0 0 A) (F0 m 0 ls []) := by
  obtain ⟨hx, hb, hml, hown, hts, hr, hlocks, hZ⟩ := id C
  intro n
  induction n with
  | zero => intro mc laf eaf hf; cases hf
  | succ n ih0 =>
    intro mc laf eaf hf H locs hP hD hS ls hl
    have hf : b_Mat_chainBelow_0 x1 dn df  (loop3 (b_Mat_chainBelow_0 x1 dn df ) n) mc laf eaf = some (mc_z, laf_z, eaf_z) := hf
    generalize loop3 (b_Mat_chainBelow_0 x1 dn df ) n = kh0 at hf ih0
    unfold b_Mat_chainBelow_0 at hf
    refine lv_aload_n hx hb d_Mat_chainBelow_0 rfl (lv_at hl 0 rfl) ?_
    refine va_get (D := (dC, dI)) (ci := 3) (v := .int mc) (C := R_Mat) (T := T_Mat) (N := 6) hx hb hts w_53 hown hK hP 0 rfl rfl 3 (by decide) (hts _ w_54) (fun _ h9 => h9) rfl d_Mat_chainBelow_1 ?_
    refine lv_iload_n hx hb d_Mat_chainBelow_4 rfl (lv_at hl 1 rfl) ?_
    refine lv_icmp_ge (tgt := 73) hx hb d_Mat_chainBelow_5 (by decide) (fun c_5 => ?_) (fun c_5 => ?_)
    · have hf := br_pos c_5 hf
      cases hf
      exact s_vret hx hb hr hlocks hP hK hD hS d_Mat_chainBelow_73
    · have hf := br_neg c_5 hf
      refine lv_aload_n hx hb d_Mat_chainBelow_8 rfl (lv_at hl 0 rfl) ?_
      refine va_get (D := (dC, dI)) (ci := 3) (v := .int mc) (C := R_Mat) (T := T_Mat) (N := 6) hx hb hts w_53 hown hK hP 0 rfl rfl 3 (by decide) (hts _ w_54) (fun _ h9 => h9) rfl d_Mat_chainBelow_9 ?_
      refine lv_aload_n hx hb d_Mat_chainBelow_12 rfl (lv_at hl 0 rfl) ?_
      refine va_get (D := (dC, dI)) (ci := 3) (v := .ref ea) (C := R_Mat) (T := T_Mat) (N := 6) hx hb hts w_53 hown hK hP 0 rfl rfl 2 (by decide) (hts _ w_55) (fun _ h9 => h9) rfl d_Mat_chainBelow_13 ?_
      refine va_alen (v := (Int32.ofNat 16000)) hx hb hK hP 4 1 rfl rfl rfl d_Mat_chainBelow_16 ?_
      refine lv_icmp_ge (tgt := 73) hx hb d_Mat_chainBelow_17 (by decide) (fun c_17 => ?_) (fun c_17 => ?_)
      · have hf := br_pos c_17 hf
        cases hf
        exact s_vret hx hb hr hlocks hP hK hD hS d_Mat_chainBelow_73
      · have hf := br_neg c_17 hf
        refine lv_aload_n hx hb d_Mat_chainBelow_20 rfl (lv_at hl 0 rfl) ?_
        refine va_get (D := (dC, dI)) (ci := 3) (v := .ref d) (C := R_Mat) (T := T_Mat) (N := 6) hx hb hts w_53 hown hK hP 0 rfl rfl 0 (by decide) (hts _ w_56) (fun _ h9 => h9) rfl d_Mat_chainBelow_21 ?_
        refine lv_aload_n hx hb d_Mat_chainBelow_24 rfl (lv_at hl 0 rfl) ?_
        refine va_get (D := (dC, dI)) (ci := 3) (v := .int mc) (C := R_Mat) (T := T_Mat) (N := 6) hx hb hts w_53 hown hK hP 0 rfl rfl 3 (by decide) (hts _ w_54) (fun _ h9 => h9) rfl d_Mat_chainBelow_25 ?_
        obtain ⟨r28, hc28, hf⟩ := bd1_some hf
        refine s_Vi (As := [.int mc]) (rest := []) (wr := [(mt, .inr (3, [.ref d, .ref la, .ref ea, .int mc, .int ms, .int ml])), (la, .inl (cI, 4096, .inl laf)), (ea, .inl (cI, 16000, .inl eaf))]) (ws' := wd_Mat_chainBelow mt d da la ea cB cI cJ mc ms ml dn df laf eaf) C.call (c_Row_word l dC dI cB cI cJ d da 16000 dn df mc hc28) (cwV 1 hts (gd_V w_57 w_58 w_59 w_12 w_60) rfl rfl rfl ⟨rfl, hd_Row_word⟩ ⟨Nat.le_of_ble_eq_true rfl, Nat.le_of_ble_eq_true rfl⟩) rfl hl.1 rfl (Nat.le_of_ble_eq_true rfl) d_Mat_chainBelow_28 ⟨Nat.le_of_ble_eq_true rfl, Nat.le_of_ble_eq_true rfl⟩ hZ hK hP hD hS hA 1 1 rfl rfl [1, 2] [0, 3, 4] [0, 3, 4, 1, 2] rfl rfl rfl rfl (by decide) rfl rfl (fun H locs hP hD hS => ?_)
        obtain ⟨r31, hc31, hf⟩ := bd1_some hf
        refine s_Si (As := [.int r28]) (rest := []) (wr := [(mt, .inr (3, [.ref d, .ref la, .ref ea, .int mc, .int ms, .int ml])), (d, .inr (1, [.ref da, .int dn])), (da, .inl (cB, 16000, .inl df)), (la, .inl (cI, 4096, .inl laf)), (ea, .inl (cI, 16000, .inl eaf))]) (ws' := wd_Mat_chainBelow mt d da la ea cB cI cJ mc ms ml dn df laf eaf) C.call (c_Mat_slot l dC dI cB cI cJ    r28 hc31) (va_cwS 1 hts (gd_S w_61 w_62 w_63 w_64) rfl rfl rfl hd_Mat_slot ⟨Nat.le_of_ble_eq_true rfl, Nat.le_of_ble_eq_true rfl⟩) rfl hl.1 rfl (Nat.le_of_ble_eq_true rfl) d_Mat_chainBelow_31 ⟨Nat.le_of_ble_eq_true rfl, Nat.le_of_ble_eq_true rfl⟩ hZ hK hP hD hS hA [] [0, 1, 2, 3, 4] [0, 1, 2, 3, 4] rfl rfl rfl rfl (by decide) rfl rfl (fun H locs hP hD hS => ?_)
        refine lv_istore_n (lv' := [(2, .int r31), (0, .ref mt), (1, .int x1)]) hx hb d_Mat_chainBelow_34 rfl hl (by decide) rfl (fun ls hl => ?_)
        refine lv_aload_n hx hb d_Mat_chainBelow_35 rfl (lv_at hl 1 rfl) ?_
        refine va_get (D := (dC, dI)) (ci := 3) (v := .ref ea) (C := R_Mat) (T := T_Mat) (N := 6) hx hb hts w_53 hown hK hP 0 rfl rfl 2 (by decide) (hts _ w_55) (fun _ h9 => h9) rfl d_Mat_chainBelow_36 ?_
        refine lv_aload_n hx hb d_Mat_chainBelow_39 rfl (lv_at hl 1 rfl) ?_
        refine va_get (D := (dC, dI)) (ci := 3) (v := .int mc) (C := R_Mat) (T := T_Mat) (N := 6) hx hb hts w_53 hown hK hP 0 rfl rfl 3 (by decide) (hts _ w_54) (fun _ h9 => h9) rfl d_Mat_chainBelow_40 ?_
        refine lv_aload_n hx hb d_Mat_chainBelow_43 rfl (lv_at hl 1 rfl) ?_
        refine va_get (D := (dC, dI)) (ci := 3) (v := .ref la) (C := R_Mat) (T := T_Mat) (N := 6) hx hb hts w_53 hown hK hP 0 rfl rfl 1 (by decide) (hts _ w_65) (fun _ h9 => h9) rfl d_Mat_chainBelow_44 ?_
        refine lv_iload_n hx hb d_Mat_chainBelow_47 rfl (lv_at hl 0 rfl) ?_
        obtain ⟨h_in, hf⟩ := as_some hf
        refine va_iald hx hb hK hP 3 1 rfl rfl h_in d_Mat_chainBelow_48 ?_
        obtain ⟨h_in, hf⟩ := as_some hf
        refine va_iast hx hb hK hP hD hS 4 1 rfl rfl h_in d_Mat_chainBelow_49 (fun H locs hP hD hS => ?_)
        have hP : va_P (dC, dI) vwCl (wd_Mat_chainBelow mt d da la ea cB cI cJ mc ms ml dn df laf (upd eaf mc.toNatClampNeg (laf r31.toNatClampNeg))) H := hP
        have hD : va_D A (wd_Mat_chainBelow mt d da la ea cB cI cJ mc ms ml dn df laf (upd eaf mc.toNatClampNeg (laf r31.toNatClampNeg))) := hD
        refine lv_aload_n hx hb d_Mat_chainBelow_50 rfl (lv_at hl 1 rfl) ?_
        refine va_get (D := (dC, dI)) (ci := 3) (v := .ref la) (C := R_Mat) (T := T_Mat) (N := 6) hx hb hts w_53 hown hK hP 0 rfl rfl 1 (by decide) (hts _ w_65) (fun _ h9 => h9) rfl d_Mat_chainBelow_51 ?_
        refine lv_iload_n hx hb d_Mat_chainBelow_54 rfl (lv_at hl 0 rfl) ?_
        refine lv_aload_n hx hb d_Mat_chainBelow_55 rfl (lv_at hl 1 rfl) ?_
        refine va_get (D := (dC, dI)) (ci := 3) (v := .int mc) (C := R_Mat) (T := T_Mat) (N := 6) hx hb hts w_53 hown hK hP 0 rfl rfl 3 (by decide) (hts _ w_54) (fun _ h9 => h9) rfl d_Mat_chainBelow_56 ?_
        obtain ⟨h_in, hf⟩ := as_some hf
        refine va_iast hx hb hK hP hD hS 3 1 rfl rfl h_in d_Mat_chainBelow_59 (fun H locs hP hD hS => ?_)
        have hP : va_P (dC, dI) vwCl (wd_Mat_chainBelow mt d da la ea cB cI cJ mc ms ml dn df (upd laf r31.toNatClampNeg mc) (upd eaf mc.toNatClampNeg (laf r31.toNatClampNeg))) H := hP
        have hD : va_D A (wd_Mat_chainBelow mt d da la ea cB cI cJ mc ms ml dn df (upd laf r31.toNatClampNeg mc) (upd eaf mc.toNatClampNeg (laf r31.toNatClampNeg))) := hD
        refine lv_aload_n hx hb d_Mat_chainBelow_60 rfl (lv_at hl 1 rfl) ?_
        refine lv_dup hx hb d_Mat_chainBelow_61 rfl ?_
        refine va_get (D := (dC, dI)) (ci := 3) (v := .int mc) (C := R_Mat) (T := T_Mat) (N := 6) hx hb hts w_53 hown hK hP 0 rfl rfl 3 (by decide) (hts _ w_54) (fun _ h9 => h9) rfl d_Mat_chainBelow_62 ?_
        refine lv_iconst (v := 1) hx hb d_Mat_chainBelow_65 (by decide) ?_
        refine lv_iadd hx hb d_Mat_chainBelow_66 ?_
        refine va_put (D := (dC, dI)) (ci := 3) (v := .int (mc + (1 : Int32))) (ty := .int) (C := R_Mat) (T := T_Mat) (N := 6) hx hb hts w_53 ty_Mat ty_Mat_ok nm_Mat hown hK hP hD hS 0 rfl rfl 3 (by decide) (hts _ w_54) (fun _ h9 => h9) rfl (by decide +kernel) rfl rfl (Nat.le_of_ble_eq_true rfl) d_Mat_chainBelow_67 (fun H locs hP hD hS => ?_)
        have hP : va_P (dC, dI) vwCl (wd_Mat_chainBelow mt d da la ea cB cI cJ (mc + (1 : Int32)) ms ml dn df (upd laf r31.toNatClampNeg mc) (upd eaf mc.toNatClampNeg (laf r31.toNatClampNeg))) H := hP
        have hD : va_D A (wd_Mat_chainBelow mt d da la ea cB cI cJ (mc + (1 : Int32)) ms ml dn df (upd laf r31.toNatClampNeg mc) (upd eaf mc.toNatClampNeg (laf r31.toNatClampNeg))) := hD
        refine lv_goto (tgt := 0) hx hb d_Mat_chainBelow_70 (by decide) ?_
        exact ih0 (mc + (1 : Int32)) (upd laf r31.toNatClampNeg mc) (upd eaf mc.toNatClampNeg (laf r31.toNatClampNeg)) hf _ _ hP hD hS _ (lv_sub hl [1, 2] rfl)
end
noncomputable abbrev f_Mat_chainBelow (N : Nat) (x1 : Int32) (dn : Int32) (df : Nat → Int32) (mc : Int32) (laf : Nat → Int32) (eaf : Nat → Int32) : Option (Int32 × (Nat → Int32) × (Nat → Int32)) := loop3 (b_Mat_chainBelow_0 x1 dn df) N mc laf eaf
set_option maxRecDepth 100000 in
theorem c_Mat_chainBelow {N : Nat} (l : Launch) (dC : Nat → ClassId) (dI : Nat → Nat → Nat) (cB cI cJ : ClassId) (mt d da la ea : Nat) (mc : Int32) (ms : Int32) (ml : Int32) (dn : Int32) (df : Nat → Int32) (laf : Nat → Int32) (eaf : Nat → Int32) (x1 : Int32) {mc_z : Int32} {laf_z : Nat → Int32} {eaf_z : Nat → Int32} (hf : f_Mat_chainBelow N x1 dn df mc laf eaf = some (mc_z, laf_z, eaf_z)) : MetV l y_Mat_chainBelow ws_Mat_chainBelow rm_Mat_chainBelow (dC, dI) vwCl [(cB, .byte), (cI, .int), (cJ, .long)] [.ref mt, .int x1] (wd_Mat_chainBelow mt d da la ea cB cI cJ mc ms ml dn df laf eaf)  (wd_Mat_chainBelow mt d da la ea cB cI cJ mc_z ms ml dn df laf_z eaf_z) 0 0 :=
  s_ofv (bytes := cd_Mat_chainBelow) (maxL := 3) (ret := none) (by decide) rfl (Nat.le_of_ble_eq_true rfl) (fun p e s m below meth c A ls C hK hA hP hD hS hl => k_Mat_chainBelow_0 C hK hA x1 ms ml dn df N mc laf eaf hf _ _ hP hD hS _ (lv_sub hl [0, 1] rfl))
end
section
abbrev wd_Mat_enough (cB cI cJ : ClassId) : va_W := []
abbrev rm_Mat_enough : Room := { frames := 0, cells := 0, slots := 0, locals := 0 }
section
variable {p : Program} {l : Launch} {e : Env} {s : State} {m : MethodId} {args : Array Value} {below : List Frame} {meth : Method} {c : Code} {dC : Nat → ClassId} {dI : Nat → Nat → Nat} {A : Nat → Prop} {cB cI cJ : ClassId} {H : Heap} {locs : List Loc} {ls : Array Slot} {N : Nat} 
noncomputable def j_Mat_enough_0 (x0 : Int32) (x1 : Int32)  : Option (Int32) :=
  (if x1 < (2 : Int32) then (if x1 = (1 : Int32) then (if x0 < (8 : Int32) then (some (4 : Int32) : Option (Int32)) else (some (8 : Int32) : Option (Int32))) else (some (4 : Int32) : Option (Int32))) else (some x0 : Option (Int32)))
set_option maxHeartbeats 4000000 in
set_option maxRecDepth 100000 in
theorem k_Mat_enough_0 {r_z : Int32} (C : Fx p s m args meth c cd_Mat_enough 2 R_Mat lw_g (some .int)) (hK : va_K (dC, dI) vwCl [(cB, .byte), (cI, .int), (cJ, .long)] s) (hA : ∀ q, s.heap.size ≤ q → A q) (x0 : Int32) (x1 : Int32)  (hf : j_Mat_enough_0 x0 x1  = some r_z) (hP : va_P (dC, dI) vwCl (wd_Mat_enough cB cI cJ) H) (hD : va_D A (wd_Mat_enough cB cI cJ)) (hS : va_S A s.heap H locs) (hl : lv_has ls 2 [(0, .int x0), (1, .int x1)]) : W p l e rm_Mat_enough s m args below meth c H locs 0 0 (MQ below (sQi (dC, dI) vwCl [(cB, .byte), (cI, .int), (cJ, .long)] A r_z (wd_Mat_enough cB cI cJ)) args s 0 0 A) (F0 m 0 ls []) := by
  obtain ⟨hx, hb, hml, hown, hts, hr, hlocks, hZ⟩ := id C
  unfold j_Mat_enough_0 at hf
  refine lv_iload_n hx hb d_Mat_enough_0 rfl (lv_at hl 1 rfl) ?_
  refine lv_iconst (v := 2) hx hb d_Mat_enough_1 (by decide) ?_
  refine lv_icmp_lt (tgt := 7) hx hb d_Mat_enough_2 (by decide) (fun c_2 => ?_) (fun c_2 => ?_)
  · have hf := br_pos c_2 hf
    refine lv_iload_n hx hb d_Mat_enough_7 rfl (lv_at hl 1 rfl) ?_
    refine lv_iconst (v := 1) hx hb d_Mat_enough_8 (by decide) ?_
    refine lv_icmp_ne (tgt := 23) hx hb d_Mat_enough_9 (by decide) (fun c_9 => ?_) (fun c_9 => ?_)
    · have hf := br_neg c_9 hf
      refine lv_iconst (v := 4) hx hb d_Mat_enough_23 (by decide) ?_
      cases hf
      exact s_iret hx hb hr hlocks hP hK hD hS d_Mat_enough_24
    · have hf := br_pos c_9 hf
      refine lv_iload_n hx hb d_Mat_enough_12 rfl (lv_at hl 0 rfl) ?_
      refine lv_bipush (v := 8) hx hb d_Mat_enough_13 (by decide) ?_
      refine lv_icmp_lt (tgt := 23) hx hb d_Mat_enough_15 (by decide) (fun c_15 => ?_) (fun c_15 => ?_)
      · have hf := br_pos c_15 hf
        refine lv_iconst (v := 4) hx hb d_Mat_enough_23 (by decide) ?_
        cases hf
        exact s_iret hx hb hr hlocks hP hK hD hS d_Mat_enough_24
      · have hf := br_neg c_15 hf
        refine lv_bipush (v := 8) hx hb d_Mat_enough_18 (by decide) ?_
        refine lv_goto (tgt := 24) hx hb d_Mat_enough_20 (by decide) ?_
        cases hf
        exact s_iret hx hb hr hlocks hP hK hD hS d_Mat_enough_24
  · have hf := br_neg c_2 hf
    refine lv_iload_n hx hb d_Mat_enough_5 rfl (lv_at hl 0 rfl) ?_
    cases hf
    exact s_iret hx hb hr hlocks hP hK hD hS d_Mat_enough_6
end
noncomputable abbrev f_Mat_enough (x0 : Int32) (x1 : Int32) : Option (Int32) := j_Mat_enough_0 x0 x1
set_option maxRecDepth 100000 in
theorem c_Mat_enough (l : Launch) (dC : Nat → ClassId) (dI : Nat → Nat → Nat) (cB cI cJ : ClassId)   (x0 : Int32) (x1 : Int32) {r_z : Int32} (hf : f_Mat_enough x0 x1 = some r_z) : MetI l y_Mat_enough ws_Mat_enough rm_Mat_enough (dC, dI) vwCl [(cB, .byte), (cI, .int), (cJ, .long)] [.int x0, .int x1] (wd_Mat_enough cB cI cJ) r_z (wd_Mat_enough cB cI cJ) 0 0 :=
  s_ofi (bytes := cd_Mat_enough) (maxL := 2) (ret := (some .int)) (by decide) rfl (Nat.le_of_ble_eq_true rfl) (fun p e s m below meth c A ls C hK hA hP hD hS hl => k_Mat_enough_0 C hK hA x0 x1 hf hP hD hS (lv_sub hl [0, 1] rfl))
end
section
abbrev wd_Mat_hold (mt d la ea : Nat) (cB cI cJ : ClassId) (mc : Int32) (ms : Int32) (ml : Int32) : va_W := [(mt, .inr (3, [.ref d, .ref la, .ref ea, .int mc, .int ms, .int ml]))]
abbrev rm_Mat_hold : Room := { frames := 0, cells := 0, slots := 0, locals := 0 }
section
variable {p : Program} {l : Launch} {e : Env} {s : State} {m : MethodId} {args : Array Value} {below : List Frame} {meth : Method} {c : Code} {dC : Nat → ClassId} {dI : Nat → Nat → Nat} {A : Nat → Prop} {cB cI cJ : ClassId} {H : Heap} {locs : List Loc} {ls : Array Slot} {N : Nat} {mt d la ea : Nat}
noncomputable def j_Mat_hold_31 (x1 : Int32) (x2 : Int32) (t0 : Int32) (ms : Int32) (ml : Int32)  : Option (Int32 × Int32) :=
  (if x2 < (4 : Int32) then (some (ms, ml) : Option (Int32 × Int32)) else (if t0 = 0 then (some (ms, ml) : Option (Int32 × Int32)) else (some (x1, x2) : Option (Int32 × Int32))))
set_option maxHeartbeats 4000000 in
set_option maxRecDepth 100000 in
theorem k_Mat_hold_31 {ms_z : Int32} {ml_z : Int32} (C : Fx p s m args meth c cd_Mat_hold 6 R_Mat lw_g none) (hK : va_K (dC, dI) vwCl [(cB, .byte), (cI, .int), (cJ, .long)] s) (hA : ∀ q, s.heap.size ≤ q → A q) (x1 : Int32) (x2 : Int32) (t0 : Int32) (mc : Int32) (ms : Int32) (ml : Int32)  (hf : j_Mat_hold_31 x1 x2 t0 ms ml  = some (ms_z, ml_z)) (hP : va_P (dC, dI) vwCl (wd_Mat_hold mt d la ea cB cI cJ mc ms ml) H) (hD : va_D A (wd_Mat_hold mt d la ea cB cI cJ mc ms ml)) (hS : va_S A s.heap H locs) (hl : lv_has ls 6 [(0, .ref mt), (1, .int x1), (2, .int x2)]) : W p l e rm_Mat_hold s m args below meth c H locs 0 0 (MQ below (sQv (dC, dI) vwCl [(cB, .byte), (cI, .int), (cJ, .long)] A (wd_Mat_hold mt d la ea cB cI cJ mc ms_z ml_z)) args s 0 0 A) (F0 m 31 ls [.int t0]) := by
  obtain ⟨hx, hb, hml, hown, hts, hr, hlocks, hZ⟩ := id C
  unfold j_Mat_hold_31 at hf
  refine lv_istore (lv' := [(5, .int t0), (0, .ref mt), (1, .int x1), (2, .int x2)]) hx hb d_Mat_hold_31 hl (by decide) rfl (fun ls hl => ?_)
  refine lv_iload_n hx hb d_Mat_hold_33 rfl (lv_at hl 3 rfl) ?_
  refine lv_iconst (v := 4) hx hb d_Mat_hold_34 (by decide) ?_
  refine lv_icmp_lt (tgt := 53) hx hb d_Mat_hold_35 (by decide) (fun c_35 => ?_) (fun c_35 => ?_)
  · have hf := br_pos c_35 hf
    cases hf
    exact s_vret hx hb hr hlocks hP hK hD hS d_Mat_hold_53
  · have hf := br_neg c_35 hf
    refine lv_iload hx hb d_Mat_hold_38 (lv_at hl 0 rfl) ?_
    refine lv_if_eq (tgt := 53) hx hb d_Mat_hold_40 (by decide) (fun c_40 => ?_) (fun c_40 => ?_)
    · have hf := br_pos c_40 hf
      cases hf
      exact s_vret hx hb hr hlocks hP hK hD hS d_Mat_hold_53
    · have hf := br_neg c_40 hf
      refine lv_aload_n hx hb d_Mat_hold_43 rfl (lv_at hl 1 rfl) ?_
      refine lv_iload_n hx hb d_Mat_hold_44 rfl (lv_at hl 2 rfl) ?_
      refine va_put (D := (dC, dI)) (ci := 3) (v := .int x1) (ty := .int) (C := R_Mat) (T := T_Mat) (N := 6) hx hb hts w_53 ty_Mat ty_Mat_ok nm_Mat hown hK hP hD hS 0 rfl rfl 4 (by decide) (hts _ w_67) (fun _ h9 => h9) rfl (by decide +kernel) rfl rfl (Nat.le_of_ble_eq_true rfl) d_Mat_hold_45 (fun H locs hP hD hS => ?_)
      have hP : va_P (dC, dI) vwCl (wd_Mat_hold mt d la ea cB cI cJ mc x1 ml) H := hP
      have hD : va_D A (wd_Mat_hold mt d la ea cB cI cJ mc x1 ml) := hD
      refine lv_aload_n hx hb d_Mat_hold_48 rfl (lv_at hl 1 rfl) ?_
      refine lv_iload_n hx hb d_Mat_hold_49 rfl (lv_at hl 3 rfl) ?_
      refine va_put (D := (dC, dI)) (ci := 3) (v := .int x2) (ty := .int) (C := R_Mat) (T := T_Mat) (N := 6) hx hb hts w_53 ty_Mat ty_Mat_ok nm_Mat hown hK hP hD hS 0 rfl rfl 5 (by decide) (hts _ w_66) (fun _ h9 => h9) rfl (by decide +kernel) rfl rfl (Nat.le_of_ble_eq_true rfl) d_Mat_hold_50 (fun H locs hP hD hS => ?_)
      have hP : va_P (dC, dI) vwCl (wd_Mat_hold mt d la ea cB cI cJ mc x1 x2) H := hP
      have hD : va_D A (wd_Mat_hold mt d la ea cB cI cJ mc x1 x2) := hD
      cases hf
      exact s_vret hx hb hr hlocks hP hK hD hS d_Mat_hold_53
noncomputable def j_Mat_hold_26 (x1 : Int32) (x2 : Int32) (ms : Int32) (ml : Int32)  : Option (Int32 × Int32) :=
  (j_Mat_hold_31 x1 x2 (1 : Int32) ms ml )
set_option maxHeartbeats 4000000 in
set_option maxRecDepth 100000 in
theorem k_Mat_hold_26 {ms_z : Int32} {ml_z : Int32} (C : Fx p s m args meth c cd_Mat_hold 6 R_Mat lw_g none) (hK : va_K (dC, dI) vwCl [(cB, .byte), (cI, .int), (cJ, .long)] s) (hA : ∀ q, s.heap.size ≤ q → A q) (x1 : Int32) (x2 : Int32) (mc : Int32) (ms : Int32) (ml : Int32)  (hf : j_Mat_hold_26 x1 x2 ms ml  = some (ms_z, ml_z)) (hP : va_P (dC, dI) vwCl (wd_Mat_hold mt d la ea cB cI cJ mc ms ml) H) (hD : va_D A (wd_Mat_hold mt d la ea cB cI cJ mc ms ml)) (hS : va_S A s.heap H locs) (hl : lv_has ls 6 [(0, .ref mt), (1, .int x1), (2, .int x2)]) : W p l e rm_Mat_hold s m args below meth c H locs 0 0 (MQ below (sQv (dC, dI) vwCl [(cB, .byte), (cI, .int), (cJ, .long)] A (wd_Mat_hold mt d la ea cB cI cJ mc ms_z ml_z)) args s 0 0 A) (F0 m 26 ls []) := by
  obtain ⟨hx, hb, hml, hown, hts, hr, hlocks, hZ⟩ := id C
  unfold j_Mat_hold_26 at hf
  refine lv_iconst (v := 1) hx hb d_Mat_hold_26 (by decide) ?_
  refine lv_goto (tgt := 31) hx hb d_Mat_hold_27 (by decide) ?_
  exact k_Mat_hold_31 C hK hA x1 x2 (1 : Int32) mc ms ml  hf hP hD hS (lv_sub hl [0, 1, 2] rfl)
noncomputable def j_Mat_hold_30 (x1 : Int32) (x2 : Int32) (ms : Int32) (ml : Int32)  : Option (Int32 × Int32) :=
  (j_Mat_hold_31 x1 x2 (0 : Int32) ms ml )
set_option maxHeartbeats 4000000 in
set_option maxRecDepth 100000 in
theorem k_Mat_hold_30 {ms_z : Int32} {ml_z : Int32} (C : Fx p s m args meth c cd_Mat_hold 6 R_Mat lw_g none) (hK : va_K (dC, dI) vwCl [(cB, .byte), (cI, .int), (cJ, .long)] s) (hA : ∀ q, s.heap.size ≤ q → A q) (x1 : Int32) (x2 : Int32) (mc : Int32) (ms : Int32) (ml : Int32)  (hf : j_Mat_hold_30 x1 x2 ms ml  = some (ms_z, ml_z)) (hP : va_P (dC, dI) vwCl (wd_Mat_hold mt d la ea cB cI cJ mc ms ml) H) (hD : va_D A (wd_Mat_hold mt d la ea cB cI cJ mc ms ml)) (hS : va_S A s.heap H locs) (hl : lv_has ls 6 [(0, .ref mt), (1, .int x1), (2, .int x2)]) : W p l e rm_Mat_hold s m args below meth c H locs 0 0 (MQ below (sQv (dC, dI) vwCl [(cB, .byte), (cI, .int), (cJ, .long)] A (wd_Mat_hold mt d la ea cB cI cJ mc ms_z ml_z)) args s 0 0 A) (F0 m 30 ls []) := by
  obtain ⟨hx, hb, hml, hown, hts, hr, hlocks, hZ⟩ := id C
  unfold j_Mat_hold_30 at hf
  refine lv_iconst (v := 0) hx hb d_Mat_hold_30 (by decide) ?_
  exact k_Mat_hold_31 C hK hA x1 x2 (0 : Int32) mc ms ml  hf hP hD hS (lv_sub hl [0, 1, 2] rfl)
noncomputable def j_Mat_hold_0 (x1 : Int32) (x2 : Int32) (x3 : Int32) (x4 : Int32) (ms : Int32) (ml : Int32)  : Option (Int32 × Int32) :=
  (if ml = 0 then (j_Mat_hold_26 x1 x2 ms ml ) else (if x3 ≤ x2 then (j_Mat_hold_26 x1 x2 ms ml ) else (if x4 < (2 : Int32) then (j_Mat_hold_30 x1 x2 ms ml ) else (if x2 ≤ ml then (j_Mat_hold_30 x1 x2 ms ml ) else (j_Mat_hold_26 x1 x2 ms ml )))))
set_option maxHeartbeats 4000000 in
set_option maxRecDepth 100000 in
theorem k_Mat_hold_0 {ms_z : Int32} {ml_z : Int32} (C : Fx p s m args meth c cd_Mat_hold 6 R_Mat lw_g none) (hK : va_K (dC, dI) vwCl [(cB, .byte), (cI, .int), (cJ, .long)] s) (hA : ∀ q, s.heap.size ≤ q → A q) (x1 : Int32) (x2 : Int32) (x3 : Int32) (x4 : Int32) (mc : Int32) (ms : Int32) (ml : Int32)  (hf : j_Mat_hold_0 x1 x2 x3 x4 ms ml  = some (ms_z, ml_z)) (hP : va_P (dC, dI) vwCl (wd_Mat_hold mt d la ea cB cI cJ mc ms ml) H) (hD : va_D A (wd_Mat_hold mt d la ea cB cI cJ mc ms ml)) (hS : va_S A s.heap H locs) (hl : lv_has ls 6 [(0, .ref mt), (1, .int x1), (2, .int x2), (3, .int x3), (4, .int x4)]) : W p l e rm_Mat_hold s m args below meth c H locs 0 0 (MQ below (sQv (dC, dI) vwCl [(cB, .byte), (cI, .int), (cJ, .long)] A (wd_Mat_hold mt d la ea cB cI cJ mc ms_z ml_z)) args s 0 0 A) (F0 m 0 ls []) := by
  obtain ⟨hx, hb, hml, hown, hts, hr, hlocks, hZ⟩ := id C
  unfold j_Mat_hold_0 at hf
  refine lv_aload_n hx hb d_Mat_hold_0 rfl (lv_at hl 0 rfl) ?_
  refine va_get (D := (dC, dI)) (ci := 3) (v := .int ml) (C := R_Mat) (T := T_Mat) (N := 6) hx hb hts w_53 hown hK hP 0 rfl rfl 5 (by decide) (hts _ w_66) (fun _ h9 => h9) rfl d_Mat_hold_1 ?_
  refine lv_if_eq (tgt := 26) hx hb d_Mat_hold_4 (by decide) (fun c_4 => ?_) (fun c_4 => ?_)
  · have hf := br_pos c_4 hf
    exact k_Mat_hold_26 C hK hA x1 x2 mc ms ml  hf hP hD hS (lv_sub hl [0, 1, 2] rfl)
  · have hf := br_neg c_4 hf
    refine lv_iload_n hx hb d_Mat_hold_7 rfl (lv_at hl 2 rfl) ?_
    refine lv_iload_n hx hb d_Mat_hold_8 rfl (lv_at hl 3 rfl) ?_
    refine lv_icmp_ge (tgt := 26) hx hb d_Mat_hold_9 (by decide) (fun c_9 => ?_) (fun c_9 => ?_)
    · have hf := br_pos c_9 hf
      exact k_Mat_hold_26 C hK hA x1 x2 mc ms ml  hf hP hD hS (lv_sub hl [0, 1, 2] rfl)
    · have hf := br_neg c_9 hf
      refine lv_iload hx hb d_Mat_hold_12 (lv_at hl 4 rfl) ?_
      refine lv_iconst (v := 2) hx hb d_Mat_hold_14 (by decide) ?_
      refine lv_icmp_lt (tgt := 30) hx hb d_Mat_hold_15 (by decide) (fun c_15 => ?_) (fun c_15 => ?_)
      · have hf := br_pos c_15 hf
        exact k_Mat_hold_30 C hK hA x1 x2 mc ms ml  hf hP hD hS (lv_sub hl [0, 1, 2] rfl)
      · have hf := br_neg c_15 hf
        refine lv_iload_n hx hb d_Mat_hold_18 rfl (lv_at hl 2 rfl) ?_
        refine lv_aload_n hx hb d_Mat_hold_19 rfl (lv_at hl 0 rfl) ?_
        refine va_get (D := (dC, dI)) (ci := 3) (v := .int ml) (C := R_Mat) (T := T_Mat) (N := 6) hx hb hts w_53 hown hK hP 0 rfl rfl 5 (by decide) (hts _ w_66) (fun _ h9 => h9) rfl d_Mat_hold_20 ?_
        refine lv_icmp_le (tgt := 30) hx hb d_Mat_hold_23 (by decide) (fun c_23 => ?_) (fun c_23 => ?_)
        · have hf := br_pos c_23 hf
          exact k_Mat_hold_30 C hK hA x1 x2 mc ms ml  hf hP hD hS (lv_sub hl [0, 1, 2] rfl)
        · have hf := br_neg c_23 hf
          exact k_Mat_hold_26 C hK hA x1 x2 mc ms ml  hf hP hD hS (lv_sub hl [0, 1, 2] rfl)
end
noncomputable abbrev f_Mat_hold (x1 : Int32) (x2 : Int32) (x3 : Int32) (x4 : Int32) (ms : Int32) (ml : Int32) : Option (Int32 × Int32) := j_Mat_hold_0 x1 x2 x3 x4 ms ml
set_option maxRecDepth 100000 in
theorem c_Mat_hold (l : Launch) (dC : Nat → ClassId) (dI : Nat → Nat → Nat) (cB cI cJ : ClassId) (mt d la ea : Nat) (mc : Int32) (ms : Int32) (ml : Int32) (x1 : Int32) (x2 : Int32) (x3 : Int32) (x4 : Int32) {ms_z : Int32} {ml_z : Int32} (hf : f_Mat_hold x1 x2 x3 x4 ms ml = some (ms_z, ml_z)) : MetV l y_Mat_hold ws_Mat_hold rm_Mat_hold (dC, dI) vwCl [(cB, .byte), (cI, .int), (cJ, .long)] [.ref mt, .int x1, .int x2, .int x3, .int x4] (wd_Mat_hold mt d la ea cB cI cJ mc ms ml)  (wd_Mat_hold mt d la ea cB cI cJ mc ms_z ml_z) 0 0 :=
  s_ofv (bytes := cd_Mat_hold) (maxL := 6) (ret := none) (by decide) rfl (Nat.le_of_ble_eq_true rfl) (fun p e s m below meth c A ls C hK hA hP hD hS hl => k_Mat_hold_0 C hK hA x1 x2 x3 x4 mc ms ml hf hP hD hS (lv_sub hl [0, 1, 2, 3, 4] rfl))
end
section
abbrev wd_Mat_find (mt d da la ea : Nat) (cB cI cJ : ClassId) (mc : Int32) (ms : Int32) (ml : Int32) (dn : Int32) (df : Nat → Int32) (laf : Nat → Int32) (eaf : Nat → Int32) : va_W := [(mt, .inr (3, [.ref d, .ref la, .ref ea, .int mc, .int ms, .int ml])), (d, .inr (1, [.ref da, .int dn])), (da, .inl (cB, 16000, .inl df)), (la, .inl (cI, 4096, .inl laf)), (ea, .inl (cI, 16000, .inl eaf))]
abbrev rm_Mat_find : Room := { frames := 2, cells := 0, slots := 0, locals := 38 }
section
variable {p : Program} {l : Launch} {e : Env} {s : State} {m : MethodId} {args : Array Value} {below : List Frame} {meth : Method} {c : Code} {dC : Nat → ClassId} {dI : Nat → Nat → Nat} {A : Nat → Prop} {cB cI cJ : ClassId} {H : Heap} {locs : List Loc} {ls : Array Slot} {N : Nat} {mt d da la ea : Nat}
noncomputable def j_Mat_find_111 (x4 : Int32) (x5 : Int32) (x6 : Int32) (ms : Int32) (ml : Int32) (eaf : Nat → Int32) (kh40 : Int32 → Int32 → Int32 → Int32 → Option (Int32 × Int32)) : Option (Int32 × Int32) :=
  (if ml < x4 then as_ (vp_in x5 16000) ((kh40 (eaf x5.toNatClampNeg) (x6 + 1) ms ml)) else (some (ms, ml) : Option (Int32 × Int32)))
set_option maxHeartbeats 4000000 in
set_option maxRecDepth 100000 in
theorem k_Mat_find_111 {ms_z : Int32} {ml_z : Int32} (C : Fx p s m args meth c cd_Mat_find 7 R_Mat lw_g none) (hK : va_K (dC, dI) vwCl [(cB, .byte), (cI, .int), (cJ, .long)] s) (hA : ∀ q, s.heap.size ≤ q → A q) (x1 : Int32) (x2 : Int32) (x3 : Int32) (x4 : Int32) (x5 : Int32) (x6 : Int32) (mc : Int32) (ms : Int32) (ml : Int32) (dn : Int32) (df : Nat → Int32) (laf : Nat → Int32) (eaf : Nat → Int32) (kh40 : Int32 → Int32 → Int32 → Int32 → Option (Int32 × Int32)) (ih40 : ∀ (x5 : Int32) (x6 : Int32) (ms : Int32) (ml : Int32), kh40 x5 x6 ms ml = some (ms_z, ml_z) → ∀ (H : Heap) (locs : List Loc), va_P (dC, dI) vwCl (wd_Mat_find mt d da la ea cB cI cJ mc ms ml dn df laf eaf) H → va_D A (wd_Mat_find mt d da la ea cB cI cJ mc ms ml dn df laf eaf) → va_S A s.heap H locs → ∀ (ls : Array Slot), lv_has ls 7 [(0, .ref mt), (1, .int x1), (2, .int x2), (3, .int x3), (4, .int x4), (5, .int x5), (6, .int x6)] → W p l e rm_Mat_find s m args below meth c H locs 0 0 (MQ below (sQv (dC, dI) vwCl [(cB, .byte), (cI, .int), (cJ, .long)] A (wd_Mat_find mt d da la ea cB cI cJ mc ms_z ml_z dn df laf eaf)) args s 0 0 A) (F0 m 40 ls [])) (hf : j_Mat_find_111 x4 x5 x6 ms ml eaf kh40 = some (ms_z, ml_z)) (hP : va_P (dC, dI) vwCl (wd_Mat_find mt d da la ea cB cI cJ mc ms ml dn df laf eaf) H) (hD : va_D A (wd_Mat_find mt d da la ea cB cI cJ mc ms ml dn df laf eaf)) (hS : va_S A s.heap H locs) (hl : lv_has ls 7 [(0, .ref mt), (1, .int x1), (2, .int x2), (3, .int x3), (4, .int x4), (5, .int x5), (6, .int x6)]) : W p l e rm_Mat_find s m args below meth c H locs 0 0 (MQ below (sQv (dC, dI) vwCl [(cB, .byte), (cI, .int), (cJ, .long)] A (wd_Mat_find mt d da la ea cB cI cJ mc ms_z ml_z dn df laf eaf)) args s 0 0 A) (F0 m 111 ls []) := by
  obtain ⟨hx, hb, hml, hown, hts, hr, hlocks, hZ⟩ := id C
  unfold j_Mat_find_111 at hf
  refine lv_aload_n hx hb d_Mat_find_111 rfl (lv_at hl 0 rfl) ?_
  refine va_get (D := (dC, dI)) (ci := 3) (v := .int ml) (C := R_Mat) (T := T_Mat) (N := 6) hx hb hts w_53 hown hK hP 0 rfl rfl 5 (by decide) (hts _ w_66) (fun _ h9 => h9) rfl d_Mat_find_112 ?_
  refine lv_iload hx hb d_Mat_find_115 (lv_at hl 4 rfl) ?_
  refine lv_icmp_lt (tgt := 121) hx hb d_Mat_find_117 (by decide) (fun c_117 => ?_) (fun c_117 => ?_)
  · have hf := br_pos c_117 hf
    refine lv_aload_n hx hb d_Mat_find_121 rfl (lv_at hl 0 rfl) ?_
    refine va_get (D := (dC, dI)) (ci := 3) (v := .ref ea) (C := R_Mat) (T := T_Mat) (N := 6) hx hb hts w_53 hown hK hP 0 rfl rfl 2 (by decide) (hts _ w_55) (fun _ h9 => h9) rfl d_Mat_find_122 ?_
    refine lv_iload hx hb d_Mat_find_125 (lv_at hl 5 rfl) ?_
    obtain ⟨h_in, hf⟩ := as_some hf
    refine va_iald hx hb hK hP 4 1 rfl rfl h_in d_Mat_find_127 ?_
    refine lv_istore (lv' := [(5, .int (eaf x5.toNatClampNeg)), (0, .ref mt), (1, .int x1), (2, .int x2), (3, .int x3), (4, .int x4), (6, .int x6)]) hx hb d_Mat_find_128 hl (by decide) rfl (fun ls hl => ?_)
    refine lv_iinc (v := (x6 + 1)) (lv' := [(6, .int (x6 + 1)), (5, .int (eaf x5.toNatClampNeg)), (0, .ref mt), (1, .int x1), (2, .int x2), (3, .int x3), (4, .int x4)]) hx hb d_Mat_find_130 hl (k := 6) rfl (congrArg (fun z => x6 + z) (by decide)) (by decide) rfl (fun ls hl => ?_)
    refine lv_goto (tgt := 40) hx hb d_Mat_find_133 (by decide) ?_
    exact ih40 (eaf x5.toNatClampNeg) (x6 + 1) ms ml hf _ _ hP hD hS _ (lv_sub hl [2, 3, 4, 5, 6, 1, 0] rfl)
  · have hf := br_neg c_117 hf
    cases hf
    exact s_vret hx hb hr hlocks hP hK hD hS d_Mat_find_120
noncomputable def b_Mat_find_40 (N : Nat) (x1 : Int32) (x2 : Int32) (x3 : Int32) (x4 : Int32) (dn : Int32) (df : Nat → Int32) (eaf : Nat → Int32)  (kh40 : Int32 → Int32 → Int32 → Int32 → Option (Int32 × Int32)) (x5 : Int32) (x6 : Int32) (ms : Int32) (ml : Int32) : Option (Int32 × Int32) :=
  (if x1 ≤ x6 then (some (ms, ml) : Option (Int32 × Int32)) else (if x5 < 0 then (some (ms, ml) : Option (Int32 × Int32)) else (if (Int32.ofNat 16000) ≤ x5 then (some (ms, ml) : Option (Int32 × Int32)) else bd1 (f_Row_get 16000 (x5 + ml) dn df) (fun r72 => bd1 (f_Row_get 16000 (x1 + ml) dn df) (fun r85 => (if r72 = r85 then bd1 (f_Row_same N 16000 x5 x1 x2 dn df) (fun r102 => bd2 (f_Mat_hold x5 r102 x4 x3 ms ml) (fun ms_108 ml_108 => (j_Mat_find_111 x4 x5 x6 ms_108 ml_108 eaf kh40))) else (j_Mat_find_111 x4 x5 x6 ms ml eaf kh40)))))))
set_option maxHeartbeats 4000000 in
set_option maxRecDepth 100000 in
theorem k_Mat_find_40 {ms_z : Int32} {ml_z : Int32} (C : Fx p s m args meth c cd_Mat_find 7 R_Mat lw_g none) (hK : va_K (dC, dI) vwCl [(cB, .byte), (cI, .int), (cJ, .long)] s) (hA : ∀ q, s.heap.size ≤ q → A q) (x1 : Int32) (x2 : Int32) (x3 : Int32) (x4 : Int32) (mc : Int32) (dn : Int32) (df : Nat → Int32) (laf : Nat → Int32) (eaf : Nat → Int32)  : ∀ (n : Nat) (x5 : Int32) (x6 : Int32) (ms : Int32) (ml : Int32), loop4 (b_Mat_find_40 N x1 x2 x3 x4 dn df eaf ) n x5 x6 ms ml = some (ms_z, ml_z) → ∀ (H : Heap) (locs : List Loc), va_P (dC, dI) vwCl (wd_Mat_find mt d da la ea cB cI cJ mc ms ml dn df laf eaf) H → va_D A (wd_Mat_find mt d da la ea cB cI cJ mc ms ml dn df laf eaf) → va_S A s.heap H locs → ∀ (ls : Array Slot), lv_has ls 7 [(0, .ref mt), (1, .int x1), (2, .int x2), (3, .int x3), (4, .int x4), (5, .int x5), (6, .int x6)] → W p l e rm_Mat_find s m args below meth c H locs 0 0 (MQ below (sQv (dC, dI) vwCl [(cB, .byte), (cI, .int), (cJ, .long)] A (wd_Mat_find mt d da la ea cB cI cJ mc ms_z ml_z dn df laf eaf)) args s 0 0 A) (F0 m 40 ls []) := by
  obtain ⟨hx, hb, hml, hown, hts, hr, hlocks, hZ⟩ := id C
  intro n
  induction n with
  | zero => intro x5 x6 ms ml hf; cases hf
  | succ n ih40 =>
    intro x5 x6 ms ml hf H locs hP hD hS ls hl
    have hf : b_Mat_find_40 N x1 x2 x3 x4 dn df eaf  (loop4 (b_Mat_find_40 N x1 x2 x3 x4 dn df eaf ) n) x5 x6 ms ml = some (ms_z, ml_z) := hf
    generalize loop4 (b_Mat_find_40 N x1 x2 x3 x4 dn df eaf ) n = kh40 at hf ih40
    unfold b_Mat_find_40 at hf
    refine lv_iload hx hb d_Mat_find_40 (lv_at hl 6 rfl) ?_
    refine lv_iload_n hx hb d_Mat_find_42 rfl (lv_at hl 1 rfl) ?_
    refine lv_icmp_ge (tgt := 136) hx hb d_Mat_find_43 (by decide) (fun c_43 => ?_) (fun c_43 => ?_)
    · have hf := br_pos c_43 hf
      cases hf
      exact s_vret hx hb hr hlocks hP hK hD hS d_Mat_find_136
    · have hf := br_neg c_43 hf
      refine lv_iload hx hb d_Mat_find_46 (lv_at hl 5 rfl) ?_
      refine lv_if_lt (tgt := 136) hx hb d_Mat_find_48 (by decide) (fun c_48 => ?_) (fun c_48 => ?_)
      · have hf := br_pos c_48 hf
        cases hf
        exact s_vret hx hb hr hlocks hP hK hD hS d_Mat_find_136
      · have hf := br_neg c_48 hf
        refine lv_iload hx hb d_Mat_find_51 (lv_at hl 5 rfl) ?_
        refine lv_aload_n hx hb d_Mat_find_53 rfl (lv_at hl 0 rfl) ?_
        refine va_get (D := (dC, dI)) (ci := 3) (v := .ref ea) (C := R_Mat) (T := T_Mat) (N := 6) hx hb hts w_53 hown hK hP 0 rfl rfl 2 (by decide) (hts _ w_55) (fun _ h9 => h9) rfl d_Mat_find_54 ?_
        refine va_alen (v := (Int32.ofNat 16000)) hx hb hK hP 4 1 rfl rfl rfl d_Mat_find_57 ?_
        refine lv_icmp_ge (tgt := 136) hx hb d_Mat_find_58 (by decide) (fun c_58 => ?_) (fun c_58 => ?_)
        · have hf := br_pos c_58 hf
          cases hf
          exact s_vret hx hb hr hlocks hP hK hD hS d_Mat_find_136
        · have hf := br_neg c_58 hf
          refine lv_aload_n hx hb d_Mat_find_61 rfl (lv_at hl 0 rfl) ?_
          refine va_get (D := (dC, dI)) (ci := 3) (v := .ref d) (C := R_Mat) (T := T_Mat) (N := 6) hx hb hts w_53 hown hK hP 0 rfl rfl 0 (by decide) (hts _ w_56) (fun _ h9 => h9) rfl d_Mat_find_62 ?_
          refine lv_iload hx hb d_Mat_find_65 (lv_at hl 5 rfl) ?_
          refine lv_aload_n hx hb d_Mat_find_67 rfl (lv_at hl 0 rfl) ?_
          refine va_get (D := (dC, dI)) (ci := 3) (v := .int ml) (C := R_Mat) (T := T_Mat) (N := 6) hx hb hts w_53 hown hK hP 0 rfl rfl 5 (by decide) (hts _ w_66) (fun _ h9 => h9) rfl d_Mat_find_68 ?_
          refine lv_iadd hx hb d_Mat_find_71 ?_
          obtain ⟨r72, hc72, hf⟩ := bd1_some hf
          refine s_Vi (As := [.int (x5 + ml)]) (rest := []) (wr := [(mt, .inr (3, [.ref d, .ref la, .ref ea, .int mc, .int ms, .int ml])), (la, .inl (cI, 4096, .inl laf)), (ea, .inl (cI, 16000, .inl eaf))]) (ws' := wd_Mat_find mt d da la ea cB cI cJ mc ms ml dn df laf eaf) C.call (c_Row_get l dC dI cB cI cJ d da 16000 dn df (x5 + ml) hc72) (cwV 1 hts (gd_V w_71 w_72 w_73 w_12 w_74) rfl rfl rfl ⟨rfl, hd_Row_get⟩ ⟨Nat.le_of_ble_eq_true rfl, Nat.le_of_ble_eq_true rfl⟩) rfl hl.1 rfl (Nat.le_of_ble_eq_true rfl) d_Mat_find_72 ⟨Nat.le_of_ble_eq_true rfl, Nat.le_of_ble_eq_true rfl⟩ hZ hK hP hD hS hA 1 1 rfl rfl [1, 2] [0, 3, 4] [0, 3, 4, 1, 2] rfl rfl rfl rfl (by decide) rfl rfl (fun H locs hP hD hS => ?_)
          refine lv_aload_n hx hb d_Mat_find_75 rfl (lv_at hl 0 rfl) ?_
          refine va_get (D := (dC, dI)) (ci := 3) (v := .ref d) (C := R_Mat) (T := T_Mat) (N := 6) hx hb hts w_53 hown hK hP 0 rfl rfl 0 (by decide) (hts _ w_56) (fun _ h9 => h9) rfl d_Mat_find_76 ?_
          refine lv_iload_n hx hb d_Mat_find_79 rfl (lv_at hl 1 rfl) ?_
          refine lv_aload_n hx hb d_Mat_find_80 rfl (lv_at hl 0 rfl) ?_
          refine va_get (D := (dC, dI)) (ci := 3) (v := .int ml) (C := R_Mat) (T := T_Mat) (N := 6) hx hb hts w_53 hown hK hP 0 rfl rfl 5 (by decide) (hts _ w_66) (fun _ h9 => h9) rfl d_Mat_find_81 ?_
          refine lv_iadd hx hb d_Mat_find_84 ?_
          obtain ⟨r85, hc85, hf⟩ := bd1_some hf
          refine s_Vi (As := [.int (x1 + ml)]) (rest := [.int r72]) (wr := [(mt, .inr (3, [.ref d, .ref la, .ref ea, .int mc, .int ms, .int ml])), (la, .inl (cI, 4096, .inl laf)), (ea, .inl (cI, 16000, .inl eaf))]) (ws' := wd_Mat_find mt d da la ea cB cI cJ mc ms ml dn df laf eaf) C.call (c_Row_get l dC dI cB cI cJ d da 16000 dn df (x1 + ml) hc85) (cwV 1 hts (gd_V w_71 w_72 w_73 w_12 w_74) rfl rfl rfl ⟨rfl, hd_Row_get⟩ ⟨Nat.le_of_ble_eq_true rfl, Nat.le_of_ble_eq_true rfl⟩) rfl hl.1 rfl (Nat.le_of_ble_eq_true rfl) d_Mat_find_85 ⟨Nat.le_of_ble_eq_true rfl, Nat.le_of_ble_eq_true rfl⟩ hZ hK hP hD hS hA 1 1 rfl rfl [1, 2] [0, 3, 4] [0, 3, 4, 1, 2] rfl rfl rfl rfl (by decide) rfl rfl (fun H locs hP hD hS => ?_)
          refine lv_icmp_ne (tgt := 111) hx hb d_Mat_find_88 (by decide) (fun c_88 => ?_) (fun c_88 => ?_)
          · have hf := br_neg c_88 hf
            exact k_Mat_find_111 C hK hA x1 x2 x3 x4 x5 x6 mc ms ml dn df laf eaf kh40 ih40 hf hP hD hS (lv_sub hl [0, 1, 2, 3, 4, 5, 6] rfl)
          · have hf := br_pos c_88 hf
            refine lv_aload_n hx hb d_Mat_find_91 rfl (lv_at hl 0 rfl) ?_
            refine lv_iload hx hb d_Mat_find_92 (lv_at hl 5 rfl) ?_
            refine lv_aload_n hx hb d_Mat_find_94 rfl (lv_at hl 0 rfl) ?_
            refine va_get (D := (dC, dI)) (ci := 3) (v := .ref d) (C := R_Mat) (T := T_Mat) (N := 6) hx hb hts w_53 hown hK hP 0 rfl rfl 0 (by decide) (hts _ w_56) (fun _ h9 => h9) rfl d_Mat_find_95 ?_
            refine lv_iload hx hb d_Mat_find_98 (lv_at hl 5 rfl) ?_
            refine lv_iload_n hx hb d_Mat_find_100 rfl (lv_at hl 1 rfl) ?_
            refine lv_iload_n hx hb d_Mat_find_101 rfl (lv_at hl 2 rfl) ?_
            obtain ⟨r102, hc102, hf⟩ := bd1_some hf
            refine s_Vi (As := [.int x5, .int x1, .int x2]) (rest := [.int x5, .ref mt]) (wr := [(mt, .inr (3, [.ref d, .ref la, .ref ea, .int mc, .int ms, .int ml])), (la, .inl (cI, 4096, .inl laf)), (ea, .inl (cI, 16000, .inl eaf))]) (ws' := wd_Mat_find mt d da la ea cB cI cJ mc ms ml dn df laf eaf) C.call (c_Row_same l dC dI cB cI cJ d da 16000 dn df x5 x1 x2 hc102) (cwV 3 hts (gd_V w_75 w_76 w_77 w_12 w_78) rfl rfl rfl ⟨rfl, hd_Row_same⟩ ⟨Nat.le_of_ble_eq_true rfl, Nat.le_of_ble_eq_true rfl⟩) rfl hl.1 rfl (Nat.le_of_ble_eq_true rfl) d_Mat_find_102 ⟨Nat.le_of_ble_eq_true rfl, Nat.le_of_ble_eq_true rfl⟩ hZ hK hP hD hS hA 1 1 rfl rfl [1, 2] [0, 3, 4] [0, 3, 4, 1, 2] rfl rfl rfl rfl (by decide) rfl rfl (fun H locs hP hD hS => ?_)
            refine lv_iload hx hb d_Mat_find_105 (lv_at hl 4 rfl) ?_
            refine lv_iload_n hx hb d_Mat_find_107 rfl (lv_at hl 3 rfl) ?_
            obtain ⟨ms_108, ml_108, hc108, hf⟩ := bd2_some hf
            refine s_Vv (As := [.int x5, .int r102, .int x4, .int x3]) (rest := []) (wr := [(d, .inr (1, [.ref da, .int dn])), (da, .inl (cB, 16000, .inl df)), (la, .inl (cI, 4096, .inl laf)), (ea, .inl (cI, 16000, .inl eaf))]) (ws' := wd_Mat_find mt d da la ea cB cI cJ mc ms_108 ml_108 dn df laf eaf) C.call (c_Mat_hold l dC dI cB cI cJ mt d la ea  mc ms ml x5 r102 x4 x3 hc108) (cwV 4 hts (gd_V w_79 w_80 w_81 w_63 w_82) rfl rfl rfl ⟨rfl, hd_Mat_hold⟩ ⟨Nat.le_of_ble_eq_true rfl, Nat.le_of_ble_eq_true rfl⟩) rfl hl.1 rfl (Nat.le_of_ble_eq_true rfl) d_Mat_find_108 ⟨Nat.le_of_ble_eq_true rfl, Nat.le_of_ble_eq_true rfl⟩ hZ hK hP hD hS hA 3 0 rfl rfl [0] [1, 2, 3, 4] [4, 0, 1, 2, 3] rfl rfl rfl rfl (by decide) rfl rfl (fun H locs hP hD hS => ?_)
            exact k_Mat_find_111 C hK hA x1 x2 x3 x4 x5 x6 mc ms_108 ml_108 dn df laf eaf kh40 ih40 hf hP hD hS (lv_sub hl [0, 1, 2, 3, 4, 5, 6] rfl)
noncomputable def j_Mat_find_0 (N : Nat) (x1 : Int32) (x2 : Int32) (x3 : Int32) (dn : Int32) (df : Nat → Int32) (laf : Nat → Int32) (eaf : Nat → Int32)  : Option (Int32 × Int32) :=
  bd1 (f_Mat_enough (x2 - x1) x3) (fun r14 => bd1 (f_Row_word 16000 x1 dn df) (fun r28 => bd1 (f_Mat_slot r28) (fun r31 => as_ (vp_in r31 4096) ((loop4 (b_Mat_find_40 N x1 x2 x3 r14 dn df eaf ) N (laf r31.toNatClampNeg) (0 : Int32) (-1 : Int32) (0 : Int32))))))
set_option maxHeartbeats 4000000 in
set_option maxRecDepth 100000 in
theorem k_Mat_find_0 {ms_z : Int32} {ml_z : Int32} (C : Fx p s m args meth c cd_Mat_find 7 R_Mat lw_g none) (hK : va_K (dC, dI) vwCl [(cB, .byte), (cI, .int), (cJ, .long)] s) (hA : ∀ q, s.heap.size ≤ q → A q) (x1 : Int32) (x2 : Int32) (x3 : Int32) (mc : Int32) (ms : Int32) (ml : Int32) (dn : Int32) (df : Nat → Int32) (laf : Nat → Int32) (eaf : Nat → Int32)  (hf : j_Mat_find_0 N x1 x2 x3 dn df laf eaf  = some (ms_z, ml_z)) (hP : va_P (dC, dI) vwCl (wd_Mat_find mt d da la ea cB cI cJ mc ms ml dn df laf eaf) H) (hD : va_D A (wd_Mat_find mt d da la ea cB cI cJ mc ms ml dn df laf eaf)) (hS : va_S A s.heap H locs) (hl : lv_has ls 7 [(0, .ref mt), (1, .int x1), (2, .int x2), (3, .int x3)]) : W p l e rm_Mat_find s m args below meth c H locs 0 0 (MQ below (sQv (dC, dI) vwCl [(cB, .byte), (cI, .int), (cJ, .long)] A (wd_Mat_find mt d da la ea cB cI cJ mc ms_z ml_z dn df laf eaf)) args s 0 0 A) (F0 m 0 ls []) := by
  obtain ⟨hx, hb, hml, hown, hts, hr, hlocks, hZ⟩ := id C
  unfold j_Mat_find_0 at hf
  refine lv_aload_n hx hb d_Mat_find_0 rfl (lv_at hl 0 rfl) ?_
  refine lv_iconst (v := -1) hx hb d_Mat_find_1 (by decide) ?_
  refine va_put (D := (dC, dI)) (ci := 3) (v := .int (-1 : Int32)) (ty := .int) (C := R_Mat) (T := T_Mat) (N := 6) hx hb hts w_53 ty_Mat ty_Mat_ok nm_Mat hown hK hP hD hS 0 rfl rfl 4 (by decide) (hts _ w_67) (fun _ h9 => h9) rfl (by decide +kernel) rfl rfl (Nat.le_of_ble_eq_true rfl) d_Mat_find_2 (fun H locs hP hD hS => ?_)
  have hP : va_P (dC, dI) vwCl (wd_Mat_find mt d da la ea cB cI cJ mc (-1 : Int32) ml dn df laf eaf) H := hP
  have hD : va_D A (wd_Mat_find mt d da la ea cB cI cJ mc (-1 : Int32) ml dn df laf eaf) := hD
  refine lv_aload_n hx hb d_Mat_find_5 rfl (lv_at hl 0 rfl) ?_
  refine lv_iconst (v := 0) hx hb d_Mat_find_6 (by decide) ?_
  refine va_put (D := (dC, dI)) (ci := 3) (v := .int (0 : Int32)) (ty := .int) (C := R_Mat) (T := T_Mat) (N := 6) hx hb hts w_53 ty_Mat ty_Mat_ok nm_Mat hown hK hP hD hS 0 rfl rfl 5 (by decide) (hts _ w_66) (fun _ h9 => h9) rfl (by decide +kernel) rfl rfl (Nat.le_of_ble_eq_true rfl) d_Mat_find_7 (fun H locs hP hD hS => ?_)
  have hP : va_P (dC, dI) vwCl (wd_Mat_find mt d da la ea cB cI cJ mc (-1 : Int32) (0 : Int32) dn df laf eaf) H := hP
  have hD : va_D A (wd_Mat_find mt d da la ea cB cI cJ mc (-1 : Int32) (0 : Int32) dn df laf eaf) := hD
  refine lv_iload_n hx hb d_Mat_find_10 rfl (lv_at hl 2 rfl) ?_
  refine lv_iload_n hx hb d_Mat_find_11 rfl (lv_at hl 1 rfl) ?_
  refine lv_isub hx hb d_Mat_find_12 ?_
  refine lv_iload_n hx hb d_Mat_find_13 rfl (lv_at hl 3 rfl) ?_
  obtain ⟨r14, hc14, hf⟩ := bd1_some hf
  refine s_Si (As := [.int (x2 - x1), .int x3]) (rest := []) (wr := [(mt, .inr (3, [.ref d, .ref la, .ref ea, .int mc, .int (-1 : Int32), .int (0 : Int32)])), (d, .inr (1, [.ref da, .int dn])), (da, .inl (cB, 16000, .inl df)), (la, .inl (cI, 4096, .inl laf)), (ea, .inl (cI, 16000, .inl eaf))]) (ws' := wd_Mat_find mt d da la ea cB cI cJ mc (-1 : Int32) (0 : Int32) dn df laf eaf) C.call (c_Mat_enough l dC dI cB cI cJ    (x2 - x1) x3 hc14) (va_cwS 2 hts (gd_S w_68 w_69 w_63 w_70) rfl rfl rfl hd_Mat_enough ⟨Nat.le_of_ble_eq_true rfl, Nat.le_of_ble_eq_true rfl⟩) rfl hl.1 rfl (Nat.le_of_ble_eq_true rfl) d_Mat_find_14 ⟨Nat.le_of_ble_eq_true rfl, Nat.le_of_ble_eq_true rfl⟩ hZ hK hP hD hS hA [] [0, 1, 2, 3, 4] [0, 1, 2, 3, 4] rfl rfl rfl rfl (by decide) rfl rfl (fun H locs hP hD hS => ?_)
  refine lv_istore (lv' := [(4, .int r14), (0, .ref mt), (1, .int x1), (2, .int x2), (3, .int x3)]) hx hb d_Mat_find_17 hl (by decide) rfl (fun ls hl => ?_)
  refine lv_aload_n hx hb d_Mat_find_19 rfl (lv_at hl 1 rfl) ?_
  refine va_get (D := (dC, dI)) (ci := 3) (v := .ref la) (C := R_Mat) (T := T_Mat) (N := 6) hx hb hts w_53 hown hK hP 0 rfl rfl 1 (by decide) (hts _ w_65) (fun _ h9 => h9) rfl d_Mat_find_20 ?_
  refine lv_aload_n hx hb d_Mat_find_23 rfl (lv_at hl 1 rfl) ?_
  refine va_get (D := (dC, dI)) (ci := 3) (v := .ref d) (C := R_Mat) (T := T_Mat) (N := 6) hx hb hts w_53 hown hK hP 0 rfl rfl 0 (by decide) (hts _ w_56) (fun _ h9 => h9) rfl d_Mat_find_24 ?_
  refine lv_iload_n hx hb d_Mat_find_27 rfl (lv_at hl 2 rfl) ?_
  obtain ⟨r28, hc28, hf⟩ := bd1_some hf
  refine s_Vi (As := [.int x1]) (rest := [.ref la]) (wr := [(mt, .inr (3, [.ref d, .ref la, .ref ea, .int mc, .int (-1 : Int32), .int (0 : Int32)])), (la, .inl (cI, 4096, .inl laf)), (ea, .inl (cI, 16000, .inl eaf))]) (ws' := wd_Mat_find mt d da la ea cB cI cJ mc (-1 : Int32) (0 : Int32) dn df laf eaf) C.call (c_Row_word l dC dI cB cI cJ d da 16000 dn df x1 hc28) (cwV 1 hts (gd_V w_57 w_58 w_59 w_12 w_60) rfl rfl rfl ⟨rfl, hd_Row_word⟩ ⟨Nat.le_of_ble_eq_true rfl, Nat.le_of_ble_eq_true rfl⟩) rfl hl.1 rfl (Nat.le_of_ble_eq_true rfl) d_Mat_find_28 ⟨Nat.le_of_ble_eq_true rfl, Nat.le_of_ble_eq_true rfl⟩ hZ hK hP hD hS hA 1 1 rfl rfl [1, 2] [0, 3, 4] [0, 3, 4, 1, 2] rfl rfl rfl rfl (by decide) rfl rfl (fun H locs hP hD hS => ?_)
  obtain ⟨r31, hc31, hf⟩ := bd1_some hf
  refine s_Si (As := [.int r28]) (rest := [.ref la]) (wr := [(mt, .inr (3, [.ref d, .ref la, .ref ea, .int mc, .int (-1 : Int32), .int (0 : Int32)])), (d, .inr (1, [.ref da, .int dn])), (da, .inl (cB, 16000, .inl df)), (la, .inl (cI, 4096, .inl laf)), (ea, .inl (cI, 16000, .inl eaf))]) (ws' := wd_Mat_find mt d da la ea cB cI cJ mc (-1 : Int32) (0 : Int32) dn df laf eaf) C.call (c_Mat_slot l dC dI cB cI cJ    r28 hc31) (va_cwS 1 hts (gd_S w_61 w_62 w_63 w_64) rfl rfl rfl hd_Mat_slot ⟨Nat.le_of_ble_eq_true rfl, Nat.le_of_ble_eq_true rfl⟩) rfl hl.1 rfl (Nat.le_of_ble_eq_true rfl) d_Mat_find_31 ⟨Nat.le_of_ble_eq_true rfl, Nat.le_of_ble_eq_true rfl⟩ hZ hK hP hD hS hA [] [0, 1, 2, 3, 4] [0, 1, 2, 3, 4] rfl rfl rfl rfl (by decide) rfl rfl (fun H locs hP hD hS => ?_)
  obtain ⟨h_in, hf⟩ := as_some hf
  refine va_iald hx hb hK hP 3 1 rfl rfl h_in d_Mat_find_34 ?_
  refine lv_istore (lv' := [(5, .int (laf r31.toNatClampNeg)), (4, .int r14), (0, .ref mt), (1, .int x1), (2, .int x2), (3, .int x3)]) hx hb d_Mat_find_35 hl (by decide) rfl (fun ls hl => ?_)
  refine lv_iconst (v := 0) hx hb d_Mat_find_37 (by decide) ?_
  refine lv_istore (lv' := [(6, .int (0 : Int32)), (5, .int (laf r31.toNatClampNeg)), (4, .int r14), (0, .ref mt), (1, .int x1), (2, .int x2), (3, .int x3)]) hx hb d_Mat_find_38 hl (by decide) rfl (fun ls hl => ?_)
  exact k_Mat_find_40 C hK hA x1 x2 x3 r14 mc dn df laf eaf  N (laf r31.toNatClampNeg) (0 : Int32) (-1 : Int32) (0 : Int32) hf _ _ hP hD hS _ (lv_sub hl [3, 4, 5, 6, 2, 1, 0] rfl)
end
noncomputable abbrev f_Mat_find (N : Nat) (x1 : Int32) (x2 : Int32) (x3 : Int32) (dn : Int32) (df : Nat → Int32) (laf : Nat → Int32) (eaf : Nat → Int32) : Option (Int32 × Int32) := j_Mat_find_0 N x1 x2 x3 dn df laf eaf
set_option maxRecDepth 100000 in
theorem c_Mat_find {N : Nat} (l : Launch) (dC : Nat → ClassId) (dI : Nat → Nat → Nat) (cB cI cJ : ClassId) (mt d da la ea : Nat) (mc : Int32) (ms : Int32) (ml : Int32) (dn : Int32) (df : Nat → Int32) (laf : Nat → Int32) (eaf : Nat → Int32) (x1 : Int32) (x2 : Int32) (x3 : Int32) {ms_z : Int32} {ml_z : Int32} (hf : f_Mat_find N x1 x2 x3 dn df laf eaf = some (ms_z, ml_z)) : MetV l y_Mat_find ws_Mat_find rm_Mat_find (dC, dI) vwCl [(cB, .byte), (cI, .int), (cJ, .long)] [.ref mt, .int x1, .int x2, .int x3] (wd_Mat_find mt d da la ea cB cI cJ mc ms ml dn df laf eaf)  (wd_Mat_find mt d da la ea cB cI cJ mc ms_z ml_z dn df laf eaf) 0 0 :=
  s_ofv (bytes := cd_Mat_find) (maxL := 7) (ret := none) (by decide) rfl (Nat.le_of_ble_eq_true rfl) (fun p e s m below meth c A ls C hK hA hP hD hS hl => k_Mat_find_0 C hK hA x1 x2 x3 mc ms ml dn df laf eaf hf hP hD hS (lv_sub hl [0, 1, 2, 3] rfl))
end
section
abbrev wd_Mat_look (mt d da la ea : Nat) (cB cI cJ : ClassId) (mc : Int32) (ms : Int32) (ml : Int32) (dn : Int32) (df : Nat → Int32) (laf : Nat → Int32) (eaf : Nat → Int32) : va_W := [(mt, .inr (3, [.ref d, .ref la, .ref ea, .int mc, .int ms, .int ml])), (d, .inr (1, [.ref da, .int dn])), (da, .inl (cB, 16000, .inl df)), (la, .inl (cI, 4096, .inl laf)), (ea, .inl (cI, 16000, .inl eaf))]
abbrev rm_Mat_look : Room := { frames := 3, cells := 0, slots := 0, locals := 64 }
section
variable {p : Program} {l : Launch} {e : Env} {s : State} {m : MethodId} {args : Array Value} {below : List Frame} {meth : Method} {c : Code} {dC : Nat → ClassId} {dI : Nat → Nat → Nat} {A : Nat → Prop} {cB cI cJ : ClassId} {H : Heap} {locs : List Loc} {ls : Array Slot} {N : Nat} {mt d da la ea : Nat}
noncomputable def j_Mat_look_81 (x6 : Int32) (t0 : Int32) (mc : Int32) (laf : Nat → Int32) (eaf : Nat → Int32)  : Option (Int32 × Int32 × Int32 × Int32 × (Nat → Int32) × (Nat → Int32)) :=
  (some (t0, mc, x6, t0, laf, eaf) : Option (Int32 × Int32 × Int32 × Int32 × (Nat → Int32) × (Nat → Int32)))
set_option maxHeartbeats 4000000 in
set_option maxRecDepth 100000 in
theorem k_Mat_look_81 {r_z : Int32} {mc_z : Int32} {ms_z : Int32} {ml_z : Int32} {laf_z : Nat → Int32} {eaf_z : Nat → Int32} (C : Fx p s m args meth c cd_Mat_look 7 R_Mat lw_g (some .int)) (hK : va_K (dC, dI) vwCl [(cB, .byte), (cI, .int), (cJ, .long)] s) (hA : ∀ q, s.heap.size ≤ q → A q) (x6 : Int32) (t0 : Int32) (mc : Int32) (ms : Int32) (ml : Int32) (dn : Int32) (df : Nat → Int32) (laf : Nat → Int32) (eaf : Nat → Int32)  (hf : j_Mat_look_81 x6 t0 mc laf eaf  = some (r_z, mc_z, ms_z, ml_z, laf_z, eaf_z)) (hP : va_P (dC, dI) vwCl (wd_Mat_look mt d da la ea cB cI cJ mc ms ml dn df laf eaf) H) (hD : va_D A (wd_Mat_look mt d da la ea cB cI cJ mc ms ml dn df laf eaf)) (hS : va_S A s.heap H locs) (hl : lv_has ls 7 [(0, .ref mt), (6, .int x6)]) : W p l e rm_Mat_look s m args below meth c H locs 0 0 (MQ below (sQi (dC, dI) vwCl [(cB, .byte), (cI, .int), (cJ, .long)] A r_z (wd_Mat_look mt d da la ea cB cI cJ mc_z ms_z ml_z dn df laf_z eaf_z)) args s 0 0 A) (F0 m 81 ls [.int t0, .ref mt]) := by
  obtain ⟨hx, hb, hml, hown, hts, hr, hlocks, hZ⟩ := id C
  unfold j_Mat_look_81 at hf
  refine va_put (D := (dC, dI)) (ci := 3) (v := .int t0) (ty := .int) (C := R_Mat) (T := T_Mat) (N := 6) hx hb hts w_53 ty_Mat ty_Mat_ok nm_Mat hown hK hP hD hS 0 rfl rfl 5 (by decide) (hts _ w_66) (fun _ h9 => h9) rfl (by decide +kernel) rfl rfl (Nat.le_of_ble_eq_true rfl) d_Mat_look_81 (fun H locs hP hD hS => ?_)
  have hP : va_P (dC, dI) vwCl (wd_Mat_look mt d da la ea cB cI cJ mc ms t0 dn df laf eaf) H := hP
  have hD : va_D A (wd_Mat_look mt d da la ea cB cI cJ mc ms t0 dn df laf eaf) := hD
  refine lv_aload_n hx hb d_Mat_look_84 rfl (lv_at hl 0 rfl) ?_
  refine lv_iload hx hb d_Mat_look_85 (lv_at hl 1 rfl) ?_
  refine va_put (D := (dC, dI)) (ci := 3) (v := .int x6) (ty := .int) (C := R_Mat) (T := T_Mat) (N := 6) hx hb hts w_53 ty_Mat ty_Mat_ok nm_Mat hown hK hP hD hS 0 rfl rfl 4 (by decide) (hts _ w_67) (fun _ h9 => h9) rfl (by decide +kernel) rfl rfl (Nat.le_of_ble_eq_true rfl) d_Mat_look_87 (fun H locs hP hD hS => ?_)
  have hP : va_P (dC, dI) vwCl (wd_Mat_look mt d da la ea cB cI cJ mc x6 t0 dn df laf eaf) H := hP
  have hD : va_D A (wd_Mat_look mt d da la ea cB cI cJ mc x6 t0 dn df laf eaf) := hD
  refine lv_aload_n hx hb d_Mat_look_90 rfl (lv_at hl 0 rfl) ?_
  refine va_get (D := (dC, dI)) (ci := 3) (v := .int t0) (C := R_Mat) (T := T_Mat) (N := 6) hx hb hts w_53 hown hK hP 0 rfl rfl 5 (by decide) (hts _ w_66) (fun _ h9 => h9) rfl d_Mat_look_91 ?_
  cases hf
  exact s_iret hx hb hr hlocks hP hK hD hS d_Mat_look_94
noncomputable def j_Mat_look_0 (N : Nat) (x1 : Int32) (x2 : Int32) (x3 : Int32) (x4 : Int32) (mc : Int32) (dn : Int32) (df : Nat → Int32) (laf : Nat → Int32) (eaf : Nat → Int32)  : Option (Int32 × Int32 × Int32 × Int32 × (Nat → Int32) × (Nat → Int32)) :=
  bd3 (f_Mat_chainBelow N x1 dn df mc laf eaf) (fun mc_2 laf_2 eaf_2 => bd2 (f_Mat_find N x1 x2 x4 dn df laf_2 eaf_2) (fun ms_10 ml_10 => (if x4 = (3 : Int32) then (if ml_10 = 0 then (some (ml_10, mc_2, ms_10, ml_10, laf_2, eaf_2) : Option (Int32 × Int32 × Int32 × Int32 × (Nat → Int32) × (Nat → Int32))) else (if x1 < x3 then bd3 (f_Mat_chainBelow N (x1 + (1 : Int32)) dn df mc_2 laf_2 eaf_2) (fun mc_52 laf_52 eaf_52 => bd2 (f_Mat_find N (x1 + (1 : Int32)) x2 x4 dn df laf_52 eaf_52) (fun ms_62 ml_62 => (if ml_62 ≤ ml_10 then (j_Mat_look_81 ms_10 ml_10 mc_52 laf_52 eaf_52 ) else (j_Mat_look_81 ms_10 (0 : Int32) mc_52 laf_52 eaf_52 )))) else (some (ml_10, mc_2, ms_10, ml_10, laf_2, eaf_2) : Option (Int32 × Int32 × Int32 × Int32 × (Nat → Int32) × (Nat → Int32))))) else (some (ml_10, mc_2, ms_10, ml_10, laf_2, eaf_2) : Option (Int32 × Int32 × Int32 × Int32 × (Nat → Int32) × (Nat → Int32))))))
set_option maxHeartbeats 4000000 in
set_option maxRecDepth 100000 in
theorem k_Mat_look_0 {r_z : Int32} {mc_z : Int32} {ms_z : Int32} {ml_z : Int32} {laf_z : Nat → Int32} {eaf_z : Nat → Int32} (C : Fx p s m args meth c cd_Mat_look 7 R_Mat lw_g (some .int)) (hK : va_K (dC, dI) vwCl [(cB, .byte), (cI, .int), (cJ, .long)] s) (hA : ∀ q, s.heap.size ≤ q → A q) (x1 : Int32) (x2 : Int32) (x3 : Int32) (x4 : Int32) (mc : Int32) (ms : Int32) (ml : Int32) (dn : Int32) (df : Nat → Int32) (laf : Nat → Int32) (eaf : Nat → Int32)  (hf : j_Mat_look_0 N x1 x2 x3 x4 mc dn df laf eaf  = some (r_z, mc_z, ms_z, ml_z, laf_z, eaf_z)) (hP : va_P (dC, dI) vwCl (wd_Mat_look mt d da la ea cB cI cJ mc ms ml dn df laf eaf) H) (hD : va_D A (wd_Mat_look mt d da la ea cB cI cJ mc ms ml dn df laf eaf)) (hS : va_S A s.heap H locs) (hl : lv_has ls 7 [(0, .ref mt), (1, .int x1), (2, .int x2), (3, .int x3), (4, .int x4)]) : W p l e rm_Mat_look s m args below meth c H locs 0 0 (MQ below (sQi (dC, dI) vwCl [(cB, .byte), (cI, .int), (cJ, .long)] A r_z (wd_Mat_look mt d da la ea cB cI cJ mc_z ms_z ml_z dn df laf_z eaf_z)) args s 0 0 A) (F0 m 0 ls []) := by
  obtain ⟨hx, hb, hml, hown, hts, hr, hlocks, hZ⟩ := id C
  unfold j_Mat_look_0 at hf
  refine lv_aload_n hx hb d_Mat_look_0 rfl (lv_at hl 0 rfl) ?_
  refine lv_iload_n hx hb d_Mat_look_1 rfl (lv_at hl 1 rfl) ?_
  obtain ⟨mc_2, laf_2, eaf_2, hc2, hf⟩ := bd3_some hf
  refine s_Vv (As := [.int x1]) (rest := []) (wr := []) (ws' := wd_Mat_look mt d da la ea cB cI cJ mc_2 ms ml dn df laf_2 eaf_2) C.call (c_Mat_chainBelow l dC dI cB cI cJ mt d da la ea  mc ms ml dn df laf eaf x1 hc2) (cwV 1 hts (gd_V w_83 w_84 w_85 w_63 w_86) rfl rfl rfl ⟨rfl, hd_Mat_chainBelow⟩ ⟨Nat.le_of_ble_eq_true rfl, Nat.le_of_ble_eq_true rfl⟩) rfl hl.1 rfl (Nat.le_of_ble_eq_true rfl) d_Mat_look_2 ⟨Nat.le_of_ble_eq_true rfl, Nat.le_of_ble_eq_true rfl⟩ hZ hK hP hD hS hA 3 0 rfl rfl [0, 1, 2, 3, 4] [] [0, 1, 2, 3, 4] rfl rfl rfl rfl (by decide) rfl rfl (fun H locs hP hD hS => ?_)
  refine lv_aload_n hx hb d_Mat_look_5 rfl (lv_at hl 0 rfl) ?_
  refine lv_iload_n hx hb d_Mat_look_6 rfl (lv_at hl 1 rfl) ?_
  refine lv_iload_n hx hb d_Mat_look_7 rfl (lv_at hl 2 rfl) ?_
  refine lv_iload hx hb d_Mat_look_8 (lv_at hl 4 rfl) ?_
  obtain ⟨ms_10, ml_10, hc10, hf⟩ := bd2_some hf
  refine s_Vv (As := [.int x1, .int x2, .int x4]) (rest := []) (wr := []) (ws' := wd_Mat_look mt d da la ea cB cI cJ mc_2 ms_10 ml_10 dn df laf_2 eaf_2) C.call (c_Mat_find l dC dI cB cI cJ mt d da la ea  mc_2 ms ml dn df laf_2 eaf_2 x1 x2 x4 hc10) (cwV 3 hts (gd_V w_87 w_88 w_89 w_63 w_90) rfl rfl rfl ⟨rfl, hd_Mat_find⟩ ⟨Nat.le_of_ble_eq_true rfl, Nat.le_of_ble_eq_true rfl⟩) rfl hl.1 rfl (Nat.le_of_ble_eq_true rfl) d_Mat_look_10 ⟨Nat.le_of_ble_eq_true rfl, Nat.le_of_ble_eq_true rfl⟩ hZ hK hP hD hS hA 3 0 rfl rfl [0, 1, 2, 3, 4] [] [0, 1, 2, 3, 4] rfl rfl rfl rfl (by decide) rfl rfl (fun H locs hP hD hS => ?_)
  refine lv_iload hx hb d_Mat_look_13 (lv_at hl 4 rfl) ?_
  refine lv_iconst (v := 3) hx hb d_Mat_look_15 (by decide) ?_
  refine lv_icmp_ne (tgt := 31) hx hb d_Mat_look_16 (by decide) (fun c_16 => ?_) (fun c_16 => ?_)
  · have hf := br_neg c_16 hf
    refine lv_aload_n hx hb d_Mat_look_31 rfl (lv_at hl 0 rfl) ?_
    refine va_get (D := (dC, dI)) (ci := 3) (v := .int ml_10) (C := R_Mat) (T := T_Mat) (N := 6) hx hb hts w_53 hown hK hP 0 rfl rfl 5 (by decide) (hts _ w_66) (fun _ h9 => h9) rfl d_Mat_look_32 ?_
    cases hf
    exact s_iret hx hb hr hlocks hP hK hD hS d_Mat_look_35
  · have hf := br_pos c_16 hf
    refine lv_aload_n hx hb d_Mat_look_19 rfl (lv_at hl 0 rfl) ?_
    refine va_get (D := (dC, dI)) (ci := 3) (v := .int ml_10) (C := R_Mat) (T := T_Mat) (N := 6) hx hb hts w_53 hown hK hP 0 rfl rfl 5 (by decide) (hts _ w_66) (fun _ h9 => h9) rfl d_Mat_look_20 ?_
    refine lv_if_eq (tgt := 31) hx hb d_Mat_look_23 (by decide) (fun c_23 => ?_) (fun c_23 => ?_)
    · have hf := br_pos c_23 hf
      refine lv_aload_n hx hb d_Mat_look_31 rfl (lv_at hl 0 rfl) ?_
      refine va_get (D := (dC, dI)) (ci := 3) (v := .int ml_10) (C := R_Mat) (T := T_Mat) (N := 6) hx hb hts w_53 hown hK hP 0 rfl rfl 5 (by decide) (hts _ w_66) (fun _ h9 => h9) rfl d_Mat_look_32 ?_
      cases hf
      exact s_iret hx hb hr hlocks hP hK hD hS d_Mat_look_35
    · have hf := br_neg c_23 hf
      refine lv_iload_n hx hb d_Mat_look_26 rfl (lv_at hl 1 rfl) ?_
      refine lv_iload_n hx hb d_Mat_look_27 rfl (lv_at hl 3 rfl) ?_
      refine lv_icmp_lt (tgt := 36) hx hb d_Mat_look_28 (by decide) (fun c_28 => ?_) (fun c_28 => ?_)
      · have hf := br_pos c_28 hf
        refine lv_aload_n hx hb d_Mat_look_36 rfl (lv_at hl 0 rfl) ?_
        refine va_get (D := (dC, dI)) (ci := 3) (v := .int ml_10) (C := R_Mat) (T := T_Mat) (N := 6) hx hb hts w_53 hown hK hP 0 rfl rfl 5 (by decide) (hts _ w_66) (fun _ h9 => h9) rfl d_Mat_look_37 ?_
        refine lv_istore (lv' := [(5, .int ml_10), (0, .ref mt), (1, .int x1), (2, .int x2), (3, .int x3), (4, .int x4)]) hx hb d_Mat_look_40 hl (by decide) rfl (fun ls hl => ?_)
        refine lv_aload_n hx hb d_Mat_look_42 rfl (lv_at hl 1 rfl) ?_
        refine va_get (D := (dC, dI)) (ci := 3) (v := .int ms_10) (C := R_Mat) (T := T_Mat) (N := 6) hx hb hts w_53 hown hK hP 0 rfl rfl 4 (by decide) (hts _ w_67) (fun _ h9 => h9) rfl d_Mat_look_43 ?_
        refine lv_istore (lv' := [(6, .int ms_10), (5, .int ml_10), (0, .ref mt), (1, .int x1), (2, .int x2), (3, .int x3), (4, .int x4)]) hx hb d_Mat_look_46 hl (by decide) rfl (fun ls hl => ?_)
        refine lv_aload_n hx hb d_Mat_look_48 rfl (lv_at hl 2 rfl) ?_
        refine lv_iload_n hx hb d_Mat_look_49 rfl (lv_at hl 3 rfl) ?_
        refine lv_iconst (v := 1) hx hb d_Mat_look_50 (by decide) ?_
        refine lv_iadd hx hb d_Mat_look_51 ?_
        obtain ⟨mc_52, laf_52, eaf_52, hc52, hf⟩ := bd3_some hf
        refine s_Vv (As := [.int (x1 + (1 : Int32))]) (rest := []) (wr := []) (ws' := wd_Mat_look mt d da la ea cB cI cJ mc_52 ms_10 ml_10 dn df laf_52 eaf_52) C.call (c_Mat_chainBelow l dC dI cB cI cJ mt d da la ea  mc_2 ms_10 ml_10 dn df laf_2 eaf_2 (x1 + (1 : Int32)) hc52) (cwV 1 hts (gd_V w_83 w_84 w_85 w_63 w_86) rfl rfl rfl ⟨rfl, hd_Mat_chainBelow⟩ ⟨Nat.le_of_ble_eq_true rfl, Nat.le_of_ble_eq_true rfl⟩) rfl hl.1 rfl (Nat.le_of_ble_eq_true rfl) d_Mat_look_52 ⟨Nat.le_of_ble_eq_true rfl, Nat.le_of_ble_eq_true rfl⟩ hZ hK hP hD hS hA 3 0 rfl rfl [0, 1, 2, 3, 4] [] [0, 1, 2, 3, 4] rfl rfl rfl rfl (by decide) rfl rfl (fun H locs hP hD hS => ?_)
        refine lv_aload_n hx hb d_Mat_look_55 rfl (lv_at hl 2 rfl) ?_
        refine lv_iload_n hx hb d_Mat_look_56 rfl (lv_at hl 3 rfl) ?_
        refine lv_iconst (v := 1) hx hb d_Mat_look_57 (by decide) ?_
        refine lv_iadd hx hb d_Mat_look_58 ?_
        refine lv_iload_n hx hb d_Mat_look_59 rfl (lv_at hl 4 rfl) ?_
        refine lv_iload hx hb d_Mat_look_60 (lv_at hl 6 rfl) ?_
        obtain ⟨ms_62, ml_62, hc62, hf⟩ := bd2_some hf
        refine s_Vv (As := [.int (x1 + (1 : Int32)), .int x2, .int x4]) (rest := []) (wr := []) (ws' := wd_Mat_look mt d da la ea cB cI cJ mc_52 ms_62 ml_62 dn df laf_52 eaf_52) C.call (c_Mat_find l dC dI cB cI cJ mt d da la ea  mc_52 ms_10 ml_10 dn df laf_52 eaf_52 (x1 + (1 : Int32)) x2 x4 hc62) (cwV 3 hts (gd_V w_87 w_88 w_89 w_63 w_90) rfl rfl rfl ⟨rfl, hd_Mat_find⟩ ⟨Nat.le_of_ble_eq_true rfl, Nat.le_of_ble_eq_true rfl⟩) rfl hl.1 rfl (Nat.le_of_ble_eq_true rfl) d_Mat_look_62 ⟨Nat.le_of_ble_eq_true rfl, Nat.le_of_ble_eq_true rfl⟩ hZ hK hP hD hS hA 3 0 rfl rfl [0, 1, 2, 3, 4] [] [0, 1, 2, 3, 4] rfl rfl rfl rfl (by decide) rfl rfl (fun H locs hP hD hS => ?_)
        refine lv_aload_n hx hb d_Mat_look_65 rfl (lv_at hl 2 rfl) ?_
        refine lv_aload_n hx hb d_Mat_look_66 rfl (lv_at hl 2 rfl) ?_
        refine va_get (D := (dC, dI)) (ci := 3) (v := .int ml_62) (C := R_Mat) (T := T_Mat) (N := 6) hx hb hts w_53 hown hK hP 0 rfl rfl 5 (by decide) (hts _ w_66) (fun _ h9 => h9) rfl d_Mat_look_67 ?_
        refine lv_iload hx hb d_Mat_look_70 (lv_at hl 1 rfl) ?_
        refine lv_icmp_le (tgt := 79) hx hb d_Mat_look_72 (by decide) (fun c_72 => ?_) (fun c_72 => ?_)
        · have hf := br_pos c_72 hf
          refine lv_iload hx hb d_Mat_look_79 (lv_at hl 1 rfl) ?_
          exact k_Mat_look_81 C hK hA ms_10 ml_10 mc_52 ms_62 ml_62 dn df laf_52 eaf_52  hf hP hD hS (lv_sub hl [2, 0] rfl)
        · have hf := br_neg c_72 hf
          refine lv_iconst (v := 0) hx hb d_Mat_look_75 (by decide) ?_
          refine lv_goto (tgt := 81) hx hb d_Mat_look_76 (by decide) ?_
          exact k_Mat_look_81 C hK hA ms_10 (0 : Int32) mc_52 ms_62 ml_62 dn df laf_52 eaf_52  hf hP hD hS (lv_sub hl [2, 0] rfl)
      · have hf := br_neg c_28 hf
        refine lv_aload_n hx hb d_Mat_look_31 rfl (lv_at hl 0 rfl) ?_
        refine va_get (D := (dC, dI)) (ci := 3) (v := .int ml_10) (C := R_Mat) (T := T_Mat) (N := 6) hx hb hts w_53 hown hK hP 0 rfl rfl 5 (by decide) (hts _ w_66) (fun _ h9 => h9) rfl d_Mat_look_32 ?_
        cases hf
        exact s_iret hx hb hr hlocks hP hK hD hS d_Mat_look_35
end
noncomputable abbrev f_Mat_look (N : Nat) (x1 : Int32) (x2 : Int32) (x3 : Int32) (x4 : Int32) (mc : Int32) (dn : Int32) (df : Nat → Int32) (laf : Nat → Int32) (eaf : Nat → Int32) : Option (Int32 × Int32 × Int32 × Int32 × (Nat → Int32) × (Nat → Int32)) := j_Mat_look_0 N x1 x2 x3 x4 mc dn df laf eaf
set_option maxRecDepth 100000 in
theorem c_Mat_look {N : Nat} (l : Launch) (dC : Nat → ClassId) (dI : Nat → Nat → Nat) (cB cI cJ : ClassId) (mt d da la ea : Nat) (mc : Int32) (ms : Int32) (ml : Int32) (dn : Int32) (df : Nat → Int32) (laf : Nat → Int32) (eaf : Nat → Int32) (x1 : Int32) (x2 : Int32) (x3 : Int32) (x4 : Int32) {r_z : Int32} {mc_z : Int32} {ms_z : Int32} {ml_z : Int32} {laf_z : Nat → Int32} {eaf_z : Nat → Int32} (hf : f_Mat_look N x1 x2 x3 x4 mc dn df laf eaf = some (r_z, mc_z, ms_z, ml_z, laf_z, eaf_z)) : MetI l y_Mat_look ws_Mat_look rm_Mat_look (dC, dI) vwCl [(cB, .byte), (cI, .int), (cJ, .long)] [.ref mt, .int x1, .int x2, .int x3, .int x4] (wd_Mat_look mt d da la ea cB cI cJ mc ms ml dn df laf eaf) r_z (wd_Mat_look mt d da la ea cB cI cJ mc_z ms_z ml_z dn df laf_z eaf_z) 0 0 :=
  s_ofi (bytes := cd_Mat_look) (maxL := 7) (ret := (some .int)) (by decide) rfl (Nat.le_of_ble_eq_true rfl) (fun p e s m below meth c A ls C hK hA hP hD hS hl => k_Mat_look_0 C hK hA x1 x2 x3 x4 mc ms ml dn df laf eaf hf hP hD hS (lv_sub hl [0, 1, 2, 3, 4] rfl))
end
section
abbrev wd_Mat_source (mt d la ea : Nat) (cB cI cJ : ClassId) (mc : Int32) (ms : Int32) (ml : Int32) : va_W := [(mt, .inr (3, [.ref d, .ref la, .ref ea, .int mc, .int ms, .int ml]))]
abbrev rm_Mat_source : Room := { frames := 0, cells := 0, slots := 0, locals := 0 }
section
variable {p : Program} {l : Launch} {e : Env} {s : State} {m : MethodId} {args : Array Value} {below : List Frame} {meth : Method} {c : Code} {dC : Nat → ClassId} {dI : Nat → Nat → Nat} {A : Nat → Prop} {cB cI cJ : ClassId} {H : Heap} {locs : List Loc} {ls : Array Slot} {N : Nat} {mt d la ea : Nat}
noncomputable def j_Mat_source_0 (ms : Int32)  : Option (Int32) :=
  (some ms : Option (Int32))
set_option maxHeartbeats 4000000 in
set_option maxRecDepth 100000 in
theorem k_Mat_source_0 {r_z : Int32} (C : Fx p s m args meth c cd_Mat_source 1 R_Mat lw_g (some .int)) (hK : va_K (dC, dI) vwCl [(cB, .byte), (cI, .int), (cJ, .long)] s) (hA : ∀ q, s.heap.size ≤ q → A q) (mc : Int32) (ms : Int32) (ml : Int32)  (hf : j_Mat_source_0 ms  = some r_z) (hP : va_P (dC, dI) vwCl (wd_Mat_source mt d la ea cB cI cJ mc ms ml) H) (hD : va_D A (wd_Mat_source mt d la ea cB cI cJ mc ms ml)) (hS : va_S A s.heap H locs) (hl : lv_has ls 1 [(0, .ref mt)]) : W p l e rm_Mat_source s m args below meth c H locs 0 0 (MQ below (sQi (dC, dI) vwCl [(cB, .byte), (cI, .int), (cJ, .long)] A r_z (wd_Mat_source mt d la ea cB cI cJ mc ms ml)) args s 0 0 A) (F0 m 0 ls []) := by
  obtain ⟨hx, hb, hml, hown, hts, hr, hlocks, hZ⟩ := id C
  unfold j_Mat_source_0 at hf
  refine lv_aload_n hx hb d_Mat_source_0 rfl (lv_at hl 0 rfl) ?_
  refine va_get (D := (dC, dI)) (ci := 3) (v := .int ms) (C := R_Mat) (T := T_Mat) (N := 6) hx hb hts w_53 hown hK hP 0 rfl rfl 4 (by decide) (hts _ w_67) (fun _ h9 => h9) rfl d_Mat_source_1 ?_
  cases hf
  exact s_iret hx hb hr hlocks hP hK hD hS d_Mat_source_4
end
noncomputable abbrev f_Mat_source (ms : Int32) : Option (Int32) := j_Mat_source_0 ms
set_option maxRecDepth 100000 in
theorem c_Mat_source (l : Launch) (dC : Nat → ClassId) (dI : Nat → Nat → Nat) (cB cI cJ : ClassId) (mt d la ea : Nat) (mc : Int32) (ms : Int32) (ml : Int32)  {r_z : Int32} (hf : f_Mat_source ms = some r_z) : MetI l y_Mat_source ws_Mat_source rm_Mat_source (dC, dI) vwCl [(cB, .byte), (cI, .int), (cJ, .long)] [.ref mt] (wd_Mat_source mt d la ea cB cI cJ mc ms ml) r_z (wd_Mat_source mt d la ea cB cI cJ mc ms ml) 0 0 :=
  s_ofi (bytes := cd_Mat_source) (maxL := 1) (ret := (some .int)) (by decide) rfl (Nat.le_of_ble_eq_true rfl) (fun p e s m below meth c A ls C hK hA hP hD hS hl => k_Mat_source_0 C hK hA mc ms ml hf hP hD hS (lv_sub hl [0] rfl))
end
section
abbrev wd_Mat_startOver (mt d da la hs hsa ea : Nat) (cB cI cJ : ClassId) (mc : Int32) (ms : Int32) (ml : Int32) (dn : Int32) (df : Nat → Int32) (laf : Nat → Int32) (hsn : Int32) (hsf : Nat → Int32) : va_W := [(mt, .inr (3, [.ref d, .ref la, .ref ea, .int mc, .int ms, .int ml])), (d, .inr (1, [.ref da, .int dn])), (da, .inl (cB, 16000, .inl df)), (la, .inl (cI, 4096, .inl laf)), (hs, .inr (1, [.ref hsa, .int hsn])), (hsa, .inl (cB, 8000, .inl hsf))]
abbrev rm_Mat_startOver : Room := { frames := 3, cells := 0, slots := 0, locals := 63 }
section
variable {p : Program} {l : Launch} {e : Env} {s : State} {m : MethodId} {args : Array Value} {below : List Frame} {meth : Method} {c : Code} {dC : Nat → ClassId} {dI : Nat → Nat → Nat} {A : Nat → Prop} {cB cI cJ : ClassId} {H : Heap} {locs : List Loc} {ls : Array Slot} {N : Nat} {mt d da la hs hsa ea : Nat}
noncomputable def j_Mat_startOver_0 (N : Nat) (dn : Int32) (df : Nat → Int32) (laf : Nat → Int32) (hsn : Int32) (hsf : Nat → Int32)  : Option (Int32 × Int32 × (Nat → Int32) × (Nat → Int32)) :=
  bd2 (f_Row_become 16000 8000 dn df hsn hsf) (fun dn_5 df_5 => bd1 (f_Arr_fill N 4096 (-1 : Int32) laf) (fun laf_13 => (some ((0 : Int32), dn_5, df_5, laf_13) : Option (Int32 × Int32 × (Nat → Int32) × (Nat → Int32)))))
set_option maxHeartbeats 4000000 in
set_option maxRecDepth 100000 in
theorem k_Mat_startOver_0 {mc_z : Int32} {dn_z : Int32} {df_z : Nat → Int32} {laf_z : Nat → Int32} (C : Fx p s m args meth c cd_Mat_startOver 2 R_Mat lw_g none) (hK : va_K (dC, dI) vwCl [(cB, .byte), (cI, .int), (cJ, .long)] s) (hA : ∀ q, s.heap.size ≤ q → A q) (mc : Int32) (ms : Int32) (ml : Int32) (dn : Int32) (df : Nat → Int32) (laf : Nat → Int32) (hsn : Int32) (hsf : Nat → Int32)  (hf : j_Mat_startOver_0 N dn df laf hsn hsf  = some (mc_z, dn_z, df_z, laf_z)) (hP : va_P (dC, dI) vwCl (wd_Mat_startOver mt d da la hs hsa ea cB cI cJ mc ms ml dn df laf hsn hsf) H) (hD : va_D A (wd_Mat_startOver mt d da la hs hsa ea cB cI cJ mc ms ml dn df laf hsn hsf)) (hS : va_S A s.heap H locs) (hl : lv_has ls 2 [(0, .ref mt), (1, .ref hs)]) : W p l e rm_Mat_startOver s m args below meth c H locs 0 0 (MQ below (sQv (dC, dI) vwCl [(cB, .byte), (cI, .int), (cJ, .long)] A (wd_Mat_startOver mt d da la hs hsa ea cB cI cJ mc_z ms ml dn_z df_z laf_z hsn hsf)) args s 0 0 A) (F0 m 0 ls []) := by
  obtain ⟨hx, hb, hml, hown, hts, hr, hlocks, hZ⟩ := id C
  unfold j_Mat_startOver_0 at hf
  refine lv_aload_n hx hb d_Mat_startOver_0 rfl (lv_at hl 0 rfl) ?_
  refine va_get (D := (dC, dI)) (ci := 3) (v := .ref d) (C := R_Mat) (T := T_Mat) (N := 6) hx hb hts w_53 hown hK hP 0 rfl rfl 0 (by decide) (hts _ w_56) (fun _ h9 => h9) rfl d_Mat_startOver_1 ?_
  refine lv_aload_n hx hb d_Mat_startOver_4 rfl (lv_at hl 1 rfl) ?_
  obtain ⟨dn_5, df_5, hc5, hf⟩ := bd2_some hf
  refine s_Vv (As := [.ref hs]) (rest := []) (wr := [(mt, .inr (3, [.ref d, .ref la, .ref ea, .int mc, .int ms, .int ml])), (la, .inl (cI, 4096, .inl laf))]) (ws' := wd_Mat_startOver mt d da la hs hsa ea cB cI cJ mc ms ml dn_5 df_5 laf hsn hsf) C.call (c_Row_become l dC dI cB cI cJ d da hs hsa 16000 8000 dn df hsn hsf  hc5) (cwV 1 hts (gd_V w_109 w_37 w_38 w_12 w_39) rfl rfl rfl ⟨rfl, hd_Row_become⟩ ⟨Nat.le_of_ble_eq_true rfl, Nat.le_of_ble_eq_true rfl⟩) rfl hl.1 rfl (Nat.le_of_ble_eq_true rfl) d_Mat_startOver_5 ⟨Nat.le_of_ble_eq_true rfl, Nat.le_of_ble_eq_true rfl⟩ hZ hK hP hD hS hA 1 1 rfl rfl [1, 2, 4, 5] [0, 3] [0, 2, 3, 1, 4, 5] rfl rfl rfl rfl (by decide) rfl rfl (fun H locs hP hD hS => ?_)
  refine lv_aload_n hx hb d_Mat_startOver_8 rfl (lv_at hl 0 rfl) ?_
  refine va_get (D := (dC, dI)) (ci := 3) (v := .ref la) (C := R_Mat) (T := T_Mat) (N := 6) hx hb hts w_53 hown hK hP 0 rfl rfl 1 (by decide) (hts _ w_65) (fun _ h9 => h9) rfl d_Mat_startOver_9 ?_
  refine lv_iconst (v := -1) hx hb d_Mat_startOver_12 (by decide) ?_
  obtain ⟨laf_13, hc13, hf⟩ := bd1_some hf
  refine s_Sv (As := [.ref la, .int (-1 : Int32)]) (rest := []) (wr := [(mt, .inr (3, [.ref d, .ref la, .ref ea, .int mc, .int ms, .int ml])), (d, .inr (1, [.ref da, .int dn_5])), (da, .inl (cB, 16000, .inl df_5)), (hs, .inr (1, [.ref hsa, .int hsn])), (hsa, .inl (cB, 8000, .inl hsf))]) (ws' := wd_Mat_startOver mt d da la hs hsa ea cB cI cJ mc ms ml dn_5 df_5 laf_13 hsn hsf) C.call (c_Arr_fill l dC dI cB cI cJ la 4096 laf (-1 : Int32) hc13) (va_cwS 2 hts (gd_S w_110 w_111 w_112 w_113) rfl rfl rfl hd_Arr_fill ⟨Nat.le_of_ble_eq_true rfl, Nat.le_of_ble_eq_true rfl⟩) rfl hl.1 rfl (Nat.le_of_ble_eq_true rfl) d_Mat_startOver_13 ⟨Nat.le_of_ble_eq_true rfl, Nat.le_of_ble_eq_true rfl⟩ hZ hK hP hD hS hA [3] [0, 1, 2, 4, 5] [0, 1, 2, 5, 3, 4] rfl rfl rfl rfl (by decide) rfl rfl (fun H locs hP hD hS => ?_)
  refine lv_aload_n hx hb d_Mat_startOver_16 rfl (lv_at hl 0 rfl) ?_
  refine lv_iconst (v := 0) hx hb d_Mat_startOver_17 (by decide) ?_
  refine va_put (D := (dC, dI)) (ci := 3) (v := .int (0 : Int32)) (ty := .int) (C := R_Mat) (T := T_Mat) (N := 6) hx hb hts w_53 ty_Mat ty_Mat_ok nm_Mat hown hK hP hD hS 0 rfl rfl 3 (by decide) (hts _ w_54) (fun _ h9 => h9) rfl (by decide +kernel) rfl rfl (Nat.le_of_ble_eq_true rfl) d_Mat_startOver_18 (fun H locs hP hD hS => ?_)
  have hP : va_P (dC, dI) vwCl (wd_Mat_startOver mt d da la hs hsa ea cB cI cJ (0 : Int32) ms ml dn_5 df_5 laf_13 hsn hsf) H := hP
  have hD : va_D A (wd_Mat_startOver mt d da la hs hsa ea cB cI cJ (0 : Int32) ms ml dn_5 df_5 laf_13 hsn hsf) := hD
  cases hf
  exact s_vret hx hb hr hlocks hP hK hD hS d_Mat_startOver_21
end
noncomputable abbrev f_Mat_startOver (N : Nat) (dn : Int32) (df : Nat → Int32) (laf : Nat → Int32) (hsn : Int32) (hsf : Nat → Int32) : Option (Int32 × Int32 × (Nat → Int32) × (Nat → Int32)) := j_Mat_startOver_0 N dn df laf hsn hsf
set_option maxRecDepth 100000 in
theorem c_Mat_startOver {N : Nat} (l : Launch) (dC : Nat → ClassId) (dI : Nat → Nat → Nat) (cB cI cJ : ClassId) (mt d da la hs hsa ea : Nat) (mc : Int32) (ms : Int32) (ml : Int32) (dn : Int32) (df : Nat → Int32) (laf : Nat → Int32) (hsn : Int32) (hsf : Nat → Int32)  {mc_z : Int32} {dn_z : Int32} {df_z : Nat → Int32} {laf_z : Nat → Int32} (hf : f_Mat_startOver N dn df laf hsn hsf = some (mc_z, dn_z, df_z, laf_z)) : MetV l y_Mat_startOver ws_Mat_startOver rm_Mat_startOver (dC, dI) vwCl [(cB, .byte), (cI, .int), (cJ, .long)] [.ref mt, .ref hs] (wd_Mat_startOver mt d da la hs hsa ea cB cI cJ mc ms ml dn df laf hsn hsf)  (wd_Mat_startOver mt d da la hs hsa ea cB cI cJ mc_z ms ml dn_z df_z laf_z hsn hsf) 0 0 :=
  s_ofv (bytes := cd_Mat_startOver) (maxL := 2) (ret := none) (by decide) rfl (Nat.le_of_ble_eq_true rfl) (fun p e s m below meth c A ls C hK hA hP hD hS hl => k_Mat_startOver_0 C hK hA mc ms ml dn df laf hsn hsf hf hP hD hS (lv_sub hl [0, 1] rfl))
end
section
abbrev wd_Mat_cutTo (mt d da la ea : Nat) (cB cI cJ : ClassId) (mc : Int32) (ms : Int32) (ml : Int32) (dn : Int32) (df : Nat → Int32) (laf : Nat → Int32) (eaf : Nat → Int32) : va_W := [(mt, .inr (3, [.ref d, .ref la, .ref ea, .int mc, .int ms, .int ml])), (d, .inr (1, [.ref da, .int dn])), (da, .inl (cB, 16000, .inl df)), (la, .inl (cI, 4096, .inl laf)), (ea, .inl (cI, 16000, .inl eaf))]
abbrev rm_Mat_cutTo : Room := { frames := 2, cells := 0, slots := 0, locals := 36 }
section
variable {p : Program} {l : Launch} {e : Env} {s : State} {m : MethodId} {args : Array Value} {below : List Frame} {meth : Method} {c : Code} {dC : Nat → ClassId} {dI : Nat → Nat → Nat} {A : Nat → Prop} {cB cI cJ : ClassId} {H : Heap} {locs : List Loc} {ls : Array Slot} {N : Nat} {mt d da la ea : Nat}
noncomputable def b_Mat_cutTo_23 (x1 : Int32) (x2 : Int32) (mc : Int32) (dn : Int32) (df : Nat → Int32) (eaf : Nat → Int32)  (kh23 : Int32 → (Nat → Int32) → Option (Int32 × Int32 × (Nat → Int32))) (x3 : Int32) (laf : Nat → Int32) : Option (Int32 × Int32 × (Nat → Int32)) :=
  (if x3 < x2 then bd1 (f_Row_cutTo x1 dn) (fun dn_73 => (some ((mn mc x2), dn_73, laf) : Option (Int32 × Int32 × (Nat → Int32)))) else bd1 (f_Row_word 16000 x3 dn df) (fun r37 => bd1 (f_Mat_slot r37) (fun r40 => as_ (vp_in x3 16000) (as_ (vp_in r40 4096) ((kh23 (x3 + (-1)) (upd laf r40.toNatClampNeg (eaf x3.toNatClampNeg))))))))
set_option maxHeartbeats 4000000 in
set_option maxRecDepth 100000 in
theorem k_Mat_cutTo_23 {mc_z : Int32} {dn_z : Int32} {laf_z : Nat → Int32} (C : Fx p s m args meth c cd_Mat_cutTo 4 R_Mat lw_g none) (hK : va_K (dC, dI) vwCl [(cB, .byte), (cI, .int), (cJ, .long)] s) (hA : ∀ q, s.heap.size ≤ q → A q) (x1 : Int32) (x2 : Int32) (mc : Int32) (ms : Int32) (ml : Int32) (dn : Int32) (df : Nat → Int32) (eaf : Nat → Int32)  : ∀ (n : Nat) (x3 : Int32) (laf : Nat → Int32), loop2 (b_Mat_cutTo_23 x1 x2 mc dn df eaf ) n x3 laf = some (mc_z, dn_z, laf_z) → ∀ (H : Heap) (locs : List Loc), va_P (dC, dI) vwCl (wd_Mat_cutTo mt d da la ea cB cI cJ mc ms ml dn df laf eaf) H → va_D A (wd_Mat_cutTo mt d da la ea cB cI cJ mc ms ml dn df laf eaf) → va_S A s.heap H locs → ∀ (ls : Array Slot), lv_has ls 4 [(0, .ref mt), (1, .int x1), (2, .int x2), (3, .int x3)] → W p l e rm_Mat_cutTo s m args below meth c H locs 0 0 (MQ below (sQv (dC, dI) vwCl [(cB, .byte), (cI, .int), (cJ, .long)] A (wd_Mat_cutTo mt d da la ea cB cI cJ mc_z ms ml dn_z df laf_z eaf)) args s 0 0 A) (F0 m 23 ls []) := by
  obtain ⟨hx, hb, hml, hown, hts, hr, hlocks, hZ⟩ := id C
  intro n
  induction n with
  | zero => intro x3 laf hf; cases hf
  | succ n ih23 =>
    intro x3 laf hf H locs hP hD hS ls hl
    have hf : b_Mat_cutTo_23 x1 x2 mc dn df eaf  (loop2 (b_Mat_cutTo_23 x1 x2 mc dn df eaf ) n) x3 laf = some (mc_z, dn_z, laf_z) := hf
    generalize loop2 (b_Mat_cutTo_23 x1 x2 mc dn df eaf ) n = kh23 at hf ih23
    unfold b_Mat_cutTo_23 at hf
    refine lv_iload_n hx hb d_Mat_cutTo_23 rfl (lv_at hl 3 rfl) ?_
    refine lv_iload_n hx hb d_Mat_cutTo_24 rfl (lv_at hl 2 rfl) ?_
    refine lv_icmp_lt (tgt := 56) hx hb d_Mat_cutTo_25 (by decide) (fun c_25 => ?_) (fun c_25 => ?_)
    · have hf := br_pos c_25 hf
      refine lv_aload_n hx hb d_Mat_cutTo_56 rfl (lv_at hl 0 rfl) ?_
      refine lv_aload_n hx hb d_Mat_cutTo_57 rfl (lv_at hl 0 rfl) ?_
      refine va_get (D := (dC, dI)) (ci := 3) (v := .int mc) (C := R_Mat) (T := T_Mat) (N := 6) hx hb hts w_53 hown hK hP 0 rfl rfl 3 (by decide) (hts _ w_54) (fun _ h9 => h9) rfl d_Mat_cutTo_58 ?_
      refine lv_iload_n hx hb d_Mat_cutTo_61 rfl (lv_at hl 2 rfl) ?_
      refine s_mmin hx hb (hml.trans hl.1.symm) hown (hts _ w_172) (hts _ w_23) (hts _ w_24) (hts _ w_25) (Nat.le_of_ble_eq_true rfl) (Nat.le_of_ble_eq_true rfl) (Nat.zero_le _) (Nat.zero_le _) d_Mat_cutTo_62 ?_
      refine va_put (D := (dC, dI)) (ci := 3) (v := .int (mn mc x2)) (ty := .int) (C := R_Mat) (T := T_Mat) (N := 6) hx hb hts w_53 ty_Mat ty_Mat_ok nm_Mat hown hK hP hD hS 0 rfl rfl 3 (by decide) (hts _ w_54) (fun _ h9 => h9) rfl (by decide +kernel) rfl rfl (Nat.le_of_ble_eq_true rfl) d_Mat_cutTo_65 (fun H locs hP hD hS => ?_)
      have hP : va_P (dC, dI) vwCl (wd_Mat_cutTo mt d da la ea cB cI cJ (mn mc x2) ms ml dn df laf eaf) H := hP
      have hD : va_D A (wd_Mat_cutTo mt d da la ea cB cI cJ (mn mc x2) ms ml dn df laf eaf) := hD
      refine lv_aload_n hx hb d_Mat_cutTo_68 rfl (lv_at hl 0 rfl) ?_
      refine va_get (D := (dC, dI)) (ci := 3) (v := .ref d) (C := R_Mat) (T := T_Mat) (N := 6) hx hb hts w_53 hown hK hP 0 rfl rfl 0 (by decide) (hts _ w_56) (fun _ h9 => h9) rfl d_Mat_cutTo_69 ?_
      refine lv_iload_n hx hb d_Mat_cutTo_72 rfl (lv_at hl 1 rfl) ?_
      obtain ⟨dn_73, hc73, hf⟩ := bd1_some hf
      refine s_Vv (As := [.int x1]) (rest := []) (wr := [(mt, .inr (3, [.ref d, .ref la, .ref ea, .int (mn mc x2), .int ms, .int ml])), (da, .inl (cB, 16000, .inl df)), (la, .inl (cI, 4096, .inl laf)), (ea, .inl (cI, 16000, .inl eaf))]) (ws' := wd_Mat_cutTo mt d da la ea cB cI cJ (mn mc x2) ms ml dn_73 df laf eaf) C.call (c_Row_cutTo l dC dI cB cI cJ d da  dn x1 hc73) (cwV 1 hts (gd_V w_173 w_30 w_31 w_12 w_32) rfl rfl rfl ⟨rfl, hd_Row_cutTo⟩ ⟨Nat.le_of_ble_eq_true rfl, Nat.le_of_ble_eq_true rfl⟩) rfl hl.1 rfl (Nat.le_of_ble_eq_true rfl) d_Mat_cutTo_73 ⟨Nat.le_of_ble_eq_true rfl, Nat.le_of_ble_eq_true rfl⟩ hZ hK hP hD hS hA 1 1 rfl rfl [1] [0, 2, 3, 4] [0, 4, 1, 2, 3] rfl rfl rfl rfl (by decide) rfl rfl (fun H locs hP hD hS => ?_)
      cases hf
      exact s_vret hx hb hr hlocks hP hK hD hS d_Mat_cutTo_76
    · have hf := br_neg c_25 hf
      refine lv_aload_n hx hb d_Mat_cutTo_28 rfl (lv_at hl 0 rfl) ?_
      refine va_get (D := (dC, dI)) (ci := 3) (v := .ref la) (C := R_Mat) (T := T_Mat) (N := 6) hx hb hts w_53 hown hK hP 0 rfl rfl 1 (by decide) (hts _ w_65) (fun _ h9 => h9) rfl d_Mat_cutTo_29 ?_
      refine lv_aload_n hx hb d_Mat_cutTo_32 rfl (lv_at hl 0 rfl) ?_
      refine va_get (D := (dC, dI)) (ci := 3) (v := .ref d) (C := R_Mat) (T := T_Mat) (N := 6) hx hb hts w_53 hown hK hP 0 rfl rfl 0 (by decide) (hts _ w_56) (fun _ h9 => h9) rfl d_Mat_cutTo_33 ?_
      refine lv_iload_n hx hb d_Mat_cutTo_36 rfl (lv_at hl 3 rfl) ?_
      obtain ⟨r37, hc37, hf⟩ := bd1_some hf
      refine s_Vi (As := [.int x3]) (rest := [.ref la]) (wr := [(mt, .inr (3, [.ref d, .ref la, .ref ea, .int mc, .int ms, .int ml])), (la, .inl (cI, 4096, .inl laf)), (ea, .inl (cI, 16000, .inl eaf))]) (ws' := wd_Mat_cutTo mt d da la ea cB cI cJ mc ms ml dn df laf eaf) C.call (c_Row_word l dC dI cB cI cJ d da 16000 dn df x3 hc37) (cwV 1 hts (gd_V w_57 w_58 w_59 w_12 w_60) rfl rfl rfl ⟨rfl, hd_Row_word⟩ ⟨Nat.le_of_ble_eq_true rfl, Nat.le_of_ble_eq_true rfl⟩) rfl hl.1 rfl (Nat.le_of_ble_eq_true rfl) d_Mat_cutTo_37 ⟨Nat.le_of_ble_eq_true rfl, Nat.le_of_ble_eq_true rfl⟩ hZ hK hP hD hS hA 1 1 rfl rfl [1, 2] [0, 3, 4] [0, 3, 4, 1, 2] rfl rfl rfl rfl (by decide) rfl rfl (fun H locs hP hD hS => ?_)
      obtain ⟨r40, hc40, hf⟩ := bd1_some hf
      refine s_Si (As := [.int r37]) (rest := [.ref la]) (wr := [(mt, .inr (3, [.ref d, .ref la, .ref ea, .int mc, .int ms, .int ml])), (d, .inr (1, [.ref da, .int dn])), (da, .inl (cB, 16000, .inl df)), (la, .inl (cI, 4096, .inl laf)), (ea, .inl (cI, 16000, .inl eaf))]) (ws' := wd_Mat_cutTo mt d da la ea cB cI cJ mc ms ml dn df laf eaf) C.call (c_Mat_slot l dC dI cB cI cJ    r37 hc40) (va_cwS 1 hts (gd_S w_61 w_62 w_63 w_64) rfl rfl rfl hd_Mat_slot ⟨Nat.le_of_ble_eq_true rfl, Nat.le_of_ble_eq_true rfl⟩) rfl hl.1 rfl (Nat.le_of_ble_eq_true rfl) d_Mat_cutTo_40 ⟨Nat.le_of_ble_eq_true rfl, Nat.le_of_ble_eq_true rfl⟩ hZ hK hP hD hS hA [] [0, 1, 2, 3, 4] [0, 1, 2, 3, 4] rfl rfl rfl rfl (by decide) rfl rfl (fun H locs hP hD hS => ?_)
      refine lv_aload_n hx hb d_Mat_cutTo_43 rfl (lv_at hl 0 rfl) ?_
      refine va_get (D := (dC, dI)) (ci := 3) (v := .ref ea) (C := R_Mat) (T := T_Mat) (N := 6) hx hb hts w_53 hown hK hP 0 rfl rfl 2 (by decide) (hts _ w_55) (fun _ h9 => h9) rfl d_Mat_cutTo_44 ?_
      refine lv_iload_n hx hb d_Mat_cutTo_47 rfl (lv_at hl 3 rfl) ?_
      obtain ⟨h_in, hf⟩ := as_some hf
      refine va_iald hx hb hK hP 4 1 rfl rfl h_in d_Mat_cutTo_48 ?_
      obtain ⟨h_in, hf⟩ := as_some hf
      refine va_iast hx hb hK hP hD hS 3 1 rfl rfl h_in d_Mat_cutTo_49 (fun H locs hP hD hS => ?_)
      have hP : va_P (dC, dI) vwCl (wd_Mat_cutTo mt d da la ea cB cI cJ mc ms ml dn df (upd laf r40.toNatClampNeg (eaf x3.toNatClampNeg)) eaf) H := hP
      have hD : va_D A (wd_Mat_cutTo mt d da la ea cB cI cJ mc ms ml dn df (upd laf r40.toNatClampNeg (eaf x3.toNatClampNeg)) eaf) := hD
      refine lv_iinc (v := (x3 + (-1))) (lv' := [(3, .int (x3 + (-1))), (0, .ref mt), (1, .int x1), (2, .int x2)]) hx hb d_Mat_cutTo_50 hl (k := 3) rfl (congrArg (fun z => x3 + z) (by decide)) (by decide) rfl (fun ls hl => ?_)
      refine lv_goto (tgt := 23) hx hb d_Mat_cutTo_53 (by decide) ?_
      exact ih23 (x3 + (-1)) (upd laf r40.toNatClampNeg (eaf x3.toNatClampNeg)) hf _ _ hP hD hS _ (lv_sub hl [1, 2, 3, 0] rfl)
noncomputable def j_Mat_cutTo_0 (N : Nat) (x1 : Int32) (mc : Int32) (dn : Int32) (df : Nat → Int32) (laf : Nat → Int32) (eaf : Nat → Int32)  : Option (Int32 × Int32 × (Nat → Int32)) :=
  (loop2 (b_Mat_cutTo_23 x1 (mx (0 : Int32) (x1 - (3 : Int32))) mc dn df eaf ) N ((mn mc (Int32.ofNat 16000)) - (1 : Int32)) laf)
set_option maxHeartbeats 4000000 in
set_option maxRecDepth 100000 in
theorem k_Mat_cutTo_0 {mc_z : Int32} {dn_z : Int32} {laf_z : Nat → Int32} (C : Fx p s m args meth c cd_Mat_cutTo 4 R_Mat lw_g none) (hK : va_K (dC, dI) vwCl [(cB, .byte), (cI, .int), (cJ, .long)] s) (hA : ∀ q, s.heap.size ≤ q → A q) (x1 : Int32) (mc : Int32) (ms : Int32) (ml : Int32) (dn : Int32) (df : Nat → Int32) (laf : Nat → Int32) (eaf : Nat → Int32)  (hf : j_Mat_cutTo_0 N x1 mc dn df laf eaf  = some (mc_z, dn_z, laf_z)) (hP : va_P (dC, dI) vwCl (wd_Mat_cutTo mt d da la ea cB cI cJ mc ms ml dn df laf eaf) H) (hD : va_D A (wd_Mat_cutTo mt d da la ea cB cI cJ mc ms ml dn df laf eaf)) (hS : va_S A s.heap H locs) (hl : lv_has ls 4 [(0, .ref mt), (1, .int x1)]) : W p l e rm_Mat_cutTo s m args below meth c H locs 0 0 (MQ below (sQv (dC, dI) vwCl [(cB, .byte), (cI, .int), (cJ, .long)] A (wd_Mat_cutTo mt d da la ea cB cI cJ mc_z ms ml dn_z df laf_z eaf)) args s 0 0 A) (F0 m 0 ls []) := by
  obtain ⟨hx, hb, hml, hown, hts, hr, hlocks, hZ⟩ := id C
  unfold j_Mat_cutTo_0 at hf
  refine lv_iconst (v := 0) hx hb d_Mat_cutTo_0 (by decide) ?_
  refine lv_iload_n hx hb d_Mat_cutTo_1 rfl (lv_at hl 1 rfl) ?_
  refine lv_iconst (v := 3) hx hb d_Mat_cutTo_2 (by decide) ?_
  refine lv_isub hx hb d_Mat_cutTo_3 ?_
  refine s_mmax hx hb (hml.trans hl.1.symm) hown (hts _ w_171) (hts _ w_27) (hts _ w_24) (hts _ w_28) (Nat.le_of_ble_eq_true rfl) (Nat.le_of_ble_eq_true rfl) (Nat.zero_le _) (Nat.zero_le _) d_Mat_cutTo_4 ?_
  refine lv_istore_n (lv' := [(2, .int (mx (0 : Int32) (x1 - (3 : Int32)))), (0, .ref mt), (1, .int x1)]) hx hb d_Mat_cutTo_7 rfl hl (by decide) rfl (fun ls hl => ?_)
  refine lv_aload_n hx hb d_Mat_cutTo_8 rfl (lv_at hl 1 rfl) ?_
  refine va_get (D := (dC, dI)) (ci := 3) (v := .int mc) (C := R_Mat) (T := T_Mat) (N := 6) hx hb hts w_53 hown hK hP 0 rfl rfl 3 (by decide) (hts _ w_54) (fun _ h9 => h9) rfl d_Mat_cutTo_9 ?_
  refine lv_aload_n hx hb d_Mat_cutTo_12 rfl (lv_at hl 1 rfl) ?_
  refine va_get (D := (dC, dI)) (ci := 3) (v := .ref ea) (C := R_Mat) (T := T_Mat) (N := 6) hx hb hts w_53 hown hK hP 0 rfl rfl 2 (by decide) (hts _ w_55) (fun _ h9 => h9) rfl d_Mat_cutTo_13 ?_
  refine va_alen (v := (Int32.ofNat 16000)) hx hb hK hP 4 1 rfl rfl rfl d_Mat_cutTo_16 ?_
  refine s_mmin hx hb (hml.trans hl.1.symm) hown (hts _ w_172) (hts _ w_23) (hts _ w_24) (hts _ w_25) (Nat.le_of_ble_eq_true rfl) (Nat.le_of_ble_eq_true rfl) (Nat.zero_le _) (Nat.zero_le _) d_Mat_cutTo_17 ?_
  refine lv_iconst (v := 1) hx hb d_Mat_cutTo_20 (by decide) ?_
  refine lv_isub hx hb d_Mat_cutTo_21 ?_
  refine lv_istore_n (lv' := [(3, .int ((mn mc (Int32.ofNat 16000)) - (1 : Int32))), (2, .int (mx (0 : Int32) (x1 - (3 : Int32)))), (0, .ref mt), (1, .int x1)]) hx hb d_Mat_cutTo_22 rfl hl (by decide) rfl (fun ls hl => ?_)
  exact k_Mat_cutTo_23 C hK hA x1 (mx (0 : Int32) (x1 - (3 : Int32))) mc ms ml dn df eaf  N ((mn mc (Int32.ofNat 16000)) - (1 : Int32)) laf hf _ _ hP hD hS _ (lv_sub hl [2, 3, 1, 0] rfl)
end
noncomputable abbrev f_Mat_cutTo (N : Nat) (x1 : Int32) (mc : Int32) (dn : Int32) (df : Nat → Int32) (laf : Nat → Int32) (eaf : Nat → Int32) : Option (Int32 × Int32 × (Nat → Int32)) := j_Mat_cutTo_0 N x1 mc dn df laf eaf
set_option maxRecDepth 100000 in
theorem c_Mat_cutTo {N : Nat} (l : Launch) (dC : Nat → ClassId) (dI : Nat → Nat → Nat) (cB cI cJ : ClassId) (mt d da la ea : Nat) (mc : Int32) (ms : Int32) (ml : Int32) (dn : Int32) (df : Nat → Int32) (laf : Nat → Int32) (eaf : Nat → Int32) (x1 : Int32) {mc_z : Int32} {dn_z : Int32} {laf_z : Nat → Int32} (hf : f_Mat_cutTo N x1 mc dn df laf eaf = some (mc_z, dn_z, laf_z)) : MetV l y_Mat_cutTo ws_Mat_cutTo rm_Mat_cutTo (dC, dI) vwCl [(cB, .byte), (cI, .int), (cJ, .long)] [.ref mt, .int x1] (wd_Mat_cutTo mt d da la ea cB cI cJ mc ms ml dn df laf eaf)  (wd_Mat_cutTo mt d da la ea cB cI cJ mc_z ms ml dn_z df laf_z eaf) 0 0 :=
  s_ofv (bytes := cd_Mat_cutTo) (maxL := 4) (ret := none) (by decide) rfl (Nat.le_of_ble_eq_true rfl) (fun p e s m below meth c A ls C hK hA hP hD hS hl => k_Mat_cutTo_0 C hK hA x1 mc ms ml dn df laf eaf hf hP hD hS (lv_sub hl [0, 1] rfl))
end
section
abbrev wd_Mat_data (mt d la ea : Nat) (cB cI cJ : ClassId) (mc : Int32) (ms : Int32) (ml : Int32) : va_W := [(mt, .inr (3, [.ref d, .ref la, .ref ea, .int mc, .int ms, .int ml]))]
abbrev rm_Mat_data : Room := { frames := 0, cells := 0, slots := 0, locals := 0 }
section
variable {p : Program} {l : Launch} {e : Env} {s : State} {m : MethodId} {args : Array Value} {below : List Frame} {meth : Method} {c : Code} {dC : Nat → ClassId} {dI : Nat → Nat → Nat} {A : Nat → Prop} {cB cI cJ : ClassId} {H : Heap} {locs : List Loc} {ls : Array Slot} {N : Nat} {mt d la ea : Nat}
noncomputable def j_Mat_data_0   : Option (Unit) :=
  (some () : Option (Unit))
set_option maxHeartbeats 4000000 in
set_option maxRecDepth 100000 in
theorem k_Mat_data_0  (C : Fx p s m args meth c cd_Mat_data 1 R_Mat lw_g (some (.object "TokenFrames$Row"))) (hK : va_K (dC, dI) vwCl [(cB, .byte), (cI, .int), (cJ, .long)] s) (hA : ∀ q, s.heap.size ≤ q → A q) (mc : Int32) (ms : Int32) (ml : Int32)  (hf : j_Mat_data_0   = some ()) (hP : va_P (dC, dI) vwCl (wd_Mat_data mt d la ea cB cI cJ mc ms ml) H) (hD : va_D A (wd_Mat_data mt d la ea cB cI cJ mc ms ml)) (hS : va_S A s.heap H locs) (hl : lv_has ls 1 [(0, .ref mt)]) : W p l e rm_Mat_data s m args below meth c H locs 0 0 (MQ below (sQr (dC, dI) vwCl [(cB, .byte), (cI, .int), (cJ, .long)] A d (wd_Mat_data mt d la ea cB cI cJ mc ms ml)) args s 0 0 A) (F0 m 0 ls []) := by
  obtain ⟨hx, hb, hml, hown, hts, hr, hlocks, hZ⟩ := id C
  unfold j_Mat_data_0 at hf
  refine lv_aload_n hx hb d_Mat_data_0 rfl (lv_at hl 0 rfl) ?_
  refine va_get (D := (dC, dI)) (ci := 3) (v := .ref d) (C := R_Mat) (T := T_Mat) (N := 6) hx hb hts w_53 hown hK hP 0 rfl rfl 0 (by decide) (hts _ w_56) (fun _ h9 => h9) rfl d_Mat_data_1 ?_
  cases hf
  exact s_rret hx hb hr (Or.inl ⟨_, rfl⟩) hlocks hP hK hD hS d_Mat_data_4
end
noncomputable abbrev f_Mat_data  : Option (Unit) := j_Mat_data_0 
set_option maxRecDepth 100000 in
theorem c_Mat_data (l : Launch) (dC : Nat → ClassId) (dI : Nat → Nat → Nat) (cB cI cJ : ClassId) (mt d la ea : Nat) (mc : Int32) (ms : Int32) (ml : Int32)   (hf : f_Mat_data  = some ()) : MetR l y_Mat_data ws_Mat_data rm_Mat_data (dC, dI) vwCl [(cB, .byte), (cI, .int), (cJ, .long)] [.ref mt] (wd_Mat_data mt d la ea cB cI cJ mc ms ml) d (wd_Mat_data mt d la ea cB cI cJ mc ms ml) 0 0 :=
  s_ofr (bytes := cd_Mat_data) (maxL := 1) (ret := (some (.object "TokenFrames$Row"))) (by decide) rfl (Nat.le_of_ble_eq_true rfl) (fun p e s m below meth c A ls C hK hA hP hD hS hl => k_Mat_data_0 C hK hA mc ms ml hf hP hD hS (lv_sub hl [0] rfl))
end
section
abbrev rm_Mat_init : Room := { frames := 2, cells := 4, slots := 36098, locals := 35 }
abbrev wn_Mat_init (cB cI cJ : ClassId) (h0 : Nat) : (Nat × Nat × Nat × Nat) → va_W := (fun (u : Nat × Nat × Nat × Nat) => ([(h0, .inr (3, [.ref u.1, .ref u.2.2.1, .ref u.2.2.2, .int (0 : Int32), .int (0 : Int32), .int (0 : Int32)])), (u.1, .inr (1, [.ref u.2.1, .int (0 : Int32)])), (u.2.1, .inl (cB, 16000, .inl (fun _ => 0))), (u.2.2.1, .inl (cI, 4096, .inl (fun _ => 0))), (u.2.2.2, .inl (cI, 16000, .inl (fun _ => 0)))] : va_W))
set_option maxHeartbeats 4000000 in
set_option maxRecDepth 100000 in
theorem c_Mat_init (l : Launch) (dC : Nat → ClassId) (dI : Nat → Nat → Nat) (cB cI cJ : ClassId) (h0 : Nat) : MetN l y_Mat_init ws_Mat_init rm_Mat_init (dC, dI) vwCl [(cB, .byte), (cI, .int), (cJ, .long)] [.ref h0] [(h0, .inr (3, [.null, .null, .null, .int (0 : Int32), .int (0 : Int32), .int (0 : Int32)]))] (wn_Mat_init cB cI cJ h0 ) 4 36098 := by
  refine s_ofn (bytes := cd_Mat_init) (maxL := 1) (ret := none) (by decide) rfl (Nat.le_of_ble_eq_true rfl) ?_
  intro p e s m below meth c A ls C hin hK hA hP hD hS hl
  obtain ⟨hx, hb, hml, hown, hts, hr, hlocks, hZ⟩ := id C
  have hl : lv_has ls 1 [(0, .ref h0)] := hl
  refine lv_aload_n hx hb d_Mat_init_0 rfl (lv_at hl 0 rfl) ?_
  refine W.objInit hx hb hown (hts _ w_490) (hts _ w_487) (hts _ w_488) rfl (by rw [hml]; exact hl.1) rfl d_Mat_init_1 (Nat.le_of_ble_eq_true rfl) (Nat.le_of_ble_eq_true rfl) ?_
  refine W.eq (g2 := F0 m 4 ls []) rfl ?_
  refine lv_aload_n hx hb d_Mat_init_4 rfl (lv_at hl 0 rfl) ?_
  refine va_new (ci := 1) (fs := [.null, .int (0 : Int32)]) (C := R_Row) (T := T_Row) (N := 2) hx hb hts w_0 ty_Row ty_Row_ok hown (hts _ w_491) (hts _ w_492) (hts _ w_12) hK hP hD hS hA rfl (fun j hj => by rcases (show j = 0 ∨ j = 1 by omega) with rfl | rfl <;> rfl) (Nat.le_of_ble_eq_true rfl) (Nat.le_of_ble_eq_true rfl) d_Mat_init_5 (fun q5 H hP hD hS => ?_)
  have hP : va_P (dC, dI) vwCl [(h0, .inr (3, [.null, .null, .null, .int (0 : Int32), .int (0 : Int32), .int (0 : Int32)])), (q5, .inr (1, [.null, .int (0 : Int32)]))] H := hP
  have hD : va_D A [(h0, .inr (3, [.null, .null, .null, .int (0 : Int32), .int (0 : Int32), .int (0 : Int32)])), (q5, .inr (1, [.null, .int (0 : Int32)]))] := hD
  refine W.widen (k := 1) (n := 2) (Nat.le_of_ble_eq_true rfl) (Nat.le_of_ble_eq_true rfl) ?_
  refine lv_dup hx hb d_Mat_init_8 rfl ?_
  refine lv_sipush (v := 16000) hx hb d_Mat_init_9 (by decide) ?_
  refine s_In (As := [.int (16000 : Int32)]) (rest := [.ref q5, .ref h0]) (wr := [(h0, .inr (3, [.null, .null, .null, .int (0 : Int32), .int (0 : Int32), .int (0 : Int32)]))]) C.call (c_Row_init16 l dC dI cB cI cJ q5 ) (cwI 1 hts (gd_c w_493) rfl rfl rfl (hts _ w_12) (hts _ w_494) (hts _ w_495) rfl hd_Row_init ⟨Nat.le_of_ble_eq_true rfl, Nat.le_of_ble_eq_true rfl⟩) rfl hl.1 rfl (Nat.le_of_ble_eq_true rfl) d_Mat_init_12 ⟨Nat.le_of_ble_eq_true rfl, Nat.le_of_ble_eq_true rfl⟩ hZ hK hP hD hS hA [1] [0] rfl rfl rfl rfl (by decide) (fun u_12 H locs hP hD hS => ?_)
  obtain ⟨q12_0, rfl⟩ : ∃ z, z = u_12 := ⟨_, rfl⟩
  have hP : va_P (dC, dI) vwCl [(h0, .inr (3, [.null, .null, .null, .int (0 : Int32), .int (0 : Int32), .int (0 : Int32)])), (q5, .inr (1, [.ref q12_0, .int (0 : Int32)])), (q12_0, .inl (cB, 16000, .inl (fun _ => 0)))] H := hP
  have hD : va_D A [(h0, .inr (3, [.null, .null, .null, .int (0 : Int32), .int (0 : Int32), .int (0 : Int32)])), (q5, .inr (1, [.ref q12_0, .int (0 : Int32)])), (q12_0, .inl (cB, 16000, .inl (fun _ => 0)))] := hD
  refine W.widen (k := 2) (n := 16002) (Nat.le_of_ble_eq_true rfl) (Nat.le_of_ble_eq_true rfl) ?_
  refine va_putF (D := (dC, dI)) (ci := 3) (v := .ref q5) (ty := .object "TokenFrames$Row") (C := R_Mat) (T := T_Mat) (N := 6) hx hb hts w_53 ty_Mat ty_Mat_ok nm_Mat hown hK hP hD hS 0 rfl rfl 0 (by decide) (hts _ w_56) (fun _ h9 => h9) rfl hin rfl (by decide +kernel) rfl rfl (Nat.le_of_ble_eq_true rfl) d_Mat_init_15 (fun H locs hP hD hS => ?_)
  have hP : va_P (dC, dI) vwCl [(h0, .inr (3, [.ref q5, .null, .null, .int (0 : Int32), .int (0 : Int32), .int (0 : Int32)])), (q5, .inr (1, [.ref q12_0, .int (0 : Int32)])), (q12_0, .inl (cB, 16000, .inl (fun _ => 0)))] H := hP
  have hD : va_D A [(h0, .inr (3, [.ref q5, .null, .null, .int (0 : Int32), .int (0 : Int32), .int (0 : Int32)])), (q5, .inr (1, [.ref q12_0, .int (0 : Int32)])), (q12_0, .inl (cB, 16000, .inl (fun _ => 0)))] := hD
  refine lv_aload_n hx hb d_Mat_init_18 rfl (lv_at hl 0 rfl) ?_
  refine lv_sipush (v := 4096) hx hb d_Mat_init_19 (by decide) ?_
  refine s_newI (k0 := 4096) 1 hx hb (hts _ w_496) rfl hK hP hD hS hA (by decide) (by decide) (Nat.le_of_ble_eq_true rfl) (Nat.le_of_ble_eq_true rfl) (Nat.le_of_ble_eq_true rfl) d_Mat_init_22 (fun q22 H hP hD hS => ?_)
  have hP : va_P (dC, dI) vwCl [(h0, .inr (3, [.ref q5, .null, .null, .int (0 : Int32), .int (0 : Int32), .int (0 : Int32)])), (q5, .inr (1, [.ref q12_0, .int (0 : Int32)])), (q12_0, .inl (cB, 16000, .inl (fun _ => 0))), (q22, .inl (cI, 4096, .inl (fun _ => 0)))] H := hP
  have hD : va_D A [(h0, .inr (3, [.ref q5, .null, .null, .int (0 : Int32), .int (0 : Int32), .int (0 : Int32)])), (q5, .inr (1, [.ref q12_0, .int (0 : Int32)])), (q12_0, .inl (cB, 16000, .inl (fun _ => 0))), (q22, .inl (cI, 4096, .inl (fun _ => 0)))] := hD
  refine W.widen (k := 3) (n := 20098) (Nat.le_of_ble_eq_true rfl) (Nat.le_of_ble_eq_true rfl) ?_
  refine va_putF (D := (dC, dI)) (ci := 3) (v := .ref q22) (ty := .array .int) (C := R_Mat) (T := T_Mat) (N := 6) hx hb hts w_53 ty_Mat ty_Mat_ok nm_Mat hown hK hP hD hS 0 rfl rfl 1 (by decide) (hts _ w_65) (fun _ h9 => h9) rfl hin rfl (by decide +kernel) rfl rfl (Nat.le_of_ble_eq_true rfl) d_Mat_init_24 (fun H locs hP hD hS => ?_)
  have hP : va_P (dC, dI) vwCl [(h0, .inr (3, [.ref q5, .ref q22, .null, .int (0 : Int32), .int (0 : Int32), .int (0 : Int32)])), (q5, .inr (1, [.ref q12_0, .int (0 : Int32)])), (q12_0, .inl (cB, 16000, .inl (fun _ => 0))), (q22, .inl (cI, 4096, .inl (fun _ => 0)))] H := hP
  have hD : va_D A [(h0, .inr (3, [.ref q5, .ref q22, .null, .int (0 : Int32), .int (0 : Int32), .int (0 : Int32)])), (q5, .inr (1, [.ref q12_0, .int (0 : Int32)])), (q12_0, .inl (cB, 16000, .inl (fun _ => 0))), (q22, .inl (cI, 4096, .inl (fun _ => 0)))] := hD
  refine lv_aload_n hx hb d_Mat_init_27 rfl (lv_at hl 0 rfl) ?_
  refine lv_sipush (v := 16000) hx hb d_Mat_init_28 (by decide) ?_
  refine s_newI (k0 := 16000) 1 hx hb (hts _ w_496) rfl hK hP hD hS hA (by decide) (by decide) (Nat.le_of_ble_eq_true rfl) (Nat.le_of_ble_eq_true rfl) (Nat.le_of_ble_eq_true rfl) d_Mat_init_31 (fun q31 H hP hD hS => ?_)
  have hP : va_P (dC, dI) vwCl [(h0, .inr (3, [.ref q5, .ref q22, .null, .int (0 : Int32), .int (0 : Int32), .int (0 : Int32)])), (q5, .inr (1, [.ref q12_0, .int (0 : Int32)])), (q12_0, .inl (cB, 16000, .inl (fun _ => 0))), (q22, .inl (cI, 4096, .inl (fun _ => 0))), (q31, .inl (cI, 16000, .inl (fun _ => 0)))] H := hP
  have hD : va_D A [(h0, .inr (3, [.ref q5, .ref q22, .null, .int (0 : Int32), .int (0 : Int32), .int (0 : Int32)])), (q5, .inr (1, [.ref q12_0, .int (0 : Int32)])), (q12_0, .inl (cB, 16000, .inl (fun _ => 0))), (q22, .inl (cI, 4096, .inl (fun _ => 0))), (q31, .inl (cI, 16000, .inl (fun _ => 0)))] := hD
  refine W.widen (k := 4) (n := 36098) (Nat.le_of_ble_eq_true rfl) (Nat.le_of_ble_eq_true rfl) ?_
  refine va_putF (D := (dC, dI)) (ci := 3) (v := .ref q31) (ty := .array .int) (C := R_Mat) (T := T_Mat) (N := 6) hx hb hts w_53 ty_Mat ty_Mat_ok nm_Mat hown hK hP hD hS 0 rfl rfl 2 (by decide) (hts _ w_55) (fun _ h9 => h9) rfl hin rfl (by decide +kernel) rfl rfl (Nat.le_of_ble_eq_true rfl) d_Mat_init_33 (fun H locs hP hD hS => ?_)
  have hP : va_P (dC, dI) vwCl [(h0, .inr (3, [.ref q5, .ref q22, .ref q31, .int (0 : Int32), .int (0 : Int32), .int (0 : Int32)])), (q5, .inr (1, [.ref q12_0, .int (0 : Int32)])), (q12_0, .inl (cB, 16000, .inl (fun _ => 0))), (q22, .inl (cI, 4096, .inl (fun _ => 0))), (q31, .inl (cI, 16000, .inl (fun _ => 0)))] H := hP
  have hD : va_D A [(h0, .inr (3, [.ref q5, .ref q22, .ref q31, .int (0 : Int32), .int (0 : Int32), .int (0 : Int32)])), (q5, .inr (1, [.ref q12_0, .int (0 : Int32)])), (q12_0, .inl (cB, 16000, .inl (fun _ => 0))), (q22, .inl (cI, 4096, .inl (fun _ => 0))), (q31, .inl (cI, 16000, .inl (fun _ => 0)))] := hD
  exact s_nret (wn := wn_Mat_init cB cI cJ h0 ) (q5, q12_0, q22, q31) hx hb hr hlocks hP hK hD hS d_Mat_init_36
end
