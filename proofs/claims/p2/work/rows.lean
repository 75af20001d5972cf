section
-- ===== PART A: goes FIRST, ahead of the names: the tables' words, and 'selects' of the private methods out of them =====
/-- a private method of a class that the tables say can be made, by its rows of tables_1 -/
def lw_okq (q : MethodName × Nat) : Prop := (q.1.cls ≠ "java/lang/invoke/MethodHandle" ∧ q.1.cls ≠ "java/lang/invoke/VarHandle") ∧ Cond.instantiable q.1.cls q.2 ∈ tables_1 ∧ Cond.privateMethod q.1 ∈ tables_1 ∧ Cond.instanceMethod q.1 ∈ tables_1
theorem lw_p0 : lw_okq (⟨"java/lang/Throwable", "fillInStackTrace", "(I)Ljava/lang/Throwable;"⟩, 6) := ⟨⟨by decide +kernel, by decide +kernel⟩, List.mem_of_getElem? (i := 264) (by decide +kernel), List.mem_of_getElem? (i := 262) (by decide +kernel), List.mem_of_getElem? (i := 263) (by decide +kernel)⟩
theorem lw_p1 : lw_okq (⟨"LabelKernel$Labels", "indexOf", "(I)I"⟩, 2) := ⟨⟨by decide +kernel, by decide +kernel⟩, List.mem_of_getElem? (i := 30) (by decide +kernel), List.mem_of_getElem? (i := 297) (by decide +kernel), List.mem_of_getElem? (i := 298) (by decide +kernel)⟩
theorem lw_p2 : lw_okq (⟨"LabelKernel", "needThread", "(I)V"⟩, 5) := ⟨⟨by decide +kernel, by decide +kernel⟩, List.mem_of_getElem? (i := 16) (by decide +kernel), List.mem_of_getElem? (i := 364) (by decide +kernel), List.mem_of_getElem? (i := 365) (by decide +kernel)⟩
theorem lw_p3 : lw_okq (⟨"LabelKernel", "needThreadAndContainer", "(II)V"⟩, 5) := ⟨⟨by decide +kernel, by decide +kernel⟩, List.mem_of_getElem? (i := 16) (by decide +kernel), List.mem_of_getElem? (i := 420) (by decide +kernel), List.mem_of_getElem? (i := 421) (by decide +kernel)⟩
theorem lw_p4 : lw_okq (⟨"LabelKernel", "needMayMake", "(III)V"⟩, 5) := ⟨⟨by decide +kernel, by decide +kernel⟩, List.mem_of_getElem? (i := 16) (by decide +kernel), List.mem_of_getElem? (i := 424) (by decide +kernel), List.mem_of_getElem? (i := 425) (by decide +kernel)⟩
theorem lw_p5 : lw_okq (⟨"LabelKernel", "mayChange", "(II)Z"⟩, 5) := ⟨⟨by decide +kernel, by decide +kernel⟩, List.mem_of_getElem? (i := 16) (by decide +kernel), List.mem_of_getElem? (i := 428) (by decide +kernel), List.mem_of_getElem? (i := 429) (by decide +kernel)⟩
theorem lw_p6 : lw_okq (⟨"LabelKernel", "maySee", "(II)Z"⟩, 5) := ⟨⟨by decide +kernel, by decide +kernel⟩, List.mem_of_getElem? (i := 16) (by decide +kernel), List.mem_of_getElem? (i := 432) (by decide +kernel), List.mem_of_getElem? (i := 433) (by decide +kernel)⟩
theorem lw_p7 : lw_okq (⟨"LabelKernel", "mayBear", "(II)Z"⟩, 5) := ⟨⟨by decide +kernel, by decide +kernel⟩, List.mem_of_getElem? (i := 16) (by decide +kernel), List.mem_of_getElem? (i := 436) (by decide +kernel), List.mem_of_getElem? (i := 437) (by decide +kernel)⟩
theorem lw_p8 : lw_okq (⟨"LabelKernel", "needRoomIn", "(II)V"⟩, 5) := ⟨⟨by decide +kernel, by decide +kernel⟩, List.mem_of_getElem? (i := 16) (by decide +kernel), List.mem_of_getElem? (i := 462) (by decide +kernel), List.mem_of_getElem? (i := 463) (by decide +kernel)⟩
theorem lw_p9 : lw_okq (⟨"LabelKernel$Things", "quotasIn", "(I)I"⟩, 12) := ⟨⟨by decide +kernel, by decide +kernel⟩, List.mem_of_getElem? (i := 46) (by decide +kernel), List.mem_of_getElem? (i := 474) (by decide +kernel), List.mem_of_getElem? (i := 475) (by decide +kernel)⟩
theorem lw_p10 : lw_okq (⟨"LabelKernel", "needCell", "(IIII)V"⟩, 5) := ⟨⟨by decide +kernel, by decide +kernel⟩, List.mem_of_getElem? (i := 16) (by decide +kernel), List.mem_of_getElem? (i := 527) (by decide +kernel), List.mem_of_getElem? (i := 528) (by decide +kernel)⟩
theorem lw_p11 : lw_okq (⟨"LabelKernel", "needThere", "(III)V"⟩, 5) := ⟨⟨by decide +kernel, by decide +kernel⟩, List.mem_of_getElem? (i := 16) (by decide +kernel), List.mem_of_getElem? (i := 531) (by decide +kernel), List.mem_of_getElem? (i := 532) (by decide +kernel)⟩
theorem lw_p12 : lw_okq (⟨"LabelKernel", "needObjectIn", "(III)V"⟩, 5) := ⟨⟨by decide +kernel, by decide +kernel⟩, List.mem_of_getElem? (i := 16) (by decide +kernel), List.mem_of_getElem? (i := 562) (by decide +kernel), List.mem_of_getElem? (i := 563) (by decide +kernel)⟩
theorem lw_p13 : lw_okq (⟨"LabelKernel$Labels", "isJoinAt", "(IIII)Z"⟩, 2) := ⟨⟨by decide +kernel, by decide +kernel⟩, List.mem_of_getElem? (i := 30) (by decide +kernel), List.mem_of_getElem? (i := 610) (by decide +kernel), List.mem_of_getElem? (i := 611) (by decide +kernel)⟩
theorem lw_p14 : lw_okq (⟨"LabelKernelModel", "isLabel", "(I)Z"⟩, 3) := ⟨⟨by decide +kernel, by decide +kernel⟩, List.mem_of_getElem? (i := 725) (by decide +kernel), List.mem_of_getElem? (i := 749) (by decide +kernel), List.mem_of_getElem? (i := 750) (by decide +kernel)⟩
theorem lw_p15 : lw_okq (⟨"LabelKernelModel", "fail", "(I)I"⟩, 3) := ⟨⟨by decide +kernel, by decide +kernel⟩, List.mem_of_getElem? (i := 725) (by decide +kernel), List.mem_of_getElem? (i := 756) (by decide +kernel), List.mem_of_getElem? (i := 757) (by decide +kernel)⟩
def lw_privs_1 : List (MethodName × Nat) := [(⟨"java/lang/Throwable", "fillInStackTrace", "(I)Ljava/lang/Throwable;"⟩, 6), (⟨"LabelKernel$Labels", "indexOf", "(I)I"⟩, 2), (⟨"LabelKernel", "needThread", "(I)V"⟩, 5), (⟨"LabelKernel", "needThreadAndContainer", "(II)V"⟩, 5), (⟨"LabelKernel", "needMayMake", "(III)V"⟩, 5), (⟨"LabelKernel", "mayChange", "(II)Z"⟩, 5), (⟨"LabelKernel", "maySee", "(II)Z"⟩, 5), (⟨"LabelKernel", "mayBear", "(II)Z"⟩, 5), (⟨"LabelKernel", "needRoomIn", "(II)V"⟩, 5), (⟨"LabelKernel$Things", "quotasIn", "(I)I"⟩, 12), (⟨"LabelKernel", "needCell", "(IIII)V"⟩, 5), (⟨"LabelKernel", "needThere", "(III)V"⟩, 5), (⟨"LabelKernel", "needObjectIn", "(III)V"⟩, 5), (⟨"LabelKernel$Labels", "isJoinAt", "(IIII)Z"⟩, 2), (⟨"LabelKernelModel", "isLabel", "(I)Z"⟩, 3), (⟨"LabelKernelModel", "fail", "(I)I"⟩, 3)]
theorem lw_r1 : ∀ q ∈ lw_privs_1, lw_okq q := List.forall_mem_cons.mpr ⟨lw_p0, List.forall_mem_cons.mpr ⟨lw_p1, List.forall_mem_cons.mpr ⟨lw_p2, List.forall_mem_cons.mpr ⟨lw_p3, List.forall_mem_cons.mpr ⟨lw_p4, List.forall_mem_cons.mpr ⟨lw_p5, List.forall_mem_cons.mpr ⟨lw_p6, List.forall_mem_cons.mpr ⟨lw_p7, List.forall_mem_cons.mpr ⟨lw_p8, List.forall_mem_cons.mpr ⟨lw_p9, List.forall_mem_cons.mpr ⟨lw_p10, List.forall_mem_cons.mpr ⟨lw_p11, List.forall_mem_cons.mpr ⟨lw_p12, List.forall_mem_cons.mpr ⟨lw_p13, List.forall_mem_cons.mpr ⟨lw_p14, List.forall_mem_cons.mpr ⟨lw_p15, fun _ h => absurd h List.not_mem_nil⟩⟩⟩⟩⟩⟩⟩⟩⟩⟩⟩⟩⟩⟩⟩⟩
theorem lw_p16 : lw_okq (⟨"LabelKernelModel", "made", "(III)I"⟩, 3) := ⟨⟨by decide +kernel, by decide +kernel⟩, List.mem_of_getElem? (i := 725) (by decide +kernel), List.mem_of_getElem? (i := 760) (by decide +kernel), List.mem_of_getElem? (i := 761) (by decide +kernel)⟩
theorem lw_p17 : lw_okq (⟨"LabelKernelModel", "like", "(III)I"⟩, 3) := ⟨⟨by decide +kernel, by decide +kernel⟩, List.mem_of_getElem? (i := 725) (by decide +kernel), List.mem_of_getElem? (i := 764) (by decide +kernel), List.mem_of_getElem? (i := 765) (by decide +kernel)⟩
theorem lw_p18 : lw_okq (⟨"LabelKernelModel", "lev", "(II)I"⟩, 3) := ⟨⟨by decide +kernel, by decide +kernel⟩, List.mem_of_getElem? (i := 725) (by decide +kernel), List.mem_of_getElem? (i := 768) (by decide +kernel), List.mem_of_getElem? (i := 769) (by decide +kernel)⟩
theorem lw_p19 : lw_okq (⟨"LabelKernelModel", "under", "(IIZ)Z"⟩, 3) := ⟨⟨by decide +kernel, by decide +kernel⟩, List.mem_of_getElem? (i := 725) (by decide +kernel), List.mem_of_getElem? (i := 780) (by decide +kernel), List.mem_of_getElem? (i := 781) (by decide +kernel)⟩
theorem lw_p20 : lw_okq (⟨"LabelKernelModel", "giveCategory", "(I)I"⟩, 3) := ⟨⟨by decide +kernel, by decide +kernel⟩, List.mem_of_getElem? (i := 725) (by decide +kernel), List.mem_of_getElem? (i := 791) (by decide +kernel), List.mem_of_getElem? (i := 792) (by decide +kernel)⟩
theorem lw_p21 : lw_okq (⟨"LabelKernelModel", "threadOnly", "(I)Z"⟩, 3) := ⟨⟨by decide +kernel, by decide +kernel⟩, List.mem_of_getElem? (i := 725) (by decide +kernel), List.mem_of_getElem? (i := 795) (by decide +kernel), List.mem_of_getElem? (i := 796) (by decide +kernel)⟩
theorem lw_p22 : lw_okq (⟨"LabelKernelModel", "there", "(I)Z"⟩, 3) := ⟨⟨by decide +kernel, by decide +kernel⟩, List.mem_of_getElem? (i := 725) (by decide +kernel), List.mem_of_getElem? (i := 799) (by decide +kernel), List.mem_of_getElem? (i := 800) (by decide +kernel)⟩
theorem lw_p23 : lw_okq (⟨"LabelKernelModel", "at", "(II)I"⟩, 3) := ⟨⟨by decide +kernel, by decide +kernel⟩, List.mem_of_getElem? (i := 725) (by decide +kernel), List.mem_of_getElem? (i := 803) (by decide +kernel), List.mem_of_getElem? (i := 804) (by decide +kernel)⟩
theorem lw_p24 : lw_okq (⟨"LabelKernelModel", "makeContainer", "(IIII)I"⟩, 3) := ⟨⟨by decide +kernel, by decide +kernel⟩, List.mem_of_getElem? (i := 725) (by decide +kernel), List.mem_of_getElem? (i := 811) (by decide +kernel), List.mem_of_getElem? (i := 812) (by decide +kernel)⟩
theorem lw_p25 : lw_okq (⟨"LabelKernelModel", "starless", "(I)Z"⟩, 3) := ⟨⟨by decide +kernel, by decide +kernel⟩, List.mem_of_getElem? (i := 725) (by decide +kernel), List.mem_of_getElem? (i := 815) (by decide +kernel), List.mem_of_getElem? (i := 816) (by decide +kernel)⟩
theorem lw_p26 : lw_okq (⟨"LabelKernelModel", "make", "(IIIIII)I"⟩, 3) := ⟨⟨by decide +kernel, by decide +kernel⟩, List.mem_of_getElem? (i := 725) (by decide +kernel), List.mem_of_getElem? (i := 819) (by decide +kernel), List.mem_of_getElem? (i := 820) (by decide +kernel)⟩
theorem lw_p27 : lw_okq (⟨"LabelKernelModel", "changes", "(II)Z"⟩, 3) := ⟨⟨by decide +kernel, by decide +kernel⟩, List.mem_of_getElem? (i := 725) (by decide +kernel), List.mem_of_getElem? (i := 823) (by decide +kernel), List.mem_of_getElem? (i := 824) (by decide +kernel)⟩
theorem lw_p28 : lw_okq (⟨"LabelKernelModel", "sees", "(II)Z"⟩, 3) := ⟨⟨by decide +kernel, by decide +kernel⟩, List.mem_of_getElem? (i := 725) (by decide +kernel), List.mem_of_getElem? (i := 827) (by decide +kernel), List.mem_of_getElem? (i := 828) (by decide +kernel)⟩
theorem lw_p29 : lw_okq (⟨"LabelKernelModel", "starsOf", "(II)Z"⟩, 3) := ⟨⟨by decide +kernel, by decide +kernel⟩, List.mem_of_getElem? (i := 725) (by decide +kernel), List.mem_of_getElem? (i := 831) (by decide +kernel), List.mem_of_getElem? (i := 832) (by decide +kernel)⟩
theorem lw_p30 : lw_okq (⟨"LabelKernelModel", "use", "(I)I"⟩, 3) := ⟨⟨by decide +kernel, by decide +kernel⟩, List.mem_of_getElem? (i := 725) (by decide +kernel), List.mem_of_getElem? (i := 838) (by decide +kernel), List.mem_of_getElem? (i := 839) (by decide +kernel)⟩
theorem lw_p31 : lw_okq (⟨"LabelKernelModel", "deep", "(I)I"⟩, 3) := ⟨⟨by decide +kernel, by decide +kernel⟩, List.mem_of_getElem? (i := 725) (by decide +kernel), List.mem_of_getElem? (i := 842) (by decide +kernel), List.mem_of_getElem? (i := 843) (by decide +kernel)⟩
def lw_privs_2 : List (MethodName × Nat) := [(⟨"LabelKernelModel", "made", "(III)I"⟩, 3), (⟨"LabelKernelModel", "like", "(III)I"⟩, 3), (⟨"LabelKernelModel", "lev", "(II)I"⟩, 3), (⟨"LabelKernelModel", "under", "(IIZ)Z"⟩, 3), (⟨"LabelKernelModel", "giveCategory", "(I)I"⟩, 3), (⟨"LabelKernelModel", "threadOnly", "(I)Z"⟩, 3), (⟨"LabelKernelModel", "there", "(I)Z"⟩, 3), (⟨"LabelKernelModel", "at", "(II)I"⟩, 3), (⟨"LabelKernelModel", "makeContainer", "(IIII)I"⟩, 3), (⟨"LabelKernelModel", "starless", "(I)Z"⟩, 3), (⟨"LabelKernelModel", "make", "(IIIIII)I"⟩, 3), (⟨"LabelKernelModel", "changes", "(II)Z"⟩, 3), (⟨"LabelKernelModel", "sees", "(II)Z"⟩, 3), (⟨"LabelKernelModel", "starsOf", "(II)Z"⟩, 3), (⟨"LabelKernelModel", "use", "(I)I"⟩, 3), (⟨"LabelKernelModel", "deep", "(I)I"⟩, 3)]
theorem lw_r2 : ∀ q ∈ lw_privs_2, lw_okq q := List.forall_mem_cons.mpr ⟨lw_p16, List.forall_mem_cons.mpr ⟨lw_p17, List.forall_mem_cons.mpr ⟨lw_p18, List.forall_mem_cons.mpr ⟨lw_p19, List.forall_mem_cons.mpr ⟨lw_p20, List.forall_mem_cons.mpr ⟨lw_p21, List.forall_mem_cons.mpr ⟨lw_p22, List.forall_mem_cons.mpr ⟨lw_p23, List.forall_mem_cons.mpr ⟨lw_p24, List.forall_mem_cons.mpr ⟨lw_p25, List.forall_mem_cons.mpr ⟨lw_p26, List.forall_mem_cons.mpr ⟨lw_p27, List.forall_mem_cons.mpr ⟨lw_p28, List.forall_mem_cons.mpr ⟨lw_p29, List.forall_mem_cons.mpr ⟨lw_p30, List.forall_mem_cons.mpr ⟨lw_p31, fun _ h => absurd h List.not_mem_nil⟩⟩⟩⟩⟩⟩⟩⟩⟩⟩⟩⟩⟩⟩⟩⟩
theorem lw_p32 : lw_okq (⟨"LabelKernelModel", "makeSegment", "(IIII)I"⟩, 3) := ⟨⟨by decide +kernel, by decide +kernel⟩, List.mem_of_getElem? (i := 725) (by decide +kernel), List.mem_of_getElem? (i := 850) (by decide +kernel), List.mem_of_getElem? (i := 851) (by decide +kernel)⟩
theorem lw_p33 : lw_okq (⟨"LabelKernelModel", "makeGate", "(IIIII)I"⟩, 3) := ⟨⟨by decide +kernel, by decide +kernel⟩, List.mem_of_getElem? (i := 725) (by decide +kernel), List.mem_of_getElem? (i := 858) (by decide +kernel), List.mem_of_getElem? (i := 859) (by decide +kernel)⟩
theorem lw_p34 : lw_okq (⟨"LabelKernelModel", "cell", "(IIIIZI)I"⟩, 3) := ⟨⟨by decide +kernel, by decide +kernel⟩, List.mem_of_getElem? (i := 725) (by decide +kernel), List.mem_of_getElem? (i := 870) (by decide +kernel), List.mem_of_getElem? (i := 871) (by decide +kernel)⟩
theorem lw_p35 : lw_okq (⟨"LabelKernelModel", "named", "(IIII)Z"⟩, 3) := ⟨⟨by decide +kernel, by decide +kernel⟩, List.mem_of_getElem? (i := 725) (by decide +kernel), List.mem_of_getElem? (i := 874) (by decide +kernel), List.mem_of_getElem? (i := 875) (by decide +kernel)⟩
theorem lw_p36 : lw_okq (⟨"LabelKernelModel", "remove", "(III)I"⟩, 3) := ⟨⟨by decide +kernel, by decide +kernel⟩, List.mem_of_getElem? (i := 725) (by decide +kernel), List.mem_of_getElem? (i := 890) (by decide +kernel), List.mem_of_getElem? (i := 891) (by decide +kernel)⟩
theorem lw_p37 : lw_okq (⟨"LabelKernelModel", "go", "(IIIII)I"⟩, 3) := ⟨⟨by decide +kernel, by decide +kernel⟩, List.mem_of_getElem? (i := 725) (by decide +kernel), List.mem_of_getElem? (i := 906) (by decide +kernel), List.mem_of_getElem? (i := 907) (by decide +kernel)⟩
theorem lw_p38 : lw_okq (⟨"LabelKernelModel", "passes", "(IIII)Z"⟩, 3) := ⟨⟨by decide +kernel, by decide +kernel⟩, List.mem_of_getElem? (i := 725) (by decide +kernel), List.mem_of_getElem? (i := 910) (by decide +kernel), List.mem_of_getElem? (i := 911) (by decide +kernel)⟩
theorem lw_p39 : lw_okq (⟨"LabelKernelModel", "of", "(II)I"⟩, 3) := ⟨⟨by decide +kernel, by decide +kernel⟩, List.mem_of_getElem? (i := 725) (by decide +kernel), List.mem_of_getElem? (i := 918) (by decide +kernel), List.mem_of_getElem? (i := 919) (by decide +kernel)⟩
theorem lw_p40 : lw_okq (⟨"LabelKernelModel", "both", "(IIIII)I"⟩, 3) := ⟨⟨by decide +kernel, by decide +kernel⟩, List.mem_of_getElem? (i := 725) (by decide +kernel), List.mem_of_getElem? (i := 922) (by decide +kernel), List.mem_of_getElem? (i := 923) (by decide +kernel)⟩
theorem lw_p41 : lw_okq (⟨"LabelKernelModel", "objects", "()I"⟩, 3) := ⟨⟨by decide +kernel, by decide +kernel⟩, List.mem_of_getElem? (i := 725) (by decide +kernel), List.mem_of_getElem? (i := 942) (by decide +kernel), List.mem_of_getElem? (i := 943) (by decide +kernel)⟩
def lw_privs_3 : List (MethodName × Nat) := [(⟨"LabelKernelModel", "makeSegment", "(IIII)I"⟩, 3), (⟨"LabelKernelModel", "makeGate", "(IIIII)I"⟩, 3), (⟨"LabelKernelModel", "cell", "(IIIIZI)I"⟩, 3), (⟨"LabelKernelModel", "named", "(IIII)Z"⟩, 3), (⟨"LabelKernelModel", "remove", "(III)I"⟩, 3), (⟨"LabelKernelModel", "go", "(IIIII)I"⟩, 3), (⟨"LabelKernelModel", "passes", "(IIII)Z"⟩, 3), (⟨"LabelKernelModel", "of", "(II)I"⟩, 3), (⟨"LabelKernelModel", "both", "(IIIII)I"⟩, 3), (⟨"LabelKernelModel", "objects", "()I"⟩, 3)]
theorem lw_r3 : ∀ q ∈ lw_privs_3, lw_okq q := List.forall_mem_cons.mpr ⟨lw_p32, List.forall_mem_cons.mpr ⟨lw_p33, List.forall_mem_cons.mpr ⟨lw_p34, List.forall_mem_cons.mpr ⟨lw_p35, List.forall_mem_cons.mpr ⟨lw_p36, List.forall_mem_cons.mpr ⟨lw_p37, List.forall_mem_cons.mpr ⟨lw_p38, List.forall_mem_cons.mpr ⟨lw_p39, List.forall_mem_cons.mpr ⟨lw_p40, List.forall_mem_cons.mpr ⟨lw_p41, fun _ h => absurd h List.not_mem_nil⟩⟩⟩⟩⟩⟩⟩⟩⟩⟩
def lw_privs : List (MethodName × Nat) := lw_privs_1 ++ (lw_privs_2 ++ (lw_privs_3))
def lw_tbl : List Cond := k2_sels lw_privs ++ tables_1
theorem lw_privs_ok : ∀ q ∈ lw_privs, lw_okq q := by
  show ∀ q ∈ lw_privs_1 ++ (lw_privs_2 ++ (lw_privs_3)), lw_okq q
  exact List.forall_mem_append.mpr ⟨lw_r1, List.forall_mem_append.mpr ⟨lw_r2, lw_r3⟩⟩
end
section
/-! ===== BEGIN words of one list among another's, by their places ===== -/
theorem goodIn_r {big : List Cond} (ws : List Cond) (ps : List Nat) (hp : ws = ps.filterMap (fun i => big[i]?)) (h : ws.all goodWord = true) : GoodIn big ws := by
  intro w hw
  have h1 := List.all_eq_true.mp h w hw
  rw [hp] at hw
  obtain ⟨i, -, hi⟩ := List.mem_filterMap.mp hw
  have hm : w ∈ big := by first | exact List.mem_of_getElem? hi | exact List.getElem?_mem hi
  exact ⟨hm, good_of_word h1⟩
theorem goodIn_app {big a b : List Cond} (ha : GoodIn big a) (hb : GoodIn big b) : GoodIn big (a ++ b) := fun w h => (List.mem_append.mp h).elim (ha w) (hb w)
theorem goodIn_ca {big a b : List Cond} {c : Cond} (ha : GoodIn big (c :: a)) (hb : GoodIn big b) : GoodIn big (c :: (a ++ b)) := fun w h => (List.mem_cons.mp h).elim (fun e => ha w (List.mem_cons.mpr (Or.inl e))) (fun h => (List.mem_append.mp h).elim (fun h => ha w (List.mem_cons.mpr (Or.inr h))) (hb w))
theorem goodIn_sub {big ws : List Cond} (hm : ∀ w ∈ ws, w ∈ big) (h : ws.all goodWord = true) : GoodIn big ws := fun w hw => ⟨hm w hw, good_of_word (List.all_eq_true.mp h w hw)⟩
/-! ===== END ===== -/

/-! ===== BEGIN exceptions that leave a method, and their catching by the caller (launches without stack traces) ===== -/
section VXA
/-! The laws vx_back, vx_callV, vx_callS, vx_callSW, vx_throw0, vx_throwS follow proofs of the library, with one case more: JvmDerived/Free/Laws.lean (Back.of_free), Shelf42/LK1.lean (callV, callS), Shelf/KitTraced.lean (throwNew0V, throwNewS). -/
/-- where a method has thrown q: the class by its name, the cell, what was written, the world -/
def vx_T (XC : String → State → State → Prop) (st : State) (q : Addr) (t : State) (mc ms : Nat) (free : Addr → Prop) : Prop :=
  ∃ (E : String) (ce : Cell) (L : List Loc), XC E st t ∧ t.heap[q]? = some ce ∧ ce.vm = .none ∧ st.vm.findClass E = some ce.cls ∧ st.WarmedH t.vm ∧ st.sameButNew ({ t with vm := st.vm } : State) L mc ms ∧ ∀ z ∈ L, free z.base
def vx_Q (Qc : Array Value → State → Outcome → State → Prop) (XC : String → State → State → Prop) (mc ms : Nat) (free : Addr → Prop) : Array Value → State → Outcome → State → Prop := fun a st o t =>
  (Qc a st o t ∧ ∃ L, FrameEnd st o t L mc ms ∧ ∀ q ∈ L, free q.base) ∨ ∃ q, o = .threw q ∧ vx_T XC st q t mc ms free
/-- a callee that returns or throws -/
def vx_Met (l : Launch) (y : MethodName) (ws : List Cond) (rm : Room) (Pc : Array Value → State → Prop) (Qc : Array Value → State → Outcome → State → Prop) (XC : String → State → State → Prop) (mc ms : Nat) (free : Addr → Prop) : Prop :=
  MetFree l y (headSpec ws rm) Pc (fun _ _ _ _ _ => True) (vx_Q Qc XC mc ms free)
def vx_Post (XC : String → State → State → Prop) (mc ms : Nat) (free : Addr → Prop) : Pt → Array Value → Addr → Pt → Prop := fun A a q B =>
  ∃ (g : JFrame) (mk : MethodId) (t : State) (L : List Loc) (E : String) (ce : Cell), B.U.heap = t.heap ∧ B.U.vm = t.vm ∧ XC E (A.U.calling g mk a) t ∧ t.heap[q]? = some ce ∧ ce.vm = .none ∧ A.U.vm.findClass E = some ce.cls ∧ B.locs = A.locs ++ L ∧ (∀ z ∈ L, free z.base) ∧ B.cells = A.cells + mc ∧ B.slots = A.slots + ms
def vx_Back (l : Launch) (R : Room) (p : Program) (e : Env) (below : List Frame) (s : State) (sargs : Array Value) (y : MethodName) (len W9 : Nat)
    (Pre : Pt → Array Value → Prop) (Post : Pt → Array Value → Option Value → Pt → Prop) (PostX : Pt → Array Value → Addr → Pt → Prop) : Prop :=
  ∀ (m : MethodId) (meth : Method) (c : Code) (A : Pt) (g : JFrame) (ig : Instr) (mk : MethodId) (a : Array Value),
    Stand p l e R s m sargs below meth c A.U A.locs A.cells A.slots → g.method = m → g.locals.size = c.maxLocals → decode c.code g.pc = .ok (ig, len) →
    2 * g.monitorRoom + (g.stack.map fun v => v.category).sum ≤ W9 → A.U.methodNamed? y = some mk → Pre A a →
    (∃ (v : Option Value) (B : Pt), Stand p l e R s m sargs below meth c B.U B.locs B.cells B.slots ∧ Post A a v B ∧
      Steps p.tables e below (doInvoke e (A.U.setTop g) [] mk a).1 (B.U.setTop { g with pc := g.pc + len, stack := v.toList ++ g.stack })) ∨
    (∃ (q : Addr) (B : Pt), Stand p l e R s m sargs below meth c B.U B.locs B.cells B.slots ∧ PostX A a q B ∧
      Steps p.tables e below (doInvoke e (A.U.setTop g) [] mk a).1 ((B.U.setTop g).pushFrame (.throwing q)))
section Payer
variable {l : Launch} {R : Room} {p : Program} {e : Env} {below : List Frame} {s : State} {sargs : Array Value} {y : MethodName} {len W9 : Nat}
theorem vx_back {ws : List Cond} {rm : Room} {Pc : Array Value → State → Prop} {Qc : Array Value → State → Outcome → State → Prop} {XC : String → State → State → Prop} {mc ms : Nat} {free : Addr → Prop} {bytes : ByteArray} {maxL : Nat} {ret : Option FieldType}
    (hM : vx_Met l y ws rm Pc Qc XC mc ms free) (hblind : FrameBlind Pc) (hrc : rm.cells = mc) (hrs : rm.slots = ms)
    (hframes : rm.frames + 1 ≤ R.frames) (hlocals : W9 + (maxL + 11) + rm.locals ≤ R.locals)
    (hws : ∀ w ∈ ws, ∀ a' U, s.WarmedH U.vm → w.before a' U = true) (hcode : Cond.code y bytes maxL ret ∈ ws) (hinit : ∀ a' U, s.WarmedH U.vm → (Cond.initialized y.cls).before a' U = true) :
    vx_Back l R p e below s sargs y len W9 (PreOf R mc ms Pc) (PostOf Qc mc ms free) (vx_Post XC mc ms free) := by
  intro m meth c A g ig mk a X hg hsize hdg hW hn hp
  have h1 : (headSpec ws rm).pre.before a A.U = true := atoms_intro fun w hw => hws w hw _ _ X.warmed
  have h2 : (Cond.code y bytes maxL ret).before a A.U = true := hws _ hcode _ _ X.warmed
  have h3 : (Cond.initialized y.cls).before a A.U = true := hinit _ _ X.warmed
  have h4 : A.cells + (headSpec ws rm).room.cells ≤ R.cells := by rw [show (headSpec ws rm).room.cells = mc from hrc]; exact hp.1
  have h5 : A.slots + (headSpec ws rm).room.slots ≤ R.slots := by rw [show (headSpec ws rm).room.slots = ms from hrs]; exact hp.2.1
  have hPc : Pc a (A.U.calling g mk a) := hblind _ _ _ _ hp.2.2
  obtain ⟨U, Ls, c0, s0⟩ := A
  dsimp only [Pt.U, Pt.locs, Pt.cells, Pt.slots] at h1 h2 h3 h4 h5 X hn hPc ⊢
  obtain ⟨methY, cY, hmY, hcY, -, hlY, -, -, -, -⟩ := Cond.code_spec hn h2
  obtain ⟨kY, hkY, -⟩ := className_of_methodNamed hn
  have hinitY : kY.init = .initialized := Cond.initialized_spec (findClass_of_methodNamed hn) hkY h3
  have h : At U g.method c below := by rw [hg]; exact X.here
  have hlocals9 : W9 + (maxL + 11) + (headSpec ws rm).room.locals ≤ R.locals := hlocals
  have happ : (headSpec ws rm).appliesLoose y e.platform (U.calling g mk a) = true :=
    Spec.appliesLoose_calling (g := g) h hdg hn hkY hinitY
      (X.room_calling (g := g) (R' := (headSpec ws rm).room) hsize hmY hcY hframes (by rw [hlY]; omega) h4 h5) h1
  obtain ⟨mid, hmid⟩ := h.above
  have hfr : (U.setTop g).frames = (.java g :: mid) ++ below := by rw [State.frames_setTop' g h.top, hmid]; rfl
  obtain ⟨o, s₂, hsteps, -, hend, hq⟩ := Steps.callFree hM p X.admits X.cas X.clock (acts := []) hfr happ hPc trivial
  have hq' : vx_Q Qc XC mc ms free a (U.calling g mk a) o s₂ := hq
  rw [State.frames_setTop' g h.top] at hend
  obtain ⟨g₀, hg0⟩ := Option.isSome_iff_exists.mp h.top
  obtain ⟨r, hr⟩ := State.topJava?_eq_some.mp hg0
  have hr' : (({ U with heap := s₂.heap, slotsUsed := s₂.slotsUsed } : State).setVm s₂.vm).frames = .java g₀ :: r := hr
  rcases hq' with ⟨hqc, L, hfe, hL⟩ | ⟨q, rfl, E, ce, L, hx, hce, hcv, hcl, hW₂, hsm, hL⟩
  · obtain ⟨⟨v, rfl⟩, hW₂, e2, q2, q3, q4, q5, q6⟩ := id hfe
    have e3 : s₂ = ({ (U.calling g mk a).setFrames s₂.frames with heap := s₂.heap, slotsUsed := s₂.slotsUsed } : State).setVm s₂.vm := by
      have : s₂ = ({ s₂ with vm := (U.calling g mk a).vm } : State).setVm s₂.vm := rfl
      rw [e2] at this
      exact this
    obtain ⟨c₂, i₂, len₂, hc₂, hd₂, hf₂⟩ := hend
    have hW' : U.WarmedH s₂.vm := hW₂
    have hcc : c₂ = c := by
      have h1 : s₂.code? g.method = U.code? g.method := by
        rw [State.code?_eq, State.code?_eq, hW'.alike.method?]
      exact Option.some.inj (hc₂.symm.trans (h1.trans h.code))
    subst hcc
    have hlen : len₂ = len := by rw [hdg] at hd₂; cases hd₂; rfl
    subst hlen
    have hs₂ : s₂ = (({ U with heap := s₂.heap, slotsUsed := s₂.slotsUsed } : State).setVm s₂.vm).setTop { g with pc := g.pc + len₂, stack := v.toList ++ g.stack } := by
      refine e3.trans ?_
      rw [hf₂, State.calling_eq h.top, State.setFrames_setFrames, State.setTop_of_frames _ hr', hr]
      rfl
    have hsame : U.sameButNew ({ U with heap := s₂.heap, slotsUsed := s₂.slotsUsed } : State) L mc ms := by
      refine ⟨?_, q2, q3, q4, q5, q6⟩
      obtain ⟨t, ht, -⟩ := State.frames_cons hr
      show ({ U with heap := s₂.heap, slotsUsed := s₂.slotsUsed } : State) = { U.setFrames U.frames with heap := s₂.heap, slotsUsed := s₂.slotsUsed }
      rw [State.setFrames_self ht]
    subst hg
    refine Or.inl ⟨v, ⟨(({ U with heap := s₂.heap, slotsUsed := s₂.slotsUsed } : State).setVm s₂.vm), Ls ++ L, c0 + mc, s0 + ms⟩,
      ⟨X.admits, X.cas, X.clock, X.frames, X.room, X.hears, X.method, X.code, (X.here.setHeapUsed s₂.heap s₂.slotsUsed).setVm hW'.alike, X.tail, State.WarmedH.trans X.warmed hW', X.limits, X.bytes, X.same.trans (hsame.setVm s.vm)⟩,
      ⟨g, mk, s₂, L, rfl, rfl, hqc, rfl, hL, rfl, rfl⟩, ?_⟩
    show Steps p.tables e below _ ((({ U with heap := s₂.heap, slotsUsed := s₂.slotsUsed } : State).setVm s₂.vm).setTop { g with pc := g.pc + len₂, stack := v.toList ++ g.stack })
    rw [← hs₂]
    exact hsteps
  · obtain ⟨e2, q2, q3, q4, q5, q6⟩ := id hsm
    have e3 : s₂ = ({ (U.calling g mk a).setFrames s₂.frames with heap := s₂.heap, slotsUsed := s₂.slotsUsed } : State).setVm s₂.vm := by
      have : s₂ = ({ s₂ with vm := (U.calling g mk a).vm } : State).setVm s₂.vm := rfl
      rw [e2] at this
      exact this
    have hf₂ : s₂.frames = .throwing q :: .java g :: U.frames.tail := hend
    have hW' : U.WarmedH s₂.vm := hW₂
    have hs₂ : s₂ = ((({ U with heap := s₂.heap, slotsUsed := s₂.slotsUsed } : State).setVm s₂.vm).setTop g).pushFrame (.throwing q) := by
      refine e3.trans ?_
      rw [hf₂, State.calling_eq h.top, State.setFrames_setFrames, State.pushFrame, State.frames_setTop _ hr', State.setTop_of_frames _ hr', State.setFrames_setFrames, hr]
      rfl
    have hsame : U.sameButNew ({ U with heap := s₂.heap, slotsUsed := s₂.slotsUsed } : State) L mc ms := by
      refine ⟨?_, q2, q3, q4, q5, q6⟩
      obtain ⟨t, ht, -⟩ := State.frames_cons hr
      show ({ U with heap := s₂.heap, slotsUsed := s₂.slotsUsed } : State) = { U.setFrames U.frames with heap := s₂.heap, slotsUsed := s₂.slotsUsed }
      rw [State.setFrames_self ht]
    subst hg
    refine Or.inr ⟨q, ⟨(({ U with heap := s₂.heap, slotsUsed := s₂.slotsUsed } : State).setVm s₂.vm), Ls ++ L, c0 + mc, s0 + ms⟩,
      ⟨X.admits, X.cas, X.clock, X.frames, X.room, X.hears, X.method, X.code, (X.here.setHeapUsed s₂.heap s₂.slotsUsed).setVm hW'.alike, X.tail, State.WarmedH.trans X.warmed hW', X.limits, X.bytes, X.same.trans (hsame.setVm s.vm)⟩,
      ⟨g, mk, s₂, L, E, ce, rfl, rfl, hx, hce, hcv, hcl, rfl, hL, rfl, rfl⟩, ?_⟩
    show Steps p.tables e below _ (((({ U with heap := s₂.heap, slotsUsed := s₂.slotsUsed } : State).setVm s₂.vm).setTop g).pushFrame (.throwing q))
    rw [← hs₂]
    exact hsteps
end Payer
section Calls
variable {p : Program} {l : Launch} {e : Env} {R : Room} {s : State} {m : MethodId} {args : Array Value} {below : List Frame} {meth : Method} {c : Code} {T : State} {locs : List Loc} {cells slots : Nat}
theorem vx_callV (X : Stand p l e R s m args below meth c T locs cells slots) (hexec : p.tables.exec = Jvm.exec) {own C : String} {index : Nat} {y : MethodName} {bytes : ByteArray} {maxL : Nat} {ret : Option FieldType}
    (hown : s.vm.findClass own = some m.cls) (hlink : (Cond.methodLink own index y).before args s = true) (hinst : (Cond.instanceMethod y).before args s = true) (hsel : (Cond.selects C y y).before args s = true)
    (hcode : (Cond.code y bytes maxL ret).before args s = true) (hy : y.cls ≠ "java/lang/invoke/MethodHandle" ∧ y.cls ≠ "java/lang/invoke/VarHandle")
    {W9 : Nat} {Pre : Pt → Array Value → Prop} {Post : Pt → Array Value → Option Value → Pt → Prop} {PostX : Pt → Array Value → Addr → Pt → Prop} (hK : vx_Back l R p e below s args y 3 W9 Pre Post PostX)
    {b : Addr} {cellB : Cell} (hcell : T.heap[b]? = some cellB) (hobj : cellB.vm.isStatics = false) (hcls : s.vm.findClass C = some cellB.cls)
    {g : JFrame} (hg : g.method = m) (hsize : g.locals.size = c.maxLocals) {argsL rest : List Value} (hlen : ∀ sig, parseMethodDescriptor y.desc = some sig → argsL.length = sig.parameters.length)
    (hstack : g.stack = argsL.reverse ++ .ref b :: rest) (hW : 2 * g.monitorRoom + (rest.map fun v => v.category).sum ≤ W9) (hdg : decode c.code g.pc = .ok (.invokevirtual index, 3))
    (hpre : ∀ vm₁, s.WarmedH vm₁ → Pre ⟨T.setVm vm₁, locs, cells, slots⟩ (Value.ref b :: argsL).toArray) :
    (∃ (v : Option Value) (vm₁ : Vm) (B : Pt), s.WarmedH vm₁ ∧ Stand p l e R s m args below meth c B.U B.locs B.cells B.slots ∧ Post ⟨T.setVm vm₁, locs, cells, slots⟩ (Value.ref b :: argsL).toArray v B ∧
      ∀ target, Steps p.tables e below (B.U.setTop { g with pc := g.pc + 3, stack := v.toList ++ rest }) target → Steps p.tables e below (T.setTop g) target) ∨
    (∃ (q : Addr) (vm₁ : Vm) (B : Pt), s.WarmedH vm₁ ∧ Stand p l e R s m args below meth c B.U B.locs B.cells B.slots ∧ PostX ⟨T.setVm vm₁, locs, cells, slots⟩ (Value.ref b :: argsL).toArray q B ∧
      Steps p.tables e below (T.setTop g) ((B.U.setTop { g with stack := rest }).pushFrame (.throwing q))) := by
  obtain ⟨mk, methM, hnamed, hmethM, hstM, habM⟩ := Cond.instanceMethod_spec hinst
  obtain ⟨methM', cM, hmethM', -, -, -, -, -, -, hsigM⟩ := Cond.code_spec hnamed hcode
  cases hmethM.symm.trans hmethM'
  obtain ⟨c2, r2, m2, q1, q2, q3, q4, kP, hkP, hkPi⟩ := Cond.selects_spec hsel
  cases hcls.symm.trans q1
  cases (State.methodFound?_of_named hnamed hy).symm.trans q2
  cases hnamed.symm.trans q3
  have hselP : selectMethod e.platform s.vm cellB.cls mk = .method mk := by rw [Launch.admits_selectMethod X.admits]; exact q4
  obtain ⟨vm₁, X₁, hstep₁⟩ := X.invokevirtual hexec hown hlink hnamed hmethM hstM hkP hkPi hy (a := b) (cell := cellB) hcell
    (fun z h => by rw [h] at hobj; cases hobj) hselP hmethM habM hkP hkPi (g := g) hg (argsL := argsL) (rest := rest) (hlen _ hsigM) hstack hdg
  rcases hK m meth c ⟨T.setVm vm₁, locs, cells, slots⟩ { g with stack := rest } (.invokevirtual index) mk (Value.ref b :: argsL).toArray X₁ hg hsize hdg hW (X₁.named hnamed) (hpre vm₁ X₁.warmed) with ⟨v, B, X', hpost, hsteps⟩ | ⟨q, B, X', hpost, hsteps⟩
  · exact Or.inl ⟨v, vm₁, B, X₁.warmed, X', hpost, fun target h => hstep₁ _ fun acts => by rw [doInvoke_state]; exact hsteps.trans h⟩
  · exact Or.inr ⟨q, vm₁, B, X₁.warmed, X', hpost, hstep₁ _ fun acts => by rw [doInvoke_state]; exact hsteps⟩
theorem vx_callS (X : Stand p l e R s m args below meth c T locs cells slots) (hexec : p.tables.exec = Jvm.exec) {own : String} {index : Nat} {y : MethodName} {bytes : ByteArray} {maxL : Nat} {ret : Option FieldType}
    (hown : s.vm.findClass own = some m.cls) (hlink : (Cond.methodLink own index y).before args s = true) (hstat : (Cond.static y).before args s = true) (hinit : (Cond.initialized y.cls).before args s = true)
    (hcode : (Cond.code y bytes maxL ret).before args s = true) (hy : y.cls ≠ "java/lang/invoke/MethodHandle" ∧ y.cls ≠ "java/lang/invoke/VarHandle")
    {W9 : Nat} {Pre : Pt → Array Value → Prop} {Post : Pt → Array Value → Option Value → Pt → Prop} {PostX : Pt → Array Value → Addr → Pt → Prop} (hK : vx_Back l R p e below s args y 3 W9 Pre Post PostX)
    {g : JFrame} (hg : g.method = m) (hsize : g.locals.size = c.maxLocals) {argsL rest : List Value} (hlen : ∀ sig, parseMethodDescriptor y.desc = some sig → argsL.length = sig.parameters.length)
    (hstack : g.stack = argsL.reverse ++ rest) (hW : 2 * g.monitorRoom + (rest.map fun v => v.category).sum ≤ W9) (hdg : decode c.code g.pc = .ok (.invokestatic index, 3))
    (hpre : ∀ vm₁, s.WarmedH vm₁ → Pre ⟨T.setVm vm₁, locs, cells, slots⟩ argsL.toArray) :
    (∃ (v : Option Value) (vm₁ : Vm) (B : Pt), s.WarmedH vm₁ ∧ Stand p l e R s m args below meth c B.U B.locs B.cells B.slots ∧ Post ⟨T.setVm vm₁, locs, cells, slots⟩ argsL.toArray v B ∧
      ∀ target, Steps p.tables e below (B.U.setTop { g with pc := g.pc + 3, stack := v.toList ++ rest }) target → Steps p.tables e below (T.setTop g) target) ∨
    (∃ (q : Addr) (vm₁ : Vm) (B : Pt), s.WarmedH vm₁ ∧ Stand p l e R s m args below meth c B.U B.locs B.cells B.slots ∧ PostX ⟨T.setVm vm₁, locs, cells, slots⟩ argsL.toArray q B ∧
      Steps p.tables e below (T.setTop g) ((B.U.setTop { g with stack := rest }).pushFrame (.throwing q))) := by
  obtain ⟨mk, hnamed⟩ := Cond.code_named hcode
  obtain ⟨methM, cM, hmethM, -, -, -, -, -, -, hsigM⟩ := Cond.code_spec hnamed hcode
  have hstatic : methM.isStatic = true := Cond.static_spec hnamed hmethM hstat
  obtain ⟨kP, hkP, -⟩ := className_of_methodNamed hnamed
  have hinitP : kP.init = .initialized := Cond.initialized_spec (findClass_of_methodNamed hnamed) hkP hinit
  obtain ⟨vm₁, X₁, hstep₁⟩ := X.invokestatic hexec hown hlink hnamed hmethM hstatic hkP hinitP hy (g := g) hg (argsL := argsL) (rest := rest) (hlen _ hsigM) hstack hdg
  rcases hK m meth c ⟨T.setVm vm₁, locs, cells, slots⟩ { g with stack := rest } (.invokestatic index) mk argsL.toArray X₁ hg hsize hdg hW (X₁.named hnamed) (hpre vm₁ X₁.warmed) with ⟨v, B, X', hpost, hsteps⟩ | ⟨q, B, X', hpost, hsteps⟩
  · exact Or.inl ⟨v, vm₁, B, X₁.warmed, X', hpost, fun target h => hstep₁ _ fun acts => by rw [doInvoke_state]; exact hsteps.trans h⟩
  · exact Or.inr ⟨q, vm₁, B, X₁.warmed, X', hpost, hstep₁ _ fun acts => by rw [doInvoke_state]; exact hsteps⟩
end Calls
theorem vx_cls {s : State} {T : State} {vm₁ : Vm} {E : String} {k : ClassId} (hW : s.WarmedH vm₁) (h : (T.setVm vm₁).vm.findClass E = some k) : s.vm.findClass E = some k := by
  have h1 : vm₁.findClass E = some k := h
  rw [hW.alike.findClass] at h1
  exact h1
/-- the method's frame g, with q thrown over it -/
def vx_W (p : Program) (l : Launch) (e : Env) (R : Room) (s : State) (m : MethodId) (args : Array Value) (below : List Frame) (meth : Method) (c : Code) (H : Heap) (locs : List Loc) (cells slots : Nat) (Q : State → Prop) (g : JFrame) (q : Addr) : Prop :=
  ∀ T : State, T.heap = H → Stand p l e R s m args below meth c T locs cells slots → ∃ t, Steps p.tables e below ((T.setTop g).pushFrame (.throwing q)) t ∧ Q t
def vx_Run (p : Program) (l : Launch) (e : Env) (R : Room) (s : State) (m : MethodId) (args : Array Value) (below : List Frame) (meth : Method) (c : Code) (H : Heap) (locs : List Loc) (cells slots mc ms : Nat) (g : JFrame) (rest : List Value) (Qa : State → Outcome → State → Prop) (XC : String → State → State → Prop) (free : Addr → Prop) : Prop :=
  ∀ T : State, T.heap = H → Stand p l e R s m args below meth c T locs cells slots →
    (∃ (v : Option Value) (st₀ t T' : State) (L : List Loc), st₀.heap = H ∧ Stand p l e R s m args below meth c T' (locs ++ L) (cells + mc) (slots + ms) ∧ (∀ q ∈ L, free q.base) ∧ T'.heap = t.heap ∧ T'.vm = t.vm ∧ Qa st₀ (.returned v) t ∧
      Goes p e below T g T' { g with pc := g.pc + 3, stack := v.toList ++ rest }) ∨
    (∃ (q : Addr) (st₀ t T' : State) (L : List Loc) (E : String) (ce : Cell), st₀.heap = H ∧ Stand p l e R s m args below meth c T' (locs ++ L) (cells + mc) (slots + ms) ∧ (∀ z ∈ L, free z.base) ∧ T'.heap = t.heap ∧ T'.vm = t.vm ∧ XC E st₀ t ∧ t.heap[q]? = some ce ∧ ce.vm = .none ∧ s.vm.findClass E = some ce.cls ∧
      Steps p.tables e below (T.setTop g) ((T'.setTop { g with stack := rest }).pushFrame (.throwing q)))
def vx_X {S : Type} (px : S → Prop) (B : String → S → State → Prop) (A : Nat → Prop) : String → State → State → Prop := fun E st t => ∃ u : S, px u ∧ B E u t ∧ va_F A st t
section Runs
variable {p : Program} {l : Launch} {e : Env} {R : Room} {s : State} {m : MethodId} {args : Array Value} {below : List Frame} {meth : Method} {c : Code} {H : Heap} {locs : List Loc} {cells slots : Nat}
variable {y : MethodName} {bytes cc : ByteArray} {maxL nL mc ms n index : Nat} {ret : Option FieldType} {ws : List Cond} {rm : Room} {Pc : Array Value → State → Prop} {Qc : Array Value → State → Outcome → State → Prop} {XC : String → State → State → Prop} {free : Addr → Prop} {Ts : List Cond} {own C : String} {b : Addr} {As rest : List Value} {g : JFrame}
theorem vx_callBack (cb : CallB R s args own index y bytes maxL ret ws rm mc ms n) (hM : vx_Met l y ws rm Pc Qc XC mc ms free) (hbl : FrameBlind Pc) : vx_Back l R p e below s args y 3 8 (PreOf R mc ms Pc) (PostOf Qc mc ms free) (vx_Post XC mc ms free) := by
  obtain ⟨hrc, hrs, hfr, hlo, hws, hcw, -, hini, -⟩ := cb
  exact vx_back (bytes := bytes) (maxL := maxL) (ret := ret) hM hbl hrc hrs hfr hlo hws hcw (fun a' U hW => word_at hW (Or.inl (by first | rfl | simp [Cond.onTables, Cond.keeps, Cond.steady])) hini)
theorem vx_runV (S : CallFix p m c cc nL s args Ts own) (hM : vx_Met l y ws rm Pc Qc XC mc ms free) (cw : CallW R s args own C index y bytes maxL ret ws rm mc ms n) (hp : PreV s H C b Pc As)
    (hg : g.method = m) (hn : As.length = n) (hsize : g.locals.size = nL) (hstack : g.stack = As.reverse ++ .ref b :: rest) (hW : 2 * g.monitorRoom + (rest.map fun v => v.category).sum ≤ 8) (hdg : decode cc g.pc = .ok (.invokevirtual index, 3)) (hf : cells + mc ≤ R.cells ∧ slots + ms ≤ R.slots) :
    vx_Run p l e R s m args below meth c H locs cells slots mc ms g rest (Qc (Value.ref b :: As).toArray) XC free := by
  have hK : vx_Back l R p e below s args y 3 8 (PreOf R mc ms Pc) (PostOf Qc mc ms free) (vx_Post XC mc ms free) := vx_callBack cw.1 hM hp.1
  obtain ⟨⟨-, -, -, -, -, -, hcode, -, hy, hlen, hl⟩, hin, hse⟩ := cw
  obtain ⟨hx, hb, hml, ho, -⟩ := S
  obtain ⟨-, ⟨cellB, hcB, hoB, hclB⟩, hPc⟩ := hp
  intro T hT X
  rcases vx_callV X hx (C := C) (bytes := bytes) (maxL := maxL) (ret := ret) ho hl hin hse hcode hy hK (by rw [hT]; exact hcB) hoB hclB hg (hsize.trans hml.symm) (argsL := As) (rest := rest) (fun sig h => hn.trans (hlen sig h)) hstack hW (by rw [hb]; exact hdg)
    (fun vm₁ hW₁ => ⟨hf.1, hf.2, hPc (T.setVm vm₁) hT hW₁⟩) with ⟨v, vm₁, ⟨U', l2, c2, s2⟩, hW₁, X', ⟨g', mk, t, L, e1, e2, hq, h1, hL, h2, h3⟩, st⟩ | ⟨q, vm₁, ⟨U', l2, c2, s2⟩, hW₁, X', ⟨g', mk, t, L, E, ce, e1, e2, hq, hce, hcv, hcl, h1, hL, h2, h3⟩, st⟩
  · dsimp only [Pt.U, Pt.locs, Pt.cells, Pt.slots] at X' e1 e2 h1 h2 h3 st
    subst h1; subst h2; subst h3
    exact Or.inl ⟨v, (T.setVm vm₁).calling g' mk (Value.ref b :: As).toArray, t, U', L, hT, X', hL, e1, e2, hq, st⟩
  · dsimp only [Pt.U, Pt.locs, Pt.cells, Pt.slots] at X' e1 e2 h1 h2 h3 st hcl
    subst h1; subst h2; subst h3
    exact Or.inr ⟨q, (T.setVm vm₁).calling g' mk (Value.ref b :: As).toArray, t, U', L, E, ce, hT, X', hL, e1, e2, hq, hce, hcv, vx_cls hW₁ hcl, st⟩
theorem vx_runS (S : CallFix p m c cc nL s args Ts own) (hM : vx_Met l y ws rm Pc Qc XC mc ms free) (cw : CallB R s args own index y bytes maxL ret ws rm mc ms n ∧ (Cond.static y).before args s = true) (hp : PreS s H Pc As)
    (hg : g.method = m) (hn : As.length = n) (hsize : g.locals.size = nL) (hstack : g.stack = As.reverse ++ rest) (hW : 2 * g.monitorRoom + (rest.map fun v => v.category).sum ≤ 8) (hdg : decode cc g.pc = .ok (.invokestatic index, 3)) (hf : cells + mc ≤ R.cells ∧ slots + ms ≤ R.slots) :
    vx_Run p l e R s m args below meth c H locs cells slots mc ms g rest (Qc As.toArray) XC free := by
  have hK : vx_Back l R p e below s args y 3 8 (PreOf R mc ms Pc) (PostOf Qc mc ms free) (vx_Post XC mc ms free) := vx_callBack cw.1 hM hp.1
  obtain ⟨⟨-, -, -, -, -, -, hcode, hini, hy, hlen, hl⟩, hstt⟩ := cw
  obtain ⟨hx, hb, hml, ho, -⟩ := S
  intro T hT X
  rcases vx_callS X hx (bytes := bytes) (maxL := maxL) (ret := ret) ho hl hstt hini hcode hy hK hg (hsize.trans hml.symm) (argsL := As) (rest := rest) (fun sig h => hn.trans (hlen sig h)) hstack hW (by rw [hb]; exact hdg)
    (fun vm₁ hW₁ => ⟨hf.1, hf.2, hp.2 (T.setVm vm₁) hT hW₁⟩) with ⟨v, vm₁, ⟨U', l2, c2, s2⟩, hW₁, X', ⟨g', mk, t, L, e1, e2, hq, h1, hL, h2, h3⟩, st⟩ | ⟨q, vm₁, ⟨U', l2, c2, s2⟩, hW₁, X', ⟨g', mk, t, L, E, ce, e1, e2, hq, hce, hcv, hcl, h1, hL, h2, h3⟩, st⟩
  · dsimp only [Pt.U, Pt.locs, Pt.cells, Pt.slots] at X' e1 e2 h1 h2 h3 st
    subst h1; subst h2; subst h3
    exact Or.inl ⟨v, (T.setVm vm₁).calling g' mk As.toArray, t, U', L, hT, X', hL, e1, e2, hq, st⟩
  · dsimp only [Pt.U, Pt.locs, Pt.cells, Pt.slots] at X' e1 e2 h1 h2 h3 st hcl
    subst h1; subst h2; subst h3
    exact Or.inr ⟨q, (T.setVm vm₁).calling g' mk As.toArray, t, U', L, E, ce, hT, X', hL, e1, e2, hq, hce, hcv, vx_cls hW₁ hcl, st⟩
end Runs
section Rows
variable {p : Program} {l : Launch} {e : Env} {R : Room} {s : State} {m : MethodId} {args : Array Value} {below : List Frame} {meth : Method} {c : Code} {H : Heap} {locs : List Loc} {cells slots : Nat} {Q : State → Prop}
variable {mc ms : Nat} {free : Addr → Prop} {A0 A1 : Nat → Prop} {H0 : Heap} {a : Array Value} {pc : Nat} {ls : Array Slot} {st0 rest : List Value}
theorem vx_keep {st₀ t T' : State} {L : List Loc} (h0 : st₀.heap = H) (e1 : T'.heap = t.heap) (hS : va_S A0 H0 H locs) (hA : ∀ q, q < H.size → A1 q → A0 q) (hf : ∀ q, free q → A0 q) (hL : ∀ q ∈ L, free q.base) (hF : va_F A1 st₀ t) :
    H.size ≤ T'.heap.size ∧ (∀ q : Nat, q < H.size → ¬ A1 q → T'.heap[q]? = H[q]?) ∧ va_S A0 H0 T'.heap (locs ++ L) := by
  obtain ⟨hz, hk⟩ := hF
  rw [h0] at hz hk
  exact ⟨by rw [e1]; exact hz, fun q h1 h2 => by rw [e1]; exact hk q h1 h2,
    ⟨Nat.le_trans hS.1 (by rw [e1]; exact hz), fun q h1 h2 => by rw [e1, hk q (Nat.lt_of_lt_of_le h1 hS.1) (fun z => h2 (hA q (Nat.lt_of_lt_of_le h1 hS.1) z))]; exact hS.2.1 q h1 h2, fun q hq => by
      rcases List.mem_append.mp hq with h | h
      · exact hS.2.2 q h
      · exact hf _ (hL q h)⟩⟩
theorem vx_calli {S SX : Type} {post : Int32 → S → Prop} {px : SX → Prop} {B : S → State → Prop} {BX : String → SX → State → Prop} {AX : Nat → Prop} (hr : vx_Run p l e R s m args below meth c H locs cells slots mc ms (F0 m pc ls st0) rest (va_Qi post B A1 a) (vx_X px BX AX) free) (hS : va_S A0 H0 H locs) (hA : ∀ q, q < H.size → A1 q → A0 q) (hf : ∀ q, free q → A0 q) (hAX : ∀ q, q < H.size → AX q → A0 q)
    (kx : ∀ (E : String) (ce : Cell) (q9 : Addr) (u : SX) (t : State) (H1 : Heap) (locs1 : List Loc), t.heap = H1 → s.vm.Alike t.vm → px u → BX E u t → H.size ≤ H1.size → (∀ q : Nat, q < H.size → ¬ AX q → H1[q]? = H[q]?) → va_S A0 H0 H1 locs1 → H1[q9]? = some ce → ce.vm = .none → s.vm.findClass E = some ce.cls → vx_W p l e R s m args below meth c H1 locs1 (cells + mc) (slots + ms) Q (F0 m pc ls rest) q9)
    (kk : ∀ (r : Int32) (u : S) (t : State) (H1 : Heap) (locs1 : List Loc), t.heap = H1 → s.vm.Alike t.vm → post r u → B u t → H.size ≤ H1.size → (∀ q : Nat, q < H.size → ¬ A1 q → H1[q]? = H[q]?) → va_S A0 H0 H1 locs1 → W p l e R s m args below meth c H1 locs1 (cells + mc) (slots + ms) Q (F0 m (pc + 3) ls (.int r :: rest))) : W p l e R s m args below meth c H locs cells slots Q (F0 m pc ls st0) := by
  intro T hT X
  rcases hr T hT X with ⟨v, st₀, t, T', L, h0, X', hL, e1, e2, ⟨⟨r, u, hv, hp, hb⟩, hF⟩, st⟩ | ⟨q, st₀, t, T', L, E, ce, h0, X', hL, e1, e2, ⟨u, hp, hb, hF⟩, hce, hcv, hcl, st⟩
  · cases hv
    obtain ⟨k1, k2, k3⟩ := vx_keep h0 e1 hS hA hf hL hF
    obtain ⟨t2, a1, b1⟩ := kk r u t T'.heap (locs ++ L) e1.symm (by rw [← e2]; exact X'.warmed.alike) hp hb k1 k2 k3 T' rfl X'
    exact ⟨t2, st t2 a1, b1⟩
  · obtain ⟨k1, k2, k3⟩ := vx_keep h0 e1 hS hAX hf hL hF
    obtain ⟨t2, a1, b1⟩ := kx E ce q u t T'.heap (locs ++ L) e1.symm (by rw [← e2]; exact X'.warmed.alike) hp hb k1 k2 k3 (by rw [e1]; exact hce) hcv hcl T' rfl X'
    exact ⟨t2, st.trans a1, b1⟩
theorem vx_calll {S SX : Type} {post : Int64 → S → Prop} {px : SX → Prop} {B : S → State → Prop} {BX : String → SX → State → Prop} {AX : Nat → Prop} (hr : vx_Run p l e R s m args below meth c H locs cells slots mc ms (F0 m pc ls st0) rest (va_Ql post B A1 a) (vx_X px BX AX) free) (hS : va_S A0 H0 H locs) (hA : ∀ q, q < H.size → A1 q → A0 q) (hf : ∀ q, free q → A0 q) (hAX : ∀ q, q < H.size → AX q → A0 q)
    (kx : ∀ (E : String) (ce : Cell) (q9 : Addr) (u : SX) (t : State) (H1 : Heap) (locs1 : List Loc), t.heap = H1 → s.vm.Alike t.vm → px u → BX E u t → H.size ≤ H1.size → (∀ q : Nat, q < H.size → ¬ AX q → H1[q]? = H[q]?) → va_S A0 H0 H1 locs1 → H1[q9]? = some ce → ce.vm = .none → s.vm.findClass E = some ce.cls → vx_W p l e R s m args below meth c H1 locs1 (cells + mc) (slots + ms) Q (F0 m pc ls rest) q9)
    (kk : ∀ (r : Int64) (u : S) (t : State) (H1 : Heap) (locs1 : List Loc), t.heap = H1 → s.vm.Alike t.vm → post r u → B u t → H.size ≤ H1.size → (∀ q : Nat, q < H.size → ¬ A1 q → H1[q]? = H[q]?) → va_S A0 H0 H1 locs1 → W p l e R s m args below meth c H1 locs1 (cells + mc) (slots + ms) Q (F0 m (pc + 3) ls (.long r :: rest))) : W p l e R s m args below meth c H locs cells slots Q (F0 m pc ls st0) := by
  intro T hT X
  rcases hr T hT X with ⟨v, st₀, t, T', L, h0, X', hL, e1, e2, ⟨⟨r, u, hv, hp, hb⟩, hF⟩, st⟩ | ⟨q, st₀, t, T', L, E, ce, h0, X', hL, e1, e2, ⟨u, hp, hb, hF⟩, hce, hcv, hcl, st⟩
  · cases hv
    obtain ⟨k1, k2, k3⟩ := vx_keep h0 e1 hS hA hf hL hF
    obtain ⟨t2, a1, b1⟩ := kk r u t T'.heap (locs ++ L) e1.symm (by rw [← e2]; exact X'.warmed.alike) hp hb k1 k2 k3 T' rfl X'
    exact ⟨t2, st t2 a1, b1⟩
  · obtain ⟨k1, k2, k3⟩ := vx_keep h0 e1 hS hAX hf hL hF
    obtain ⟨t2, a1, b1⟩ := kx E ce q u t T'.heap (locs ++ L) e1.symm (by rw [← e2]; exact X'.warmed.alike) hp hb k1 k2 k3 (by rw [e1]; exact hce) hcv hcl T' rfl X'
    exact ⟨t2, st.trans a1, b1⟩
theorem vx_callf {S SX : Type} {post : UInt32 → S → Prop} {px : SX → Prop} {B : S → State → Prop} {BX : String → SX → State → Prop} {AX : Nat → Prop} (hr : vx_Run p l e R s m args below meth c H locs cells slots mc ms (F0 m pc ls st0) rest (va_Qf post B A1 a) (vx_X px BX AX) free) (hS : va_S A0 H0 H locs) (hA : ∀ q, q < H.size → A1 q → A0 q) (hf : ∀ q, free q → A0 q) (hAX : ∀ q, q < H.size → AX q → A0 q)
    (kx : ∀ (E : String) (ce : Cell) (q9 : Addr) (u : SX) (t : State) (H1 : Heap) (locs1 : List Loc), t.heap = H1 → s.vm.Alike t.vm → px u → BX E u t → H.size ≤ H1.size → (∀ q : Nat, q < H.size → ¬ AX q → H1[q]? = H[q]?) → va_S A0 H0 H1 locs1 → H1[q9]? = some ce → ce.vm = .none → s.vm.findClass E = some ce.cls → vx_W p l e R s m args below meth c H1 locs1 (cells + mc) (slots + ms) Q (F0 m pc ls rest) q9)
    (kk : ∀ (r : UInt32) (u : S) (t : State) (H1 : Heap) (locs1 : List Loc), t.heap = H1 → s.vm.Alike t.vm → post r u → B u t → H.size ≤ H1.size → (∀ q : Nat, q < H.size → ¬ A1 q → H1[q]? = H[q]?) → va_S A0 H0 H1 locs1 → W p l e R s m args below meth c H1 locs1 (cells + mc) (slots + ms) Q (F0 m (pc + 3) ls (.float r :: rest))) : W p l e R s m args below meth c H locs cells slots Q (F0 m pc ls st0) := by
  intro T hT X
  rcases hr T hT X with ⟨v, st₀, t, T', L, h0, X', hL, e1, e2, ⟨⟨r, u, hv, hp, hb⟩, hF⟩, st⟩ | ⟨q, st₀, t, T', L, E, ce, h0, X', hL, e1, e2, ⟨u, hp, hb, hF⟩, hce, hcv, hcl, st⟩
  · cases hv
    obtain ⟨k1, k2, k3⟩ := vx_keep h0 e1 hS hA hf hL hF
    obtain ⟨t2, a1, b1⟩ := kk r u t T'.heap (locs ++ L) e1.symm (by rw [← e2]; exact X'.warmed.alike) hp hb k1 k2 k3 T' rfl X'
    exact ⟨t2, st t2 a1, b1⟩
  · obtain ⟨k1, k2, k3⟩ := vx_keep h0 e1 hS hAX hf hL hF
    obtain ⟨t2, a1, b1⟩ := kx E ce q u t T'.heap (locs ++ L) e1.symm (by rw [← e2]; exact X'.warmed.alike) hp hb k1 k2 k3 (by rw [e1]; exact hce) hcv hcl T' rfl X'
    exact ⟨t2, st.trans a1, b1⟩
theorem vx_calld {S SX : Type} {post : UInt64 → S → Prop} {px : SX → Prop} {B : S → State → Prop} {BX : String → SX → State → Prop} {AX : Nat → Prop} (hr : vx_Run p l e R s m args below meth c H locs cells slots mc ms (F0 m pc ls st0) rest (va_Qd post B A1 a) (vx_X px BX AX) free) (hS : va_S A0 H0 H locs) (hA : ∀ q, q < H.size → A1 q → A0 q) (hf : ∀ q, free q → A0 q) (hAX : ∀ q, q < H.size → AX q → A0 q)
    (kx : ∀ (E : String) (ce : Cell) (q9 : Addr) (u : SX) (t : State) (H1 : Heap) (locs1 : List Loc), t.heap = H1 → s.vm.Alike t.vm → px u → BX E u t → H.size ≤ H1.size → (∀ q : Nat, q < H.size → ¬ AX q → H1[q]? = H[q]?) → va_S A0 H0 H1 locs1 → H1[q9]? = some ce → ce.vm = .none → s.vm.findClass E = some ce.cls → vx_W p l e R s m args below meth c H1 locs1 (cells + mc) (slots + ms) Q (F0 m pc ls rest) q9)
    (kk : ∀ (r : UInt64) (u : S) (t : State) (H1 : Heap) (locs1 : List Loc), t.heap = H1 → s.vm.Alike t.vm → post r u → B u t → H.size ≤ H1.size → (∀ q : Nat, q < H.size → ¬ A1 q → H1[q]? = H[q]?) → va_S A0 H0 H1 locs1 → W p l e R s m args below meth c H1 locs1 (cells + mc) (slots + ms) Q (F0 m (pc + 3) ls (.double r :: rest))) : W p l e R s m args below meth c H locs cells slots Q (F0 m pc ls st0) := by
  intro T hT X
  rcases hr T hT X with ⟨v, st₀, t, T', L, h0, X', hL, e1, e2, ⟨⟨r, u, hv, hp, hb⟩, hF⟩, st⟩ | ⟨q, st₀, t, T', L, E, ce, h0, X', hL, e1, e2, ⟨u, hp, hb, hF⟩, hce, hcv, hcl, st⟩
  · cases hv
    obtain ⟨k1, k2, k3⟩ := vx_keep h0 e1 hS hA hf hL hF
    obtain ⟨t2, a1, b1⟩ := kk r u t T'.heap (locs ++ L) e1.symm (by rw [← e2]; exact X'.warmed.alike) hp hb k1 k2 k3 T' rfl X'
    exact ⟨t2, st t2 a1, b1⟩
  · obtain ⟨k1, k2, k3⟩ := vx_keep h0 e1 hS hAX hf hL hF
    obtain ⟨t2, a1, b1⟩ := kx E ce q u t T'.heap (locs ++ L) e1.symm (by rw [← e2]; exact X'.warmed.alike) hp hb k1 k2 k3 (by rw [e1]; exact hce) hcv hcl T' rfl X'
    exact ⟨t2, st.trans a1, b1⟩
theorem vx_callv {S SX : Type} {post : S → Prop} {px : SX → Prop} {B : S → State → Prop} {BX : String → SX → State → Prop} {AX : Nat → Prop} (hr : vx_Run p l e R s m args below meth c H locs cells slots mc ms (F0 m pc ls st0) rest (va_Qv post B A1 a) (vx_X px BX AX) free) (hS : va_S A0 H0 H locs) (hA : ∀ q, q < H.size → A1 q → A0 q) (hf : ∀ q, free q → A0 q) (hAX : ∀ q, q < H.size → AX q → A0 q)
    (kx : ∀ (E : String) (ce : Cell) (q9 : Addr) (u : SX) (t : State) (H1 : Heap) (locs1 : List Loc), t.heap = H1 → s.vm.Alike t.vm → px u → BX E u t → H.size ≤ H1.size → (∀ q : Nat, q < H.size → ¬ AX q → H1[q]? = H[q]?) → va_S A0 H0 H1 locs1 → H1[q9]? = some ce → ce.vm = .none → s.vm.findClass E = some ce.cls → vx_W p l e R s m args below meth c H1 locs1 (cells + mc) (slots + ms) Q (F0 m pc ls rest) q9)
    (kk : ∀ (u : S) (t : State) (H1 : Heap) (locs1 : List Loc), t.heap = H1 → s.vm.Alike t.vm → post u → B u t → H.size ≤ H1.size → (∀ q : Nat, q < H.size → ¬ A1 q → H1[q]? = H[q]?) → va_S A0 H0 H1 locs1 → W p l e R s m args below meth c H1 locs1 (cells + mc) (slots + ms) Q (F0 m (pc + 3) ls (rest))) : W p l e R s m args below meth c H locs cells slots Q (F0 m pc ls st0) := by
  intro T hT X
  rcases hr T hT X with ⟨v, st₀, t, T', L, h0, X', hL, e1, e2, ⟨⟨u, hv, hp, hb⟩, hF⟩, st⟩ | ⟨q, st₀, t, T', L, E, ce, h0, X', hL, e1, e2, ⟨u, hp, hb, hF⟩, hce, hcv, hcl, st⟩
  · cases hv
    obtain ⟨k1, k2, k3⟩ := vx_keep h0 e1 hS hA hf hL hF
    obtain ⟨t2, a1, b1⟩ := kk u t T'.heap (locs ++ L) e1.symm (by rw [← e2]; exact X'.warmed.alike) hp hb k1 k2 k3 T' rfl X'
    exact ⟨t2, st t2 a1, b1⟩
  · obtain ⟨k1, k2, k3⟩ := vx_keep h0 e1 hS hAX hf hL hF
    obtain ⟨t2, a1, b1⟩ := kx E ce q u t T'.heap (locs ++ L) e1.symm (by rw [← e2]; exact X'.warmed.alike) hp hb k1 k2 k3 (by rw [e1]; exact hce) hcv hcl T' rfl X'
    exact ⟨t2, st.trans a1, b1⟩
/-- caught by the row x of this method's table; the rows ahead don't take it -/
theorem vx_catch {own name : String} {E : String} {ce : Cell} {q : Addr} (hown : s.vm.findClass own = some m.cls) (pre : List ExceptionTableEntry) (x : ExceptionTableEntry) (suf : List ExceptionTableEntry) (hsplit : c.exceptionTable.toList = pre ++ x :: suf)
    (hpass : ∀ z ∈ pre, covers z pc = false ∨ (z.catchType ≠ 0 ∧ ∃ nm : String, (Cond.classLink own z.catchType nm).before args s = true ∧ va_Nc E nm s)) (hx : covers x pc = true) (h0 : x.catchType ≠ 0)
    (hlink : (Cond.classLink own x.catchType name).before args s = true) (hcast : (Cond.castable E name).before args s = true) (hcell : H[q]? = some ce) (hv : ce.vm = .none) (hcl : s.vm.findClass E = some ce.cls)
    (kk : W p l e R s m args below meth c H locs cells slots Q (F0 m x.handlerPc ls [.ref q])) : vx_W p l e R s m args below meth c H locs cells slots Q (F0 m pc ls rest) q := by
  intro T hT X
  have hpl : e.platform.magicAccessors = ({} : Platform).magicAccessors := by rw [X.admits.platform]
  obtain ⟨c3, c4, hc3, hc4, hasg⟩ := Cond.castable_spec hcast
  cases Option.some.inj (hc3.symm.trans hcl)
  obtain ⟨c5, hc5, hcl5⟩ := Cond.classLink_spec hown hlink e.platform hpl
  cases Option.some.inj (hc4.symm.trans hc5)
  obtain ⟨vm', X', st⟩ := X.thenCaughtThrough q (g := F0 m pc ls rest) rfl (Steps.refl _) (by rw [hT]; exact hcell) (by rw [hv]; rfl) (by obtain ⟨k9, h9, -⟩ := Vm.findClass_spec hcl; exact ⟨k9, h9⟩) pre x suf hsplit
    (fun z hz => by
      rcases hpass z hz with h | ⟨hz0, nm, hl1, hn1⟩
      · exact Or.inl h
      · obtain ⟨c6, hc6, hcl6⟩ := Cond.classLink_spec hown hl1 e.platform hpl
        obtain ⟨a8, b8, h1, h2, h3⟩ := hn1
        cases Option.some.inj (h1.symm.trans hcl)
        cases Option.some.inj (h2.symm.trans hc6)
        exact Or.inr ⟨hz0, _, hcl6, h3⟩) hx (Or.inr ⟨h0, c4, hcl5, hasg⟩)
  obtain ⟨t, a1, b1⟩ := kk (T.setVm vm') hT X'
  exact ⟨t, st.trans a1, b1⟩
end Rows
section Ends
variable {p : Program} {l : Launch} {e : Env} {R : Room} {s : State} {m : MethodId} {args : Array Value} {below : List Frame} {meth : Method} {c : Code} {H : Heap} {locs : List Loc} {cells slots : Nat} {Q : State → Prop}
variable {mc ms : Nat} {free : Addr → Prop} {A0 A1 : Nat → Prop} {H0 : Heap} {a : Array Value} {ls : Array Slot} {st0 rest : List Value}
variable {Qc : Array Value → State → Outcome → State → Prop} {XC : String → State → State → Prop}
/-- what a body that may throw owes at its end -/
def vx_MQ (below : List Frame) (Qc : Array Value → State → Outcome → State → Prop) (XC : String → State → State → Prop) (a : Array Value) (s : State) (mc ms : Nat) (free : Addr → Prop) : State → Prop := fun t =>
  ∃ o, t.status = .running ∧ Ended t below o ∧ vx_Q Qc XC mc ms free a s o t
theorem vx_ret {g : JFrame} {mc ms : Nat} (k : W p l e R s m args below meth c H locs cells slots (MQ below Qc args s mc ms free) g) : W p l e R s m args below meth c H locs cells slots (vx_MQ below Qc XC args s mc ms free) g := by
  intro T hT X
  obtain ⟨t, a1, o, b1, b2, b3, b4⟩ := k T hT X
  exact ⟨t, a1, o, b1, b2, Or.inl ⟨b3, b4⟩⟩
/-- not caught here: it goes on to the caller -/
theorem vx_widen {g : JFrame} {q : Addr} {k n : Nat} (h1 : cells ≤ k) (h2 : slots ≤ n) (kk : vx_W p l e R s m args below meth c H locs k n Q g q) : vx_W p l e R s m args below meth c H locs cells slots Q g q := fun T hT X => kk T hT (stand_widen X h1 h2)
theorem vx_out {pc : Nat} {E : String} {ce : Cell} {q : Addr} {mc ms : Nat} (hout : ∀ x ∈ c.exceptionTable.toList, covers x pc = false) (hlocks : meth.locks = false) (hcell : H[q]? = some ce) (hv : ce.vm = .none) (hcl : s.vm.findClass E = some ce.cls)
    (hx : ∀ t : State, t.heap = H → s.vm.Alike t.vm → XC E s t) (hf : ∀ z ∈ locs, free z.base) (hc : cells ≤ mc) (hs : slots ≤ ms) :
    vx_W p l e R s m args below meth c H locs cells slots (vx_MQ below Qc XC args s mc ms free) (F0 m pc ls rest) q := by
  intro T hT X
  obtain ⟨st1, hrun, hend, hW, hsm⟩ := X.leaveThrown q (g := F0 m pc ls rest) rfl rfl rfl hout hlocks
  have hcell9 : (T.setFrames (.throwing q :: below)).heap[q]? = some ce := by
    show T.heap[q]? = some ce
    rw [hT]; exact hcell
  exact ⟨_, st1, .threw q, hrun, hend, Or.inr ⟨q, rfl, E, ce, locs, hx _ hT hW.alike, hcell9, hv, hcl, hW, hsm.mono hc hs, hf⟩⟩
theorem vx_frame {U : State} {k n : Nat} (h : s.sameButNew ({ U with vm := s.vm } : State) locs k n) : s.heap.size ≤ U.heap.size ∧ ∀ q : Nat, q < s.heap.size → (∀ z ∈ locs, z.base ≠ q) → U.heap[q]? = s.heap[q]? := by
  obtain ⟨-, h2, -, -, -, h6⟩ := h
  refine ⟨h2, fun q hq hz => ?_⟩
  obtain ⟨c9, e1, e2, e3, e4⟩ := h6 q _ (Array.getElem?_eq_getElem hq)
  have hs : c9.slots = (s.heap[q]).slots := Array.ext_getElem? fun i => e4 i fun hm => hz _ hm rfl
  have h9 : c9 = s.heap[q] := by
    rw [hs] at e2
    exact e2
  have e5 : U.heap[q]? = some c9 := e1
  rw [e5, h9, Array.getElem?_eq_getElem hq]
/-- the words of a throw but the four that speak of the heap -/
def vx_no (w : Cond) : Bool := decide (w ≠ .isRef (.static Bundle.tN "UNASSIGNED_STACK" Bundle.steD)) && decide (w ≠ .isRef (.static Bundle.tN "SUPPRESSED_SENTINEL" Bundle.listD)) && decide (w ≠ .laysStatic Bundle.tN "UNASSIGNED_STACK" Bundle.steD) && decide (w ≠ .laysStatic Bundle.tN "SUPPRESSED_SENTINEL" Bundle.listD)
def vx_at0 (own : String) (ic : Nat) (X : String) (names : List String) : List Cond := (Bundle.ownAtoms0 own ic X names).filter vx_no
def vx_atS (own : String) (ic : Nat) (X : String) (names : List String) : List Cond := (Bundle.ownAtoms own ic X names).filter vx_no
/-- a word that the tables alone decide, or a good one -/
def vx_ot (w : Cond) : Bool := w.onTables || goodWord w
theorem vx_ot_at {args a' : Array Value} {s U : State} {w : Cond} (hW : s.WarmedH U.vm) (hvm : s.vm = U.vm) (hg : vx_ot w = true) (h : w.before args s = true) : w.before a' U = true := by
  simp only [vx_ot, Bool.or_eq_true] at hg
  rcases hg with hg | hg
  · exact va_tabs hg hvm h
  · exact word_at hW (good_of_word hg) h
/-- a list's words: the good ones out of the method's own list, the others by premises of their own -/
theorem vx_hat {args : Array Value} {s : State} {L B : List Cond} (h1 : ∀ w ∈ L.filter goodWord, w.before args s = true) (h2 : ∀ w ∈ L.filter (fun w => !goodWord w), w ∈ B) (h3 : ∀ w ∈ B, w.before args s = true) : ∀ w ∈ L, w.before args s = true := by
  intro w hw
  by_cases g : goodWord w = true
  · exact h1 w (List.mem_filter.mpr ⟨hw, g⟩)
  · refine h3 w (h2 w (List.mem_filter.mpr ⟨hw, ?_⟩))
    show (!goodWord w) = true
    cases hgw : goodWord w
    · rfl
    · exact absurd hgw g
theorem vx_c {args : Array Value} {s : State} {w : Cond} {B : List Cond} (h : w.before args s = true) (t : ∀ w ∈ B, w.before args s = true) : ∀ w' ∈ w :: B, w'.before args s = true := fun w' h' => (List.mem_cons.mp h').elim (fun e => by rw [e]; exact h) (t w')
theorem vx_n {args : Array Value} {s : State} : ∀ w ∈ ([] : List Cond), w.before args s = true := fun _ h => nomatch h
theorem vx_own {args : Array Value} {s : State} {L : List Cond} (h1 : ∀ w ∈ L.filter vx_no, w.before args s = true)
    (hU : (Cond.isRef (.static Bundle.tN "UNASSIGNED_STACK" Bundle.steD)).before args s = true) (hN : (Cond.isRef (.static Bundle.tN "SUPPRESSED_SENTINEL" Bundle.listD)).before args s = true)
    (lU : (Cond.laysStatic Bundle.tN "UNASSIGNED_STACK" Bundle.steD).before args s = true) (lN : (Cond.laysStatic Bundle.tN "SUPPRESSED_SENTINEL" Bundle.listD).before args s = true) : ∀ w ∈ L, w.before args s = true := by
  intro w hw
  by_cases e1 : w = .isRef (.static Bundle.tN "UNASSIGNED_STACK" Bundle.steD)
  · rw [e1]; exact hU
  · by_cases e2 : w = .isRef (.static Bundle.tN "SUPPRESSED_SENTINEL" Bundle.listD)
    · rw [e2]; exact hN
    · by_cases e3 : w = .laysStatic Bundle.tN "UNASSIGNED_STACK" Bundle.steD
      · rw [e3]; exact lU
      · by_cases e4 : w = .laysStatic Bundle.tN "SUPPRESSED_SENTINEL" Bundle.listD
        · rw [e4]; exact lN
        · exact h1 w (List.mem_filter.mpr ⟨hw, by unfold vx_no; rw [decide_eq_true e1, decide_eq_true e2, decide_eq_true e3, decide_eq_true e4]; rfl⟩)
/-- where a static field lies, its class's statics cell in H -/
def vx_L (C n d : String) (A : Nat → Prop) (U : State) (H : Heap) : Prop := ∃ (c : ClassId) (k : Class) (i : Nat) (f : Field) (a : Nat) (cell : Cell), U.vm.findClass C = some c ∧ U.fieldFound? C n d = some (c, k, i, f) ∧ f.isStatic = true ∧ k.statics = some a ∧ H[a]? = some cell ∧ cell.vm.isStatics = true ∧ cell.cls = c ∧ f.slot < cell.slots.size ∧ k.staticTypes[f.slot]? = some f.type ∧ ¬ A a
theorem vx_L.moved {C n d : String} {A : Nat → Prop} {u U : State} {H : Heap} (hvm : u.vm.Alike U.vm) (h : vx_L C n d A u H) : vx_L C n d A U H := by
  obtain ⟨c, k, i, f, a, cell, h1, h2, h3, h4, h5, h6, h7, h8, h9, h10⟩ := h
  obtain ⟨k', hi', he⟩ := State.fieldFound?_setVm hvm h2
  exact ⟨c, k', i, f, a, cell, by rw [hvm.findClass]; exact h1, hi', h3, by rw [he]; exact h4, h5, h6, h7, h8, by rw [he]; exact h9, h10⟩
theorem vx_L.kept {C n d : String} {A : Nat → Prop} {U : State} {H H1 : Heap} (h : vx_L C n d A U H) (hq : ∀ a : Nat, a < H.size → ¬ A a → H1[a]? = H[a]?) : vx_L C n d A U H1 := by
  obtain ⟨c, k, i, f, a, cell, h1, h2, h3, h4, h5, h6, h7, h8, h9, h10⟩ := h
  exact ⟨c, k, i, f, a, cell, h1, h2, h3, h4, by rw [hq a (Array.getElem?_eq_some_iff.mp h5).1 h10]; exact h5, h6, h7, h8, h9, h10⟩
theorem vx_L.narrow {C n d : String} {A B : Nat → Prop} {U : State} {H : Heap} (h : vx_L C n d A U H) (hAB : ∀ q, B q → A q) : vx_L C n d B U H := by
  obtain ⟨c, k, i, f, a, cell, h1, h2, h3, h4, h5, h6, h7, h8, h9, h10⟩ := h
  exact ⟨c, k, i, f, a, cell, h1, h2, h3, h4, h5, h6, h7, h8, h9, fun z => h10 (hAB _ z)⟩
theorem vx_L.word {C n d : String} {A : Nat → Prop} {s : State} {args : Array Value} (h : vx_L C n d A s s.heap) : (Cond.laysStatic C n d).before args s = true := by
  obtain ⟨c, k, i, f, a, cell, h1, h2, h3, h4, h5, h6, h7, h8, h9, -⟩ := h
  show (Cond.laysStatic C n d).holds args s none s [] = true
  exact Cond.laysStatic_of h1 h2 h3 h4 h5 h6 h7 h8 h9
/-- .. and what it holds: null or some reference -/
def vx_Zq (C n d : String) (A : Nat → Prop) (U : State) (H : Heap) : Prop := va_Zq C n d A U H ∧ vx_L C n d A U H
theorem vx_Zq.moved {C n d : String} {A : Nat → Prop} {u U : State} {H : Heap} (hvm : u.vm.Alike U.vm) (h : vx_Zq C n d A u H) : vx_Zq C n d A U H := ⟨va_Zq.moved hvm h.1, vx_L.moved hvm h.2⟩
theorem vx_Zq.kept {C n d : String} {A : Nat → Prop} {U : State} {H H1 : Heap} (h : vx_Zq C n d A U H) (hq : ∀ a : Nat, a < H.size → ¬ A a → H1[a]? = H[a]?) : vx_Zq C n d A U H1 := ⟨va_Zq.kept h.1 hq, vx_L.kept h.2 hq⟩
theorem vx_Zq.narrow {C n d : String} {A B : Nat → Prop} {U : State} {H : Heap} (h : vx_Zq C n d A U H) (hAB : ∀ q, B q → A q) : vx_Zq C n d B U H := ⟨va_Zq.narrow h.1 hAB, vx_L.narrow h.2 hAB⟩
theorem vx_Zqof {args : Array Value} {s : State} {C n d : String} {A : Nat → Prop} (hl : (Cond.laysStatic C n d).before args s = true) (hini : (Cond.initialized C).before args s = true) (h : (Cond.isRef (.static C n d)).before args s = true) (hA : ∀ a : Nat, a < s.heap.size → ¬ A a) : vx_Zq C n d A s s.heap := by
  refine ⟨va_Zqof hl hini h hA, ?_⟩
  obtain ⟨c, k, i, f, a, cell, h1, h2, h3, h4, h5, h6, h7, h8, h9⟩ := Cond.laysStatic_spec hl
  exact ⟨c, k, i, f, a, cell, h1, h2, h3, h4, h5, h6, h7, h8, h9, hA a (Array.getElem?_eq_some_iff.mp h5).1⟩
theorem vx_isRef {C n d : String} {v : Value} {A : Nat → Prop} {s : State} {args : Array Value} (h : va_Z C n d v A s s.heap) (hv : v.isRef = true) : (Cond.isRef (.static C n d)).before args s = true := by
  obtain ⟨cf, kf, fi, f, a, cell, h1, h2, h3, h4, h5, h6, h7, -⟩ := h
  have he : (Term.static C n d).eval args s none [] s = some v := by
    simp [Term.eval, State.fieldNamed?, h1, h2, h4, h5, h6, h7]
  simp only [Cond.before, Cond.holds, Cond.value, he]
  cases v <;> simp_all [Value.isRef]
theorem vx_isRefq {C n d : String} {A : Nat → Prop} {s : State} {args : Array Value} (h : va_Zq C n d A s s.heap) : (Cond.isRef (.static C n d)).before args s = true := by
  rcases h with h | ⟨t, h⟩
  · exact vx_isRef h rfl
  · exact vx_isRef h rfl
/-- the same frame, seen from here: as if the method were called anew in this heap -/
theorem vx_rebase {T : State} (X : Stand p l e R s m args below meth c T locs cells slots) {R' : Room} (hf : R'.frames ≤ R.frames) (hl : R'.locals ≤ R.locals) (hc : cells + R'.cells ≤ R.cells) (hs : slots + R'.slots ≤ R.slots) :
    Stand p l e R' ((T.setVm s.vm).setFrames (.invoking m args :: below)) m args below meth c T [] 0 0 := by
  have htop : (T.setVm s.vm).topJava?.isSome := X.here.top
  have hF : ((T.setVm s.vm).setFrames (.invoking m args :: below)).frames = .invoking m args :: below := State.frames_setFrames _ (State.cur_lt_of_top htop)
  obtain ⟨g₀, hg0⟩ := Option.isSome_iff_exists.mp htop
  obtain ⟨r, hr⟩ := State.topJava?_eq_some.mp hg0
  have hl9 : e.platform.stackLimits (T.setVm s.vm).me = e.platform.stackLimits s.me := X.limits
  have hb9 : (T.setVm s.vm).me.stackBytes = s.me.stackBytes := X.bytes
  refine ⟨X.admits, X.cas, X.clock, hF, ?_, X.hears, X.method, X.code, X.here, X.tail, X.warmed, ?_, ?_, ?_⟩
  · have h := X.room
    have hU : ((T.setVm s.vm).setFrames (.invoking m args :: below)).localsInUse = s.localsInUse := by
      rw [State.localsInUse_invoking hF (meth := meth) (c := c) X.method X.code, State.localsInUse_invoking X.frames X.method X.code]
    simp only [State.hasRoom, Bool.and_eq_true, decide_eq_true_eq] at h ⊢
    obtain ⟨⟨⟨⟨h1, h2, h3, h4, h5, h6⟩, h7⟩, h8⟩, h9⟩ := h
    rw [X.frames, List.length_cons] at h2 h3
    have q1 := X.heapSize
    have q2 := X.used
    simp only [hF, hU, List.length_cons, State.stackLimits_setFrames, State.stackBytes_setFrames, hl9, hb9]
    refine ⟨⟨⟨⟨by omega, by omega, by omega, by omega, by omega, h6⟩, ?_⟩, ?_⟩, X.book⟩
    · show T.heap.size + R'.cells ≤ e.platform.maxCells
      omega
    · show T.slotsUsed + R'.slots ≤ e.platform.maxSlots
      omega
  · rw [State.stackLimits_setFrames]; rfl
  · rw [State.stackBytes_setFrames]; rfl
  · refine ⟨?_, Nat.le_refl _, Nat.le_refl _, ?_, ?_, fun a c9 h9 => ⟨c9, h9, rfl, rfl, fun _ _ => rfl⟩⟩
    · obtain ⟨t, ht, -⟩ := State.frames_cons hr
      show T.setVm s.vm = { ((T.setVm s.vm).setFrames (.invoking m args :: below)).setFrames (T.setVm s.vm).frames with heap := T.heap, slotsUsed := T.slotsUsed }
      rw [State.setFrames_setFrames, State.setFrames_self ht]
      rfl
    · show T.slotsUsed = T.slotsUsed + ((T.heap.toList.drop T.heap.size).map (·.slots.size)).sum
      rw [List.drop_eq_nil_of_le (Nat.le_of_eq Array.length_toList)]
      rfl
    · show ((T.heap.toList.drop T.heap.size).map (·.slots.size)).sum ≤ 0
      rw [List.drop_eq_nil_of_le (Nat.le_of_eq Array.length_toList)]
      exact Nat.le_refl _
/-- 'throw new E()': new; dup; invokespecial; athrow -/
theorem vx_throw0 {cc : ByteArray} {pc : Nat} (hexec : p.tables.exec = Jvm.exec) (hb : c.code = cc) (hl : l.stackTraces = false) {own cls : String} {names : List String} {ik ic mc ms : Nat} {A : Nat → Prop}
    (hown : s.vm.findClass own = some m.cls) (hcls : Bundle.fit cls = true) (hnames : ∀ n ∈ names, Bundle.fit n = true)
    (hk : (Cond.classLink own ik cls).before args s = true) (hini : (Cond.initialized cls).before args s = true) (hat : ∀ w ∈ vx_at0 own ic cls names, w.before args s = true)
    (hgood : ∀ w ∈ Cond.classLink own ik cls :: Cond.initialized cls :: vx_at0 own ic cls names, vx_ot w = true)
    (hU : vx_Zq Bundle.tN "UNASSIGNED_STACK" Bundle.steD A s s.heap) (hN : vx_Zq Bundle.tN "SUPPRESSED_SENTINEL" Bundle.listD A s s.heap) (hS : va_S A s.heap H locs) (hsize : ls.size = c.maxLocals)
    (d0 : decode cc pc = .ok (.new ik, 3)) (d3 : decode cc (pc + 3) = .ok (.dup, 1)) (d4 : decode cc (pc + 4) = .ok (.invokespecial ic, 3)) (d7 : decode cc (pc + 7) = .ok (.athrow, 1))
    (hout : ∀ x ∈ c.exceptionTable.toList, covers x (pc + 7) = false)
    (hRframes : names.length + 3 < R.frames) (hRlocals : (rest.map fun v => v.category).sum + (13 * (names.length + 1) + 42) ≤ R.locals) (hRcells : cells + 1 ≤ R.cells) (hRslots : slots + 6 ≤ R.slots) (hlocks : meth.locks = false)
    (hx : ∀ t : State, s.vm.Alike t.vm → H.size ≤ t.heap.size → (∀ q : Nat, q < H.size → t.heap[q]? = H[q]?) → XC cls s t)
    (hf : ∀ z ∈ locs, free z.base) (hc : cells + 1 ≤ mc) (hs : slots + 6 ≤ ms) :
    W p l e R s m args below meth c H locs cells slots (vx_MQ below Qc XC args s mc ms free) (F0 m pc ls rest) := by
  intro T hT X
  have htr : e.platform.stackTraces = false := (show e.platform.stackTraces = l.stackTraces by rw [X.admits.platform]).trans hl
  have Y := vx_rebase X (R' := { frames := R.frames, locals := R.locals, cells := 1, slots := 6 }) (Nat.le_refl _) (Nat.le_refl _) hRcells hRslots
  obtain ⟨s', hA⟩ : ∃ z, z = (T.setVm s.vm).setFrames (.invoking m args :: below) := ⟨_, rfl⟩
  rw [← hA] at Y
  have hvm : s'.vm = s.vm := by rw [hA]; rfl
  have hhp : s'.heap = H := by rw [hA]; exact hT
  have hW0 : s.WarmedH s'.vm := by rw [hvm]; exact State.WarmedH.refl s
  have hat' : ∀ w ∈ vx_at0 own ic cls names, w.before args s' = true := fun w hw => vx_ot_at hW0 hvm.symm (hgood w (List.mem_cons_of_mem _ (List.mem_cons_of_mem _ hw))) (hat w hw)
  have hk' : (Cond.classLink own ik cls).before args s' = true := vx_ot_at hW0 hvm.symm (hgood _ List.mem_cons_self) hk
  have hini' : (Cond.initialized cls).before args s' = true := vx_ot_at hW0 hvm.symm (hgood _ (List.mem_cons_of_mem _ List.mem_cons_self)) hini
  have hU' : vx_Zq Bundle.tN "UNASSIGNED_STACK" Bundle.steD A s' s'.heap := by rw [hhp]; exact vx_Zq.moved hW0.alike (hU.kept hS.2.1)
  have hN' : vx_Zq Bundle.tN "SUPPRESSED_SENTINEL" Bundle.listD A s' s'.heap := by rw [hhp]; exact vx_Zq.moved hW0.alike (hN.kept hS.2.1)
  have h : ∀ w ∈ Bundle.ownAtoms0 own ic cls names, w.before args s' = true := vx_own hat' (vx_isRefq hU'.1) (vx_isRefq hN'.1) hU'.2.word hN'.2.word
  have hown' : s'.vm.findClass own = some m.cls := by rw [hvm]; exact hown
  have hins : (Cond.instantiable cls 6).before args s' = true := h _ (by simp [Bundle.ownAtoms0])
  obtain ⟨vm₁, cX, kX, hfX, hkX, -, -, X₁, st1⟩ := Y.newCold hexec (own := own) (C := cls) (index := ik) (n := 6) hown' hk' hins hini'
    (g := F0 m pc ls rest) rfl (by rw [hb]; exact d0) (Nat.le_refl _) (Nat.le_refl _)
  generalize hT1 : (T.setVm vm₁).pushCell { cls := cX, slots := kX.instanceTypes.map defaultValue, vm := .none } = T1 at X₁ st1
  have hcat : (Value.ref T.heap.size).category = 1 := rfl
  have hcellA : T1.heap[T.heap.size]? = some (freshCell cX kX) := by rw [← hT1]; exact State.heap_pushCell_size _ _
  have d3' : decode c.code (pc + 3) = .ok (.dup, 1) := by rw [hb]; exact d3
  obtain ⟨U, hsteps, hrun, hend, hW, hsame, ce, hce, hO⟩ := X₁.ctorThrow0 hexec htr (own := own) (cls := cls) (names := names) (ic := ic) hown' hcls hnames h (fun x hx => nomatch hx) hfX hkX hcellA (by rw [hhp, hT]; exact Nat.le_refl _)
    (g := { method := m, pc := pc + 4, locals := ls, stack := .ref T.heap.size :: .ref T.heap.size :: rest, locked := none }) rfl hsize rfl rfl (rest := rest) rfl
    (by rw [hb]; exact d4) (by rw [hb]; exact d7) hout hRframes (by simp only [List.map_cons, List.sum_cons, hcat]; omega) hlocks
  obtain ⟨f1, f2⟩ := vx_frame hsame
  rw [hhp] at f1 f2
  have hWs : s.WarmedH U.vm := State.WarmedH.trans hW0 hW
  have hcl : s.vm.findClass cls = some ce.cls := by
    have h9 := hO.cls
    rw [hvm] at h9
    exact h9
  have hall : s.sameButNew ({ U with vm := s.vm } : State) locs mc ms := by
    subst hA
    obtain ⟨e1, e2⟩ := hsame
    rw [State.setFrames_setFrames] at e1
    have h2 : (T.setVm s.vm).sameButNew ({ U with vm := s.vm } : State) [] (0 + 1) (0 + 6) := ⟨e1, e2⟩
    have h3 := X.same.trans h2
    rw [List.append_nil] at h3
    exact h3.mono hc hs
  refine ⟨U, ?_, .threw T.heap.size, hrun, hend, Or.inr ⟨T.heap.size, rfl, cls, ce, locs, hx U hWs.alike f1 (fun q hq => f2 q hq (fun z hz => nomatch hz)), hce, hO.vm, hcl, hWs, hall, hf⟩⟩
  refine st1 _ ?_
  show Steps p.tables e below (T1.setTop { method := m, pc := pc + 3, locals := ls, stack := .ref T.heap.size :: rest, locked := none }) _
  jvm_step X₁.here [X₁.here.top, hexec, d3', Value.category]
  exact hsteps
end Ends
section Bodies
variable {l : Launch}
theorem vx_ofW {y : MethodName} {ws ws' : List Cond} {rm : Room} {Pc : Array Value → State → Prop} {Qc : Array Value → State → Outcome → State → Prop} {XC : String → State → State → Prop} {mc ms : Nat} {free : Addr → Prop} {cc : ByteArray} {maxL : Nat} {ret : Option FieldType}
    (hy : plainName y.cls = true) (hw : ws = Cond.code y cc maxL ret :: ws')
    (body : ∀ p e s m args below meth c s₁, BodyLoose p l y (headSpec ws rm) cc maxL ret e s m args below meth c s₁ → c.maxLocals = maxL → (∀ x ∈ c.exceptionTable.toList, False) → Pc args s →
      W p l e (headSpec ws rm).room s m args below meth c s.heap [] 0 0 (vx_MQ below Qc XC args s mc ms free) (entryFrame m args maxL)) : vx_Met l y ws rm Pc Qc XC mc ms free := by
  refine MetFree.of_bodyS (code := cc) (maxLocals := maxL) (ret := ret) hy ?_ ?_
  · intro args s m h hn
    obtain ⟨meth, c, h1, h2, h3, h4, h5, h6, -, -⟩ := Cond.code_spec hn (atoms_spec (ws := ws) h _ (by rw [hw]; exact List.mem_cons_self))
    exact ⟨meth, c, h1, h2, h3, h4, h5, h6⟩
  · intro p e s m args below meth c s₁ B hml hP _
    have hh0 : s₁.heap = s.heap := by rw [B.state]; rfl
    have ht : ∀ x ∈ c.exceptionTable.toList, False := by
      obtain ⟨meth9, c9, h1, h2, -, -, -, -, h7, -⟩ := Cond.code_spec B.named (atoms_spec (ws := ws) B.pre _ (by rw [hw]; exact List.mem_cons_self))
      cases Option.some.inj (h1.symm.trans B.method)
      cases Option.some.inj (h2.symm.trans (Stand.of_body B).code)
      intro x hx
      rw [Array.isEmpty_iff.mp h7] at hx
      cases hx
    obtain ⟨t, a1, o, b1, b2, b3⟩ := body p e s m args below meth c s₁ B hml ht hP s₁ hh0 (Stand.of_body B)
    exact ⟨t, o, a1, b1, b2, b3⟩
/-- the table of a body with handlers -/
theorem vx_table {p : Program} {x y : MethodName} {S : Spec} {cc bytes : ByteArray} {maxL maxL' : Nat} {ret ret' : Option FieldType} {e : Env} {s s₁ : State} {m : MethodId} {args : Array Value} {below : List Frame} {meth : Method} {c : Code} {hh : List (Nat × Nat × Nat × Nat)}
    (B : BodyLoose p l y S cc maxL ret e s m args below meth c s₁) (h : (Cond.codeWith y bytes maxL' ret' hh).before args s = true) : c.exceptionTable.toList = tableOf hh := by
  obtain ⟨m9, meth9, c9, hn9, h1, h2, -, -, h6, -⟩ := Cond.codeWith_spec h
  cases Option.some.inj (hn9.symm.trans B.named)
  cases Option.some.inj (h1.symm.trans B.method)
  cases Option.some.inj (h2.symm.trans (Stand.of_body B).code)
  rw [← h6, table_eq]
end Bodies
end VXA
/-! ===== END ===== -/
/-! ===== BEGIN a static call of a method with an exception table ===== -/
section VXS
variable {p : Program} {l : Launch} {e : Env} {R : Room} {s : State} {m : MethodId} {args : Array Value} {below : List Frame} {meth : Method} {c : Code} {T : State} {H : Heap} {locs : List Loc} {cells slots : Nat}
abbrev vx_CSW (R : Room) (s : State) (args : Array Value) (own : String) (index : Nat) (y : MethodName) (bytes : ByteArray) (maxL : Nat) (ret : Option FieldType) (hh : List (Nat × Nat × Nat × Nat)) (ws : List Cond) (rm : Room) (mc ms n : Nat) : Prop :=
  (rm.cells = mc ∧ rm.slots = ms ∧ rm.frames + 1 ≤ R.frames ∧ 8 + (maxL + 11) + rm.locals ≤ R.locals ∧ (∀ w ∈ ws, ∀ (a' : Array Value) (U : State), s.WarmedH U.vm → w.before a' U = true) ∧ Cond.codeWith y bytes maxL ret hh ∈ ws) ∧
  (Cond.codeWith y bytes maxL ret hh).before args s = true ∧ (Cond.initialized y.cls).before args s = true ∧ (y.cls ≠ "java/lang/invoke/MethodHandle" ∧ y.cls ≠ "java/lang/invoke/VarHandle") ∧
  (∀ sig, parseMethodDescriptor y.desc = some sig → n = sig.parameters.length) ∧ (Cond.methodLink own index y).before args s = true ∧ (Cond.static y).before args s = true
theorem vx_cwSW {own : String} {index maxL mc ms : Nat} {y : MethodName} {bytes : ByteArray} {ret : Option FieldType} {hh : List (Nat × Nat × Nat × Nat)} {Ts ws ws' : List Cond} {rm : Room} (n : Nat) (ht : ∀ w ∈ Ts, w.before args s = true) (hT : GoodIn Ts (va_wsS own index y ws)) (hw : ws = Cond.codeWith y bytes maxL ret hh :: ws') (hrc : rm.cells = mc) (hrs : rm.slots = ms)
    (hd : y.cls ≠ "java/lang/invoke/MethodHandle" ∧ y.cls ≠ "java/lang/invoke/VarHandle" ∧ (parseMethodDescriptor y.desc).map (fun d => d.parameters.length) = some n) (hR : rm.frames + 1 ≤ R.frames ∧ 8 + (maxL + 11) + rm.locals ≤ R.locals) :
    vx_CSW R s args own index y bytes maxL ret hh ws rm mc ms n := by
  have ok : ∀ w ∈ va_wsS own index y ws, w.before args s = true := fun w h => ht w (hT w h).1
  have hG : GoodIn Ts ws := fun w h => hT w (by unfold va_wsS; exact List.mem_append_right _ h)
  have hc : Cond.codeWith y bytes maxL ret hh ∈ ws := by rw [hw]; exact List.mem_cons_self
  refine ⟨⟨hrc, hrs, hR.1, hR.2, pay_in ht hG, hc⟩, ht _ (hG _ hc).1, ok _ (by simp [va_wsS]), ⟨hd.1, hd.2.1⟩, fun sig h => ?_, ok _ (by simp [va_wsS]), ok _ (by simp [va_wsS])⟩
  have h2 := hd.2.2
  rw [h] at h2
  exact (Option.some.inj h2).symm
theorem vx_callSW (X : Stand p l e R s m args below meth c T locs cells slots) (hexec : p.tables.exec = Jvm.exec) {own : String} {index : Nat} {y : MethodName} {bytes : ByteArray} {maxL : Nat} {ret : Option FieldType} {hh : List (Nat × Nat × Nat × Nat)}
    (hown : s.vm.findClass own = some m.cls) (hlink : (Cond.methodLink own index y).before args s = true) (hstat : (Cond.static y).before args s = true) (hinit : (Cond.initialized y.cls).before args s = true)
    (hcode : (Cond.codeWith y bytes maxL ret hh).before args s = true) (hy : y.cls ≠ "java/lang/invoke/MethodHandle" ∧ y.cls ≠ "java/lang/invoke/VarHandle")
    {W9 : Nat} {Pre : Pt → Array Value → Prop} {Post : Pt → Array Value → Option Value → Pt → Prop} (hK : Back l R p e below s args y 3 W9 Pre Post)
    {g : JFrame} (hg : g.method = m) (hsize : g.locals.size = c.maxLocals) {argsL rest : List Value} (hlen : ∀ sig, parseMethodDescriptor y.desc = some sig → argsL.length = sig.parameters.length)
    (hstack : g.stack = argsL.reverse ++ rest) (hW : 2 * g.monitorRoom + (rest.map fun v => v.category).sum ≤ W9) (hdg : decode c.code g.pc = .ok (.invokestatic index, 3))
    (hpre : ∀ vm₁, s.WarmedH vm₁ → Pre ⟨T.setVm vm₁, locs, cells, slots⟩ argsL.toArray) :
    ∃ (v : Option Value) (vm₁ : Vm) (B : Pt), s.WarmedH vm₁ ∧ Stand p l e R s m args below meth c B.U B.locs B.cells B.slots ∧ Post ⟨T.setVm vm₁, locs, cells, slots⟩ argsL.toArray v B ∧
      ∀ target, Steps p.tables e below (B.U.setTop { g with pc := g.pc + 3, stack := v.toList ++ rest }) target → Steps p.tables e below (T.setTop g) target := by
  obtain ⟨mk, methM, cM, hnamed, hmethM, -, -, -, -, -, -, hsigM⟩ := Cond.codeWith_spec hcode
  have hstatic : methM.isStatic = true := Cond.static_spec hnamed hmethM hstat
  obtain ⟨kP, hkP, -⟩ := className_of_methodNamed hnamed
  have hinitP : kP.init = .initialized := Cond.initialized_spec (findClass_of_methodNamed hnamed) hkP hinit
  obtain ⟨vm₁, X₁, hstep₁⟩ := X.invokestatic hexec hown hlink hnamed hmethM hstatic hkP hinitP hy (g := g) hg (argsL := argsL) (rest := rest) (hlen _ hsigM) hstack hdg
  obtain ⟨v, B, X', hpost, hsteps⟩ := hK m meth c ⟨T.setVm vm₁, locs, cells, slots⟩ { g with stack := rest } (.invokestatic index) mk argsL.toArray X₁ hg hsize hdg hW (X₁.named hnamed) (hpre vm₁ X₁.warmed)
  exact ⟨v, vm₁, B, X₁.warmed, X', hpost, fun target h => hstep₁ _ fun acts => by rw [doInvoke_state]; exact hsteps.trans h⟩
theorem vx_runSW {y : MethodName} {bytes cc : ByteArray} {maxL nL mc ms n index : Nat} {ret : Option FieldType} {hh : List (Nat × Nat × Nat × Nat)} {ws : List Cond} {rm : Room} {Pc : Array Value → State → Prop} {Qc : Array Value → State → Outcome → State → Prop} {free : Addr → Prop} {Ts : List Cond} {own : String} {As rest : List Value} {g : JFrame}
    (S : CallFix p m c cc nL s args Ts own) (hM : Met l y ws rm Pc Qc mc ms free) (cw : vx_CSW R s args own index y bytes maxL ret hh ws rm mc ms n) (hp : PreS s H Pc As)
    (hg : g.method = m) (hn : As.length = n) (hsize : g.locals.size = nL) (hstack : g.stack = As.reverse ++ rest) (hW : 2 * g.monitorRoom + (rest.map fun v => v.category).sum ≤ 8) (hdg : decode cc g.pc = .ok (.invokestatic index, 3)) (hf : cells + mc ≤ R.cells ∧ slots + ms ≤ R.slots) :
    va_Run p l e R s m args below meth c H locs cells slots mc ms g rest (Qc As.toArray) (free) := by
  obtain ⟨⟨hrc, hrs, hfr, hlo, hws, hcw⟩, hcode, hini, hy, hlen, hl, hstt⟩ := cw
  have hK : Back l R p e below s args y 3 8 (PreOf R mc ms Pc) (PostOf Qc mc ms free) := va_backW (hh := hh) (bytes := bytes) (maxL := maxL) (ret := ret) hM hp.1 hrc hrs hfr hlo hws hcw (fun a' U hW => word_at hW (Or.inl (by first | rfl | simp [Cond.onTables, Cond.keeps, Cond.steady])) hini)
  obtain ⟨hx, hb, hml, ho, -⟩ := S
  intro T hT X
  obtain ⟨v, vm₁, ⟨U', l2, c2, s2⟩, hW₁, X', ⟨g', mk, t, L, e1, e2, hq, h1, hL, h2, h3⟩, st⟩ := vx_callSW X hx (hh := hh) (bytes := bytes) (maxL := maxL) (ret := ret) ho hl hstt hini hcode hy hK hg (hsize.trans hml.symm) (argsL := As) (rest := rest) (fun sig h => hn.trans (hlen sig h)) hstack hW (by rw [hb]; exact hdg)
    (fun vm₁ hW₁ => ⟨hf.1, hf.2, hp.2 (T.setVm vm₁) hT hW₁⟩)
  dsimp only [Pt.U, Pt.locs, Pt.cells, Pt.slots] at X' e1 e2 h1 h2 h3 st
  subst h1; subst h2; subst h3
  exact ⟨v, (T.setVm vm₁).calling g' mk As.toArray, t, U', L, hT, X', hL, e1, e2, hq, st⟩
/-- not caught here, past rows that name other classes: it goes on to the caller -/
theorem vx_outP {p : Program} {l : Launch} {e : Env} {R : Room} {s : State} {m : MethodId} {args : Array Value} {below : List Frame} {meth : Method} {c : Code} {H : Heap} {locs : List Loc} {cells slots : Nat} {free : Addr → Prop} {ls : Array Slot} {rest : List Value} {Qc : Array Value → State → Outcome → State → Prop} {XC : String → State → State → Prop}
    {pc : Nat} {own E : String} {ce : Cell} {q : Addr} {mc ms : Nat} (hown : s.vm.findClass own = some m.cls) (hlocks : meth.locks = false)
    (hpass : ∀ z ∈ c.exceptionTable.toList, covers z pc = false ∨ (z.catchType ≠ 0 ∧ ∃ nm : String, (Cond.classLink own z.catchType nm).before args s = true ∧ va_Nc E nm s)) (hcell : H[q]? = some ce) (hv : ce.vm = .none) (hcl : s.vm.findClass E = some ce.cls)
    (hx : ∀ t : State, t.heap = H → s.vm.Alike t.vm → XC E s t) (hf : ∀ z ∈ locs, free z.base) (hc : cells ≤ mc) (hs : slots ≤ ms) :
    vx_W p l e R s m args below meth c H locs cells slots (vx_MQ below Qc XC args s mc ms free) (F0 m pc ls rest) q := by
  intro T hT X
  have hpl : e.platform.magicAccessors = ({} : Platform).magicAccessors := by rw [X.admits.platform]
  obtain ⟨vm', hW', X', st⟩ := X.outThrough hlocks q (g := F0 m pc ls rest) rfl rfl rfl (cell := ce) (by rw [hT]; exact hcell) (by rw [hv]; rfl)
    (by obtain ⟨k9, h9, -⟩ := Vm.findClass_spec hcl; exact ⟨k9, h9⟩) (fun z hz => by
      rcases hpass z hz with h | ⟨hz0, nm, hl1, hn1⟩
      · exact Or.inl h
      · obtain ⟨c6, hc6, hcl6⟩ := Cond.classLink_spec hown hl1 e.platform hpl
        obtain ⟨a8, b8, h1, h2, h3⟩ := hn1
        cases Option.some.inj (h1.symm.trans hcl)
        cases Option.some.inj (h2.symm.trans hc6)
        exact Or.inr ⟨hz0, _, hcl6, h3⟩)
  obtain ⟨g₀, hfr⟩ := X'.frames_eq
  have hcell9 : ((T.setVm vm').setFrames (.throwing q :: below)).heap[q]? = some ce := by
    show T.heap[q]? = some ce
    rw [hT]; exact hcell
  have hend : Ended ((T.setVm vm').setFrames (.throwing q :: below)) below (.threw q) := State.frames_setFrames _ (State.cur_lt_of_frames hfr)
  refine ⟨(T.setVm vm').setFrames (.throwing q :: below), ?_, .threw q, X'.here.running, hend, Or.inr ⟨q, rfl, E, ce, locs, hx _ hT (X'.ends _).1.alike, hcell9, hv, hcl, (X'.ends _).1, (X'.ends _).2.mono hc hs, hf⟩⟩
  rw [X.pushThrowing_eq]
  exact st
/-- a thing of a world lies in the heap -/
theorem vx_lt {D : va_G} {cl : List vw_C} {ws : va_W} {H1 : Heap} (h : va_P D cl ws H1) {k : Nat} {q : Nat × va_E} (hk : ws[k]? = some q) : q.1 < H1.size := (h k q hk).lt
end VXS
/-! ===== END ===== -/
/-! ===== BEGIN methods with a table of their own: called by a name, returning or throwing ===== -/
section VXH
/-! vx_backW, vx_callVX, vx_callSX, vx_callVW, vx_runVW, vx_runVX, vx_runSX, vx_ofWH follow the same proofs as their sisters above (Free/Laws.lean, Shelf42/LK1.lean); vx_outP calls Shelf42/NT130.lean (outThrough). -/
section
variable {l : Launch} {R : Room} {p : Program} {e : Env} {below : List Frame} {s : State} {sargs : Array Value} {y : MethodName} {len W9 : Nat}
theorem vx_backW {ws : List Cond} {rm : Room} {Pc : Array Value → State → Prop} {Qc : Array Value → State → Outcome → State → Prop} {XC : String → State → State → Prop} {mc ms : Nat} {free : Addr → Prop} {bytes : ByteArray} {maxL : Nat} {ret : Option FieldType} {hh : List (Nat × Nat × Nat × Nat)}
    (hM : vx_Met l y ws rm Pc Qc XC mc ms free) (hblind : FrameBlind Pc) (hrc : rm.cells = mc) (hrs : rm.slots = ms)
    (hframes : rm.frames + 1 ≤ R.frames) (hlocals : W9 + (maxL + 11) + rm.locals ≤ R.locals)
    (hws : ∀ w ∈ ws, ∀ a' U, s.WarmedH U.vm → w.before a' U = true) (hcode : Cond.codeWith y bytes maxL ret hh ∈ ws) (hinit : ∀ a' U, s.WarmedH U.vm → (Cond.initialized y.cls).before a' U = true) :
    vx_Back l R p e below s sargs y len W9 (PreOf R mc ms Pc) (PostOf Qc mc ms free) (vx_Post XC mc ms free) := by
  intro m meth c A g ig mk a X hg hsize hdg hW hn hp
  have h1 : (headSpec ws rm).pre.before a A.U = true := atoms_intro fun w hw => hws w hw _ _ X.warmed
  have h2 : (Cond.codeWith y bytes maxL ret hh).before a A.U = true := hws _ hcode _ _ X.warmed
  have h3 : (Cond.initialized y.cls).before a A.U = true := hinit _ _ X.warmed
  have h4 : A.cells + (headSpec ws rm).room.cells ≤ R.cells := by rw [show (headSpec ws rm).room.cells = mc from hrc]; exact hp.1
  have h5 : A.slots + (headSpec ws rm).room.slots ≤ R.slots := by rw [show (headSpec ws rm).room.slots = ms from hrs]; exact hp.2.1
  have hPc : Pc a (A.U.calling g mk a) := hblind _ _ _ _ hp.2.2
  obtain ⟨U, Ls, c0, s0⟩ := A
  dsimp only [Pt.U, Pt.locs, Pt.cells, Pt.slots] at h1 h2 h3 h4 h5 X hn hPc ⊢
  obtain ⟨m9, methY, cY, hn9, hmY, hcY, -, hlY, -⟩ := Cond.codeWith_spec h2
  cases Option.some.inj (hn9.symm.trans hn)
  obtain ⟨kY, hkY, -⟩ := className_of_methodNamed hn
  have hinitY : kY.init = .initialized := Cond.initialized_spec (findClass_of_methodNamed hn) hkY h3
  have h : At U g.method c below := by rw [hg]; exact X.here
  have hlocals9 : W9 + (maxL + 11) + (headSpec ws rm).room.locals ≤ R.locals := hlocals
  have happ : (headSpec ws rm).appliesLoose y e.platform (U.calling g mk a) = true :=
    Spec.appliesLoose_calling (g := g) h hdg hn hkY hinitY
      (X.room_calling (g := g) (R' := (headSpec ws rm).room) hsize hmY hcY hframes (by rw [hlY]; omega) h4 h5) h1
  obtain ⟨mid, hmid⟩ := h.above
  have hfr : (U.setTop g).frames = (.java g :: mid) ++ below := by rw [State.frames_setTop' g h.top, hmid]; rfl
  obtain ⟨o, s₂, hsteps, -, hend, hq⟩ := Steps.callFree hM p X.admits X.cas X.clock (acts := []) hfr happ hPc trivial
  have hq' : vx_Q Qc XC mc ms free a (U.calling g mk a) o s₂ := hq
  rw [State.frames_setTop' g h.top] at hend
  obtain ⟨g₀, hg0⟩ := Option.isSome_iff_exists.mp h.top
  obtain ⟨r, hr⟩ := State.topJava?_eq_some.mp hg0
  have hr' : (({ U with heap := s₂.heap, slotsUsed := s₂.slotsUsed } : State).setVm s₂.vm).frames = .java g₀ :: r := hr
  rcases hq' with ⟨hqc, L, hfe, hL⟩ | ⟨q, rfl, E, ce, L, hx, hce, hcv, hcl, hW₂, hsm, hL⟩
  · obtain ⟨⟨v, rfl⟩, hW₂, e2, q2, q3, q4, q5, q6⟩ := id hfe
    have e3 : s₂ = ({ (U.calling g mk a).setFrames s₂.frames with heap := s₂.heap, slotsUsed := s₂.slotsUsed } : State).setVm s₂.vm := by
      have : s₂ = ({ s₂ with vm := (U.calling g mk a).vm } : State).setVm s₂.vm := rfl
      rw [e2] at this
      exact this
    obtain ⟨c₂, i₂, len₂, hc₂, hd₂, hf₂⟩ := hend
    have hW' : U.WarmedH s₂.vm := hW₂
    have hcc : c₂ = c := by
      have h1 : s₂.code? g.method = U.code? g.method := by
        rw [State.code?_eq, State.code?_eq, hW'.alike.method?]
      exact Option.some.inj (hc₂.symm.trans (h1.trans h.code))
    subst hcc
    have hlen : len₂ = len := by rw [hdg] at hd₂; cases hd₂; rfl
    subst hlen
    have hs₂ : s₂ = (({ U with heap := s₂.heap, slotsUsed := s₂.slotsUsed } : State).setVm s₂.vm).setTop { g with pc := g.pc + len₂, stack := v.toList ++ g.stack } := by
      refine e3.trans ?_
      rw [hf₂, State.calling_eq h.top, State.setFrames_setFrames, State.setTop_of_frames _ hr', hr]
      rfl
    have hsame : U.sameButNew ({ U with heap := s₂.heap, slotsUsed := s₂.slotsUsed } : State) L mc ms := by
      refine ⟨?_, q2, q3, q4, q5, q6⟩
      obtain ⟨t, ht, -⟩ := State.frames_cons hr
      show ({ U with heap := s₂.heap, slotsUsed := s₂.slotsUsed } : State) = { U.setFrames U.frames with heap := s₂.heap, slotsUsed := s₂.slotsUsed }
      rw [State.setFrames_self ht]
    subst hg
    refine Or.inl ⟨v, ⟨(({ U with heap := s₂.heap, slotsUsed := s₂.slotsUsed } : State).setVm s₂.vm), Ls ++ L, c0 + mc, s0 + ms⟩,
      ⟨X.admits, X.cas, X.clock, X.frames, X.room, X.hears, X.method, X.code, (X.here.setHeapUsed s₂.heap s₂.slotsUsed).setVm hW'.alike, X.tail, State.WarmedH.trans X.warmed hW', X.limits, X.bytes, X.same.trans (hsame.setVm s.vm)⟩,
      ⟨g, mk, s₂, L, rfl, rfl, hqc, rfl, hL, rfl, rfl⟩, ?_⟩
    show Steps p.tables e below _ ((({ U with heap := s₂.heap, slotsUsed := s₂.slotsUsed } : State).setVm s₂.vm).setTop { g with pc := g.pc + len₂, stack := v.toList ++ g.stack })
    rw [← hs₂]
    exact hsteps
  · obtain ⟨e2, q2, q3, q4, q5, q6⟩ := id hsm
    have e3 : s₂ = ({ (U.calling g mk a).setFrames s₂.frames with heap := s₂.heap, slotsUsed := s₂.slotsUsed } : State).setVm s₂.vm := by
      have : s₂ = ({ s₂ with vm := (U.calling g mk a).vm } : State).setVm s₂.vm := rfl
      rw [e2] at this
      exact this
    have hf₂ : s₂.frames = .throwing q :: .java g :: U.frames.tail := hend
    have hW' : U.WarmedH s₂.vm := hW₂
    have hs₂ : s₂ = ((({ U with heap := s₂.heap, slotsUsed := s₂.slotsUsed } : State).setVm s₂.vm).setTop g).pushFrame (.throwing q) := by
      refine e3.trans ?_
      rw [hf₂, State.calling_eq h.top, State.setFrames_setFrames, State.pushFrame, State.frames_setTop _ hr', State.setTop_of_frames _ hr', State.setFrames_setFrames, hr]
      rfl
    have hsame : U.sameButNew ({ U with heap := s₂.heap, slotsUsed := s₂.slotsUsed } : State) L mc ms := by
      refine ⟨?_, q2, q3, q4, q5, q6⟩
      obtain ⟨t, ht, -⟩ := State.frames_cons hr
      show ({ U with heap := s₂.heap, slotsUsed := s₂.slotsUsed } : State) = { U.setFrames U.frames with heap := s₂.heap, slotsUsed := s₂.slotsUsed }
      rw [State.setFrames_self ht]
    subst hg
    refine Or.inr ⟨q, ⟨(({ U with heap := s₂.heap, slotsUsed := s₂.slotsUsed } : State).setVm s₂.vm), Ls ++ L, c0 + mc, s0 + ms⟩,
      ⟨X.admits, X.cas, X.clock, X.frames, X.room, X.hears, X.method, X.code, (X.here.setHeapUsed s₂.heap s₂.slotsUsed).setVm hW'.alike, X.tail, State.WarmedH.trans X.warmed hW', X.limits, X.bytes, X.same.trans (hsame.setVm s.vm)⟩,
      ⟨g, mk, s₂, L, E, ce, rfl, rfl, hx, hce, hcv, hcl, rfl, hL, rfl, rfl⟩, ?_⟩
    show Steps p.tables e below _ (((({ U with heap := s₂.heap, slotsUsed := s₂.slotsUsed } : State).setVm s₂.vm).setTop g).pushFrame (.throwing q))
    rw [← hs₂]
    exact hsteps
end
variable {p : Program} {l : Launch} {e : Env} {R : Room} {s : State} {m : MethodId} {args : Array Value} {below : List Frame} {meth : Method} {c : Code} {T : State} {H : Heap} {locs : List Loc} {cells slots : Nat}
theorem vx_callVX (X : Stand p l e R s m args below meth c T locs cells slots) (hexec : p.tables.exec = Jvm.exec) {own C : String} {index : Nat} {y : MethodName} {bytes : ByteArray} {maxL : Nat} {ret : Option FieldType} {hh : List (Nat × Nat × Nat × Nat)}
    (hown : s.vm.findClass own = some m.cls) (hlink : (Cond.methodLink own index y).before args s = true) (hinst : (Cond.instanceMethod y).before args s = true) (hsel : (Cond.selects C y y).before args s = true)
    (hcode : (Cond.codeWith y bytes maxL ret hh).before args s = true) (hy : y.cls ≠ "java/lang/invoke/MethodHandle" ∧ y.cls ≠ "java/lang/invoke/VarHandle")
    {W9 : Nat} {Pre : Pt → Array Value → Prop} {Post : Pt → Array Value → Option Value → Pt → Prop} {PostX : Pt → Array Value → Addr → Pt → Prop} (hK : vx_Back l R p e below s args y 3 W9 Pre Post PostX)
    {b : Addr} {cellB : Cell} (hcell : T.heap[b]? = some cellB) (hobj : cellB.vm.isStatics = false) (hcls : s.vm.findClass C = some cellB.cls)
    {g : JFrame} (hg : g.method = m) (hsize : g.locals.size = c.maxLocals) {argsL rest : List Value} (hlen : ∀ sig, parseMethodDescriptor y.desc = some sig → argsL.length = sig.parameters.length)
    (hstack : g.stack = argsL.reverse ++ .ref b :: rest) (hW : 2 * g.monitorRoom + (rest.map fun v => v.category).sum ≤ W9) (hdg : decode c.code g.pc = .ok (.invokevirtual index, 3))
    (hpre : ∀ vm₁, s.WarmedH vm₁ → Pre ⟨T.setVm vm₁, locs, cells, slots⟩ (Value.ref b :: argsL).toArray) :
    (∃ (v : Option Value) (vm₁ : Vm) (B : Pt), s.WarmedH vm₁ ∧ Stand p l e R s m args below meth c B.U B.locs B.cells B.slots ∧ Post ⟨T.setVm vm₁, locs, cells, slots⟩ (Value.ref b :: argsL).toArray v B ∧
      ∀ target, Steps p.tables e below (B.U.setTop { g with pc := g.pc + 3, stack := v.toList ++ rest }) target → Steps p.tables e below (T.setTop g) target) ∨
    (∃ (q : Addr) (vm₁ : Vm) (B : Pt), s.WarmedH vm₁ ∧ Stand p l e R s m args below meth c B.U B.locs B.cells B.slots ∧ PostX ⟨T.setVm vm₁, locs, cells, slots⟩ (Value.ref b :: argsL).toArray q B ∧
      Steps p.tables e below (T.setTop g) ((B.U.setTop { g with stack := rest }).pushFrame (.throwing q))) := by
  obtain ⟨mk, methM, hnamed, hmethM, hstM, habM⟩ := Cond.instanceMethod_spec hinst
  obtain ⟨m8, methM', cM, hn8, hmethM', -, -, -, -, -, -, hsigM⟩ := Cond.codeWith_spec hcode
  cases Option.some.inj (hn8.symm.trans hnamed)
  cases hmethM.symm.trans hmethM'
  obtain ⟨c2, r2, m2, q1, q2, q3, q4, kP, hkP, hkPi⟩ := Cond.selects_spec hsel
  cases hcls.symm.trans q1
  cases (State.methodFound?_of_named hnamed hy).symm.trans q2
  cases hnamed.symm.trans q3
  have hselP : selectMethod e.platform s.vm cellB.cls mk = .method mk := by rw [Launch.admits_selectMethod X.admits]; exact q4
  obtain ⟨vm₁, X₁, hstep₁⟩ := X.invokevirtual hexec hown hlink hnamed hmethM hstM hkP hkPi hy (a := b) (cell := cellB) hcell
    (fun z h => by rw [h] at hobj; cases hobj) hselP hmethM habM hkP hkPi (g := g) hg (argsL := argsL) (rest := rest) (hlen _ hsigM) hstack hdg
  rcases hK m meth c ⟨T.setVm vm₁, locs, cells, slots⟩ { g with stack := rest } (.invokevirtual index) mk (Value.ref b :: argsL).toArray X₁ hg hsize hdg hW (X₁.named hnamed) (hpre vm₁ X₁.warmed) with ⟨v, B, X', hpost, hsteps⟩ | ⟨q, B, X', hpost, hsteps⟩
  · exact Or.inl ⟨v, vm₁, B, X₁.warmed, X', hpost, fun target h => hstep₁ _ fun acts => by rw [doInvoke_state]; exact hsteps.trans h⟩
  · exact Or.inr ⟨q, vm₁, B, X₁.warmed, X', hpost, hstep₁ _ fun acts => by rw [doInvoke_state]; exact hsteps⟩
theorem vx_callSX (X : Stand p l e R s m args below meth c T locs cells slots) (hexec : p.tables.exec = Jvm.exec) {own : String} {index : Nat} {y : MethodName} {bytes : ByteArray} {maxL : Nat} {ret : Option FieldType} {hh : List (Nat × Nat × Nat × Nat)}
    (hown : s.vm.findClass own = some m.cls) (hlink : (Cond.methodLink own index y).before args s = true) (hstat : (Cond.static y).before args s = true) (hinit : (Cond.initialized y.cls).before args s = true)
    (hcode : (Cond.codeWith y bytes maxL ret hh).before args s = true) (hy : y.cls ≠ "java/lang/invoke/MethodHandle" ∧ y.cls ≠ "java/lang/invoke/VarHandle")
    {W9 : Nat} {Pre : Pt → Array Value → Prop} {Post : Pt → Array Value → Option Value → Pt → Prop} {PostX : Pt → Array Value → Addr → Pt → Prop} (hK : vx_Back l R p e below s args y 3 W9 Pre Post PostX)
    {g : JFrame} (hg : g.method = m) (hsize : g.locals.size = c.maxLocals) {argsL rest : List Value} (hlen : ∀ sig, parseMethodDescriptor y.desc = some sig → argsL.length = sig.parameters.length)
    (hstack : g.stack = argsL.reverse ++ rest) (hW : 2 * g.monitorRoom + (rest.map fun v => v.category).sum ≤ W9) (hdg : decode c.code g.pc = .ok (.invokestatic index, 3))
    (hpre : ∀ vm₁, s.WarmedH vm₁ → Pre ⟨T.setVm vm₁, locs, cells, slots⟩ argsL.toArray) :
    (∃ (v : Option Value) (vm₁ : Vm) (B : Pt), s.WarmedH vm₁ ∧ Stand p l e R s m args below meth c B.U B.locs B.cells B.slots ∧ Post ⟨T.setVm vm₁, locs, cells, slots⟩ argsL.toArray v B ∧
      ∀ target, Steps p.tables e below (B.U.setTop { g with pc := g.pc + 3, stack := v.toList ++ rest }) target → Steps p.tables e below (T.setTop g) target) ∨
    (∃ (q : Addr) (vm₁ : Vm) (B : Pt), s.WarmedH vm₁ ∧ Stand p l e R s m args below meth c B.U B.locs B.cells B.slots ∧ PostX ⟨T.setVm vm₁, locs, cells, slots⟩ argsL.toArray q B ∧
      Steps p.tables e below (T.setTop g) ((B.U.setTop { g with stack := rest }).pushFrame (.throwing q))) := by
  obtain ⟨mk, methM, cM, hnamed, hmethM, -, -, -, -, -, -, hsigM⟩ := Cond.codeWith_spec hcode
  have hstatic : methM.isStatic = true := Cond.static_spec hnamed hmethM hstat
  obtain ⟨kP, hkP, -⟩ := className_of_methodNamed hnamed
  have hinitP : kP.init = .initialized := Cond.initialized_spec (findClass_of_methodNamed hnamed) hkP hinit
  obtain ⟨vm₁, X₁, hstep₁⟩ := X.invokestatic hexec hown hlink hnamed hmethM hstatic hkP hinitP hy (g := g) hg (argsL := argsL) (rest := rest) (hlen _ hsigM) hstack hdg
  rcases hK m meth c ⟨T.setVm vm₁, locs, cells, slots⟩ { g with stack := rest } (.invokestatic index) mk argsL.toArray X₁ hg hsize hdg hW (X₁.named hnamed) (hpre vm₁ X₁.warmed) with ⟨v, B, X', hpost, hsteps⟩ | ⟨q, B, X', hpost, hsteps⟩
  · exact Or.inl ⟨v, vm₁, B, X₁.warmed, X', hpost, fun target h => hstep₁ _ fun acts => by rw [doInvoke_state]; exact hsteps.trans h⟩
  · exact Or.inr ⟨q, vm₁, B, X₁.warmed, X', hpost, hstep₁ _ fun acts => by rw [doInvoke_state]; exact hsteps⟩
theorem vx_callVW (X : Stand p l e R s m args below meth c T locs cells slots) (hexec : p.tables.exec = Jvm.exec) {own C : String} {index : Nat} {y : MethodName} {bytes : ByteArray} {maxL : Nat} {ret : Option FieldType} {hh : List (Nat × Nat × Nat × Nat)}
    (hown : s.vm.findClass own = some m.cls) (hlink : (Cond.methodLink own index y).before args s = true) (hinst : (Cond.instanceMethod y).before args s = true) (hsel : (Cond.selects C y y).before args s = true)
    (hcode : (Cond.codeWith y bytes maxL ret hh).before args s = true) (hy : y.cls ≠ "java/lang/invoke/MethodHandle" ∧ y.cls ≠ "java/lang/invoke/VarHandle")
    {W9 : Nat} {Pre : Pt → Array Value → Prop} {Post : Pt → Array Value → Option Value → Pt → Prop} (hK : Back l R p e below s args y 3 W9 Pre Post)
    {b : Addr} {cellB : Cell} (hcell : T.heap[b]? = some cellB) (hobj : cellB.vm.isStatics = false) (hcls : s.vm.findClass C = some cellB.cls)
    {g : JFrame} (hg : g.method = m) (hsize : g.locals.size = c.maxLocals) {argsL rest : List Value} (hlen : ∀ sig, parseMethodDescriptor y.desc = some sig → argsL.length = sig.parameters.length)
    (hstack : g.stack = argsL.reverse ++ .ref b :: rest) (hW : 2 * g.monitorRoom + (rest.map fun v => v.category).sum ≤ W9) (hdg : decode c.code g.pc = .ok (.invokevirtual index, 3))
    (hpre : ∀ vm₁, s.WarmedH vm₁ → Pre ⟨T.setVm vm₁, locs, cells, slots⟩ (Value.ref b :: argsL).toArray) :
    ∃ (v : Option Value) (vm₁ : Vm) (B : Pt), s.WarmedH vm₁ ∧ Stand p l e R s m args below meth c B.U B.locs B.cells B.slots ∧ Post ⟨T.setVm vm₁, locs, cells, slots⟩ (Value.ref b :: argsL).toArray v B ∧
      ∀ target, Steps p.tables e below (B.U.setTop { g with pc := g.pc + 3, stack := v.toList ++ rest }) target → Steps p.tables e below (T.setTop g) target := by
  obtain ⟨mk, methM, hnamed, hmethM, hstM, habM⟩ := Cond.instanceMethod_spec hinst
  obtain ⟨m8, methM', cM, hn8, hmethM', -, -, -, -, -, -, hsigM⟩ := Cond.codeWith_spec hcode
  cases Option.some.inj (hn8.symm.trans hnamed)
  cases hmethM.symm.trans hmethM'
  obtain ⟨c2, r2, m2, q1, q2, q3, q4, kP, hkP, hkPi⟩ := Cond.selects_spec hsel
  cases hcls.symm.trans q1
  cases (State.methodFound?_of_named hnamed hy).symm.trans q2
  cases hnamed.symm.trans q3
  have hselP : selectMethod e.platform s.vm cellB.cls mk = .method mk := by rw [Launch.admits_selectMethod X.admits]; exact q4
  obtain ⟨vm₁, X₁, hstep₁⟩ := X.invokevirtual hexec hown hlink hnamed hmethM hstM hkP hkPi hy (a := b) (cell := cellB) hcell
    (fun z h => by rw [h] at hobj; cases hobj) hselP hmethM habM hkP hkPi (g := g) hg (argsL := argsL) (rest := rest) (hlen _ hsigM) hstack hdg
  obtain ⟨v, B, X', hpost, hsteps⟩ := hK m meth c ⟨T.setVm vm₁, locs, cells, slots⟩ { g with stack := rest } (.invokevirtual index) mk (Value.ref b :: argsL).toArray X₁ hg hsize hdg hW (X₁.named hnamed) (hpre vm₁ X₁.warmed)
  exact ⟨v, vm₁, B, X₁.warmed, X', hpost, fun target h => hstep₁ _ fun acts => by rw [doInvoke_state]; exact hsteps.trans h⟩
abbrev vx_CVW (R : Room) (s : State) (args : Array Value) (own C : String) (index : Nat) (y : MethodName) (bytes : ByteArray) (maxL : Nat) (ret : Option FieldType) (hh : List (Nat × Nat × Nat × Nat)) (ws : List Cond) (rm : Room) (mc ms n : Nat) : Prop :=
  (rm.cells = mc ∧ rm.slots = ms ∧ rm.frames + 1 ≤ R.frames ∧ 8 + (maxL + 11) + rm.locals ≤ R.locals ∧ (∀ w ∈ ws, ∀ (a' : Array Value) (U : State), s.WarmedH U.vm → w.before a' U = true) ∧ Cond.codeWith y bytes maxL ret hh ∈ ws) ∧
  (Cond.codeWith y bytes maxL ret hh).before args s = true ∧ (Cond.initialized y.cls).before args s = true ∧ (y.cls ≠ "java/lang/invoke/MethodHandle" ∧ y.cls ≠ "java/lang/invoke/VarHandle") ∧
  (∀ sig, parseMethodDescriptor y.desc = some sig → n = sig.parameters.length) ∧ (Cond.methodLink own index y).before args s = true ∧ (Cond.instanceMethod y).before args s = true ∧ (Cond.selects C y y).before args s = true
theorem vx_cwVW {own C : String} {index maxL mc ms : Nat} {y : MethodName} {bytes : ByteArray} {ret : Option FieldType} {hh : List (Nat × Nat × Nat × Nat)} {Ts ws ws' : List Cond} {rm : Room} (n : Nat) (ht : ∀ w ∈ Ts, w.before args s = true) (hT : GoodIn Ts (wsV own index C y ws)) (hw : ws = Cond.codeWith y bytes maxL ret hh :: ws') (hrc : rm.cells = mc) (hrs : rm.slots = ms)
    (hd : y.cls = C ∧ y.cls ≠ "java/lang/invoke/MethodHandle" ∧ y.cls ≠ "java/lang/invoke/VarHandle" ∧ (parseMethodDescriptor y.desc).map (fun d => d.parameters.length) = some n) (hR : rm.frames + 1 ≤ R.frames ∧ 8 + (maxL + 11) + rm.locals ≤ R.locals) :
    vx_CVW R s args own C index y bytes maxL ret hh ws rm mc ms n := by
  obtain ⟨hC, hd⟩ := hd
  subst hC
  have ok : ∀ w ∈ wsV own index y.cls y ws, w.before args s = true := fun w h => ht w (hT w h).1
  have hG : GoodIn Ts ws := fun w h => hT w (by unfold wsV; exact List.mem_append_right _ h)
  have hc : Cond.codeWith y bytes maxL ret hh ∈ ws := by rw [hw]; exact List.mem_cons_self
  refine ⟨⟨hrc, hrs, hR.1, hR.2, pay_in ht hG, hc⟩, ht _ (hG _ hc).1, ok _ (by simp [wsV]), ⟨hd.1, hd.2.1⟩, fun sig h => ?_, ok _ (by simp [wsV]), ok _ (by simp [wsV]), ok _ (by simp [wsV])⟩
  have h2 := hd.2.2
  rw [h] at h2
  exact (Option.some.inj h2).symm
theorem vx_runVW {y : MethodName} {bytes cc : ByteArray} {maxL nL mc ms n index : Nat} {ret : Option FieldType} {hh : List (Nat × Nat × Nat × Nat)} {ws : List Cond} {rm : Room} {Pc : Array Value → State → Prop} {Qc : Array Value → State → Outcome → State → Prop} {free : Addr → Prop} {Ts : List Cond} {own C : String} {b : Addr} {As rest : List Value} {g : JFrame}
    (S : CallFix p m c cc nL s args Ts own) (hM : Met l y ws rm Pc Qc mc ms free) (cw : vx_CVW R s args own C index y bytes maxL ret hh ws rm mc ms n) (hp : PreV s H C b Pc As)
    (hg : g.method = m) (hn : As.length = n) (hsize : g.locals.size = nL) (hstack : g.stack = As.reverse ++ .ref b :: rest) (hW : 2 * g.monitorRoom + (rest.map fun v => v.category).sum ≤ 8) (hdg : decode cc g.pc = .ok (.invokevirtual index, 3)) (hf : cells + mc ≤ R.cells ∧ slots + ms ≤ R.slots) :
    va_Run p l e R s m args below meth c H locs cells slots mc ms g rest (Qc (Value.ref b :: As).toArray) free := by
  obtain ⟨⟨hrc, hrs, hfr, hlo, hws, hcw⟩, hcode, hini, hy, hlen, hl, hin, hse⟩ := cw
  have hK : Back l R p e below s args y 3 8 (PreOf R mc ms Pc) (PostOf Qc mc ms free) := va_backW (hh := hh) (bytes := bytes) (maxL := maxL) (ret := ret) hM hp.1 hrc hrs hfr hlo hws hcw (fun a' U hW => word_at hW (Or.inl (by first | rfl | simp [Cond.onTables, Cond.keeps, Cond.steady])) hini)
  obtain ⟨hx, hb, hml, ho, -⟩ := S
  obtain ⟨-, ⟨cellB, hcB, hoB, hclB⟩, hPc⟩ := hp
  intro T hT X
  obtain ⟨v, vm₁, ⟨U', l2, c2, s2⟩, hW₁, X', ⟨g', mk, t, L, e1, e2, hq, h1, hL, h2, h3⟩, st⟩ := vx_callVW X hx (C := C) (hh := hh) (bytes := bytes) (maxL := maxL) (ret := ret) ho hl hin hse hcode hy hK (by rw [hT]; exact hcB) hoB hclB hg (hsize.trans hml.symm) (argsL := As) (rest := rest) (fun sig h => hn.trans (hlen sig h)) hstack hW (by rw [hb]; exact hdg)
    (fun vm₁ hW₁ => ⟨hf.1, hf.2, hPc (T.setVm vm₁) hT hW₁⟩)
  dsimp only [Pt.U, Pt.locs, Pt.cells, Pt.slots] at X' e1 e2 h1 h2 h3 st
  subst h1; subst h2; subst h3
  exact ⟨v, (T.setVm vm₁).calling g' mk (Value.ref b :: As).toArray, t, U', L, hT, X', hL, e1, e2, hq, st⟩
section
variable {y : MethodName} {bytes cc : ByteArray} {maxL nL mc ms n index : Nat} {ret : Option FieldType} {ws : List Cond} {rm : Room} {Pc : Array Value → State → Prop} {Qc : Array Value → State → Outcome → State → Prop} {XC : String → State → State → Prop} {free : Addr → Prop} {Ts : List Cond} {own C : String} {b : Addr} {As rest : List Value} {g : JFrame}
theorem vx_runVX {hh : List (Nat × Nat × Nat × Nat)} (S : CallFix p m c cc nL s args Ts own) (hM : vx_Met l y ws rm Pc Qc XC mc ms free) (cw : vx_CVW R s args own C index y bytes maxL ret hh ws rm mc ms n) (hp : PreV s H C b Pc As)
    (hg : g.method = m) (hn : As.length = n) (hsize : g.locals.size = nL) (hstack : g.stack = As.reverse ++ .ref b :: rest) (hW : 2 * g.monitorRoom + (rest.map fun v => v.category).sum ≤ 8) (hdg : decode cc g.pc = .ok (.invokevirtual index, 3)) (hf : cells + mc ≤ R.cells ∧ slots + ms ≤ R.slots) :
    vx_Run p l e R s m args below meth c H locs cells slots mc ms g rest (Qc (Value.ref b :: As).toArray) XC free := by
  obtain ⟨⟨hrc, hrs, hfr, hlo, hws, hcw⟩, hcode, hini, hy, hlen, hl, hin, hse⟩ := cw
  have hK : vx_Back l R p e below s args y 3 8 (PreOf R mc ms Pc) (PostOf Qc mc ms free) (vx_Post XC mc ms free) := vx_backW (hh := hh) (bytes := bytes) (maxL := maxL) (ret := ret) hM hp.1 hrc hrs hfr hlo hws hcw (fun a' U hW => word_at hW (Or.inl (by first | rfl | simp [Cond.onTables, Cond.keeps, Cond.steady])) hini)
  obtain ⟨hx, hb, hml, ho, -⟩ := S
  obtain ⟨-, ⟨cellB, hcB, hoB, hclB⟩, hPc⟩ := hp
  intro T hT X
  rcases vx_callVX X hx (C := C) (hh := hh) (bytes := bytes) (maxL := maxL) (ret := ret) ho hl hin hse hcode hy hK (by rw [hT]; exact hcB) hoB hclB hg (hsize.trans hml.symm) (argsL := As) (rest := rest) (fun sig h => hn.trans (hlen sig h)) hstack hW (by rw [hb]; exact hdg)
    (fun vm₁ hW₁ => ⟨hf.1, hf.2, hPc (T.setVm vm₁) hT hW₁⟩) with ⟨v, vm₁, ⟨U', l2, c2, s2⟩, hW₁, X', ⟨g', mk, t, L, e1, e2, hq, h1, hL, h2, h3⟩, st⟩ | ⟨q, vm₁, ⟨U', l2, c2, s2⟩, hW₁, X', ⟨g', mk, t, L, E, ce, e1, e2, hq, hce, hcv, hcl, h1, hL, h2, h3⟩, st⟩
  · dsimp only [Pt.U, Pt.locs, Pt.cells, Pt.slots] at X' e1 e2 h1 h2 h3 st
    subst h1; subst h2; subst h3
    exact Or.inl ⟨v, (T.setVm vm₁).calling g' mk (Value.ref b :: As).toArray, t, U', L, hT, X', hL, e1, e2, hq, st⟩
  · dsimp only [Pt.U, Pt.locs, Pt.cells, Pt.slots] at X' e1 e2 h1 h2 h3 st hcl
    subst h1; subst h2; subst h3
    exact Or.inr ⟨q, (T.setVm vm₁).calling g' mk (Value.ref b :: As).toArray, t, U', L, E, ce, hT, X', hL, e1, e2, hq, hce, hcv, vx_cls hW₁ hcl, st⟩
theorem vx_runSX {hh : List (Nat × Nat × Nat × Nat)} (S : CallFix p m c cc nL s args Ts own) (hM : vx_Met l y ws rm Pc Qc XC mc ms free) (cw : vx_CSW R s args own index y bytes maxL ret hh ws rm mc ms n) (hp : PreS s H Pc As)
    (hg : g.method = m) (hn : As.length = n) (hsize : g.locals.size = nL) (hstack : g.stack = As.reverse ++ rest) (hW : 2 * g.monitorRoom + (rest.map fun v => v.category).sum ≤ 8) (hdg : decode cc g.pc = .ok (.invokestatic index, 3)) (hf : cells + mc ≤ R.cells ∧ slots + ms ≤ R.slots) :
    vx_Run p l e R s m args below meth c H locs cells slots mc ms g rest (Qc As.toArray) XC free := by
  obtain ⟨⟨hrc, hrs, hfr, hlo, hws, hcw⟩, hcode, hini, hy, hlen, hl, hstt⟩ := cw
  have hK : vx_Back l R p e below s args y 3 8 (PreOf R mc ms Pc) (PostOf Qc mc ms free) (vx_Post XC mc ms free) := vx_backW (hh := hh) (bytes := bytes) (maxL := maxL) (ret := ret) hM hp.1 hrc hrs hfr hlo hws hcw (fun a' U hW => word_at hW (Or.inl (by first | rfl | simp [Cond.onTables, Cond.keeps, Cond.steady])) hini)
  obtain ⟨hx, hb, hml, ho, -⟩ := S
  intro T hT X
  rcases vx_callSX X hx (hh := hh) (bytes := bytes) (maxL := maxL) (ret := ret) ho hl hstt hini hcode hy hK hg (hsize.trans hml.symm) (argsL := As) (rest := rest) (fun sig h => hn.trans (hlen sig h)) hstack hW (by rw [hb]; exact hdg)
    (fun vm₁ hW₁ => ⟨hf.1, hf.2, hp.2 (T.setVm vm₁) hT hW₁⟩) with ⟨v, vm₁, ⟨U', l2, c2, s2⟩, hW₁, X', ⟨g', mk, t, L, e1, e2, hq, h1, hL, h2, h3⟩, st⟩ | ⟨q, vm₁, ⟨U', l2, c2, s2⟩, hW₁, X', ⟨g', mk, t, L, E, ce, e1, e2, hq, hce, hcv, hcl, h1, hL, h2, h3⟩, st⟩
  · dsimp only [Pt.U, Pt.locs, Pt.cells, Pt.slots] at X' e1 e2 h1 h2 h3 st
    subst h1; subst h2; subst h3
    exact Or.inl ⟨v, (T.setVm vm₁).calling g' mk As.toArray, t, U', L, hT, X', hL, e1, e2, hq, st⟩
  · dsimp only [Pt.U, Pt.locs, Pt.cells, Pt.slots] at X' e1 e2 h1 h2 h3 st hcl
    subst h1; subst h2; subst h3
    exact Or.inr ⟨q, (T.setVm vm₁).calling g' mk As.toArray, t, U', L, E, ce, hT, X', hL, e1, e2, hq, hce, hcv, vx_cls hW₁ hcl, st⟩
end
end VXH
theorem vx_ofWH {l : Launch} {y : MethodName} {ws ws' : List Cond} {rm : Room} {Pc : Array Value → State → Prop} {Qc : Array Value → State → Outcome → State → Prop} {XC : String → State → State → Prop} {mc ms : Nat} {free : Addr → Prop} {cc : ByteArray} {maxL : Nat} {ret : Option FieldType} {hh : List (Nat × Nat × Nat × Nat)}
    (hy : plainName y.cls = true) (hw : ws = Cond.codeWith y cc maxL ret hh :: ws')
    (body : ∀ p e s m args below meth c s₁, BodyLoose p l y (headSpec ws rm) cc maxL ret e s m args below meth c s₁ → c.maxLocals = maxL → Pc args s →
      W p l e (headSpec ws rm).room s m args below meth c s.heap [] 0 0 (vx_MQ below Qc XC args s mc ms free) (entryFrame m args maxL)) : vx_Met l y ws rm Pc Qc XC mc ms free := by
  refine MetFree.of_bodyS (code := cc) (maxLocals := maxL) (ret := ret) hy ?_ ?_
  · intro args s m h hn
    obtain ⟨m9, meth, c, hn9, h1, h2, h3, h4, -, h5, h6, -⟩ := Cond.codeWith_spec (atoms_spec (ws := ws) h _ (by rw [hw]; exact List.mem_cons_self))
    cases hn.symm.trans hn9
    exact ⟨meth, c, h1, h2, h3, h4, h5, h6⟩
  · intro p e s m args below meth c s₁ B hml hP _
    have hh0 : s₁.heap = s.heap := by rw [B.state]; rfl
    obtain ⟨t, a1, o, b1, b2, b3⟩ := body p e s m args below meth c s₁ B hml hP s₁ hh0 (Stand.of_body B)
    exact ⟨t, o, a1, b1, b2, b3⟩
/-! ===== END ===== -/
end
section
def R_Lb : String := "LabelKernel$Labels"
def T_Lb : u_T := fun k => match k with
  | 0 => ("LabelKernel$Labels", "packed", "[I", true)
  | _ => ("LabelKernel$Labels", "size", "I", false)
def ft_Lb : Nat → FieldType := fun k => match k with
  | 0 => .array .int
  | _ => .int
theorem nm_Lb : ∀ a, a < 2 → ∀ b, b < 2 → a ≠ b → (T_Lb a).2.1 ≠ (T_Lb b).2.1 := by decide +kernel
theorem fk_Lb : ∀ k, k < 2 → parseFieldDescriptor (T_Lb k).2.2.1 = some (ft_Lb k) := by decide +kernel
def R_Sn : String := "LabelKernel$State"
def T_Sn : u_T := fun k => match k with
  | 0 => ("LabelKernel$State", "labels", "LLabelKernel$Labels;", true)
  | 1 => ("LabelKernel$State", "things", "LLabelKernel$Things;", true)
  | 2 => ("LabelKernel$State", "users", "LLabelKernel$Users;", true)
  | _ => ("LabelKernel$State", "categories", "I", false)
def ft_Sn : Nat → FieldType := fun k => match k with
  | 0 => .object "LabelKernel$Labels"
  | 1 => .object "LabelKernel$Things"
  | 2 => .object "LabelKernel$Users"
  | _ => .int
theorem nm_Sn : ∀ a, a < 4 → ∀ b, b < 4 → a ≠ b → (T_Sn a).2.1 ≠ (T_Sn b).2.1 := by decide +kernel
theorem fk_Sn : ∀ k, k < 4 → parseFieldDescriptor (T_Sn k).2.2.1 = some (ft_Sn k) := by decide +kernel
def R_Tg : String := "LabelKernel$Things"
def T_Tg : u_T := fun k => match k with
  | 0 => ("LabelKernel$Things", "there", "[Z", true)
  | 1 => ("LabelKernel$Things", "kind", "[I", true)
  | 2 => ("LabelKernel$Things", "label", "[I", true)
  | 3 => ("LabelKernel$Things", "quota", "[I", true)
  | 4 => ("LabelKernel$Things", "place", "[I", true)
  | 5 => ("LabelKernel$Things", "depth", "[I", true)
  | 6 => ("LabelKernel$Things", "clearance", "[I", true)
  | 7 => ("LabelKernel$Things", "guard", "[I", true)
  | 8 => ("LabelKernel$Things", "entry", "[I", true)
  | 9 => ("LabelKernel$Things", "cellCount", "[I", true)
  | 10 => ("LabelKernel$Things", "cells", "[I", true)
  | _ => ("LabelKernel$Things", "made", "I", false)
def ft_Tg : Nat → FieldType := fun k => match k with
  | 0 => .array .boolean
  | 1 => .array .int
  | 2 => .array .int
  | 3 => .array .int
  | 4 => .array .int
  | 5 => .array .int
  | 6 => .array .int
  | 7 => .array .int
  | 8 => .array .int
  | 9 => .array .int
  | 10 => .array .int
  | _ => .int
theorem nm_Tg : ∀ a, a < 12 → ∀ b, b < 12 → a ≠ b → (T_Tg a).2.1 ≠ (T_Tg b).2.1 := by decide +kernel
theorem fk_Tg : ∀ k, k < 12 → parseFieldDescriptor (T_Tg k).2.2.1 = some (ft_Tg k) := by decide +kernel
def R_Us : String := "LabelKernel$Users"
def T_Us : u_T := fun k => match k with
  | 0 => ("LabelKernel$Users", "there", "[Z", true)
  | 1 => ("LabelKernel$Users", "password", "[I", true)
  | 2 => ("LabelKernel$Users", "firstCategory", "[I", true)
  | 3 => ("LabelKernel$Users", "secondCategory", "[I", true)
  | 4 => ("LabelKernel$Users", "home", "[I", true)
  | 5 => ("LabelKernel$Users", "directory", "[I", true)
  | _ => ("LabelKernel$Users", "gate", "[I", true)
def ft_Us : Nat → FieldType := fun k => match k with
  | 0 => .array .boolean
  | 1 => .array .int
  | 2 => .array .int
  | 3 => .array .int
  | 4 => .array .int
  | 5 => .array .int
  | _ => .array .int
theorem nm_Us : ∀ a, a < 7 → ∀ b, b < 7 → a ≠ b → (T_Us a).2.1 ≠ (T_Us b).2.1 := by decide +kernel
theorem fk_Us : ∀ k, k < 7 → parseFieldDescriptor (T_Us k).2.2.1 = some (ft_Us k) := by decide +kernel
def R_Ke : String := "LabelKernel"
def T_Ke : u_T := fun k => match k with
  | 0 => ("LabelKernel", "now", "LLabelKernel$State;", true)
  | 1 => ("LabelKernel", "kept", "LLabelKernel$State;", true)
  | 2 => ("LabelKernel", "labels", "LLabelKernel$Labels;", true)
  | 3 => ("LabelKernel", "things", "LLabelKernel$Things;", true)
  | _ => ("LabelKernel", "users", "LLabelKernel$Users;", true)
def ft_Ke : Nat → FieldType := fun k => match k with
  | 0 => .object "LabelKernel$State"
  | 1 => .object "LabelKernel$State"
  | 2 => .object "LabelKernel$Labels"
  | 3 => .object "LabelKernel$Things"
  | _ => .object "LabelKernel$Users"
theorem nm_Ke : ∀ a, a < 5 → ∀ b, b < 5 → a ≠ b → (T_Ke a).2.1 ≠ (T_Ke b).2.1 := by decide +kernel
theorem fk_Ke : ∀ k, k < 5 → parseFieldDescriptor (T_Ke k).2.2.1 = some (ft_Ke k) := by decide +kernel
def R_Mo : String := "LabelKernelModel"
def T_Mo : u_T := fun k => match k with
  | 0 => ("LabelKernelModel", "row", "[I", true)
  | 1 => ("LabelKernelModel", "kept", "[I", true)
  | _ => ("LabelKernelModel", "code", "I", false)
def ft_Mo : Nat → FieldType := fun k => match k with
  | 0 => .array .int
  | 1 => .array .int
  | _ => .int
theorem nm_Mo : ∀ a, a < 3 → ∀ b, b < 3 → a ≠ b → (T_Mo a).2.1 ≠ (T_Mo b).2.1 := by decide +kernel
theorem fk_Mo : ∀ k, k < 3 → parseFieldDescriptor (T_Mo k).2.2.1 = some (ft_Mo k) := by decide +kernel
def R_La : String := "LabelKernelLaw"
abbrev vwCl : List vw_C := [(R_Lb, T_Lb, 2), (R_Sn, T_Sn, 4), (R_Tg, T_Tg, 12), (R_Us, T_Us, 7), (R_Ke, T_Ke, 5), (R_Mo, T_Mo, 3)]
abbrev b_Lb_init : ByteArray := prog_2_method_1_code
def y_Lb_init : MethodName := ⟨R_Lb, "<init>", "()V"⟩
abbrev b_Lb_takeFrom : ByteArray := prog_2_method_2_code
def y_Lb_takeFrom : MethodName := ⟨R_Lb, "takeFrom", "(LLabelKernel$Labels;)V"⟩
abbrev b_Lb_howMany : ByteArray := prog_2_method_3_code
def y_Lb_howMany : MethodName := ⟨R_Lb, "howMany", "()I"⟩
abbrev b_Lb_free : ByteArray := prog_2_method_4_code
def y_Lb_free : MethodName := ⟨R_Lb, "free", "()I"⟩
abbrev b_Lb_has : ByteArray := prog_2_method_5_code
def y_Lb_has : MethodName := ⟨R_Lb, "has", "(I)Z"⟩
abbrev b_Lb_isStarless : ByteArray := prog_2_method_6_code
def y_Lb_isStarless : MethodName := ⟨R_Lb, "isStarless", "(I)Z"⟩
abbrev b_Lb_hasStarsOnlyOf : ByteArray := prog_2_method_7_code
def y_Lb_hasStarsOnlyOf : MethodName := ⟨R_Lb, "hasStarsOnlyOf", "(II)Z"⟩
abbrev b_Lb_levelAt : ByteArray := prog_2_method_8_code
def y_Lb_levelAt : MethodName := ⟨R_Lb, "levelAt", "(II)I"⟩
abbrev b_Lb_low : ByteArray := prog_2_method_9_code
def y_Lb_low : MethodName := ⟨R_Lb, "low", "(I)I"⟩
abbrev b_Lb_fitsUnder : ByteArray := prog_2_method_10_code
def y_Lb_fitsUnder : MethodName := ⟨R_Lb, "fitsUnder", "(II)Z"⟩
abbrev b_Lb_fitsHigh : ByteArray := prog_2_method_11_code
def y_Lb_fitsHigh : MethodName := ⟨R_Lb, "fitsHigh", "(II)Z"⟩
abbrev b_Lb_isJoinOf : ByteArray := prog_2_method_12_code
def y_Lb_isJoinOf : MethodName := ⟨R_Lb, "isJoinOf", "(III)Z"⟩
abbrev b_Lb_isJoinAt : ByteArray := prog_2_method_13_code
def y_Lb_isJoinAt : MethodName := ⟨R_Lb, "isJoinAt", "(IIII)Z"⟩
abbrev b_Lb_isNowhereAboveBoth : ByteArray := prog_2_method_14_code
def y_Lb_isNowhereAboveBoth : MethodName := ⟨R_Lb, "isNowhereAboveBoth", "(III)Z"⟩
abbrev b_Lb_changed : ByteArray := prog_2_method_15_code
def y_Lb_changed : MethodName := ⟨R_Lb, "changed", "(III)I"⟩
abbrev b_Lb_indexOf : ByteArray := prog_2_method_16_code
def y_Lb_indexOf : MethodName := ⟨R_Lb, "indexOf", "(I)I"⟩
abbrev b_Lb_missing : ByteArray := prog_2_method_17_code
def y_Lb_missing : MethodName := ⟨R_Lb, "missing", "(I)I"⟩
abbrev b_Lb_numberOf : ByteArray := prog_2_method_18_code
def y_Lb_numberOf : MethodName := ⟨R_Lb, "numberOf", "(I)I"⟩
abbrev b_Sn_init : ByteArray := prog_3_method_1_code
def y_Sn_init : MethodName := ⟨R_Sn, "<init>", "()V"⟩
abbrev b_Sn_takeFrom : ByteArray := prog_3_method_2_code
def y_Sn_takeFrom : MethodName := ⟨R_Sn, "takeFrom", "(LLabelKernel$State;)V"⟩
abbrev b_Tg_init : ByteArray := prog_4_method_1_code
def y_Tg_init : MethodName := ⟨R_Tg, "<init>", "()V"⟩
abbrev b_Tg_takeFrom : ByteArray := prog_4_method_2_code
def y_Tg_takeFrom : MethodName := ⟨R_Tg, "takeFrom", "(LLabelKernel$Things;)V"⟩
abbrev b_Tg_hasNumberLeft : ByteArray := prog_4_method_3_code
def y_Tg_hasNumberLeft : MethodName := ⟨R_Tg, "hasNumberLeft", "()Z"⟩
abbrev b_Tg_add : ByteArray := prog_4_method_4_code
def y_Tg_add : MethodName := ⟨R_Tg, "add", "(IIII)I"⟩
abbrev b_Tg_isThere : ByteArray := prog_4_method_5_code
def y_Tg_isThere : MethodName := ⟨R_Tg, "isThere", "(I)Z"⟩
abbrev b_Tg_isOfKind : ByteArray := prog_4_method_6_code
def y_Tg_isOfKind : MethodName := ⟨R_Tg, "isOfKind", "(II)Z"⟩
abbrev b_Tg_isIn : ByteArray := prog_4_method_7_code
def y_Tg_isIn : MethodName := ⟨R_Tg, "isIn", "(II)Z"⟩
abbrev b_Tg_howMany : ByteArray := prog_4_method_8_code
def y_Tg_howMany : MethodName := ⟨R_Tg, "howMany", "()I"⟩
abbrev b_Tg_nthIn : ByteArray := prog_4_method_9_code
def y_Tg_nthIn : MethodName := ⟨R_Tg, "nthIn", "(II)I"⟩
abbrev b_Tg_useOf : ByteArray := prog_4_method_10_code
def y_Tg_useOf : MethodName := ⟨R_Tg, "useOf", "(I)I"⟩
abbrev b_Tg_quotasIn : ByteArray := prog_4_method_11_code
def y_Tg_quotasIn : MethodName := ⟨R_Tg, "quotasIn", "(I)I"⟩
abbrev b_Tg_removeTree : ByteArray := prog_4_method_12_code
def y_Tg_removeTree : MethodName := ⟨R_Tg, "removeTree", "(I)I"⟩
abbrev b_Tg_kindOf : ByteArray := prog_4_method_13_code
def y_Tg_kindOf : MethodName := ⟨R_Tg, "kindOf", "(I)I"⟩
abbrev b_Tg_labelOf : ByteArray := prog_4_method_14_code
def y_Tg_labelOf : MethodName := ⟨R_Tg, "labelOf", "(I)I"⟩
abbrev b_Tg_setLabel : ByteArray := prog_4_method_15_code
def y_Tg_setLabel : MethodName := ⟨R_Tg, "setLabel", "(II)V"⟩
abbrev b_Tg_quotaOf : ByteArray := prog_4_method_16_code
def y_Tg_quotaOf : MethodName := ⟨R_Tg, "quotaOf", "(I)I"⟩
abbrev b_Tg_setQuota : ByteArray := prog_4_method_17_code
def y_Tg_setQuota : MethodName := ⟨R_Tg, "setQuota", "(II)V"⟩
abbrev b_Tg_placeOf : ByteArray := prog_4_method_18_code
def y_Tg_placeOf : MethodName := ⟨R_Tg, "placeOf", "(I)I"⟩
abbrev b_Tg_depthOf : ByteArray := prog_4_method_19_code
def y_Tg_depthOf : MethodName := ⟨R_Tg, "depthOf", "(I)I"⟩
abbrev b_Tg_clearanceOf : ByteArray := prog_4_method_20_code
def y_Tg_clearanceOf : MethodName := ⟨R_Tg, "clearanceOf", "(I)I"⟩
abbrev b_Tg_setClearance : ByteArray := prog_4_method_21_code
def y_Tg_setClearance : MethodName := ⟨R_Tg, "setClearance", "(II)V"⟩
abbrev b_Tg_guardOf : ByteArray := prog_4_method_22_code
def y_Tg_guardOf : MethodName := ⟨R_Tg, "guardOf", "(I)I"⟩
abbrev b_Tg_entryOf : ByteArray := prog_4_method_23_code
def y_Tg_entryOf : MethodName := ⟨R_Tg, "entryOf", "(I)I"⟩
abbrev b_Tg_setGuardAndEntry : ByteArray := prog_4_method_24_code
def y_Tg_setGuardAndEntry : MethodName := ⟨R_Tg, "setGuardAndEntry", "(III)V"⟩
abbrev b_Tg_cellCountOf : ByteArray := prog_4_method_25_code
def y_Tg_cellCountOf : MethodName := ⟨R_Tg, "cellCountOf", "(I)I"⟩
abbrev b_Tg_setCellCount : ByteArray := prog_4_method_26_code
def y_Tg_setCellCount : MethodName := ⟨R_Tg, "setCellCount", "(II)V"⟩
abbrev b_Tg_cellOf : ByteArray := prog_4_method_27_code
def y_Tg_cellOf : MethodName := ⟨R_Tg, "cellOf", "(II)I"⟩
abbrev b_Tg_setCell : ByteArray := prog_4_method_28_code
def y_Tg_setCell : MethodName := ⟨R_Tg, "setCell", "(III)V"⟩
abbrev b_Us_init : ByteArray := prog_5_method_1_code
def y_Us_init : MethodName := ⟨R_Us, "<init>", "()V"⟩
abbrev b_Us_takeFrom : ByteArray := prog_5_method_2_code
def y_Us_takeFrom : MethodName := ⟨R_Us, "takeFrom", "(LLabelKernel$Users;)V"⟩
abbrev b_Us_howMany : ByteArray := prog_5_method_3_code
def y_Us_howMany : MethodName := ⟨R_Us, "howMany", "()I"⟩
abbrev b_Us_isThere : ByteArray := prog_5_method_4_code
def y_Us_isThere : MethodName := ⟨R_Us, "isThere", "(I)Z"⟩
abbrev b_Us_add : ByteArray := prog_5_method_5_code
def y_Us_add : MethodName := ⟨R_Us, "add", "(II)V"⟩
abbrev b_Us_setCategories : ByteArray := prog_5_method_6_code
def y_Us_setCategories : MethodName := ⟨R_Us, "setCategories", "(III)V"⟩
abbrev b_Us_setObjects : ByteArray := prog_5_method_7_code
def y_Us_setObjects : MethodName := ⟨R_Us, "setObjects", "(IIII)V"⟩
abbrev b_Us_passwordOf : ByteArray := prog_5_method_8_code
def y_Us_passwordOf : MethodName := ⟨R_Us, "passwordOf", "(I)I"⟩
abbrev b_Us_firstCategoryOf : ByteArray := prog_5_method_9_code
def y_Us_firstCategoryOf : MethodName := ⟨R_Us, "firstCategoryOf", "(I)I"⟩
abbrev b_Us_secondCategoryOf : ByteArray := prog_5_method_10_code
def y_Us_secondCategoryOf : MethodName := ⟨R_Us, "secondCategoryOf", "(I)I"⟩
abbrev b_Us_homeOf : ByteArray := prog_5_method_11_code
def y_Us_homeOf : MethodName := ⟨R_Us, "homeOf", "(I)I"⟩
abbrev b_Us_directoryOf : ByteArray := prog_5_method_12_code
def y_Us_directoryOf : MethodName := ⟨R_Us, "directoryOf", "(I)I"⟩
abbrev b_Us_gateOf : ByteArray := prog_5_method_13_code
def y_Us_gateOf : MethodName := ⟨R_Us, "gateOf", "(I)I"⟩
abbrev b_Ke_init : ByteArray := prog_1_method_1_code
def y_Ke_init : MethodName := ⟨R_Ke, "<init>", "()V"⟩
abbrev b_Ke_label : ByteArray := prog_1_method_2_code
def y_Ke_label : MethodName := ⟨R_Ke, "label", "(III)I"⟩
abbrev b_Ke_level : ByteArray := prog_1_method_3_code
def y_Ke_level : MethodName := ⟨R_Ke, "level", "(II)I"⟩
abbrev b_Ke_fits : ByteArray := prog_1_method_4_code
def y_Ke_fits : MethodName := ⟨R_Ke, "fits", "(IIZ)Z"⟩
abbrev b_Ke_category : ByteArray := prog_1_method_5_code
def y_Ke_category : MethodName := ⟨R_Ke, "category", "(I)I"⟩
abbrev b_Ke_container : ByteArray := prog_1_method_6_code
def y_Ke_container : MethodName := ⟨R_Ke, "container", "(IIII)I"⟩
abbrev b_Ke_segment : ByteArray := prog_1_method_7_code
def y_Ke_segment : MethodName := ⟨R_Ke, "segment", "(IIII)I"⟩
abbrev b_Ke_gate : ByteArray := prog_1_method_8_code
def y_Ke_gate : MethodName := ⟨R_Ke, "gate", "(IIIII)I"⟩
abbrev b_Ke_thread : ByteArray := prog_1_method_9_code
def y_Ke_thread : MethodName := ⟨R_Ke, "thread", "(IIII)I"⟩
abbrev b_Ke_read : ByteArray := prog_1_method_10_code
def y_Ke_read : MethodName := ⟨R_Ke, "read", "(IIII)I"⟩
abbrev b_Ke_write : ByteArray := prog_1_method_11_code
def y_Ke_write : MethodName := ⟨R_Ke, "write", "(IIIII)I"⟩
abbrev b_Ke_move : ByteArray := prog_1_method_12_code
def y_Ke_move : MethodName := ⟨R_Ke, "move", "(IIII)I"⟩
abbrev b_Ke_drop : ByteArray := prog_1_method_13_code
def y_Ke_drop : MethodName := ⟨R_Ke, "drop", "(III)I"⟩
abbrev b_Ke_become : ByteArray := prog_1_method_14_code
def y_Ke_become : MethodName := ⟨R_Ke, "become", "(II)I"⟩
abbrev b_Ke_lower : ByteArray := prog_1_method_15_code
def y_Ke_lower : MethodName := ⟨R_Ke, "lower", "(II)I"⟩
abbrev b_Ke_enter : ByteArray := prog_1_method_16_code
def y_Ke_enter : MethodName := ⟨R_Ke, "enter", "(IIIII)I"⟩
abbrev b_Ke_user : ByteArray := prog_1_method_17_code
def y_Ke_user : MethodName := ⟨R_Ke, "user", "(III)I"⟩
abbrev b_Ke_login : ByteArray := prog_1_method_18_code
def y_Ke_login : MethodName := ⟨R_Ke, "login", "(III)I"⟩
abbrev b_Ke_file : ByteArray := prog_1_method_19_code
def y_Ke_file : MethodName := ⟨R_Ke, "file", "(IIII)I"⟩
abbrev b_Ke_access : ByteArray := prog_1_method_20_code
def y_Ke_access : MethodName := ⟨R_Ke, "access", "(IIIIZI)I"⟩
abbrev b_Ke_snapshot : ByteArray := prog_1_method_21_code
def y_Ke_snapshot : MethodName := ⟨R_Ke, "snapshot", "()I"⟩
abbrev b_Ke_crash : ByteArray := prog_1_method_22_code
def y_Ke_crash : MethodName := ⟨R_Ke, "crash", "()I"⟩
abbrev b_Ke_object : ByteArray := prog_1_method_23_code
def y_Ke_object : MethodName := ⟨R_Ke, "object", "(II)I"⟩
abbrev b_Ke_in : ByteArray := prog_1_method_24_code
def y_Ke_in : MethodName := ⟨R_Ke, "in", "(II)I"⟩
abbrev b_Ke_count : ByteArray := prog_1_method_25_code
def y_Ke_count : MethodName := ⟨R_Ke, "count", "(I)I"⟩
abbrev b_Ke_maySee : ByteArray := prog_1_method_26_code
def y_Ke_maySee : MethodName := ⟨R_Ke, "maySee", "(II)Z"⟩
abbrev b_Ke_mayChange : ByteArray := prog_1_method_27_code
def y_Ke_mayChange : MethodName := ⟨R_Ke, "mayChange", "(II)Z"⟩
abbrev b_Ke_mayBear : ByteArray := prog_1_method_28_code
def y_Ke_mayBear : MethodName := ⟨R_Ke, "mayBear", "(II)Z"⟩
abbrev b_Ke_isBetween : ByteArray := prog_1_method_29_code
def y_Ke_isBetween : MethodName := ⟨R_Ke, "isBetween", "(III)Z"⟩
abbrev b_Ke_needNumber : ByteArray := prog_1_method_30_code
def y_Ke_needNumber : MethodName := ⟨R_Ke, "needNumber", "(Z)V"⟩
abbrev b_Ke_needFound : ByteArray := prog_1_method_31_code
def y_Ke_needFound : MethodName := ⟨R_Ke, "needFound", "(Z)V"⟩
abbrev b_Ke_needAllowed : ByteArray := prog_1_method_32_code
def y_Ke_needAllowed : MethodName := ⟨R_Ke, "needAllowed", "(Z)V"⟩
abbrev b_Ke_needRoom : ByteArray := prog_1_method_33_code
def y_Ke_needRoom : MethodName := ⟨R_Ke, "needRoom", "(Z)V"⟩
abbrev b_Ke_needThread : ByteArray := prog_1_method_34_code
def y_Ke_needThread : MethodName := ⟨R_Ke, "needThread", "(I)V"⟩
abbrev b_Ke_needThreadAndContainer : ByteArray := prog_1_method_35_code
def y_Ke_needThreadAndContainer : MethodName := ⟨R_Ke, "needThreadAndContainer", "(II)V"⟩
abbrev b_Ke_needThere : ByteArray := prog_1_method_36_code
def y_Ke_needThere : MethodName := ⟨R_Ke, "needThere", "(III)V"⟩
abbrev b_Ke_needObjectIn : ByteArray := prog_1_method_37_code
def y_Ke_needObjectIn : MethodName := ⟨R_Ke, "needObjectIn", "(III)V"⟩
abbrev b_Ke_needCell : ByteArray := prog_1_method_38_code
def y_Ke_needCell : MethodName := ⟨R_Ke, "needCell", "(IIII)V"⟩
abbrev b_Ke_needMayMake : ByteArray := prog_1_method_39_code
def y_Ke_needMayMake : MethodName := ⟨R_Ke, "needMayMake", "(III)V"⟩
abbrev b_Ke_needRoomIn : ByteArray := prog_1_method_40_code
def y_Ke_needRoomIn : MethodName := ⟨R_Ke, "needRoomIn", "(II)V"⟩
abbrev b_Mo_init : ByteArray := prog_7_method_1_code
def y_Mo_init : MethodName := ⟨R_Mo, "<init>", "()V"⟩
abbrev b_Mo_within : ByteArray := prog_7_method_2_code
def y_Mo_within : MethodName := ⟨R_Mo, "within", "(III)Z"⟩
abbrev b_Mo_fail : ByteArray := prog_7_method_3_code
def y_Mo_fail : MethodName := ⟨R_Mo, "fail", "(I)I"⟩
abbrev b_Mo_thrown : ByteArray := prog_7_method_4_code
def y_Mo_thrown : MethodName := ⟨R_Mo, "thrown", "()I"⟩
abbrev b_Mo_at : ByteArray := prog_7_method_5_code
def y_Mo_at : MethodName := ⟨R_Mo, "at", "(II)I"⟩
abbrev b_Mo_lev : ByteArray := prog_7_method_6_code
def y_Mo_lev : MethodName := ⟨R_Mo, "lev", "(II)I"⟩
abbrev b_Mo_low : ByteArray := prog_7_method_7_code
def y_Mo_low : MethodName := ⟨R_Mo, "low", "(I)I"⟩
abbrev b_Mo_under : ByteArray := prog_7_method_8_code
def y_Mo_under : MethodName := ⟨R_Mo, "under", "(IIZ)Z"⟩
abbrev b_Mo_isLabel : ByteArray := prog_7_method_9_code
def y_Mo_isLabel : MethodName := ⟨R_Mo, "isLabel", "(I)Z"⟩
abbrev b_Mo_starless : ByteArray := prog_7_method_10_code
def y_Mo_starless : MethodName := ⟨R_Mo, "starless", "(I)Z"⟩
abbrev b_Mo_there : ByteArray := prog_7_method_11_code
def y_Mo_there : MethodName := ⟨R_Mo, "there", "(I)Z"⟩
abbrev b_Mo_sees : ByteArray := prog_7_method_12_code
def y_Mo_sees : MethodName := ⟨R_Mo, "sees", "(II)Z"⟩
abbrev b_Mo_changes : ByteArray := prog_7_method_13_code
def y_Mo_changes : MethodName := ⟨R_Mo, "changes", "(II)Z"⟩
abbrev b_Mo_use : ByteArray := prog_7_method_14_code
def y_Mo_use : MethodName := ⟨R_Mo, "use", "(I)I"⟩
abbrev b_Mo_like : ByteArray := prog_7_method_15_code
def y_Mo_like : MethodName := ⟨R_Mo, "like", "(III)I"⟩
abbrev b_Mo_made : ByteArray := prog_7_method_16_code
def y_Mo_made : MethodName := ⟨R_Mo, "made", "(III)I"⟩
abbrev b_Mo_label : ByteArray := prog_7_method_17_code
def y_Mo_label : MethodName := ⟨R_Mo, "label", "(III)I"⟩
abbrev b_Mo_level : ByteArray := prog_7_method_18_code
def y_Mo_level : MethodName := ⟨R_Mo, "level", "(II)I"⟩
abbrev b_Mo_fits : ByteArray := prog_7_method_19_code
def y_Mo_fits : MethodName := ⟨R_Mo, "fits", "(IIZ)Z"⟩
abbrev b_Mo_threadOnly : ByteArray := prog_7_method_20_code
def y_Mo_threadOnly : MethodName := ⟨R_Mo, "threadOnly", "(I)Z"⟩
abbrev b_Mo_giveCategory : ByteArray := prog_7_method_21_code
def y_Mo_giveCategory : MethodName := ⟨R_Mo, "giveCategory", "(I)I"⟩
abbrev b_Mo_category : ByteArray := prog_7_method_22_code
def y_Mo_category : MethodName := ⟨R_Mo, "category", "(I)I"⟩
abbrev b_Mo_deep : ByteArray := prog_7_method_23_code
def y_Mo_deep : MethodName := ⟨R_Mo, "deep", "(I)I"⟩
abbrev b_Mo_starsWithin : ByteArray := prog_7_method_24_code
def y_Mo_starsWithin : MethodName := ⟨R_Mo, "starsWithin", "(II)Z"⟩
abbrev b_Mo_starsOf : ByteArray := prog_7_method_25_code
def y_Mo_starsOf : MethodName := ⟨R_Mo, "starsOf", "(II)Z"⟩
abbrev b_Mo_make : ByteArray := prog_7_method_26_code
def y_Mo_make : MethodName := ⟨R_Mo, "make", "(IIIIII)I"⟩
abbrev b_Mo_makeContainer : ByteArray := prog_7_method_27_code
def y_Mo_makeContainer : MethodName := ⟨R_Mo, "makeContainer", "(IIII)I"⟩
abbrev b_Mo_container : ByteArray := prog_7_method_28_code
def y_Mo_container : MethodName := ⟨R_Mo, "container", "(IIII)I"⟩
abbrev b_Mo_makeSegment : ByteArray := prog_7_method_29_code
def y_Mo_makeSegment : MethodName := ⟨R_Mo, "makeSegment", "(IIII)I"⟩
abbrev b_Mo_segment : ByteArray := prog_7_method_30_code
def y_Mo_segment : MethodName := ⟨R_Mo, "segment", "(IIII)I"⟩
abbrev b_Mo_makeGate : ByteArray := prog_7_method_31_code
def y_Mo_makeGate : MethodName := ⟨R_Mo, "makeGate", "(IIIII)I"⟩
abbrev b_Mo_gate : ByteArray := prog_7_method_32_code
def y_Mo_gate : MethodName := ⟨R_Mo, "gate", "(IIIII)I"⟩
abbrev b_Mo_thread : ByteArray := prog_7_method_33_code
def y_Mo_thread : MethodName := ⟨R_Mo, "thread", "(IIII)I"⟩
abbrev b_Mo_named : ByteArray := prog_7_method_34_code
def y_Mo_named : MethodName := ⟨R_Mo, "named", "(IIII)Z"⟩
abbrev b_Mo_cell : ByteArray := prog_7_method_35_code
def y_Mo_cell : MethodName := ⟨R_Mo, "cell", "(IIIIZI)I"⟩
abbrev b_Mo_read : ByteArray := prog_7_method_36_code
def y_Mo_read : MethodName := ⟨R_Mo, "read", "(IIII)I"⟩
abbrev b_Mo_write : ByteArray := prog_7_method_37_code
def y_Mo_write : MethodName := ⟨R_Mo, "write", "(IIIII)I"⟩
abbrev b_Mo_move : ByteArray := prog_7_method_38_code
def y_Mo_move : MethodName := ⟨R_Mo, "move", "(IIII)I"⟩
abbrev b_Mo_remove : ByteArray := prog_7_method_39_code
def y_Mo_remove : MethodName := ⟨R_Mo, "remove", "(III)I"⟩
abbrev b_Mo_drop : ByteArray := prog_7_method_40_code
def y_Mo_drop : MethodName := ⟨R_Mo, "drop", "(III)I"⟩
abbrev b_Mo_become : ByteArray := prog_7_method_41_code
def y_Mo_become : MethodName := ⟨R_Mo, "become", "(II)I"⟩
abbrev b_Mo_lower : ByteArray := prog_7_method_42_code
def y_Mo_lower : MethodName := ⟨R_Mo, "lower", "(II)I"⟩
abbrev b_Mo_passes : ByteArray := prog_7_method_43_code
def y_Mo_passes : MethodName := ⟨R_Mo, "passes", "(IIII)Z"⟩
abbrev b_Mo_go : ByteArray := prog_7_method_44_code
def y_Mo_go : MethodName := ⟨R_Mo, "go", "(IIIII)I"⟩
abbrev b_Mo_enter : ByteArray := prog_7_method_45_code
def y_Mo_enter : MethodName := ⟨R_Mo, "enter", "(IIIII)I"⟩
abbrev b_Mo_of : ByteArray := prog_7_method_46_code
def y_Mo_of : MethodName := ⟨R_Mo, "of", "(II)I"⟩
abbrev b_Mo_both : ByteArray := prog_7_method_47_code
def y_Mo_both : MethodName := ⟨R_Mo, "both", "(IIIII)I"⟩
abbrev b_Mo_user : ByteArray := prog_7_method_48_code
def y_Mo_user : MethodName := ⟨R_Mo, "user", "(III)I"⟩
abbrev b_Mo_login : ByteArray := prog_7_method_49_code
def y_Mo_login : MethodName := ⟨R_Mo, "login", "(III)I"⟩
abbrev b_Mo_file : ByteArray := prog_7_method_50_code
def y_Mo_file : MethodName := ⟨R_Mo, "file", "(IIII)I"⟩
abbrev b_Mo_access : ByteArray := prog_7_method_51_code
def y_Mo_access : MethodName := ⟨R_Mo, "access", "(IIIIZI)I"⟩
abbrev b_Mo_objects : ByteArray := prog_7_method_52_code
def y_Mo_objects : MethodName := ⟨R_Mo, "objects", "()I"⟩
abbrev b_Mo_snapshot : ByteArray := prog_7_method_53_code
def y_Mo_snapshot : MethodName := ⟨R_Mo, "snapshot", "()I"⟩
abbrev b_Mo_crash : ByteArray := prog_7_method_54_code
def y_Mo_crash : MethodName := ⟨R_Mo, "crash", "()I"⟩
abbrev b_Mo_object : ByteArray := prog_7_method_55_code
def y_Mo_object : MethodName := ⟨R_Mo, "object", "(II)I"⟩
abbrev b_Mo_in : ByteArray := prog_7_method_56_code
def y_Mo_in : MethodName := ⟨R_Mo, "in", "(II)I"⟩
abbrev b_Mo_count : ByteArray := prog_7_method_57_code
def y_Mo_count : MethodName := ⟨R_Mo, "count", "(I)I"⟩
abbrev b_La_label : ByteArray := method_3_code
def y_La_label : MethodName := ⟨R_La, "label", "(LLabelKernel;III[J)I"⟩
abbrev b_La_level : ByteArray := method_4_code
def y_La_level : MethodName := ⟨R_La, "level", "(LLabelKernel;II[J)I"⟩
abbrev b_La_fits : ByteArray := method_5_code
def y_La_fits : MethodName := ⟨R_La, "fits", "(LLabelKernel;IIZ[J)I"⟩
abbrev b_La_category : ByteArray := method_6_code
def y_La_category : MethodName := ⟨R_La, "category", "(LLabelKernel;I[J)I"⟩
abbrev b_La_container : ByteArray := method_7_code
def y_La_container : MethodName := ⟨R_La, "container", "(LLabelKernel;IIII[J)I"⟩
abbrev b_La_segment : ByteArray := method_8_code
def y_La_segment : MethodName := ⟨R_La, "segment", "(LLabelKernel;IIII[J)I"⟩
abbrev b_La_gate : ByteArray := method_9_code
def y_La_gate : MethodName := ⟨R_La, "gate", "(LLabelKernel;IIIII[J)I"⟩
abbrev b_La_thread : ByteArray := method_10_code
def y_La_thread : MethodName := ⟨R_La, "thread", "(LLabelKernel;IIII[J)I"⟩
abbrev b_La_read : ByteArray := method_11_code
def y_La_read : MethodName := ⟨R_La, "read", "(LLabelKernel;IIII[J)I"⟩
abbrev b_La_write : ByteArray := method_12_code
def y_La_write : MethodName := ⟨R_La, "write", "(LLabelKernel;IIIII[J)I"⟩
abbrev b_La_move : ByteArray := method_13_code
def y_La_move : MethodName := ⟨R_La, "move", "(LLabelKernel;IIII[J)I"⟩
abbrev b_La_drop : ByteArray := method_14_code
def y_La_drop : MethodName := ⟨R_La, "drop", "(LLabelKernel;III[J)I"⟩
abbrev b_La_become : ByteArray := method_15_code
def y_La_become : MethodName := ⟨R_La, "become", "(LLabelKernel;II[J)I"⟩
abbrev b_La_lower : ByteArray := method_16_code
def y_La_lower : MethodName := ⟨R_La, "lower", "(LLabelKernel;II[J)I"⟩
abbrev b_La_enter : ByteArray := method_17_code
def y_La_enter : MethodName := ⟨R_La, "enter", "(LLabelKernel;IIIII[J)I"⟩
abbrev b_La_user : ByteArray := method_18_code
def y_La_user : MethodName := ⟨R_La, "user", "(LLabelKernel;III[J)I"⟩
abbrev b_La_login : ByteArray := method_19_code
def y_La_login : MethodName := ⟨R_La, "login", "(LLabelKernel;III[J)I"⟩
abbrev b_La_file : ByteArray := method_20_code
def y_La_file : MethodName := ⟨R_La, "file", "(LLabelKernel;IIII[J)I"⟩
abbrev b_La_access : ByteArray := method_21_code
def y_La_access : MethodName := ⟨R_La, "access", "(LLabelKernel;IIIIZI[J)I"⟩
abbrev b_La_object : ByteArray := method_22_code
def y_La_object : MethodName := ⟨R_La, "object", "(LLabelKernel;II[J)I"⟩
abbrev b_La_in : ByteArray := method_23_code
def y_La_in : MethodName := ⟨R_La, "in", "(LLabelKernel;II[J)I"⟩
end
section
theorem d_Lb_init_0 : decode b_Lb_init 0 = .ok (.aload_n 0, 1) := by decide +kernel
theorem d_Lb_init_1 : decode b_Lb_init 1 = .ok (.invokespecial 3, 3) := by decide +kernel
theorem d_Lb_init_4 : decode b_Lb_init 4 = .ok (.aload_n 0, 1) := by decide +kernel
theorem d_Lb_init_5 : decode b_Lb_init 5 = .ok (.bipush 60, 2) := by decide +kernel
theorem d_Lb_init_7 : decode b_Lb_init 7 = .ok (.newarray .int, 2) := by decide +kernel
theorem d_Lb_init_9 : decode b_Lb_init 9 = .ok (.putfield 9, 3) := by decide +kernel
theorem d_Lb_init_12 : decode b_Lb_init 12 = .ok (.aload_n 0, 1) := by decide +kernel
theorem d_Lb_init_13 : decode b_Lb_init 13 = .ok (.getfield 9, 3) := by decide +kernel
theorem d_Lb_init_16 : decode b_Lb_init 16 = .ok (.iconst 0, 1) := by decide +kernel
theorem d_Lb_init_17 : decode b_Lb_init 17 = .ok (.ldc 15, 2) := by decide +kernel
theorem d_Lb_init_19 : decode b_Lb_init 19 = .ok (.iastore, 1) := by decide +kernel
theorem d_Lb_init_20 : decode b_Lb_init 20 = .ok (.aload_n 0, 1) := by decide +kernel
theorem d_Lb_init_21 : decode b_Lb_init 21 = .ok (.getfield 9, 3) := by decide +kernel
theorem d_Lb_init_24 : decode b_Lb_init 24 = .ok (.iconst 1, 1) := by decide +kernel
theorem d_Lb_init_25 : decode b_Lb_init 25 = .ok (.ldc 16, 2) := by decide +kernel
theorem d_Lb_init_27 : decode b_Lb_init 27 = .ok (.iastore, 1) := by decide +kernel
theorem d_Lb_init_28 : decode b_Lb_init 28 = .ok (.aload_n 0, 1) := by decide +kernel
theorem d_Lb_init_29 : decode b_Lb_init 29 = .ok (.iconst 2, 1) := by decide +kernel
theorem d_Lb_init_30 : decode b_Lb_init 30 = .ok (.putfield 17, 3) := by decide +kernel
theorem d_Lb_init_33 : decode b_Lb_init 33 = .ok (.return_, 1) := by decide +kernel
theorem d_Lb_takeFrom_0 : decode b_Lb_takeFrom 0 = .ok (.aload_n 1, 1) := by decide +kernel
theorem d_Lb_takeFrom_1 : decode b_Lb_takeFrom 1 = .ok (.getfield 9, 3) := by decide +kernel
theorem d_Lb_takeFrom_4 : decode b_Lb_takeFrom 4 = .ok (.iconst 0, 1) := by decide +kernel
theorem d_Lb_takeFrom_5 : decode b_Lb_takeFrom 5 = .ok (.aload_n 0, 1) := by decide +kernel
theorem d_Lb_takeFrom_6 : decode b_Lb_takeFrom 6 = .ok (.getfield 9, 3) := by decide +kernel
theorem d_Lb_takeFrom_9 : decode b_Lb_takeFrom 9 = .ok (.iconst 0, 1) := by decide +kernel
theorem d_Lb_takeFrom_10 : decode b_Lb_takeFrom 10 = .ok (.aload_n 0, 1) := by decide +kernel
theorem d_Lb_takeFrom_11 : decode b_Lb_takeFrom 11 = .ok (.getfield 9, 3) := by decide +kernel
theorem d_Lb_takeFrom_14 : decode b_Lb_takeFrom 14 = .ok (.arraylength, 1) := by decide +kernel
theorem d_Lb_takeFrom_15 : decode b_Lb_takeFrom 15 = .ok (.invokestatic 21, 3) := by decide +kernel
theorem d_Lb_takeFrom_18 : decode b_Lb_takeFrom 18 = .ok (.aload_n 0, 1) := by decide +kernel
theorem d_Lb_takeFrom_19 : decode b_Lb_takeFrom 19 = .ok (.aload_n 1, 1) := by decide +kernel
theorem d_Lb_takeFrom_20 : decode b_Lb_takeFrom 20 = .ok (.getfield 17, 3) := by decide +kernel
theorem d_Lb_takeFrom_23 : decode b_Lb_takeFrom 23 = .ok (.putfield 17, 3) := by decide +kernel
theorem d_Lb_takeFrom_26 : decode b_Lb_takeFrom 26 = .ok (.return_, 1) := by decide +kernel
theorem d_Lb_howMany_0 : decode b_Lb_howMany 0 = .ok (.aload_n 0, 1) := by decide +kernel
theorem d_Lb_howMany_1 : decode b_Lb_howMany 1 = .ok (.getfield 17, 3) := by decide +kernel
theorem d_Lb_howMany_4 : decode b_Lb_howMany 4 = .ok (.ireturn, 1) := by decide +kernel
theorem d_Lb_free_0 : decode b_Lb_free 0 = .ok (.bipush 60, 2) := by decide +kernel
theorem d_Lb_free_2 : decode b_Lb_free 2 = .ok (.aload_n 0, 1) := by decide +kernel
theorem d_Lb_free_3 : decode b_Lb_free 3 = .ok (.getfield 17, 3) := by decide +kernel
theorem d_Lb_free_6 : decode b_Lb_free 6 = .ok (.isub, 1) := by decide +kernel
theorem d_Lb_free_7 : decode b_Lb_free 7 = .ok (.ireturn, 1) := by decide +kernel
theorem d_Lb_has_0 : decode b_Lb_has 0 = .ok (.iload_n 1, 1) := by decide +kernel
theorem d_Lb_has_1 : decode b_Lb_has 1 = .ok (.ifCond .lt 15, 3) := by decide +kernel
theorem d_Lb_has_4 : decode b_Lb_has 4 = .ok (.iload_n 1, 1) := by decide +kernel
theorem d_Lb_has_5 : decode b_Lb_has 5 = .ok (.aload_n 0, 1) := by decide +kernel
theorem d_Lb_has_6 : decode b_Lb_has 6 = .ok (.getfield 17, 3) := by decide +kernel
theorem d_Lb_has_9 : decode b_Lb_has 9 = .ok (.if_icmp .ge 7, 3) := by decide +kernel
theorem d_Lb_has_12 : decode b_Lb_has 12 = .ok (.iconst 1, 1) := by decide +kernel
theorem d_Lb_has_13 : decode b_Lb_has 13 = .ok (.goto 4, 3) := by decide +kernel
theorem d_Lb_has_16 : decode b_Lb_has 16 = .ok (.iconst 0, 1) := by decide +kernel
theorem d_Lb_has_17 : decode b_Lb_has 17 = .ok (.ireturn, 1) := by decide +kernel
theorem d_Lb_isStarless_0 : decode b_Lb_isStarless 0 = .ok (.aload_n 0, 1) := by decide +kernel
theorem d_Lb_isStarless_1 : decode b_Lb_isStarless 1 = .ok (.iload_n 1, 1) := by decide +kernel
theorem d_Lb_isStarless_2 : decode b_Lb_isStarless 2 = .ok (.invokevirtual 27, 3) := by decide +kernel
theorem d_Lb_isStarless_5 : decode b_Lb_isStarless 5 = .ok (.ifCond .eq 19, 3) := by decide +kernel
theorem d_Lb_isStarless_8 : decode b_Lb_isStarless 8 = .ok (.aload_n 0, 1) := by decide +kernel
theorem d_Lb_isStarless_9 : decode b_Lb_isStarless 9 = .ok (.getfield 9, 3) := by decide +kernel
theorem d_Lb_isStarless_12 : decode b_Lb_isStarless 12 = .ok (.iload_n 1, 1) := by decide +kernel
theorem d_Lb_isStarless_13 : decode b_Lb_isStarless 13 = .ok (.iaload, 1) := by decide +kernel
theorem d_Lb_isStarless_14 : decode b_Lb_isStarless 14 = .ok (.ldc 31, 2) := by decide +kernel
theorem d_Lb_isStarless_16 : decode b_Lb_isStarless 16 = .ok (.iand, 1) := by decide +kernel
theorem d_Lb_isStarless_17 : decode b_Lb_isStarless 17 = .ok (.ifCond .ne 7, 3) := by decide +kernel
theorem d_Lb_isStarless_20 : decode b_Lb_isStarless 20 = .ok (.iconst 1, 1) := by decide +kernel
theorem d_Lb_isStarless_21 : decode b_Lb_isStarless 21 = .ok (.goto 4, 3) := by decide +kernel
theorem d_Lb_isStarless_24 : decode b_Lb_isStarless 24 = .ok (.iconst 0, 1) := by decide +kernel
theorem d_Lb_isStarless_25 : decode b_Lb_isStarless 25 = .ok (.ireturn, 1) := by decide +kernel
theorem d_Lb_hasStarsOnlyOf_0 : decode b_Lb_hasStarsOnlyOf 0 = .ok (.aload_n 0, 1) := by decide +kernel
theorem d_Lb_hasStarsOnlyOf_1 : decode b_Lb_hasStarsOnlyOf 1 = .ok (.getfield 9, 3) := by decide +kernel
theorem d_Lb_hasStarsOnlyOf_4 : decode b_Lb_hasStarsOnlyOf 4 = .ok (.iload_n 1, 1) := by decide +kernel
theorem d_Lb_hasStarsOnlyOf_5 : decode b_Lb_hasStarsOnlyOf 5 = .ok (.iaload, 1) := by decide +kernel
theorem d_Lb_hasStarsOnlyOf_6 : decode b_Lb_hasStarsOnlyOf 6 = .ok (.aload_n 0, 1) := by decide +kernel
theorem d_Lb_hasStarsOnlyOf_7 : decode b_Lb_hasStarsOnlyOf 7 = .ok (.getfield 9, 3) := by decide +kernel
theorem d_Lb_hasStarsOnlyOf_10 : decode b_Lb_hasStarsOnlyOf 10 = .ok (.iload_n 2, 1) := by decide +kernel
theorem d_Lb_hasStarsOnlyOf_11 : decode b_Lb_hasStarsOnlyOf 11 = .ok (.iaload, 1) := by decide +kernel
theorem d_Lb_hasStarsOnlyOf_12 : decode b_Lb_hasStarsOnlyOf 12 = .ok (.iconst (-1), 1) := by decide +kernel
theorem d_Lb_hasStarsOnlyOf_13 : decode b_Lb_hasStarsOnlyOf 13 = .ok (.ixor, 1) := by decide +kernel
theorem d_Lb_hasStarsOnlyOf_14 : decode b_Lb_hasStarsOnlyOf 14 = .ok (.iand, 1) := by decide +kernel
theorem d_Lb_hasStarsOnlyOf_15 : decode b_Lb_hasStarsOnlyOf 15 = .ok (.ldc 31, 2) := by decide +kernel
theorem d_Lb_hasStarsOnlyOf_17 : decode b_Lb_hasStarsOnlyOf 17 = .ok (.iand, 1) := by decide +kernel
theorem d_Lb_hasStarsOnlyOf_18 : decode b_Lb_hasStarsOnlyOf 18 = .ok (.ifCond .ne 7, 3) := by decide +kernel
theorem d_Lb_hasStarsOnlyOf_21 : decode b_Lb_hasStarsOnlyOf 21 = .ok (.iconst 1, 1) := by decide +kernel
theorem d_Lb_hasStarsOnlyOf_22 : decode b_Lb_hasStarsOnlyOf 22 = .ok (.goto 4, 3) := by decide +kernel
theorem d_Lb_hasStarsOnlyOf_25 : decode b_Lb_hasStarsOnlyOf 25 = .ok (.iconst 0, 1) := by decide +kernel
theorem d_Lb_hasStarsOnlyOf_26 : decode b_Lb_hasStarsOnlyOf 26 = .ok (.ireturn, 1) := by decide +kernel
theorem d_Lb_levelAt_0 : decode b_Lb_levelAt 0 = .ok (.aload_n 0, 1) := by decide +kernel
theorem d_Lb_levelAt_1 : decode b_Lb_levelAt 1 = .ok (.getfield 9, 3) := by decide +kernel
theorem d_Lb_levelAt_4 : decode b_Lb_levelAt 4 = .ok (.iload_n 1, 1) := by decide +kernel
theorem d_Lb_levelAt_5 : decode b_Lb_levelAt 5 = .ok (.iaload, 1) := by decide +kernel
theorem d_Lb_levelAt_6 : decode b_Lb_levelAt 6 = .ok (.iconst 4, 1) := by decide +kernel
theorem d_Lb_levelAt_7 : decode b_Lb_levelAt 7 = .ok (.iload_n 2, 1) := by decide +kernel
theorem d_Lb_levelAt_8 : decode b_Lb_levelAt 8 = .ok (.imul, 1) := by decide +kernel
theorem d_Lb_levelAt_9 : decode b_Lb_levelAt 9 = .ok (.iushr, 1) := by decide +kernel
theorem d_Lb_levelAt_10 : decode b_Lb_levelAt 10 = .ok (.bipush 15, 2) := by decide +kernel
theorem d_Lb_levelAt_12 : decode b_Lb_levelAt 12 = .ok (.iand, 1) := by decide +kernel
theorem d_Lb_levelAt_13 : decode b_Lb_levelAt 13 = .ok (.ireturn, 1) := by decide +kernel
theorem d_Lb_low_0 : decode b_Lb_low 0 = .ok (.iload_n 0, 1) := by decide +kernel
theorem d_Lb_low_1 : decode b_Lb_low 1 = .ok (.iconst 4, 1) := by decide +kernel
theorem d_Lb_low_2 : decode b_Lb_low 2 = .ok (.if_icmp .ne 7, 3) := by decide +kernel
theorem d_Lb_low_5 : decode b_Lb_low 5 = .ok (.iconst (-1), 1) := by decide +kernel
theorem d_Lb_low_6 : decode b_Lb_low 6 = .ok (.goto 4, 3) := by decide +kernel
theorem d_Lb_low_9 : decode b_Lb_low 9 = .ok (.iload_n 0, 1) := by decide +kernel
theorem d_Lb_low_10 : decode b_Lb_low 10 = .ok (.ireturn, 1) := by decide +kernel
theorem d_Lb_fitsUnder_0 : decode b_Lb_fitsUnder 0 = .ok (.iconst 0, 1) := by decide +kernel
theorem d_Lb_fitsUnder_1 : decode b_Lb_fitsUnder 1 = .ok (.istore_n 3, 1) := by decide +kernel
theorem d_Lb_fitsUnder_2 : decode b_Lb_fitsUnder 2 = .ok (.iload_n 3, 1) := by decide +kernel
theorem d_Lb_fitsUnder_3 : decode b_Lb_fitsUnder 3 = .ok (.bipush 8, 2) := by decide +kernel
theorem d_Lb_fitsUnder_5 : decode b_Lb_fitsUnder 5 = .ok (.if_icmp .ge 32, 3) := by decide +kernel
theorem d_Lb_fitsUnder_8 : decode b_Lb_fitsUnder 8 = .ok (.aload_n 0, 1) := by decide +kernel
theorem d_Lb_fitsUnder_9 : decode b_Lb_fitsUnder 9 = .ok (.iload_n 1, 1) := by decide +kernel
theorem d_Lb_fitsUnder_10 : decode b_Lb_fitsUnder 10 = .ok (.iload_n 3, 1) := by decide +kernel
theorem d_Lb_fitsUnder_11 : decode b_Lb_fitsUnder 11 = .ok (.invokevirtual 32, 3) := by decide +kernel
theorem d_Lb_fitsUnder_14 : decode b_Lb_fitsUnder 14 = .ok (.invokestatic 36, 3) := by decide +kernel
theorem d_Lb_fitsUnder_17 : decode b_Lb_fitsUnder 17 = .ok (.aload_n 0, 1) := by decide +kernel
theorem d_Lb_fitsUnder_18 : decode b_Lb_fitsUnder 18 = .ok (.iload_n 2, 1) := by decide +kernel
theorem d_Lb_fitsUnder_19 : decode b_Lb_fitsUnder 19 = .ok (.iload_n 3, 1) := by decide +kernel
theorem d_Lb_fitsUnder_20 : decode b_Lb_fitsUnder 20 = .ok (.invokevirtual 32, 3) := by decide +kernel
theorem d_Lb_fitsUnder_23 : decode b_Lb_fitsUnder 23 = .ok (.invokestatic 36, 3) := by decide +kernel
theorem d_Lb_fitsUnder_26 : decode b_Lb_fitsUnder 26 = .ok (.if_icmp .le 5, 3) := by decide +kernel
theorem d_Lb_fitsUnder_29 : decode b_Lb_fitsUnder 29 = .ok (.iconst 0, 1) := by decide +kernel
theorem d_Lb_fitsUnder_30 : decode b_Lb_fitsUnder 30 = .ok (.ireturn, 1) := by decide +kernel
theorem d_Lb_fitsUnder_31 : decode b_Lb_fitsUnder 31 = .ok (.iinc 3 1, 3) := by decide +kernel
theorem d_Lb_fitsUnder_34 : decode b_Lb_fitsUnder 34 = .ok (.goto (-32), 3) := by decide +kernel
theorem d_Lb_fitsUnder_37 : decode b_Lb_fitsUnder 37 = .ok (.iconst 1, 1) := by decide +kernel
theorem d_Lb_fitsUnder_38 : decode b_Lb_fitsUnder 38 = .ok (.ireturn, 1) := by decide +kernel
theorem d_Lb_fitsHigh_0 : decode b_Lb_fitsHigh 0 = .ok (.iconst 0, 1) := by decide +kernel
theorem d_Lb_fitsHigh_1 : decode b_Lb_fitsHigh 1 = .ok (.istore_n 3, 1) := by decide +kernel
theorem d_Lb_fitsHigh_2 : decode b_Lb_fitsHigh 2 = .ok (.iload_n 3, 1) := by decide +kernel
theorem d_Lb_fitsHigh_3 : decode b_Lb_fitsHigh 3 = .ok (.bipush 8, 2) := by decide +kernel
theorem d_Lb_fitsHigh_5 : decode b_Lb_fitsHigh 5 = .ok (.if_icmp .ge 29, 3) := by decide +kernel
theorem d_Lb_fitsHigh_8 : decode b_Lb_fitsHigh 8 = .ok (.aload_n 0, 1) := by decide +kernel
theorem d_Lb_fitsHigh_9 : decode b_Lb_fitsHigh 9 = .ok (.iload_n 1, 1) := by decide +kernel
theorem d_Lb_fitsHigh_10 : decode b_Lb_fitsHigh 10 = .ok (.iload_n 3, 1) := by decide +kernel
theorem d_Lb_fitsHigh_11 : decode b_Lb_fitsHigh 11 = .ok (.invokevirtual 32, 3) := by decide +kernel
theorem d_Lb_fitsHigh_14 : decode b_Lb_fitsHigh 14 = .ok (.invokestatic 36, 3) := by decide +kernel
theorem d_Lb_fitsHigh_17 : decode b_Lb_fitsHigh 17 = .ok (.aload_n 0, 1) := by decide +kernel
theorem d_Lb_fitsHigh_18 : decode b_Lb_fitsHigh 18 = .ok (.iload_n 2, 1) := by decide +kernel
theorem d_Lb_fitsHigh_19 : decode b_Lb_fitsHigh 19 = .ok (.iload_n 3, 1) := by decide +kernel
theorem d_Lb_fitsHigh_20 : decode b_Lb_fitsHigh 20 = .ok (.invokevirtual 32, 3) := by decide +kernel
theorem d_Lb_fitsHigh_23 : decode b_Lb_fitsHigh 23 = .ok (.if_icmp .le 5, 3) := by decide +kernel
theorem d_Lb_fitsHigh_26 : decode b_Lb_fitsHigh 26 = .ok (.iconst 0, 1) := by decide +kernel
theorem d_Lb_fitsHigh_27 : decode b_Lb_fitsHigh 27 = .ok (.ireturn, 1) := by decide +kernel
theorem d_Lb_fitsHigh_28 : decode b_Lb_fitsHigh 28 = .ok (.iinc 3 1, 3) := by decide +kernel
theorem d_Lb_fitsHigh_31 : decode b_Lb_fitsHigh 31 = .ok (.goto (-29), 3) := by decide +kernel
theorem d_Lb_fitsHigh_34 : decode b_Lb_fitsHigh 34 = .ok (.iconst 1, 1) := by decide +kernel
theorem d_Lb_fitsHigh_35 : decode b_Lb_fitsHigh 35 = .ok (.ireturn, 1) := by decide +kernel
theorem d_Lb_isJoinOf_0 : decode b_Lb_isJoinOf 0 = .ok (.iconst 0, 1) := by decide +kernel
theorem d_Lb_isJoinOf_1 : decode b_Lb_isJoinOf 1 = .ok (.istore 4, 2) := by decide +kernel
theorem d_Lb_isJoinOf_3 : decode b_Lb_isJoinOf 3 = .ok (.iload 4, 2) := by decide +kernel
theorem d_Lb_isJoinOf_5 : decode b_Lb_isJoinOf 5 = .ok (.bipush 8, 2) := by decide +kernel
theorem d_Lb_isJoinOf_7 : decode b_Lb_isJoinOf 7 = .ok (.if_icmp .ge 23, 3) := by decide +kernel
theorem d_Lb_isJoinOf_10 : decode b_Lb_isJoinOf 10 = .ok (.aload_n 0, 1) := by decide +kernel
theorem d_Lb_isJoinOf_11 : decode b_Lb_isJoinOf 11 = .ok (.iload 4, 2) := by decide +kernel
theorem d_Lb_isJoinOf_13 : decode b_Lb_isJoinOf 13 = .ok (.iload_n 1, 1) := by decide +kernel
theorem d_Lb_isJoinOf_14 : decode b_Lb_isJoinOf 14 = .ok (.iload_n 2, 1) := by decide +kernel
theorem d_Lb_isJoinOf_15 : decode b_Lb_isJoinOf 15 = .ok (.iload_n 3, 1) := by decide +kernel
theorem d_Lb_isJoinOf_16 : decode b_Lb_isJoinOf 16 = .ok (.invokevirtual 40, 3) := by decide +kernel
theorem d_Lb_isJoinOf_19 : decode b_Lb_isJoinOf 19 = .ok (.ifCond .ne 5, 3) := by decide +kernel
theorem d_Lb_isJoinOf_22 : decode b_Lb_isJoinOf 22 = .ok (.iconst 0, 1) := by decide +kernel
theorem d_Lb_isJoinOf_23 : decode b_Lb_isJoinOf 23 = .ok (.ireturn, 1) := by decide +kernel
theorem d_Lb_isJoinOf_24 : decode b_Lb_isJoinOf 24 = .ok (.iinc 4 1, 3) := by decide +kernel
theorem d_Lb_isJoinOf_27 : decode b_Lb_isJoinOf 27 = .ok (.goto (-24), 3) := by decide +kernel
theorem d_Lb_isJoinOf_30 : decode b_Lb_isJoinOf 30 = .ok (.iconst 1, 1) := by decide +kernel
theorem d_Lb_isJoinOf_31 : decode b_Lb_isJoinOf 31 = .ok (.ireturn, 1) := by decide +kernel
theorem d_Lb_isJoinAt_0 : decode b_Lb_isJoinAt 0 = .ok (.aload_n 0, 1) := by decide +kernel
theorem d_Lb_isJoinAt_1 : decode b_Lb_isJoinAt 1 = .ok (.iload_n 2, 1) := by decide +kernel
theorem d_Lb_isJoinAt_2 : decode b_Lb_isJoinAt 2 = .ok (.iload_n 1, 1) := by decide +kernel
theorem d_Lb_isJoinAt_3 : decode b_Lb_isJoinAt 3 = .ok (.invokevirtual 32, 3) := by decide +kernel
theorem d_Lb_isJoinAt_6 : decode b_Lb_isJoinAt 6 = .ok (.istore 5, 2) := by decide +kernel
theorem d_Lb_isJoinAt_8 : decode b_Lb_isJoinAt 8 = .ok (.aload_n 0, 1) := by decide +kernel
theorem d_Lb_isJoinAt_9 : decode b_Lb_isJoinAt 9 = .ok (.iload_n 3, 1) := by decide +kernel
theorem d_Lb_isJoinAt_10 : decode b_Lb_isJoinAt 10 = .ok (.iload_n 1, 1) := by decide +kernel
theorem d_Lb_isJoinAt_11 : decode b_Lb_isJoinAt 11 = .ok (.invokevirtual 32, 3) := by decide +kernel
theorem d_Lb_isJoinAt_14 : decode b_Lb_isJoinAt 14 = .ok (.istore 6, 2) := by decide +kernel
theorem d_Lb_isJoinAt_16 : decode b_Lb_isJoinAt 16 = .ok (.aload_n 0, 1) := by decide +kernel
theorem d_Lb_isJoinAt_17 : decode b_Lb_isJoinAt 17 = .ok (.iload 4, 2) := by decide +kernel
theorem d_Lb_isJoinAt_19 : decode b_Lb_isJoinAt 19 = .ok (.iload_n 1, 1) := by decide +kernel
theorem d_Lb_isJoinAt_20 : decode b_Lb_isJoinAt 20 = .ok (.invokevirtual 32, 3) := by decide +kernel
theorem d_Lb_isJoinAt_23 : decode b_Lb_isJoinAt 23 = .ok (.istore 7, 2) := by decide +kernel
theorem d_Lb_isJoinAt_25 : decode b_Lb_isJoinAt 25 = .ok (.iload 5, 2) := by decide +kernel
theorem d_Lb_isJoinAt_27 : decode b_Lb_isJoinAt 27 = .ok (.iconst 4, 1) := by decide +kernel
theorem d_Lb_isJoinAt_28 : decode b_Lb_isJoinAt 28 = .ok (.if_icmp .ne 21, 3) := by decide +kernel
theorem d_Lb_isJoinAt_31 : decode b_Lb_isJoinAt 31 = .ok (.iload 6, 2) := by decide +kernel
theorem d_Lb_isJoinAt_33 : decode b_Lb_isJoinAt 33 = .ok (.iconst 4, 1) := by decide +kernel
theorem d_Lb_isJoinAt_34 : decode b_Lb_isJoinAt 34 = .ok (.if_icmp .eq 9, 3) := by decide +kernel
theorem d_Lb_isJoinAt_37 : decode b_Lb_isJoinAt 37 = .ok (.iload 7, 2) := by decide +kernel
theorem d_Lb_isJoinAt_39 : decode b_Lb_isJoinAt 39 = .ok (.iconst 4, 1) := by decide +kernel
theorem d_Lb_isJoinAt_40 : decode b_Lb_isJoinAt 40 = .ok (.if_icmp .ne 7, 3) := by decide +kernel
theorem d_Lb_isJoinAt_43 : decode b_Lb_isJoinAt 43 = .ok (.iconst 1, 1) := by decide +kernel
theorem d_Lb_isJoinAt_44 : decode b_Lb_isJoinAt 44 = .ok (.goto 4, 3) := by decide +kernel
theorem d_Lb_isJoinAt_47 : decode b_Lb_isJoinAt 47 = .ok (.iconst 0, 1) := by decide +kernel
theorem d_Lb_isJoinAt_48 : decode b_Lb_isJoinAt 48 = .ok (.ireturn, 1) := by decide +kernel
theorem d_Lb_isJoinAt_49 : decode b_Lb_isJoinAt 49 = .ok (.iload 5, 2) := by decide +kernel
theorem d_Lb_isJoinAt_51 : decode b_Lb_isJoinAt 51 = .ok (.iload 6, 2) := by decide +kernel
theorem d_Lb_isJoinAt_53 : decode b_Lb_isJoinAt 53 = .ok (.invokestatic 36, 3) := by decide +kernel
theorem d_Lb_isJoinAt_56 : decode b_Lb_isJoinAt 56 = .ok (.if_icmp .lt 17, 3) := by decide +kernel
theorem d_Lb_isJoinAt_59 : decode b_Lb_isJoinAt 59 = .ok (.iload 5, 2) := by decide +kernel
theorem d_Lb_isJoinAt_61 : decode b_Lb_isJoinAt 61 = .ok (.iload 7, 2) := by decide +kernel
theorem d_Lb_isJoinAt_63 : decode b_Lb_isJoinAt 63 = .ok (.invokestatic 36, 3) := by decide +kernel
theorem d_Lb_isJoinAt_66 : decode b_Lb_isJoinAt 66 = .ok (.if_icmp .lt 7, 3) := by decide +kernel
theorem d_Lb_isJoinAt_69 : decode b_Lb_isJoinAt 69 = .ok (.iconst 1, 1) := by decide +kernel
theorem d_Lb_isJoinAt_70 : decode b_Lb_isJoinAt 70 = .ok (.goto 4, 3) := by decide +kernel
theorem d_Lb_isJoinAt_73 : decode b_Lb_isJoinAt 73 = .ok (.iconst 0, 1) := by decide +kernel
theorem d_Lb_isJoinAt_74 : decode b_Lb_isJoinAt 74 = .ok (.ireturn, 1) := by decide +kernel
theorem d_Lb_isNowhereAboveBoth_0 : decode b_Lb_isNowhereAboveBoth 0 = .ok (.iconst 0, 1) := by decide +kernel
theorem d_Lb_isNowhereAboveBoth_1 : decode b_Lb_isNowhereAboveBoth 1 = .ok (.istore 4, 2) := by decide +kernel
theorem d_Lb_isNowhereAboveBoth_3 : decode b_Lb_isNowhereAboveBoth 3 = .ok (.iload 4, 2) := by decide +kernel
theorem d_Lb_isNowhereAboveBoth_5 : decode b_Lb_isNowhereAboveBoth 5 = .ok (.bipush 8, 2) := by decide +kernel
theorem d_Lb_isNowhereAboveBoth_7 : decode b_Lb_isNowhereAboveBoth 7 = .ok (.if_icmp .ge 44, 3) := by decide +kernel
theorem d_Lb_isNowhereAboveBoth_10 : decode b_Lb_isNowhereAboveBoth 10 = .ok (.aload_n 0, 1) := by decide +kernel
theorem d_Lb_isNowhereAboveBoth_11 : decode b_Lb_isNowhereAboveBoth 11 = .ok (.iload_n 1, 1) := by decide +kernel
theorem d_Lb_isNowhereAboveBoth_12 : decode b_Lb_isNowhereAboveBoth 12 = .ok (.iload 4, 2) := by decide +kernel
theorem d_Lb_isNowhereAboveBoth_14 : decode b_Lb_isNowhereAboveBoth 14 = .ok (.invokevirtual 32, 3) := by decide +kernel
theorem d_Lb_isNowhereAboveBoth_17 : decode b_Lb_isNowhereAboveBoth 17 = .ok (.istore 5, 2) := by decide +kernel
theorem d_Lb_isNowhereAboveBoth_19 : decode b_Lb_isNowhereAboveBoth 19 = .ok (.iload 5, 2) := by decide +kernel
theorem d_Lb_isNowhereAboveBoth_21 : decode b_Lb_isNowhereAboveBoth 21 = .ok (.aload_n 0, 1) := by decide +kernel
theorem d_Lb_isNowhereAboveBoth_22 : decode b_Lb_isNowhereAboveBoth 22 = .ok (.iload_n 2, 1) := by decide +kernel
theorem d_Lb_isNowhereAboveBoth_23 : decode b_Lb_isNowhereAboveBoth 23 = .ok (.iload 4, 2) := by decide +kernel
theorem d_Lb_isNowhereAboveBoth_25 : decode b_Lb_isNowhereAboveBoth 25 = .ok (.invokevirtual 32, 3) := by decide +kernel
theorem d_Lb_isNowhereAboveBoth_28 : decode b_Lb_isNowhereAboveBoth 28 = .ok (.if_icmp .le 17, 3) := by decide +kernel
theorem d_Lb_isNowhereAboveBoth_31 : decode b_Lb_isNowhereAboveBoth 31 = .ok (.iload 5, 2) := by decide +kernel
theorem d_Lb_isNowhereAboveBoth_33 : decode b_Lb_isNowhereAboveBoth 33 = .ok (.aload_n 0, 1) := by decide +kernel
theorem d_Lb_isNowhereAboveBoth_34 : decode b_Lb_isNowhereAboveBoth 34 = .ok (.iload_n 3, 1) := by decide +kernel
theorem d_Lb_isNowhereAboveBoth_35 : decode b_Lb_isNowhereAboveBoth 35 = .ok (.iload 4, 2) := by decide +kernel
theorem d_Lb_isNowhereAboveBoth_37 : decode b_Lb_isNowhereAboveBoth 37 = .ok (.invokevirtual 32, 3) := by decide +kernel
theorem d_Lb_isNowhereAboveBoth_40 : decode b_Lb_isNowhereAboveBoth 40 = .ok (.if_icmp .le 5, 3) := by decide +kernel
theorem d_Lb_isNowhereAboveBoth_43 : decode b_Lb_isNowhereAboveBoth 43 = .ok (.iconst 0, 1) := by decide +kernel
theorem d_Lb_isNowhereAboveBoth_44 : decode b_Lb_isNowhereAboveBoth 44 = .ok (.ireturn, 1) := by decide +kernel
theorem d_Lb_isNowhereAboveBoth_45 : decode b_Lb_isNowhereAboveBoth 45 = .ok (.iinc 4 1, 3) := by decide +kernel
theorem d_Lb_isNowhereAboveBoth_48 : decode b_Lb_isNowhereAboveBoth 48 = .ok (.goto (-45), 3) := by decide +kernel
theorem d_Lb_isNowhereAboveBoth_51 : decode b_Lb_isNowhereAboveBoth 51 = .ok (.iconst 1, 1) := by decide +kernel
theorem d_Lb_isNowhereAboveBoth_52 : decode b_Lb_isNowhereAboveBoth 52 = .ok (.ireturn, 1) := by decide +kernel
theorem d_Lb_changed_0 : decode b_Lb_changed 0 = .ok (.iconst 4, 1) := by decide +kernel
theorem d_Lb_changed_1 : decode b_Lb_changed 1 = .ok (.iload_n 2, 1) := by decide +kernel
theorem d_Lb_changed_2 : decode b_Lb_changed 2 = .ok (.imul, 1) := by decide +kernel
theorem d_Lb_changed_3 : decode b_Lb_changed 3 = .ok (.istore 4, 2) := by decide +kernel
theorem d_Lb_changed_5 : decode b_Lb_changed 5 = .ok (.aload_n 0, 1) := by decide +kernel
theorem d_Lb_changed_6 : decode b_Lb_changed 6 = .ok (.getfield 9, 3) := by decide +kernel
theorem d_Lb_changed_9 : decode b_Lb_changed 9 = .ok (.iload_n 1, 1) := by decide +kernel
theorem d_Lb_changed_10 : decode b_Lb_changed 10 = .ok (.iaload, 1) := by decide +kernel
theorem d_Lb_changed_11 : decode b_Lb_changed 11 = .ok (.bipush 15, 2) := by decide +kernel
theorem d_Lb_changed_13 : decode b_Lb_changed 13 = .ok (.iload 4, 2) := by decide +kernel
theorem d_Lb_changed_15 : decode b_Lb_changed 15 = .ok (.ishl, 1) := by decide +kernel
theorem d_Lb_changed_16 : decode b_Lb_changed 16 = .ok (.iconst (-1), 1) := by decide +kernel
theorem d_Lb_changed_17 : decode b_Lb_changed 17 = .ok (.ixor, 1) := by decide +kernel
theorem d_Lb_changed_18 : decode b_Lb_changed 18 = .ok (.iand, 1) := by decide +kernel
theorem d_Lb_changed_19 : decode b_Lb_changed 19 = .ok (.iload_n 3, 1) := by decide +kernel
theorem d_Lb_changed_20 : decode b_Lb_changed 20 = .ok (.iload 4, 2) := by decide +kernel
theorem d_Lb_changed_22 : decode b_Lb_changed 22 = .ok (.ishl, 1) := by decide +kernel
theorem d_Lb_changed_23 : decode b_Lb_changed 23 = .ok (.ior, 1) := by decide +kernel
theorem d_Lb_changed_24 : decode b_Lb_changed 24 = .ok (.ireturn, 1) := by decide +kernel
theorem d_Lb_indexOf_0 : decode b_Lb_indexOf 0 = .ok (.iconst 0, 1) := by decide +kernel
theorem d_Lb_indexOf_1 : decode b_Lb_indexOf 1 = .ok (.istore_n 2, 1) := by decide +kernel
theorem d_Lb_indexOf_2 : decode b_Lb_indexOf 2 = .ok (.iload_n 2, 1) := by decide +kernel
theorem d_Lb_indexOf_3 : decode b_Lb_indexOf 3 = .ok (.aload_n 0, 1) := by decide +kernel
theorem d_Lb_indexOf_4 : decode b_Lb_indexOf 4 = .ok (.getfield 17, 3) := by decide +kernel
theorem d_Lb_indexOf_7 : decode b_Lb_indexOf 7 = .ok (.if_icmp .ge 21, 3) := by decide +kernel
theorem d_Lb_indexOf_10 : decode b_Lb_indexOf 10 = .ok (.aload_n 0, 1) := by decide +kernel
theorem d_Lb_indexOf_11 : decode b_Lb_indexOf 11 = .ok (.getfield 9, 3) := by decide +kernel
theorem d_Lb_indexOf_14 : decode b_Lb_indexOf 14 = .ok (.iload_n 2, 1) := by decide +kernel
theorem d_Lb_indexOf_15 : decode b_Lb_indexOf 15 = .ok (.iaload, 1) := by decide +kernel
theorem d_Lb_indexOf_16 : decode b_Lb_indexOf 16 = .ok (.iload_n 1, 1) := by decide +kernel
theorem d_Lb_indexOf_17 : decode b_Lb_indexOf 17 = .ok (.if_icmp .ne 5, 3) := by decide +kernel
theorem d_Lb_indexOf_20 : decode b_Lb_indexOf 20 = .ok (.iload_n 2, 1) := by decide +kernel
theorem d_Lb_indexOf_21 : decode b_Lb_indexOf 21 = .ok (.ireturn, 1) := by decide +kernel
theorem d_Lb_indexOf_22 : decode b_Lb_indexOf 22 = .ok (.iinc 2 1, 3) := by decide +kernel
theorem d_Lb_indexOf_25 : decode b_Lb_indexOf 25 = .ok (.goto (-23), 3) := by decide +kernel
theorem d_Lb_indexOf_28 : decode b_Lb_indexOf 28 = .ok (.iconst (-1), 1) := by decide +kernel
theorem d_Lb_indexOf_29 : decode b_Lb_indexOf 29 = .ok (.ireturn, 1) := by decide +kernel
theorem d_Lb_missing_0 : decode b_Lb_missing 0 = .ok (.aload_n 0, 1) := by decide +kernel
theorem d_Lb_missing_1 : decode b_Lb_missing 1 = .ok (.iload_n 1, 1) := by decide +kernel
theorem d_Lb_missing_2 : decode b_Lb_missing 2 = .ok (.invokevirtual 44, 3) := by decide +kernel
theorem d_Lb_missing_5 : decode b_Lb_missing 5 = .ok (.iconst (-1), 1) := by decide +kernel
theorem d_Lb_missing_6 : decode b_Lb_missing 6 = .ok (.if_icmp .ne 7, 3) := by decide +kernel
theorem d_Lb_missing_9 : decode b_Lb_missing 9 = .ok (.iconst 1, 1) := by decide +kernel
theorem d_Lb_missing_10 : decode b_Lb_missing 10 = .ok (.goto 4, 3) := by decide +kernel
theorem d_Lb_missing_13 : decode b_Lb_missing 13 = .ok (.iconst 0, 1) := by decide +kernel
theorem d_Lb_missing_14 : decode b_Lb_missing 14 = .ok (.ireturn, 1) := by decide +kernel
theorem d_Lb_numberOf_0 : decode b_Lb_numberOf 0 = .ok (.aload_n 0, 1) := by decide +kernel
theorem d_Lb_numberOf_1 : decode b_Lb_numberOf 1 = .ok (.iload_n 1, 1) := by decide +kernel
theorem d_Lb_numberOf_2 : decode b_Lb_numberOf 2 = .ok (.invokevirtual 44, 3) := by decide +kernel
theorem d_Lb_numberOf_5 : decode b_Lb_numberOf 5 = .ok (.istore_n 2, 1) := by decide +kernel
theorem d_Lb_numberOf_6 : decode b_Lb_numberOf 6 = .ok (.iload_n 2, 1) := by decide +kernel
theorem d_Lb_numberOf_7 : decode b_Lb_numberOf 7 = .ok (.iconst (-1), 1) := by decide +kernel
theorem d_Lb_numberOf_8 : decode b_Lb_numberOf 8 = .ok (.if_icmp .ne 34, 3) := by decide +kernel
theorem d_Lb_numberOf_11 : decode b_Lb_numberOf 11 = .ok (.aload_n 0, 1) := by decide +kernel
theorem d_Lb_numberOf_12 : decode b_Lb_numberOf 12 = .ok (.getfield 17, 3) := by decide +kernel
theorem d_Lb_numberOf_15 : decode b_Lb_numberOf 15 = .ok (.bipush 60, 2) := by decide +kernel
theorem d_Lb_numberOf_17 : decode b_Lb_numberOf 17 = .ok (.if_icmp .ge 25, 3) := by decide +kernel
theorem d_Lb_numberOf_20 : decode b_Lb_numberOf 20 = .ok (.aload_n 0, 1) := by decide +kernel
theorem d_Lb_numberOf_21 : decode b_Lb_numberOf 21 = .ok (.getfield 17, 3) := by decide +kernel
theorem d_Lb_numberOf_24 : decode b_Lb_numberOf 24 = .ok (.istore_n 2, 1) := by decide +kernel
theorem d_Lb_numberOf_25 : decode b_Lb_numberOf 25 = .ok (.aload_n 0, 1) := by decide +kernel
theorem d_Lb_numberOf_26 : decode b_Lb_numberOf 26 = .ok (.getfield 9, 3) := by decide +kernel
theorem d_Lb_numberOf_29 : decode b_Lb_numberOf 29 = .ok (.iload_n 2, 1) := by decide +kernel
theorem d_Lb_numberOf_30 : decode b_Lb_numberOf 30 = .ok (.iload_n 1, 1) := by decide +kernel
theorem d_Lb_numberOf_31 : decode b_Lb_numberOf 31 = .ok (.iastore, 1) := by decide +kernel
theorem d_Lb_numberOf_32 : decode b_Lb_numberOf 32 = .ok (.aload_n 0, 1) := by decide +kernel
theorem d_Lb_numberOf_33 : decode b_Lb_numberOf 33 = .ok (.dup, 1) := by decide +kernel
theorem d_Lb_numberOf_34 : decode b_Lb_numberOf 34 = .ok (.getfield 17, 3) := by decide +kernel
theorem d_Lb_numberOf_37 : decode b_Lb_numberOf 37 = .ok (.iconst 1, 1) := by decide +kernel
theorem d_Lb_numberOf_38 : decode b_Lb_numberOf 38 = .ok (.iadd, 1) := by decide +kernel
theorem d_Lb_numberOf_39 : decode b_Lb_numberOf 39 = .ok (.putfield 17, 3) := by decide +kernel
theorem d_Lb_numberOf_42 : decode b_Lb_numberOf 42 = .ok (.iload_n 2, 1) := by decide +kernel
theorem d_Lb_numberOf_43 : decode b_Lb_numberOf 43 = .ok (.ireturn, 1) := by decide +kernel
theorem d_Sn_init_0 : decode b_Sn_init 0 = .ok (.aload_n 0, 1) := by decide +kernel
theorem d_Sn_init_1 : decode b_Sn_init 1 = .ok (.invokespecial 1, 3) := by decide +kernel
theorem d_Sn_init_4 : decode b_Sn_init 4 = .ok (.aload_n 0, 1) := by decide +kernel
theorem d_Sn_init_5 : decode b_Sn_init 5 = .ok (.new 7, 3) := by decide +kernel
theorem d_Sn_init_8 : decode b_Sn_init 8 = .ok (.dup, 1) := by decide +kernel
theorem d_Sn_init_9 : decode b_Sn_init 9 = .ok (.invokespecial 9, 3) := by decide +kernel
theorem d_Sn_init_12 : decode b_Sn_init 12 = .ok (.putfield 10, 3) := by decide +kernel
theorem d_Sn_init_15 : decode b_Sn_init 15 = .ok (.aload_n 0, 1) := by decide +kernel
theorem d_Sn_init_16 : decode b_Sn_init 16 = .ok (.new 16, 3) := by decide +kernel
theorem d_Sn_init_19 : decode b_Sn_init 19 = .ok (.dup, 1) := by decide +kernel
theorem d_Sn_init_20 : decode b_Sn_init 20 = .ok (.invokespecial 18, 3) := by decide +kernel
theorem d_Sn_init_23 : decode b_Sn_init 23 = .ok (.putfield 19, 3) := by decide +kernel
theorem d_Sn_init_26 : decode b_Sn_init 26 = .ok (.aload_n 0, 1) := by decide +kernel
theorem d_Sn_init_27 : decode b_Sn_init 27 = .ok (.new 23, 3) := by decide +kernel
theorem d_Sn_init_30 : decode b_Sn_init 30 = .ok (.dup, 1) := by decide +kernel
theorem d_Sn_init_31 : decode b_Sn_init 31 = .ok (.invokespecial 25, 3) := by decide +kernel
theorem d_Sn_init_34 : decode b_Sn_init 34 = .ok (.putfield 26, 3) := by decide +kernel
theorem d_Sn_init_37 : decode b_Sn_init 37 = .ok (.aload_n 0, 1) := by decide +kernel
theorem d_Sn_init_38 : decode b_Sn_init 38 = .ok (.iconst 0, 1) := by decide +kernel
theorem d_Sn_init_39 : decode b_Sn_init 39 = .ok (.putfield 30, 3) := by decide +kernel
theorem d_Sn_init_42 : decode b_Sn_init 42 = .ok (.return_, 1) := by decide +kernel
theorem d_Sn_takeFrom_0 : decode b_Sn_takeFrom 0 = .ok (.aload_n 0, 1) := by decide +kernel
theorem d_Sn_takeFrom_1 : decode b_Sn_takeFrom 1 = .ok (.getfield 10, 3) := by decide +kernel
theorem d_Sn_takeFrom_4 : decode b_Sn_takeFrom 4 = .ok (.aload_n 1, 1) := by decide +kernel
theorem d_Sn_takeFrom_5 : decode b_Sn_takeFrom 5 = .ok (.getfield 10, 3) := by decide +kernel
theorem d_Sn_takeFrom_8 : decode b_Sn_takeFrom 8 = .ok (.invokevirtual 34, 3) := by decide +kernel
theorem d_Sn_takeFrom_11 : decode b_Sn_takeFrom 11 = .ok (.aload_n 0, 1) := by decide +kernel
theorem d_Sn_takeFrom_12 : decode b_Sn_takeFrom 12 = .ok (.getfield 19, 3) := by decide +kernel
theorem d_Sn_takeFrom_15 : decode b_Sn_takeFrom 15 = .ok (.aload_n 1, 1) := by decide +kernel
theorem d_Sn_takeFrom_16 : decode b_Sn_takeFrom 16 = .ok (.getfield 19, 3) := by decide +kernel
theorem d_Sn_takeFrom_19 : decode b_Sn_takeFrom 19 = .ok (.invokevirtual 38, 3) := by decide +kernel
theorem d_Sn_takeFrom_22 : decode b_Sn_takeFrom 22 = .ok (.aload_n 0, 1) := by decide +kernel
theorem d_Sn_takeFrom_23 : decode b_Sn_takeFrom 23 = .ok (.getfield 26, 3) := by decide +kernel
theorem d_Sn_takeFrom_26 : decode b_Sn_takeFrom 26 = .ok (.aload_n 1, 1) := by decide +kernel
theorem d_Sn_takeFrom_27 : decode b_Sn_takeFrom 27 = .ok (.getfield 26, 3) := by decide +kernel
theorem d_Sn_takeFrom_30 : decode b_Sn_takeFrom 30 = .ok (.invokevirtual 41, 3) := by decide +kernel
theorem d_Sn_takeFrom_33 : decode b_Sn_takeFrom 33 = .ok (.aload_n 0, 1) := by decide +kernel
theorem d_Sn_takeFrom_34 : decode b_Sn_takeFrom 34 = .ok (.aload_n 1, 1) := by decide +kernel
theorem d_Sn_takeFrom_35 : decode b_Sn_takeFrom 35 = .ok (.getfield 30, 3) := by decide +kernel
theorem d_Sn_takeFrom_38 : decode b_Sn_takeFrom 38 = .ok (.putfield 30, 3) := by decide +kernel
theorem d_Sn_takeFrom_41 : decode b_Sn_takeFrom 41 = .ok (.return_, 1) := by decide +kernel
theorem d_Us_init_0 : decode b_Us_init 0 = .ok (.aload_n 0, 1) := by decide +kernel
theorem d_Us_init_1 : decode b_Us_init 1 = .ok (.invokespecial 3, 3) := by decide +kernel
theorem d_Us_init_4 : decode b_Us_init 4 = .ok (.aload_n 0, 1) := by decide +kernel
theorem d_Us_init_5 : decode b_Us_init 5 = .ok (.iconst 4, 1) := by decide +kernel
theorem d_Us_init_6 : decode b_Us_init 6 = .ok (.newarray .boolean, 2) := by decide +kernel
theorem d_Us_init_8 : decode b_Us_init 8 = .ok (.putfield 9, 3) := by decide +kernel
theorem d_Us_init_11 : decode b_Us_init 11 = .ok (.aload_n 0, 1) := by decide +kernel
theorem d_Us_init_12 : decode b_Us_init 12 = .ok (.iconst 4, 1) := by decide +kernel
theorem d_Us_init_13 : decode b_Us_init 13 = .ok (.newarray .int, 2) := by decide +kernel
theorem d_Us_init_15 : decode b_Us_init 15 = .ok (.putfield 15, 3) := by decide +kernel
theorem d_Us_init_18 : decode b_Us_init 18 = .ok (.aload_n 0, 1) := by decide +kernel
theorem d_Us_init_19 : decode b_Us_init 19 = .ok (.iconst 4, 1) := by decide +kernel
theorem d_Us_init_20 : decode b_Us_init 20 = .ok (.newarray .int, 2) := by decide +kernel
theorem d_Us_init_22 : decode b_Us_init 22 = .ok (.putfield 19, 3) := by decide +kernel
theorem d_Us_init_25 : decode b_Us_init 25 = .ok (.aload_n 0, 1) := by decide +kernel
theorem d_Us_init_26 : decode b_Us_init 26 = .ok (.iconst 4, 1) := by decide +kernel
theorem d_Us_init_27 : decode b_Us_init 27 = .ok (.newarray .int, 2) := by decide +kernel
theorem d_Us_init_29 : decode b_Us_init 29 = .ok (.putfield 22, 3) := by decide +kernel
theorem d_Us_init_32 : decode b_Us_init 32 = .ok (.aload_n 0, 1) := by decide +kernel
theorem d_Us_init_33 : decode b_Us_init 33 = .ok (.iconst 4, 1) := by decide +kernel
theorem d_Us_init_34 : decode b_Us_init 34 = .ok (.newarray .int, 2) := by decide +kernel
theorem d_Us_init_36 : decode b_Us_init 36 = .ok (.putfield 25, 3) := by decide +kernel
theorem d_Us_init_39 : decode b_Us_init 39 = .ok (.aload_n 0, 1) := by decide +kernel
theorem d_Us_init_40 : decode b_Us_init 40 = .ok (.iconst 4, 1) := by decide +kernel
theorem d_Us_init_41 : decode b_Us_init 41 = .ok (.newarray .int, 2) := by decide +kernel
theorem d_Us_init_43 : decode b_Us_init 43 = .ok (.putfield 28, 3) := by decide +kernel
theorem d_Us_init_46 : decode b_Us_init 46 = .ok (.aload_n 0, 1) := by decide +kernel
theorem d_Us_init_47 : decode b_Us_init 47 = .ok (.iconst 4, 1) := by decide +kernel
theorem d_Us_init_48 : decode b_Us_init 48 = .ok (.newarray .int, 2) := by decide +kernel
theorem d_Us_init_50 : decode b_Us_init 50 = .ok (.putfield 31, 3) := by decide +kernel
theorem d_Us_init_53 : decode b_Us_init 53 = .ok (.return_, 1) := by decide +kernel
theorem d_Us_takeFrom_0 : decode b_Us_takeFrom 0 = .ok (.aload_n 1, 1) := by decide +kernel
theorem d_Us_takeFrom_1 : decode b_Us_takeFrom 1 = .ok (.getfield 9, 3) := by decide +kernel
theorem d_Us_takeFrom_4 : decode b_Us_takeFrom 4 = .ok (.iconst 0, 1) := by decide +kernel
theorem d_Us_takeFrom_5 : decode b_Us_takeFrom 5 = .ok (.aload_n 0, 1) := by decide +kernel
theorem d_Us_takeFrom_6 : decode b_Us_takeFrom 6 = .ok (.getfield 9, 3) := by decide +kernel
theorem d_Us_takeFrom_9 : decode b_Us_takeFrom 9 = .ok (.iconst 0, 1) := by decide +kernel
theorem d_Us_takeFrom_10 : decode b_Us_takeFrom 10 = .ok (.iconst 4, 1) := by decide +kernel
theorem d_Us_takeFrom_11 : decode b_Us_takeFrom 11 = .ok (.invokestatic 34, 3) := by decide +kernel
theorem d_Us_takeFrom_14 : decode b_Us_takeFrom 14 = .ok (.aload_n 1, 1) := by decide +kernel
theorem d_Us_takeFrom_15 : decode b_Us_takeFrom 15 = .ok (.getfield 15, 3) := by decide +kernel
theorem d_Us_takeFrom_18 : decode b_Us_takeFrom 18 = .ok (.iconst 0, 1) := by decide +kernel
theorem d_Us_takeFrom_19 : decode b_Us_takeFrom 19 = .ok (.aload_n 0, 1) := by decide +kernel
theorem d_Us_takeFrom_20 : decode b_Us_takeFrom 20 = .ok (.getfield 15, 3) := by decide +kernel
theorem d_Us_takeFrom_23 : decode b_Us_takeFrom 23 = .ok (.iconst 0, 1) := by decide +kernel
theorem d_Us_takeFrom_24 : decode b_Us_takeFrom 24 = .ok (.iconst 4, 1) := by decide +kernel
theorem d_Us_takeFrom_25 : decode b_Us_takeFrom 25 = .ok (.invokestatic 34, 3) := by decide +kernel
theorem d_Us_takeFrom_28 : decode b_Us_takeFrom 28 = .ok (.aload_n 1, 1) := by decide +kernel
theorem d_Us_takeFrom_29 : decode b_Us_takeFrom 29 = .ok (.getfield 19, 3) := by decide +kernel
theorem d_Us_takeFrom_32 : decode b_Us_takeFrom 32 = .ok (.iconst 0, 1) := by decide +kernel
theorem d_Us_takeFrom_33 : decode b_Us_takeFrom 33 = .ok (.aload_n 0, 1) := by decide +kernel
theorem d_Us_takeFrom_34 : decode b_Us_takeFrom 34 = .ok (.getfield 19, 3) := by decide +kernel
theorem d_Us_takeFrom_37 : decode b_Us_takeFrom 37 = .ok (.iconst 0, 1) := by decide +kernel
theorem d_Us_takeFrom_38 : decode b_Us_takeFrom 38 = .ok (.iconst 4, 1) := by decide +kernel
theorem d_Us_takeFrom_39 : decode b_Us_takeFrom 39 = .ok (.invokestatic 34, 3) := by decide +kernel
theorem d_Us_takeFrom_42 : decode b_Us_takeFrom 42 = .ok (.aload_n 1, 1) := by decide +kernel
theorem d_Us_takeFrom_43 : decode b_Us_takeFrom 43 = .ok (.getfield 22, 3) := by decide +kernel
theorem d_Us_takeFrom_46 : decode b_Us_takeFrom 46 = .ok (.iconst 0, 1) := by decide +kernel
theorem d_Us_takeFrom_47 : decode b_Us_takeFrom 47 = .ok (.aload_n 0, 1) := by decide +kernel
theorem d_Us_takeFrom_48 : decode b_Us_takeFrom 48 = .ok (.getfield 22, 3) := by decide +kernel
theorem d_Us_takeFrom_51 : decode b_Us_takeFrom 51 = .ok (.iconst 0, 1) := by decide +kernel
theorem d_Us_takeFrom_52 : decode b_Us_takeFrom 52 = .ok (.iconst 4, 1) := by decide +kernel
theorem d_Us_takeFrom_53 : decode b_Us_takeFrom 53 = .ok (.invokestatic 34, 3) := by decide +kernel
theorem d_Us_takeFrom_56 : decode b_Us_takeFrom 56 = .ok (.aload_n 1, 1) := by decide +kernel
theorem d_Us_takeFrom_57 : decode b_Us_takeFrom 57 = .ok (.getfield 25, 3) := by decide +kernel
theorem d_Us_takeFrom_60 : decode b_Us_takeFrom 60 = .ok (.iconst 0, 1) := by decide +kernel
theorem d_Us_takeFrom_61 : decode b_Us_takeFrom 61 = .ok (.aload_n 0, 1) := by decide +kernel
theorem d_Us_takeFrom_62 : decode b_Us_takeFrom 62 = .ok (.getfield 25, 3) := by decide +kernel
theorem d_Us_takeFrom_65 : decode b_Us_takeFrom 65 = .ok (.iconst 0, 1) := by decide +kernel
theorem d_Us_takeFrom_66 : decode b_Us_takeFrom 66 = .ok (.iconst 4, 1) := by decide +kernel
theorem d_Us_takeFrom_67 : decode b_Us_takeFrom 67 = .ok (.invokestatic 34, 3) := by decide +kernel
theorem d_Us_takeFrom_70 : decode b_Us_takeFrom 70 = .ok (.aload_n 1, 1) := by decide +kernel
theorem d_Us_takeFrom_71 : decode b_Us_takeFrom 71 = .ok (.getfield 28, 3) := by decide +kernel
theorem d_Us_takeFrom_74 : decode b_Us_takeFrom 74 = .ok (.iconst 0, 1) := by decide +kernel
theorem d_Us_takeFrom_75 : decode b_Us_takeFrom 75 = .ok (.aload_n 0, 1) := by decide +kernel
theorem d_Us_takeFrom_76 : decode b_Us_takeFrom 76 = .ok (.getfield 28, 3) := by decide +kernel
theorem d_Us_takeFrom_79 : decode b_Us_takeFrom 79 = .ok (.iconst 0, 1) := by decide +kernel
theorem d_Us_takeFrom_80 : decode b_Us_takeFrom 80 = .ok (.iconst 4, 1) := by decide +kernel
theorem d_Us_takeFrom_81 : decode b_Us_takeFrom 81 = .ok (.invokestatic 34, 3) := by decide +kernel
theorem d_Us_takeFrom_84 : decode b_Us_takeFrom 84 = .ok (.aload_n 1, 1) := by decide +kernel
theorem d_Us_takeFrom_85 : decode b_Us_takeFrom 85 = .ok (.getfield 31, 3) := by decide +kernel
theorem d_Us_takeFrom_88 : decode b_Us_takeFrom 88 = .ok (.iconst 0, 1) := by decide +kernel
theorem d_Us_takeFrom_89 : decode b_Us_takeFrom 89 = .ok (.aload_n 0, 1) := by decide +kernel
theorem d_Us_takeFrom_90 : decode b_Us_takeFrom 90 = .ok (.getfield 31, 3) := by decide +kernel
theorem d_Us_takeFrom_93 : decode b_Us_takeFrom 93 = .ok (.iconst 0, 1) := by decide +kernel
theorem d_Us_takeFrom_94 : decode b_Us_takeFrom 94 = .ok (.iconst 4, 1) := by decide +kernel
theorem d_Us_takeFrom_95 : decode b_Us_takeFrom 95 = .ok (.invokestatic 34, 3) := by decide +kernel
theorem d_Us_takeFrom_98 : decode b_Us_takeFrom 98 = .ok (.return_, 1) := by decide +kernel
theorem d_Us_howMany_0 : decode b_Us_howMany 0 = .ok (.iconst 0, 1) := by decide +kernel
theorem d_Us_howMany_1 : decode b_Us_howMany 1 = .ok (.istore_n 1, 1) := by decide +kernel
theorem d_Us_howMany_2 : decode b_Us_howMany 2 = .ok (.iconst 0, 1) := by decide +kernel
theorem d_Us_howMany_3 : decode b_Us_howMany 3 = .ok (.istore_n 2, 1) := by decide +kernel
theorem d_Us_howMany_4 : decode b_Us_howMany 4 = .ok (.iload_n 2, 1) := by decide +kernel
theorem d_Us_howMany_5 : decode b_Us_howMany 5 = .ok (.iconst 4, 1) := by decide +kernel
theorem d_Us_howMany_6 : decode b_Us_howMany 6 = .ok (.if_icmp .ge 21, 3) := by decide +kernel
theorem d_Us_howMany_9 : decode b_Us_howMany 9 = .ok (.aload_n 0, 1) := by decide +kernel
theorem d_Us_howMany_10 : decode b_Us_howMany 10 = .ok (.getfield 9, 3) := by decide +kernel
theorem d_Us_howMany_13 : decode b_Us_howMany 13 = .ok (.iload_n 2, 1) := by decide +kernel
theorem d_Us_howMany_14 : decode b_Us_howMany 14 = .ok (.baload, 1) := by decide +kernel
theorem d_Us_howMany_15 : decode b_Us_howMany 15 = .ok (.ifCond .eq 6, 3) := by decide +kernel
theorem d_Us_howMany_18 : decode b_Us_howMany 18 = .ok (.iinc 1 1, 3) := by decide +kernel
theorem d_Us_howMany_21 : decode b_Us_howMany 21 = .ok (.iinc 2 1, 3) := by decide +kernel
theorem d_Us_howMany_24 : decode b_Us_howMany 24 = .ok (.goto (-20), 3) := by decide +kernel
theorem d_Us_howMany_27 : decode b_Us_howMany 27 = .ok (.iload_n 1, 1) := by decide +kernel
theorem d_Us_howMany_28 : decode b_Us_howMany 28 = .ok (.ireturn, 1) := by decide +kernel
theorem d_Us_isThere_0 : decode b_Us_isThere 0 = .ok (.aload_n 0, 1) := by decide +kernel
theorem d_Us_isThere_1 : decode b_Us_isThere 1 = .ok (.getfield 9, 3) := by decide +kernel
theorem d_Us_isThere_4 : decode b_Us_isThere 4 = .ok (.iload_n 1, 1) := by decide +kernel
theorem d_Us_isThere_5 : decode b_Us_isThere 5 = .ok (.baload, 1) := by decide +kernel
theorem d_Us_isThere_6 : decode b_Us_isThere 6 = .ok (.ireturn, 1) := by decide +kernel
theorem d_Us_add_0 : decode b_Us_add 0 = .ok (.aload_n 0, 1) := by decide +kernel
theorem d_Us_add_1 : decode b_Us_add 1 = .ok (.getfield 9, 3) := by decide +kernel
theorem d_Us_add_4 : decode b_Us_add 4 = .ok (.iload_n 1, 1) := by decide +kernel
theorem d_Us_add_5 : decode b_Us_add 5 = .ok (.iconst 1, 1) := by decide +kernel
theorem d_Us_add_6 : decode b_Us_add 6 = .ok (.bastore, 1) := by decide +kernel
theorem d_Us_add_7 : decode b_Us_add 7 = .ok (.aload_n 0, 1) := by decide +kernel
theorem d_Us_add_8 : decode b_Us_add 8 = .ok (.getfield 15, 3) := by decide +kernel
theorem d_Us_add_11 : decode b_Us_add 11 = .ok (.iload_n 1, 1) := by decide +kernel
theorem d_Us_add_12 : decode b_Us_add 12 = .ok (.iload_n 2, 1) := by decide +kernel
theorem d_Us_add_13 : decode b_Us_add 13 = .ok (.iastore, 1) := by decide +kernel
theorem d_Us_add_14 : decode b_Us_add 14 = .ok (.return_, 1) := by decide +kernel
theorem d_Us_setCategories_0 : decode b_Us_setCategories 0 = .ok (.aload_n 0, 1) := by decide +kernel
theorem d_Us_setCategories_1 : decode b_Us_setCategories 1 = .ok (.getfield 19, 3) := by decide +kernel
theorem d_Us_setCategories_4 : decode b_Us_setCategories 4 = .ok (.iload_n 1, 1) := by decide +kernel
theorem d_Us_setCategories_5 : decode b_Us_setCategories 5 = .ok (.iload_n 2, 1) := by decide +kernel
theorem d_Us_setCategories_6 : decode b_Us_setCategories 6 = .ok (.iastore, 1) := by decide +kernel
theorem d_Us_setCategories_7 : decode b_Us_setCategories 7 = .ok (.aload_n 0, 1) := by decide +kernel
theorem d_Us_setCategories_8 : decode b_Us_setCategories 8 = .ok (.getfield 22, 3) := by decide +kernel
theorem d_Us_setCategories_11 : decode b_Us_setCategories 11 = .ok (.iload_n 1, 1) := by decide +kernel
theorem d_Us_setCategories_12 : decode b_Us_setCategories 12 = .ok (.iload_n 3, 1) := by decide +kernel
theorem d_Us_setCategories_13 : decode b_Us_setCategories 13 = .ok (.iastore, 1) := by decide +kernel
theorem d_Us_setCategories_14 : decode b_Us_setCategories 14 = .ok (.return_, 1) := by decide +kernel
theorem d_Us_setObjects_0 : decode b_Us_setObjects 0 = .ok (.aload_n 0, 1) := by decide +kernel
theorem d_Us_setObjects_1 : decode b_Us_setObjects 1 = .ok (.getfield 25, 3) := by decide +kernel
theorem d_Us_setObjects_4 : decode b_Us_setObjects 4 = .ok (.iload_n 1, 1) := by decide +kernel
theorem d_Us_setObjects_5 : decode b_Us_setObjects 5 = .ok (.iload_n 2, 1) := by decide +kernel
theorem d_Us_setObjects_6 : decode b_Us_setObjects 6 = .ok (.iastore, 1) := by decide +kernel
theorem d_Us_setObjects_7 : decode b_Us_setObjects 7 = .ok (.aload_n 0, 1) := by decide +kernel
theorem d_Us_setObjects_8 : decode b_Us_setObjects 8 = .ok (.getfield 28, 3) := by decide +kernel
theorem d_Us_setObjects_11 : decode b_Us_setObjects 11 = .ok (.iload_n 1, 1) := by decide +kernel
theorem d_Us_setObjects_12 : decode b_Us_setObjects 12 = .ok (.iload_n 3, 1) := by decide +kernel
theorem d_Us_setObjects_13 : decode b_Us_setObjects 13 = .ok (.iastore, 1) := by decide +kernel
theorem d_Us_setObjects_14 : decode b_Us_setObjects 14 = .ok (.aload_n 0, 1) := by decide +kernel
theorem d_Us_setObjects_15 : decode b_Us_setObjects 15 = .ok (.getfield 31, 3) := by decide +kernel
theorem d_Us_setObjects_18 : decode b_Us_setObjects 18 = .ok (.iload_n 1, 1) := by decide +kernel
theorem d_Us_setObjects_19 : decode b_Us_setObjects 19 = .ok (.iload 4, 2) := by decide +kernel
theorem d_Us_setObjects_21 : decode b_Us_setObjects 21 = .ok (.iastore, 1) := by decide +kernel
theorem d_Us_setObjects_22 : decode b_Us_setObjects 22 = .ok (.return_, 1) := by decide +kernel
theorem d_Us_passwordOf_0 : decode b_Us_passwordOf 0 = .ok (.aload_n 0, 1) := by decide +kernel
theorem d_Us_passwordOf_1 : decode b_Us_passwordOf 1 = .ok (.getfield 15, 3) := by decide +kernel
theorem d_Us_passwordOf_4 : decode b_Us_passwordOf 4 = .ok (.iload_n 1, 1) := by decide +kernel
theorem d_Us_passwordOf_5 : decode b_Us_passwordOf 5 = .ok (.iaload, 1) := by decide +kernel
theorem d_Us_passwordOf_6 : decode b_Us_passwordOf 6 = .ok (.ireturn, 1) := by decide +kernel
theorem d_Us_firstCategoryOf_0 : decode b_Us_firstCategoryOf 0 = .ok (.aload_n 0, 1) := by decide +kernel
theorem d_Us_firstCategoryOf_1 : decode b_Us_firstCategoryOf 1 = .ok (.getfield 19, 3) := by decide +kernel
theorem d_Us_firstCategoryOf_4 : decode b_Us_firstCategoryOf 4 = .ok (.iload_n 1, 1) := by decide +kernel
theorem d_Us_firstCategoryOf_5 : decode b_Us_firstCategoryOf 5 = .ok (.iaload, 1) := by decide +kernel
theorem d_Us_firstCategoryOf_6 : decode b_Us_firstCategoryOf 6 = .ok (.ireturn, 1) := by decide +kernel
theorem d_Us_secondCategoryOf_0 : decode b_Us_secondCategoryOf 0 = .ok (.aload_n 0, 1) := by decide +kernel
theorem d_Us_secondCategoryOf_1 : decode b_Us_secondCategoryOf 1 = .ok (.getfield 22, 3) := by decide +kernel
theorem d_Us_secondCategoryOf_4 : decode b_Us_secondCategoryOf 4 = .ok (.iload_n 1, 1) := by decide +kernel
theorem d_Us_secondCategoryOf_5 : decode b_Us_secondCategoryOf 5 = .ok (.iaload, 1) := by decide +kernel
theorem d_Us_secondCategoryOf_6 : decode b_Us_secondCategoryOf 6 = .ok (.ireturn, 1) := by decide +kernel
theorem d_Us_homeOf_0 : decode b_Us_homeOf 0 = .ok (.aload_n 0, 1) := by decide +kernel
theorem d_Us_homeOf_1 : decode b_Us_homeOf 1 = .ok (.getfield 25, 3) := by decide +kernel
theorem d_Us_homeOf_4 : decode b_Us_homeOf 4 = .ok (.iload_n 1, 1) := by decide +kernel
theorem d_Us_homeOf_5 : decode b_Us_homeOf 5 = .ok (.iaload, 1) := by decide +kernel
theorem d_Us_homeOf_6 : decode b_Us_homeOf 6 = .ok (.ireturn, 1) := by decide +kernel
theorem d_Us_directoryOf_0 : decode b_Us_directoryOf 0 = .ok (.aload_n 0, 1) := by decide +kernel
theorem d_Us_directoryOf_1 : decode b_Us_directoryOf 1 = .ok (.getfield 28, 3) := by decide +kernel
theorem d_Us_directoryOf_4 : decode b_Us_directoryOf 4 = .ok (.iload_n 1, 1) := by decide +kernel
theorem d_Us_directoryOf_5 : decode b_Us_directoryOf 5 = .ok (.iaload, 1) := by decide +kernel
theorem d_Us_directoryOf_6 : decode b_Us_directoryOf 6 = .ok (.ireturn, 1) := by decide +kernel
theorem d_Us_gateOf_0 : decode b_Us_gateOf 0 = .ok (.aload_n 0, 1) := by decide +kernel
theorem d_Us_gateOf_1 : decode b_Us_gateOf 1 = .ok (.getfield 31, 3) := by decide +kernel
theorem d_Us_gateOf_4 : decode b_Us_gateOf 4 = .ok (.iload_n 1, 1) := by decide +kernel
theorem d_Us_gateOf_5 : decode b_Us_gateOf 5 = .ok (.iaload, 1) := by decide +kernel
theorem d_Us_gateOf_6 : decode b_Us_gateOf 6 = .ok (.ireturn, 1) := by decide +kernel
end
section
theorem d_Tg_init_0 : decode b_Tg_init 0 = .ok (.aload_n 0, 1) := by decide +kernel
theorem d_Tg_init_1 : decode b_Tg_init 1 = .ok (.invokespecial 3, 3) := by decide +kernel
theorem d_Tg_init_4 : decode b_Tg_init 4 = .ok (.aload_n 0, 1) := by decide +kernel
theorem d_Tg_init_5 : decode b_Tg_init 5 = .ok (.bipush 61, 2) := by decide +kernel
theorem d_Tg_init_7 : decode b_Tg_init 7 = .ok (.newarray .boolean, 2) := by decide +kernel
theorem d_Tg_init_9 : decode b_Tg_init 9 = .ok (.putfield 9, 3) := by decide +kernel
theorem d_Tg_init_12 : decode b_Tg_init 12 = .ok (.aload_n 0, 1) := by decide +kernel
theorem d_Tg_init_13 : decode b_Tg_init 13 = .ok (.bipush 61, 2) := by decide +kernel
theorem d_Tg_init_15 : decode b_Tg_init 15 = .ok (.newarray .int, 2) := by decide +kernel
theorem d_Tg_init_17 : decode b_Tg_init 17 = .ok (.putfield 15, 3) := by decide +kernel
theorem d_Tg_init_20 : decode b_Tg_init 20 = .ok (.aload_n 0, 1) := by decide +kernel
theorem d_Tg_init_21 : decode b_Tg_init 21 = .ok (.bipush 61, 2) := by decide +kernel
theorem d_Tg_init_23 : decode b_Tg_init 23 = .ok (.newarray .int, 2) := by decide +kernel
theorem d_Tg_init_25 : decode b_Tg_init 25 = .ok (.putfield 19, 3) := by decide +kernel
theorem d_Tg_init_28 : decode b_Tg_init 28 = .ok (.aload_n 0, 1) := by decide +kernel
theorem d_Tg_init_29 : decode b_Tg_init 29 = .ok (.bipush 61, 2) := by decide +kernel
theorem d_Tg_init_31 : decode b_Tg_init 31 = .ok (.newarray .int, 2) := by decide +kernel
theorem d_Tg_init_33 : decode b_Tg_init 33 = .ok (.putfield 22, 3) := by decide +kernel
theorem d_Tg_init_36 : decode b_Tg_init 36 = .ok (.aload_n 0, 1) := by decide +kernel
theorem d_Tg_init_37 : decode b_Tg_init 37 = .ok (.bipush 61, 2) := by decide +kernel
theorem d_Tg_init_39 : decode b_Tg_init 39 = .ok (.newarray .int, 2) := by decide +kernel
theorem d_Tg_init_41 : decode b_Tg_init 41 = .ok (.putfield 25, 3) := by decide +kernel
theorem d_Tg_init_44 : decode b_Tg_init 44 = .ok (.aload_n 0, 1) := by decide +kernel
theorem d_Tg_init_45 : decode b_Tg_init 45 = .ok (.bipush 61, 2) := by decide +kernel
theorem d_Tg_init_47 : decode b_Tg_init 47 = .ok (.newarray .int, 2) := by decide +kernel
theorem d_Tg_init_49 : decode b_Tg_init 49 = .ok (.putfield 28, 3) := by decide +kernel
theorem d_Tg_init_52 : decode b_Tg_init 52 = .ok (.aload_n 0, 1) := by decide +kernel
theorem d_Tg_init_53 : decode b_Tg_init 53 = .ok (.bipush 61, 2) := by decide +kernel
theorem d_Tg_init_55 : decode b_Tg_init 55 = .ok (.newarray .int, 2) := by decide +kernel
theorem d_Tg_init_57 : decode b_Tg_init 57 = .ok (.putfield 31, 3) := by decide +kernel
theorem d_Tg_init_60 : decode b_Tg_init 60 = .ok (.aload_n 0, 1) := by decide +kernel
theorem d_Tg_init_61 : decode b_Tg_init 61 = .ok (.bipush 61, 2) := by decide +kernel
theorem d_Tg_init_63 : decode b_Tg_init 63 = .ok (.newarray .int, 2) := by decide +kernel
theorem d_Tg_init_65 : decode b_Tg_init 65 = .ok (.putfield 34, 3) := by decide +kernel
theorem d_Tg_init_68 : decode b_Tg_init 68 = .ok (.aload_n 0, 1) := by decide +kernel
theorem d_Tg_init_69 : decode b_Tg_init 69 = .ok (.bipush 61, 2) := by decide +kernel
theorem d_Tg_init_71 : decode b_Tg_init 71 = .ok (.newarray .int, 2) := by decide +kernel
theorem d_Tg_init_73 : decode b_Tg_init 73 = .ok (.putfield 37, 3) := by decide +kernel
theorem d_Tg_init_76 : decode b_Tg_init 76 = .ok (.aload_n 0, 1) := by decide +kernel
theorem d_Tg_init_77 : decode b_Tg_init 77 = .ok (.bipush 61, 2) := by decide +kernel
theorem d_Tg_init_79 : decode b_Tg_init 79 = .ok (.newarray .int, 2) := by decide +kernel
theorem d_Tg_init_81 : decode b_Tg_init 81 = .ok (.putfield 40, 3) := by decide +kernel
theorem d_Tg_init_84 : decode b_Tg_init 84 = .ok (.aload_n 0, 1) := by decide +kernel
theorem d_Tg_init_85 : decode b_Tg_init 85 = .ok (.sipush 488, 3) := by decide +kernel
theorem d_Tg_init_88 : decode b_Tg_init 88 = .ok (.newarray .int, 2) := by decide +kernel
theorem d_Tg_init_90 : decode b_Tg_init 90 = .ok (.putfield 43, 3) := by decide +kernel
theorem d_Tg_init_93 : decode b_Tg_init 93 = .ok (.aload_n 0, 1) := by decide +kernel
theorem d_Tg_init_94 : decode b_Tg_init 94 = .ok (.iconst 0, 1) := by decide +kernel
theorem d_Tg_init_95 : decode b_Tg_init 95 = .ok (.putfield 46, 3) := by decide +kernel
theorem d_Tg_init_98 : decode b_Tg_init 98 = .ok (.aload_n 0, 1) := by decide +kernel
theorem d_Tg_init_99 : decode b_Tg_init 99 = .ok (.iconst 0, 1) := by decide +kernel
theorem d_Tg_init_100 : decode b_Tg_init 100 = .ok (.iconst 0, 1) := by decide +kernel
theorem d_Tg_init_101 : decode b_Tg_init 101 = .ok (.iconst 0, 1) := by decide +kernel
theorem d_Tg_init_102 : decode b_Tg_init 102 = .ok (.sipush 200, 3) := by decide +kernel
theorem d_Tg_init_105 : decode b_Tg_init 105 = .ok (.invokevirtual 50, 3) := by decide +kernel
theorem d_Tg_init_108 : decode b_Tg_init 108 = .ok (.pop, 1) := by decide +kernel
theorem d_Tg_init_109 : decode b_Tg_init 109 = .ok (.aload_n 0, 1) := by decide +kernel
theorem d_Tg_init_110 : decode b_Tg_init 110 = .ok (.iconst 3, 1) := by decide +kernel
theorem d_Tg_init_111 : decode b_Tg_init 111 = .ok (.iconst 1, 1) := by decide +kernel
theorem d_Tg_init_112 : decode b_Tg_init 112 = .ok (.iconst 0, 1) := by decide +kernel
theorem d_Tg_init_113 : decode b_Tg_init 113 = .ok (.iconst 2, 1) := by decide +kernel
theorem d_Tg_init_114 : decode b_Tg_init 114 = .ok (.invokevirtual 50, 3) := by decide +kernel
theorem d_Tg_init_117 : decode b_Tg_init 117 = .ok (.istore_n 1, 1) := by decide +kernel
theorem d_Tg_init_118 : decode b_Tg_init 118 = .ok (.aload_n 0, 1) := by decide +kernel
theorem d_Tg_init_119 : decode b_Tg_init 119 = .ok (.iload_n 1, 1) := by decide +kernel
theorem d_Tg_init_120 : decode b_Tg_init 120 = .ok (.iconst 1, 1) := by decide +kernel
theorem d_Tg_init_121 : decode b_Tg_init 121 = .ok (.invokevirtual 54, 3) := by decide +kernel
theorem d_Tg_init_124 : decode b_Tg_init 124 = .ok (.return_, 1) := by decide +kernel
theorem d_Tg_takeFrom_0 : decode b_Tg_takeFrom 0 = .ok (.aload_n 1, 1) := by decide +kernel
theorem d_Tg_takeFrom_1 : decode b_Tg_takeFrom 1 = .ok (.getfield 9, 3) := by decide +kernel
theorem d_Tg_takeFrom_4 : decode b_Tg_takeFrom 4 = .ok (.iconst 0, 1) := by decide +kernel
theorem d_Tg_takeFrom_5 : decode b_Tg_takeFrom 5 = .ok (.aload_n 0, 1) := by decide +kernel
theorem d_Tg_takeFrom_6 : decode b_Tg_takeFrom 6 = .ok (.getfield 9, 3) := by decide +kernel
theorem d_Tg_takeFrom_9 : decode b_Tg_takeFrom 9 = .ok (.iconst 0, 1) := by decide +kernel
theorem d_Tg_takeFrom_10 : decode b_Tg_takeFrom 10 = .ok (.aload_n 0, 1) := by decide +kernel
theorem d_Tg_takeFrom_11 : decode b_Tg_takeFrom 11 = .ok (.getfield 9, 3) := by decide +kernel
theorem d_Tg_takeFrom_14 : decode b_Tg_takeFrom 14 = .ok (.arraylength, 1) := by decide +kernel
theorem d_Tg_takeFrom_15 : decode b_Tg_takeFrom 15 = .ok (.invokestatic 58, 3) := by decide +kernel
theorem d_Tg_takeFrom_18 : decode b_Tg_takeFrom 18 = .ok (.aload_n 1, 1) := by decide +kernel
theorem d_Tg_takeFrom_19 : decode b_Tg_takeFrom 19 = .ok (.getfield 15, 3) := by decide +kernel
theorem d_Tg_takeFrom_22 : decode b_Tg_takeFrom 22 = .ok (.iconst 0, 1) := by decide +kernel
theorem d_Tg_takeFrom_23 : decode b_Tg_takeFrom 23 = .ok (.aload_n 0, 1) := by decide +kernel
theorem d_Tg_takeFrom_24 : decode b_Tg_takeFrom 24 = .ok (.getfield 15, 3) := by decide +kernel
theorem d_Tg_takeFrom_27 : decode b_Tg_takeFrom 27 = .ok (.iconst 0, 1) := by decide +kernel
theorem d_Tg_takeFrom_28 : decode b_Tg_takeFrom 28 = .ok (.aload_n 0, 1) := by decide +kernel
theorem d_Tg_takeFrom_29 : decode b_Tg_takeFrom 29 = .ok (.getfield 15, 3) := by decide +kernel
theorem d_Tg_takeFrom_32 : decode b_Tg_takeFrom 32 = .ok (.arraylength, 1) := by decide +kernel
theorem d_Tg_takeFrom_33 : decode b_Tg_takeFrom 33 = .ok (.invokestatic 58, 3) := by decide +kernel
theorem d_Tg_takeFrom_36 : decode b_Tg_takeFrom 36 = .ok (.aload_n 1, 1) := by decide +kernel
theorem d_Tg_takeFrom_37 : decode b_Tg_takeFrom 37 = .ok (.getfield 19, 3) := by decide +kernel
theorem d_Tg_takeFrom_40 : decode b_Tg_takeFrom 40 = .ok (.iconst 0, 1) := by decide +kernel
theorem d_Tg_takeFrom_41 : decode b_Tg_takeFrom 41 = .ok (.aload_n 0, 1) := by decide +kernel
theorem d_Tg_takeFrom_42 : decode b_Tg_takeFrom 42 = .ok (.getfield 19, 3) := by decide +kernel
theorem d_Tg_takeFrom_45 : decode b_Tg_takeFrom 45 = .ok (.iconst 0, 1) := by decide +kernel
theorem d_Tg_takeFrom_46 : decode b_Tg_takeFrom 46 = .ok (.aload_n 0, 1) := by decide +kernel
theorem d_Tg_takeFrom_47 : decode b_Tg_takeFrom 47 = .ok (.getfield 19, 3) := by decide +kernel
theorem d_Tg_takeFrom_50 : decode b_Tg_takeFrom 50 = .ok (.arraylength, 1) := by decide +kernel
theorem d_Tg_takeFrom_51 : decode b_Tg_takeFrom 51 = .ok (.invokestatic 58, 3) := by decide +kernel
theorem d_Tg_takeFrom_54 : decode b_Tg_takeFrom 54 = .ok (.aload_n 1, 1) := by decide +kernel
theorem d_Tg_takeFrom_55 : decode b_Tg_takeFrom 55 = .ok (.getfield 22, 3) := by decide +kernel
theorem d_Tg_takeFrom_58 : decode b_Tg_takeFrom 58 = .ok (.iconst 0, 1) := by decide +kernel
theorem d_Tg_takeFrom_59 : decode b_Tg_takeFrom 59 = .ok (.aload_n 0, 1) := by decide +kernel
theorem d_Tg_takeFrom_60 : decode b_Tg_takeFrom 60 = .ok (.getfield 22, 3) := by decide +kernel
theorem d_Tg_takeFrom_63 : decode b_Tg_takeFrom 63 = .ok (.iconst 0, 1) := by decide +kernel
theorem d_Tg_takeFrom_64 : decode b_Tg_takeFrom 64 = .ok (.aload_n 0, 1) := by decide +kernel
theorem d_Tg_takeFrom_65 : decode b_Tg_takeFrom 65 = .ok (.getfield 22, 3) := by decide +kernel
theorem d_Tg_takeFrom_68 : decode b_Tg_takeFrom 68 = .ok (.arraylength, 1) := by decide +kernel
theorem d_Tg_takeFrom_69 : decode b_Tg_takeFrom 69 = .ok (.invokestatic 58, 3) := by decide +kernel
theorem d_Tg_takeFrom_72 : decode b_Tg_takeFrom 72 = .ok (.aload_n 1, 1) := by decide +kernel
theorem d_Tg_takeFrom_73 : decode b_Tg_takeFrom 73 = .ok (.getfield 25, 3) := by decide +kernel
theorem d_Tg_takeFrom_76 : decode b_Tg_takeFrom 76 = .ok (.iconst 0, 1) := by decide +kernel
theorem d_Tg_takeFrom_77 : decode b_Tg_takeFrom 77 = .ok (.aload_n 0, 1) := by decide +kernel
theorem d_Tg_takeFrom_78 : decode b_Tg_takeFrom 78 = .ok (.getfield 25, 3) := by decide +kernel
theorem d_Tg_takeFrom_81 : decode b_Tg_takeFrom 81 = .ok (.iconst 0, 1) := by decide +kernel
theorem d_Tg_takeFrom_82 : decode b_Tg_takeFrom 82 = .ok (.aload_n 0, 1) := by decide +kernel
theorem d_Tg_takeFrom_83 : decode b_Tg_takeFrom 83 = .ok (.getfield 25, 3) := by decide +kernel
theorem d_Tg_takeFrom_86 : decode b_Tg_takeFrom 86 = .ok (.arraylength, 1) := by decide +kernel
theorem d_Tg_takeFrom_87 : decode b_Tg_takeFrom 87 = .ok (.invokestatic 58, 3) := by decide +kernel
theorem d_Tg_takeFrom_90 : decode b_Tg_takeFrom 90 = .ok (.aload_n 1, 1) := by decide +kernel
theorem d_Tg_takeFrom_91 : decode b_Tg_takeFrom 91 = .ok (.getfield 28, 3) := by decide +kernel
theorem d_Tg_takeFrom_94 : decode b_Tg_takeFrom 94 = .ok (.iconst 0, 1) := by decide +kernel
theorem d_Tg_takeFrom_95 : decode b_Tg_takeFrom 95 = .ok (.aload_n 0, 1) := by decide +kernel
theorem d_Tg_takeFrom_96 : decode b_Tg_takeFrom 96 = .ok (.getfield 28, 3) := by decide +kernel
theorem d_Tg_takeFrom_99 : decode b_Tg_takeFrom 99 = .ok (.iconst 0, 1) := by decide +kernel
theorem d_Tg_takeFrom_100 : decode b_Tg_takeFrom 100 = .ok (.aload_n 0, 1) := by decide +kernel
theorem d_Tg_takeFrom_101 : decode b_Tg_takeFrom 101 = .ok (.getfield 28, 3) := by decide +kernel
theorem d_Tg_takeFrom_104 : decode b_Tg_takeFrom 104 = .ok (.arraylength, 1) := by decide +kernel
theorem d_Tg_takeFrom_105 : decode b_Tg_takeFrom 105 = .ok (.invokestatic 58, 3) := by decide +kernel
theorem d_Tg_takeFrom_108 : decode b_Tg_takeFrom 108 = .ok (.aload_n 1, 1) := by decide +kernel
theorem d_Tg_takeFrom_109 : decode b_Tg_takeFrom 109 = .ok (.getfield 31, 3) := by decide +kernel
theorem d_Tg_takeFrom_112 : decode b_Tg_takeFrom 112 = .ok (.iconst 0, 1) := by decide +kernel
theorem d_Tg_takeFrom_113 : decode b_Tg_takeFrom 113 = .ok (.aload_n 0, 1) := by decide +kernel
theorem d_Tg_takeFrom_114 : decode b_Tg_takeFrom 114 = .ok (.getfield 31, 3) := by decide +kernel
theorem d_Tg_takeFrom_117 : decode b_Tg_takeFrom 117 = .ok (.iconst 0, 1) := by decide +kernel
theorem d_Tg_takeFrom_118 : decode b_Tg_takeFrom 118 = .ok (.aload_n 0, 1) := by decide +kernel
theorem d_Tg_takeFrom_119 : decode b_Tg_takeFrom 119 = .ok (.getfield 31, 3) := by decide +kernel
theorem d_Tg_takeFrom_122 : decode b_Tg_takeFrom 122 = .ok (.arraylength, 1) := by decide +kernel
theorem d_Tg_takeFrom_123 : decode b_Tg_takeFrom 123 = .ok (.invokestatic 58, 3) := by decide +kernel
theorem d_Tg_takeFrom_126 : decode b_Tg_takeFrom 126 = .ok (.aload_n 1, 1) := by decide +kernel
theorem d_Tg_takeFrom_127 : decode b_Tg_takeFrom 127 = .ok (.getfield 34, 3) := by decide +kernel
theorem d_Tg_takeFrom_130 : decode b_Tg_takeFrom 130 = .ok (.iconst 0, 1) := by decide +kernel
theorem d_Tg_takeFrom_131 : decode b_Tg_takeFrom 131 = .ok (.aload_n 0, 1) := by decide +kernel
theorem d_Tg_takeFrom_132 : decode b_Tg_takeFrom 132 = .ok (.getfield 34, 3) := by decide +kernel
theorem d_Tg_takeFrom_135 : decode b_Tg_takeFrom 135 = .ok (.iconst 0, 1) := by decide +kernel
theorem d_Tg_takeFrom_136 : decode b_Tg_takeFrom 136 = .ok (.aload_n 0, 1) := by decide +kernel
theorem d_Tg_takeFrom_137 : decode b_Tg_takeFrom 137 = .ok (.getfield 34, 3) := by decide +kernel
theorem d_Tg_takeFrom_140 : decode b_Tg_takeFrom 140 = .ok (.arraylength, 1) := by decide +kernel
theorem d_Tg_takeFrom_141 : decode b_Tg_takeFrom 141 = .ok (.invokestatic 58, 3) := by decide +kernel
theorem d_Tg_takeFrom_144 : decode b_Tg_takeFrom 144 = .ok (.aload_n 1, 1) := by decide +kernel
theorem d_Tg_takeFrom_145 : decode b_Tg_takeFrom 145 = .ok (.getfield 37, 3) := by decide +kernel
theorem d_Tg_takeFrom_148 : decode b_Tg_takeFrom 148 = .ok (.iconst 0, 1) := by decide +kernel
theorem d_Tg_takeFrom_149 : decode b_Tg_takeFrom 149 = .ok (.aload_n 0, 1) := by decide +kernel
theorem d_Tg_takeFrom_150 : decode b_Tg_takeFrom 150 = .ok (.getfield 37, 3) := by decide +kernel
theorem d_Tg_takeFrom_153 : decode b_Tg_takeFrom 153 = .ok (.iconst 0, 1) := by decide +kernel
theorem d_Tg_takeFrom_154 : decode b_Tg_takeFrom 154 = .ok (.aload_n 0, 1) := by decide +kernel
theorem d_Tg_takeFrom_155 : decode b_Tg_takeFrom 155 = .ok (.getfield 37, 3) := by decide +kernel
theorem d_Tg_takeFrom_158 : decode b_Tg_takeFrom 158 = .ok (.arraylength, 1) := by decide +kernel
theorem d_Tg_takeFrom_159 : decode b_Tg_takeFrom 159 = .ok (.invokestatic 58, 3) := by decide +kernel
theorem d_Tg_takeFrom_162 : decode b_Tg_takeFrom 162 = .ok (.aload_n 1, 1) := by decide +kernel
theorem d_Tg_takeFrom_163 : decode b_Tg_takeFrom 163 = .ok (.getfield 40, 3) := by decide +kernel
theorem d_Tg_takeFrom_166 : decode b_Tg_takeFrom 166 = .ok (.iconst 0, 1) := by decide +kernel
theorem d_Tg_takeFrom_167 : decode b_Tg_takeFrom 167 = .ok (.aload_n 0, 1) := by decide +kernel
theorem d_Tg_takeFrom_168 : decode b_Tg_takeFrom 168 = .ok (.getfield 40, 3) := by decide +kernel
theorem d_Tg_takeFrom_171 : decode b_Tg_takeFrom 171 = .ok (.iconst 0, 1) := by decide +kernel
theorem d_Tg_takeFrom_172 : decode b_Tg_takeFrom 172 = .ok (.aload_n 0, 1) := by decide +kernel
theorem d_Tg_takeFrom_173 : decode b_Tg_takeFrom 173 = .ok (.getfield 40, 3) := by decide +kernel
theorem d_Tg_takeFrom_176 : decode b_Tg_takeFrom 176 = .ok (.arraylength, 1) := by decide +kernel
theorem d_Tg_takeFrom_177 : decode b_Tg_takeFrom 177 = .ok (.invokestatic 58, 3) := by decide +kernel
theorem d_Tg_takeFrom_180 : decode b_Tg_takeFrom 180 = .ok (.aload_n 1, 1) := by decide +kernel
theorem d_Tg_takeFrom_181 : decode b_Tg_takeFrom 181 = .ok (.getfield 43, 3) := by decide +kernel
theorem d_Tg_takeFrom_184 : decode b_Tg_takeFrom 184 = .ok (.iconst 0, 1) := by decide +kernel
theorem d_Tg_takeFrom_185 : decode b_Tg_takeFrom 185 = .ok (.aload_n 0, 1) := by decide +kernel
theorem d_Tg_takeFrom_186 : decode b_Tg_takeFrom 186 = .ok (.getfield 43, 3) := by decide +kernel
theorem d_Tg_takeFrom_189 : decode b_Tg_takeFrom 189 = .ok (.iconst 0, 1) := by decide +kernel
theorem d_Tg_takeFrom_190 : decode b_Tg_takeFrom 190 = .ok (.aload_n 0, 1) := by decide +kernel
theorem d_Tg_takeFrom_191 : decode b_Tg_takeFrom 191 = .ok (.getfield 43, 3) := by decide +kernel
theorem d_Tg_takeFrom_194 : decode b_Tg_takeFrom 194 = .ok (.arraylength, 1) := by decide +kernel
theorem d_Tg_takeFrom_195 : decode b_Tg_takeFrom 195 = .ok (.invokestatic 58, 3) := by decide +kernel
theorem d_Tg_takeFrom_198 : decode b_Tg_takeFrom 198 = .ok (.aload_n 0, 1) := by decide +kernel
theorem d_Tg_takeFrom_199 : decode b_Tg_takeFrom 199 = .ok (.aload_n 1, 1) := by decide +kernel
theorem d_Tg_takeFrom_200 : decode b_Tg_takeFrom 200 = .ok (.getfield 46, 3) := by decide +kernel
theorem d_Tg_takeFrom_203 : decode b_Tg_takeFrom 203 = .ok (.putfield 46, 3) := by decide +kernel
theorem d_Tg_takeFrom_206 : decode b_Tg_takeFrom 206 = .ok (.return_, 1) := by decide +kernel
theorem d_Tg_hasNumberLeft_0 : decode b_Tg_hasNumberLeft 0 = .ok (.aload_n 0, 1) := by decide +kernel
theorem d_Tg_hasNumberLeft_1 : decode b_Tg_hasNumberLeft 1 = .ok (.getfield 46, 3) := by decide +kernel
theorem d_Tg_hasNumberLeft_4 : decode b_Tg_hasNumberLeft 4 = .ok (.bipush 60, 2) := by decide +kernel
theorem d_Tg_hasNumberLeft_6 : decode b_Tg_hasNumberLeft 6 = .ok (.if_icmp .ge 7, 3) := by decide +kernel
theorem d_Tg_hasNumberLeft_9 : decode b_Tg_hasNumberLeft 9 = .ok (.iconst 1, 1) := by decide +kernel
theorem d_Tg_hasNumberLeft_10 : decode b_Tg_hasNumberLeft 10 = .ok (.goto 4, 3) := by decide +kernel
theorem d_Tg_hasNumberLeft_13 : decode b_Tg_hasNumberLeft 13 = .ok (.iconst 0, 1) := by decide +kernel
theorem d_Tg_hasNumberLeft_14 : decode b_Tg_hasNumberLeft 14 = .ok (.ireturn, 1) := by decide +kernel
theorem d_Tg_add_0 : decode b_Tg_add 0 = .ok (.aload_n 0, 1) := by decide +kernel
theorem d_Tg_add_1 : decode b_Tg_add 1 = .ok (.getfield 46, 3) := by decide +kernel
theorem d_Tg_add_4 : decode b_Tg_add 4 = .ok (.iconst 1, 1) := by decide +kernel
theorem d_Tg_add_5 : decode b_Tg_add 5 = .ok (.iadd, 1) := by decide +kernel
theorem d_Tg_add_6 : decode b_Tg_add 6 = .ok (.istore 5, 2) := by decide +kernel
theorem d_Tg_add_8 : decode b_Tg_add 8 = .ok (.aload_n 0, 1) := by decide +kernel
theorem d_Tg_add_9 : decode b_Tg_add 9 = .ok (.getfield 9, 3) := by decide +kernel
theorem d_Tg_add_12 : decode b_Tg_add 12 = .ok (.iload 5, 2) := by decide +kernel
theorem d_Tg_add_14 : decode b_Tg_add 14 = .ok (.iconst 1, 1) := by decide +kernel
theorem d_Tg_add_15 : decode b_Tg_add 15 = .ok (.bastore, 1) := by decide +kernel
theorem d_Tg_add_16 : decode b_Tg_add 16 = .ok (.aload_n 0, 1) := by decide +kernel
theorem d_Tg_add_17 : decode b_Tg_add 17 = .ok (.getfield 15, 3) := by decide +kernel
theorem d_Tg_add_20 : decode b_Tg_add 20 = .ok (.iload 5, 2) := by decide +kernel
theorem d_Tg_add_22 : decode b_Tg_add 22 = .ok (.iload_n 1, 1) := by decide +kernel
theorem d_Tg_add_23 : decode b_Tg_add 23 = .ok (.iastore, 1) := by decide +kernel
theorem d_Tg_add_24 : decode b_Tg_add 24 = .ok (.aload_n 0, 1) := by decide +kernel
theorem d_Tg_add_25 : decode b_Tg_add 25 = .ok (.getfield 19, 3) := by decide +kernel
theorem d_Tg_add_28 : decode b_Tg_add 28 = .ok (.iload 5, 2) := by decide +kernel
theorem d_Tg_add_30 : decode b_Tg_add 30 = .ok (.iload_n 3, 1) := by decide +kernel
theorem d_Tg_add_31 : decode b_Tg_add 31 = .ok (.iastore, 1) := by decide +kernel
theorem d_Tg_add_32 : decode b_Tg_add 32 = .ok (.aload_n 0, 1) := by decide +kernel
theorem d_Tg_add_33 : decode b_Tg_add 33 = .ok (.getfield 22, 3) := by decide +kernel
theorem d_Tg_add_36 : decode b_Tg_add 36 = .ok (.iload 5, 2) := by decide +kernel
theorem d_Tg_add_38 : decode b_Tg_add 38 = .ok (.iload 4, 2) := by decide +kernel
theorem d_Tg_add_40 : decode b_Tg_add 40 = .ok (.iastore, 1) := by decide +kernel
theorem d_Tg_add_41 : decode b_Tg_add 41 = .ok (.aload_n 0, 1) := by decide +kernel
theorem d_Tg_add_42 : decode b_Tg_add 42 = .ok (.getfield 25, 3) := by decide +kernel
theorem d_Tg_add_45 : decode b_Tg_add 45 = .ok (.iload 5, 2) := by decide +kernel
theorem d_Tg_add_47 : decode b_Tg_add 47 = .ok (.iload_n 2, 1) := by decide +kernel
theorem d_Tg_add_48 : decode b_Tg_add 48 = .ok (.iastore, 1) := by decide +kernel
theorem d_Tg_add_49 : decode b_Tg_add 49 = .ok (.aload_n 0, 1) := by decide +kernel
theorem d_Tg_add_50 : decode b_Tg_add 50 = .ok (.getfield 28, 3) := by decide +kernel
theorem d_Tg_add_53 : decode b_Tg_add 53 = .ok (.iload 5, 2) := by decide +kernel
theorem d_Tg_add_55 : decode b_Tg_add 55 = .ok (.iload_n 2, 1) := by decide +kernel
theorem d_Tg_add_56 : decode b_Tg_add 56 = .ok (.ifCond .ne 7, 3) := by decide +kernel
theorem d_Tg_add_59 : decode b_Tg_add 59 = .ok (.iconst 0, 1) := by decide +kernel
theorem d_Tg_add_60 : decode b_Tg_add 60 = .ok (.goto 11, 3) := by decide +kernel
theorem d_Tg_add_63 : decode b_Tg_add 63 = .ok (.aload_n 0, 1) := by decide +kernel
theorem d_Tg_add_64 : decode b_Tg_add 64 = .ok (.getfield 28, 3) := by decide +kernel
theorem d_Tg_add_67 : decode b_Tg_add 67 = .ok (.iload_n 2, 1) := by decide +kernel
theorem d_Tg_add_68 : decode b_Tg_add 68 = .ok (.iaload, 1) := by decide +kernel
theorem d_Tg_add_69 : decode b_Tg_add 69 = .ok (.iconst 1, 1) := by decide +kernel
theorem d_Tg_add_70 : decode b_Tg_add 70 = .ok (.iadd, 1) := by decide +kernel
theorem d_Tg_add_71 : decode b_Tg_add 71 = .ok (.iastore, 1) := by decide +kernel
theorem d_Tg_add_72 : decode b_Tg_add 72 = .ok (.aload_n 0, 1) := by decide +kernel
theorem d_Tg_add_73 : decode b_Tg_add 73 = .ok (.getfield 31, 3) := by decide +kernel
theorem d_Tg_add_76 : decode b_Tg_add 76 = .ok (.iload 5, 2) := by decide +kernel
theorem d_Tg_add_78 : decode b_Tg_add 78 = .ok (.iconst (-1), 1) := by decide +kernel
theorem d_Tg_add_79 : decode b_Tg_add 79 = .ok (.iastore, 1) := by decide +kernel
theorem d_Tg_add_80 : decode b_Tg_add 80 = .ok (.aload_n 0, 1) := by decide +kernel
theorem d_Tg_add_81 : decode b_Tg_add 81 = .ok (.iload 5, 2) := by decide +kernel
theorem d_Tg_add_83 : decode b_Tg_add 83 = .ok (.putfield 46, 3) := by decide +kernel
theorem d_Tg_add_86 : decode b_Tg_add 86 = .ok (.iload 5, 2) := by decide +kernel
theorem d_Tg_add_88 : decode b_Tg_add 88 = .ok (.ireturn, 1) := by decide +kernel
theorem d_Tg_isThere_0 : decode b_Tg_isThere 0 = .ok (.iload_n 1, 1) := by decide +kernel
theorem d_Tg_isThere_1 : decode b_Tg_isThere 1 = .ok (.iconst 1, 1) := by decide +kernel
theorem d_Tg_isThere_2 : decode b_Tg_isThere 2 = .ok (.if_icmp .lt 22, 3) := by decide +kernel
theorem d_Tg_isThere_5 : decode b_Tg_isThere 5 = .ok (.iload_n 1, 1) := by decide +kernel
theorem d_Tg_isThere_6 : decode b_Tg_isThere 6 = .ok (.bipush 60, 2) := by decide +kernel
theorem d_Tg_isThere_8 : decode b_Tg_isThere 8 = .ok (.if_icmp .gt 16, 3) := by decide +kernel
theorem d_Tg_isThere_11 : decode b_Tg_isThere 11 = .ok (.aload_n 0, 1) := by decide +kernel
theorem d_Tg_isThere_12 : decode b_Tg_isThere 12 = .ok (.getfield 9, 3) := by decide +kernel
theorem d_Tg_isThere_15 : decode b_Tg_isThere 15 = .ok (.iload_n 1, 1) := by decide +kernel
theorem d_Tg_isThere_16 : decode b_Tg_isThere 16 = .ok (.baload, 1) := by decide +kernel
theorem d_Tg_isThere_17 : decode b_Tg_isThere 17 = .ok (.ifCond .eq 7, 3) := by decide +kernel
theorem d_Tg_isThere_20 : decode b_Tg_isThere 20 = .ok (.iconst 1, 1) := by decide +kernel
theorem d_Tg_isThere_21 : decode b_Tg_isThere 21 = .ok (.goto 4, 3) := by decide +kernel
theorem d_Tg_isThere_24 : decode b_Tg_isThere 24 = .ok (.iconst 0, 1) := by decide +kernel
theorem d_Tg_isThere_25 : decode b_Tg_isThere 25 = .ok (.ireturn, 1) := by decide +kernel
theorem d_Tg_isOfKind_0 : decode b_Tg_isOfKind 0 = .ok (.aload_n 0, 1) := by decide +kernel
theorem d_Tg_isOfKind_1 : decode b_Tg_isOfKind 1 = .ok (.getfield 15, 3) := by decide +kernel
theorem d_Tg_isOfKind_4 : decode b_Tg_isOfKind 4 = .ok (.iload_n 1, 1) := by decide +kernel
theorem d_Tg_isOfKind_5 : decode b_Tg_isOfKind 5 = .ok (.iaload, 1) := by decide +kernel
theorem d_Tg_isOfKind_6 : decode b_Tg_isOfKind 6 = .ok (.iload_n 2, 1) := by decide +kernel
theorem d_Tg_isOfKind_7 : decode b_Tg_isOfKind 7 = .ok (.if_icmp .ne 7, 3) := by decide +kernel
theorem d_Tg_isOfKind_10 : decode b_Tg_isOfKind 10 = .ok (.iconst 1, 1) := by decide +kernel
theorem d_Tg_isOfKind_11 : decode b_Tg_isOfKind 11 = .ok (.goto 4, 3) := by decide +kernel
theorem d_Tg_isOfKind_14 : decode b_Tg_isOfKind 14 = .ok (.iconst 0, 1) := by decide +kernel
theorem d_Tg_isOfKind_15 : decode b_Tg_isOfKind 15 = .ok (.ireturn, 1) := by decide +kernel
theorem d_Tg_isIn_0 : decode b_Tg_isIn 0 = .ok (.aload_n 0, 1) := by decide +kernel
theorem d_Tg_isIn_1 : decode b_Tg_isIn 1 = .ok (.getfield 9, 3) := by decide +kernel
theorem d_Tg_isIn_4 : decode b_Tg_isIn 4 = .ok (.iload_n 1, 1) := by decide +kernel
theorem d_Tg_isIn_5 : decode b_Tg_isIn 5 = .ok (.baload, 1) := by decide +kernel
theorem d_Tg_isIn_6 : decode b_Tg_isIn 6 = .ok (.ifCond .eq 17, 3) := by decide +kernel
theorem d_Tg_isIn_9 : decode b_Tg_isIn 9 = .ok (.aload_n 0, 1) := by decide +kernel
theorem d_Tg_isIn_10 : decode b_Tg_isIn 10 = .ok (.getfield 25, 3) := by decide +kernel
theorem d_Tg_isIn_13 : decode b_Tg_isIn 13 = .ok (.iload_n 1, 1) := by decide +kernel
theorem d_Tg_isIn_14 : decode b_Tg_isIn 14 = .ok (.iaload, 1) := by decide +kernel
theorem d_Tg_isIn_15 : decode b_Tg_isIn 15 = .ok (.iload_n 2, 1) := by decide +kernel
theorem d_Tg_isIn_16 : decode b_Tg_isIn 16 = .ok (.if_icmp .ne 7, 3) := by decide +kernel
theorem d_Tg_isIn_19 : decode b_Tg_isIn 19 = .ok (.iconst 1, 1) := by decide +kernel
theorem d_Tg_isIn_20 : decode b_Tg_isIn 20 = .ok (.goto 4, 3) := by decide +kernel
theorem d_Tg_isIn_23 : decode b_Tg_isIn 23 = .ok (.iconst 0, 1) := by decide +kernel
theorem d_Tg_isIn_24 : decode b_Tg_isIn 24 = .ok (.ireturn, 1) := by decide +kernel
theorem d_Tg_howMany_0 : decode b_Tg_howMany 0 = .ok (.iconst 0, 1) := by decide +kernel
theorem d_Tg_howMany_1 : decode b_Tg_howMany 1 = .ok (.istore_n 1, 1) := by decide +kernel
theorem d_Tg_howMany_2 : decode b_Tg_howMany 2 = .ok (.iconst 1, 1) := by decide +kernel
theorem d_Tg_howMany_3 : decode b_Tg_howMany 3 = .ok (.istore_n 2, 1) := by decide +kernel
theorem d_Tg_howMany_4 : decode b_Tg_howMany 4 = .ok (.iload_n 2, 1) := by decide +kernel
theorem d_Tg_howMany_5 : decode b_Tg_howMany 5 = .ok (.aload_n 0, 1) := by decide +kernel
theorem d_Tg_howMany_6 : decode b_Tg_howMany 6 = .ok (.getfield 46, 3) := by decide +kernel
theorem d_Tg_howMany_9 : decode b_Tg_howMany 9 = .ok (.if_icmp .gt 21, 3) := by decide +kernel
theorem d_Tg_howMany_12 : decode b_Tg_howMany 12 = .ok (.aload_n 0, 1) := by decide +kernel
theorem d_Tg_howMany_13 : decode b_Tg_howMany 13 = .ok (.getfield 9, 3) := by decide +kernel
theorem d_Tg_howMany_16 : decode b_Tg_howMany 16 = .ok (.iload_n 2, 1) := by decide +kernel
theorem d_Tg_howMany_17 : decode b_Tg_howMany 17 = .ok (.baload, 1) := by decide +kernel
theorem d_Tg_howMany_18 : decode b_Tg_howMany 18 = .ok (.ifCond .eq 6, 3) := by decide +kernel
theorem d_Tg_howMany_21 : decode b_Tg_howMany 21 = .ok (.iinc 1 1, 3) := by decide +kernel
theorem d_Tg_howMany_24 : decode b_Tg_howMany 24 = .ok (.iinc 2 1, 3) := by decide +kernel
theorem d_Tg_howMany_27 : decode b_Tg_howMany 27 = .ok (.goto (-23), 3) := by decide +kernel
theorem d_Tg_howMany_30 : decode b_Tg_howMany 30 = .ok (.iload_n 1, 1) := by decide +kernel
theorem d_Tg_howMany_31 : decode b_Tg_howMany 31 = .ok (.ireturn, 1) := by decide +kernel
theorem d_Tg_nthIn_0 : decode b_Tg_nthIn 0 = .ok (.iconst 0, 1) := by decide +kernel
theorem d_Tg_nthIn_1 : decode b_Tg_nthIn 1 = .ok (.istore_n 3, 1) := by decide +kernel
theorem d_Tg_nthIn_2 : decode b_Tg_nthIn 2 = .ok (.iconst 1, 1) := by decide +kernel
theorem d_Tg_nthIn_3 : decode b_Tg_nthIn 3 = .ok (.istore 4, 2) := by decide +kernel
theorem d_Tg_nthIn_5 : decode b_Tg_nthIn 5 = .ok (.iload 4, 2) := by decide +kernel
theorem d_Tg_nthIn_7 : decode b_Tg_nthIn 7 = .ok (.aload_n 0, 1) := by decide +kernel
theorem d_Tg_nthIn_8 : decode b_Tg_nthIn 8 = .ok (.getfield 46, 3) := by decide +kernel
theorem d_Tg_nthIn_11 : decode b_Tg_nthIn 11 = .ok (.if_icmp .gt 30, 3) := by decide +kernel
theorem d_Tg_nthIn_14 : decode b_Tg_nthIn 14 = .ok (.aload_n 0, 1) := by decide +kernel
theorem d_Tg_nthIn_15 : decode b_Tg_nthIn 15 = .ok (.iload 4, 2) := by decide +kernel
theorem d_Tg_nthIn_17 : decode b_Tg_nthIn 17 = .ok (.iload_n 1, 1) := by decide +kernel
theorem d_Tg_nthIn_18 : decode b_Tg_nthIn 18 = .ok (.invokevirtual 64, 3) := by decide +kernel
theorem d_Tg_nthIn_21 : decode b_Tg_nthIn 21 = .ok (.ifCond .eq 14, 3) := by decide +kernel
theorem d_Tg_nthIn_24 : decode b_Tg_nthIn 24 = .ok (.iload_n 3, 1) := by decide +kernel
theorem d_Tg_nthIn_25 : decode b_Tg_nthIn 25 = .ok (.iload_n 2, 1) := by decide +kernel
theorem d_Tg_nthIn_26 : decode b_Tg_nthIn 26 = .ok (.if_icmp .ne 6, 3) := by decide +kernel
theorem d_Tg_nthIn_29 : decode b_Tg_nthIn 29 = .ok (.iload 4, 2) := by decide +kernel
theorem d_Tg_nthIn_31 : decode b_Tg_nthIn 31 = .ok (.ireturn, 1) := by decide +kernel
theorem d_Tg_nthIn_32 : decode b_Tg_nthIn 32 = .ok (.iinc 3 1, 3) := by decide +kernel
theorem d_Tg_nthIn_35 : decode b_Tg_nthIn 35 = .ok (.iinc 4 1, 3) := by decide +kernel
theorem d_Tg_nthIn_38 : decode b_Tg_nthIn 38 = .ok (.goto (-33), 3) := by decide +kernel
theorem d_Tg_nthIn_41 : decode b_Tg_nthIn 41 = .ok (.iconst 0, 1) := by decide +kernel
theorem d_Tg_nthIn_42 : decode b_Tg_nthIn 42 = .ok (.ireturn, 1) := by decide +kernel
theorem d_Tg_useOf_0 : decode b_Tg_useOf 0 = .ok (.aload_n 0, 1) := by decide +kernel
theorem d_Tg_useOf_1 : decode b_Tg_useOf 1 = .ok (.getfield 15, 3) := by decide +kernel
theorem d_Tg_useOf_4 : decode b_Tg_useOf 4 = .ok (.iload_n 1, 1) := by decide +kernel
theorem d_Tg_useOf_5 : decode b_Tg_useOf 5 = .ok (.iaload, 1) := by decide +kernel
theorem d_Tg_useOf_6 : decode b_Tg_useOf 6 = .ok (.lookupswitch 43 #[(0, 26), (1, 34)], 26) := by decide +kernel
theorem d_Tg_useOf_32 : decode b_Tg_useOf 32 = .ok (.iconst 1, 1) := by decide +kernel
theorem d_Tg_useOf_33 : decode b_Tg_useOf 33 = .ok (.aload_n 0, 1) := by decide +kernel
theorem d_Tg_useOf_34 : decode b_Tg_useOf 34 = .ok (.iload_n 1, 1) := by decide +kernel
theorem d_Tg_useOf_35 : decode b_Tg_useOf 35 = .ok (.invokevirtual 68, 3) := by decide +kernel
theorem d_Tg_useOf_38 : decode b_Tg_useOf 38 = .ok (.iadd, 1) := by decide +kernel
theorem d_Tg_useOf_39 : decode b_Tg_useOf 39 = .ok (.ireturn, 1) := by decide +kernel
theorem d_Tg_useOf_40 : decode b_Tg_useOf 40 = .ok (.iconst 1, 1) := by decide +kernel
theorem d_Tg_useOf_41 : decode b_Tg_useOf 41 = .ok (.aload_n 0, 1) := by decide +kernel
theorem d_Tg_useOf_42 : decode b_Tg_useOf 42 = .ok (.getfield 40, 3) := by decide +kernel
theorem d_Tg_useOf_45 : decode b_Tg_useOf 45 = .ok (.iload_n 1, 1) := by decide +kernel
theorem d_Tg_useOf_46 : decode b_Tg_useOf 46 = .ok (.iaload, 1) := by decide +kernel
theorem d_Tg_useOf_47 : decode b_Tg_useOf 47 = .ok (.iadd, 1) := by decide +kernel
theorem d_Tg_useOf_48 : decode b_Tg_useOf 48 = .ok (.ireturn, 1) := by decide +kernel
theorem d_Tg_useOf_49 : decode b_Tg_useOf 49 = .ok (.iconst 2, 1) := by decide +kernel
theorem d_Tg_useOf_50 : decode b_Tg_useOf 50 = .ok (.ireturn, 1) := by decide +kernel
theorem d_Tg_quotasIn_0 : decode b_Tg_quotasIn 0 = .ok (.iconst 0, 1) := by decide +kernel
theorem d_Tg_quotasIn_1 : decode b_Tg_quotasIn 1 = .ok (.istore_n 2, 1) := by decide +kernel
theorem d_Tg_quotasIn_2 : decode b_Tg_quotasIn 2 = .ok (.iconst 1, 1) := by decide +kernel
theorem d_Tg_quotasIn_3 : decode b_Tg_quotasIn 3 = .ok (.istore_n 3, 1) := by decide +kernel
theorem d_Tg_quotasIn_4 : decode b_Tg_quotasIn 4 = .ok (.iload_n 3, 1) := by decide +kernel
theorem d_Tg_quotasIn_5 : decode b_Tg_quotasIn 5 = .ok (.aload_n 0, 1) := by decide +kernel
theorem d_Tg_quotasIn_6 : decode b_Tg_quotasIn 6 = .ok (.getfield 46, 3) := by decide +kernel
theorem d_Tg_quotasIn_9 : decode b_Tg_quotasIn 9 = .ok (.if_icmp .gt 27, 3) := by decide +kernel
theorem d_Tg_quotasIn_12 : decode b_Tg_quotasIn 12 = .ok (.aload_n 0, 1) := by decide +kernel
theorem d_Tg_quotasIn_13 : decode b_Tg_quotasIn 13 = .ok (.iload_n 3, 1) := by decide +kernel
theorem d_Tg_quotasIn_14 : decode b_Tg_quotasIn 14 = .ok (.iload_n 1, 1) := by decide +kernel
theorem d_Tg_quotasIn_15 : decode b_Tg_quotasIn 15 = .ok (.invokevirtual 64, 3) := by decide +kernel
theorem d_Tg_quotasIn_18 : decode b_Tg_quotasIn 18 = .ok (.ifCond .eq 12, 3) := by decide +kernel
theorem d_Tg_quotasIn_21 : decode b_Tg_quotasIn 21 = .ok (.iload_n 2, 1) := by decide +kernel
theorem d_Tg_quotasIn_22 : decode b_Tg_quotasIn 22 = .ok (.aload_n 0, 1) := by decide +kernel
theorem d_Tg_quotasIn_23 : decode b_Tg_quotasIn 23 = .ok (.getfield 22, 3) := by decide +kernel
theorem d_Tg_quotasIn_26 : decode b_Tg_quotasIn 26 = .ok (.iload_n 3, 1) := by decide +kernel
theorem d_Tg_quotasIn_27 : decode b_Tg_quotasIn 27 = .ok (.iaload, 1) := by decide +kernel
theorem d_Tg_quotasIn_28 : decode b_Tg_quotasIn 28 = .ok (.iadd, 1) := by decide +kernel
theorem d_Tg_quotasIn_29 : decode b_Tg_quotasIn 29 = .ok (.istore_n 2, 1) := by decide +kernel
theorem d_Tg_quotasIn_30 : decode b_Tg_quotasIn 30 = .ok (.iinc 3 1, 3) := by decide +kernel
theorem d_Tg_quotasIn_33 : decode b_Tg_quotasIn 33 = .ok (.goto (-29), 3) := by decide +kernel
theorem d_Tg_quotasIn_36 : decode b_Tg_quotasIn 36 = .ok (.iload_n 2, 1) := by decide +kernel
theorem d_Tg_quotasIn_37 : decode b_Tg_quotasIn 37 = .ok (.ireturn, 1) := by decide +kernel
theorem d_Tg_removeTree_0 : decode b_Tg_removeTree 0 = .ok (.aload_n 0, 1) := by decide +kernel
theorem d_Tg_removeTree_1 : decode b_Tg_removeTree 1 = .ok (.getfield 9, 3) := by decide +kernel
theorem d_Tg_removeTree_4 : decode b_Tg_removeTree 4 = .ok (.iload_n 1, 1) := by decide +kernel
theorem d_Tg_removeTree_5 : decode b_Tg_removeTree 5 = .ok (.iconst 0, 1) := by decide +kernel
theorem d_Tg_removeTree_6 : decode b_Tg_removeTree 6 = .ok (.bastore, 1) := by decide +kernel
theorem d_Tg_removeTree_7 : decode b_Tg_removeTree 7 = .ok (.iconst 1, 1) := by decide +kernel
theorem d_Tg_removeTree_8 : decode b_Tg_removeTree 8 = .ok (.istore_n 2, 1) := by decide +kernel
theorem d_Tg_removeTree_9 : decode b_Tg_removeTree 9 = .ok (.iload_n 1, 1) := by decide +kernel
theorem d_Tg_removeTree_10 : decode b_Tg_removeTree 10 = .ok (.iconst 1, 1) := by decide +kernel
theorem d_Tg_removeTree_11 : decode b_Tg_removeTree 11 = .ok (.iadd, 1) := by decide +kernel
theorem d_Tg_removeTree_12 : decode b_Tg_removeTree 12 = .ok (.istore_n 3, 1) := by decide +kernel
theorem d_Tg_removeTree_13 : decode b_Tg_removeTree 13 = .ok (.iload_n 3, 1) := by decide +kernel
theorem d_Tg_removeTree_14 : decode b_Tg_removeTree 14 = .ok (.aload_n 0, 1) := by decide +kernel
theorem d_Tg_removeTree_15 : decode b_Tg_removeTree 15 = .ok (.getfield 46, 3) := by decide +kernel
theorem d_Tg_removeTree_18 : decode b_Tg_removeTree 18 = .ok (.if_icmp .gt 42, 3) := by decide +kernel
theorem d_Tg_removeTree_21 : decode b_Tg_removeTree 21 = .ok (.aload_n 0, 1) := by decide +kernel
theorem d_Tg_removeTree_22 : decode b_Tg_removeTree 22 = .ok (.getfield 9, 3) := by decide +kernel
theorem d_Tg_removeTree_25 : decode b_Tg_removeTree 25 = .ok (.iload_n 3, 1) := by decide +kernel
theorem d_Tg_removeTree_26 : decode b_Tg_removeTree 26 = .ok (.baload, 1) := by decide +kernel
theorem d_Tg_removeTree_27 : decode b_Tg_removeTree 27 = .ok (.ifCond .eq 27, 3) := by decide +kernel
theorem d_Tg_removeTree_30 : decode b_Tg_removeTree 30 = .ok (.aload_n 0, 1) := by decide +kernel
theorem d_Tg_removeTree_31 : decode b_Tg_removeTree 31 = .ok (.getfield 9, 3) := by decide +kernel
theorem d_Tg_removeTree_34 : decode b_Tg_removeTree 34 = .ok (.aload_n 0, 1) := by decide +kernel
theorem d_Tg_removeTree_35 : decode b_Tg_removeTree 35 = .ok (.getfield 25, 3) := by decide +kernel
theorem d_Tg_removeTree_38 : decode b_Tg_removeTree 38 = .ok (.iload_n 3, 1) := by decide +kernel
theorem d_Tg_removeTree_39 : decode b_Tg_removeTree 39 = .ok (.iaload, 1) := by decide +kernel
theorem d_Tg_removeTree_40 : decode b_Tg_removeTree 40 = .ok (.baload, 1) := by decide +kernel
theorem d_Tg_removeTree_41 : decode b_Tg_removeTree 41 = .ok (.ifCond .ne 13, 3) := by decide +kernel
theorem d_Tg_removeTree_44 : decode b_Tg_removeTree 44 = .ok (.aload_n 0, 1) := by decide +kernel
theorem d_Tg_removeTree_45 : decode b_Tg_removeTree 45 = .ok (.getfield 9, 3) := by decide +kernel
theorem d_Tg_removeTree_48 : decode b_Tg_removeTree 48 = .ok (.iload_n 3, 1) := by decide +kernel
theorem d_Tg_removeTree_49 : decode b_Tg_removeTree 49 = .ok (.iconst 0, 1) := by decide +kernel
theorem d_Tg_removeTree_50 : decode b_Tg_removeTree 50 = .ok (.bastore, 1) := by decide +kernel
theorem d_Tg_removeTree_51 : decode b_Tg_removeTree 51 = .ok (.iinc 2 1, 3) := by decide +kernel
theorem d_Tg_removeTree_54 : decode b_Tg_removeTree 54 = .ok (.iinc 3 1, 3) := by decide +kernel
theorem d_Tg_removeTree_57 : decode b_Tg_removeTree 57 = .ok (.goto (-44), 3) := by decide +kernel
theorem d_Tg_removeTree_60 : decode b_Tg_removeTree 60 = .ok (.iload_n 2, 1) := by decide +kernel
theorem d_Tg_removeTree_61 : decode b_Tg_removeTree 61 = .ok (.ireturn, 1) := by decide +kernel
theorem d_Tg_kindOf_0 : decode b_Tg_kindOf 0 = .ok (.aload_n 0, 1) := by decide +kernel
theorem d_Tg_kindOf_1 : decode b_Tg_kindOf 1 = .ok (.getfield 15, 3) := by decide +kernel
theorem d_Tg_kindOf_4 : decode b_Tg_kindOf 4 = .ok (.iload_n 1, 1) := by decide +kernel
theorem d_Tg_kindOf_5 : decode b_Tg_kindOf 5 = .ok (.iaload, 1) := by decide +kernel
theorem d_Tg_kindOf_6 : decode b_Tg_kindOf 6 = .ok (.ireturn, 1) := by decide +kernel
theorem d_Tg_labelOf_0 : decode b_Tg_labelOf 0 = .ok (.aload_n 0, 1) := by decide +kernel
theorem d_Tg_labelOf_1 : decode b_Tg_labelOf 1 = .ok (.getfield 19, 3) := by decide +kernel
theorem d_Tg_labelOf_4 : decode b_Tg_labelOf 4 = .ok (.iload_n 1, 1) := by decide +kernel
theorem d_Tg_labelOf_5 : decode b_Tg_labelOf 5 = .ok (.iaload, 1) := by decide +kernel
theorem d_Tg_labelOf_6 : decode b_Tg_labelOf 6 = .ok (.ireturn, 1) := by decide +kernel
theorem d_Tg_setLabel_0 : decode b_Tg_setLabel 0 = .ok (.aload_n 0, 1) := by decide +kernel
theorem d_Tg_setLabel_1 : decode b_Tg_setLabel 1 = .ok (.getfield 19, 3) := by decide +kernel
theorem d_Tg_setLabel_4 : decode b_Tg_setLabel 4 = .ok (.iload_n 1, 1) := by decide +kernel
theorem d_Tg_setLabel_5 : decode b_Tg_setLabel 5 = .ok (.iload_n 2, 1) := by decide +kernel
theorem d_Tg_setLabel_6 : decode b_Tg_setLabel 6 = .ok (.iastore, 1) := by decide +kernel
theorem d_Tg_setLabel_7 : decode b_Tg_setLabel 7 = .ok (.return_, 1) := by decide +kernel
theorem d_Tg_quotaOf_0 : decode b_Tg_quotaOf 0 = .ok (.aload_n 0, 1) := by decide +kernel
theorem d_Tg_quotaOf_1 : decode b_Tg_quotaOf 1 = .ok (.getfield 22, 3) := by decide +kernel
theorem d_Tg_quotaOf_4 : decode b_Tg_quotaOf 4 = .ok (.iload_n 1, 1) := by decide +kernel
theorem d_Tg_quotaOf_5 : decode b_Tg_quotaOf 5 = .ok (.iaload, 1) := by decide +kernel
theorem d_Tg_quotaOf_6 : decode b_Tg_quotaOf 6 = .ok (.ireturn, 1) := by decide +kernel
theorem d_Tg_setQuota_0 : decode b_Tg_setQuota 0 = .ok (.aload_n 0, 1) := by decide +kernel
theorem d_Tg_setQuota_1 : decode b_Tg_setQuota 1 = .ok (.getfield 22, 3) := by decide +kernel
theorem d_Tg_setQuota_4 : decode b_Tg_setQuota 4 = .ok (.iload_n 1, 1) := by decide +kernel
theorem d_Tg_setQuota_5 : decode b_Tg_setQuota 5 = .ok (.iload_n 2, 1) := by decide +kernel
theorem d_Tg_setQuota_6 : decode b_Tg_setQuota 6 = .ok (.iastore, 1) := by decide +kernel
theorem d_Tg_setQuota_7 : decode b_Tg_setQuota 7 = .ok (.return_, 1) := by decide +kernel
theorem d_Tg_placeOf_0 : decode b_Tg_placeOf 0 = .ok (.aload_n 0, 1) := by decide +kernel
theorem d_Tg_placeOf_1 : decode b_Tg_placeOf 1 = .ok (.getfield 25, 3) := by decide +kernel
theorem d_Tg_placeOf_4 : decode b_Tg_placeOf 4 = .ok (.iload_n 1, 1) := by decide +kernel
theorem d_Tg_placeOf_5 : decode b_Tg_placeOf 5 = .ok (.iaload, 1) := by decide +kernel
theorem d_Tg_placeOf_6 : decode b_Tg_placeOf 6 = .ok (.ireturn, 1) := by decide +kernel
theorem d_Tg_depthOf_0 : decode b_Tg_depthOf 0 = .ok (.aload_n 0, 1) := by decide +kernel
theorem d_Tg_depthOf_1 : decode b_Tg_depthOf 1 = .ok (.getfield 28, 3) := by decide +kernel
theorem d_Tg_depthOf_4 : decode b_Tg_depthOf 4 = .ok (.iload_n 1, 1) := by decide +kernel
theorem d_Tg_depthOf_5 : decode b_Tg_depthOf 5 = .ok (.iaload, 1) := by decide +kernel
theorem d_Tg_depthOf_6 : decode b_Tg_depthOf 6 = .ok (.ireturn, 1) := by decide +kernel
theorem d_Tg_clearanceOf_0 : decode b_Tg_clearanceOf 0 = .ok (.aload_n 0, 1) := by decide +kernel
theorem d_Tg_clearanceOf_1 : decode b_Tg_clearanceOf 1 = .ok (.getfield 31, 3) := by decide +kernel
theorem d_Tg_clearanceOf_4 : decode b_Tg_clearanceOf 4 = .ok (.iload_n 1, 1) := by decide +kernel
theorem d_Tg_clearanceOf_5 : decode b_Tg_clearanceOf 5 = .ok (.iaload, 1) := by decide +kernel
theorem d_Tg_clearanceOf_6 : decode b_Tg_clearanceOf 6 = .ok (.ireturn, 1) := by decide +kernel
theorem d_Tg_setClearance_0 : decode b_Tg_setClearance 0 = .ok (.aload_n 0, 1) := by decide +kernel
theorem d_Tg_setClearance_1 : decode b_Tg_setClearance 1 = .ok (.getfield 31, 3) := by decide +kernel
theorem d_Tg_setClearance_4 : decode b_Tg_setClearance 4 = .ok (.iload_n 1, 1) := by decide +kernel
theorem d_Tg_setClearance_5 : decode b_Tg_setClearance 5 = .ok (.iload_n 2, 1) := by decide +kernel
theorem d_Tg_setClearance_6 : decode b_Tg_setClearance 6 = .ok (.iastore, 1) := by decide +kernel
theorem d_Tg_setClearance_7 : decode b_Tg_setClearance 7 = .ok (.return_, 1) := by decide +kernel
theorem d_Tg_guardOf_0 : decode b_Tg_guardOf 0 = .ok (.aload_n 0, 1) := by decide +kernel
theorem d_Tg_guardOf_1 : decode b_Tg_guardOf 1 = .ok (.getfield 34, 3) := by decide +kernel
theorem d_Tg_guardOf_4 : decode b_Tg_guardOf 4 = .ok (.iload_n 1, 1) := by decide +kernel
theorem d_Tg_guardOf_5 : decode b_Tg_guardOf 5 = .ok (.iaload, 1) := by decide +kernel
theorem d_Tg_guardOf_6 : decode b_Tg_guardOf 6 = .ok (.ireturn, 1) := by decide +kernel
theorem d_Tg_entryOf_0 : decode b_Tg_entryOf 0 = .ok (.aload_n 0, 1) := by decide +kernel
theorem d_Tg_entryOf_1 : decode b_Tg_entryOf 1 = .ok (.getfield 37, 3) := by decide +kernel
theorem d_Tg_entryOf_4 : decode b_Tg_entryOf 4 = .ok (.iload_n 1, 1) := by decide +kernel
theorem d_Tg_entryOf_5 : decode b_Tg_entryOf 5 = .ok (.iaload, 1) := by decide +kernel
theorem d_Tg_entryOf_6 : decode b_Tg_entryOf 6 = .ok (.ireturn, 1) := by decide +kernel
theorem d_Tg_setGuardAndEntry_0 : decode b_Tg_setGuardAndEntry 0 = .ok (.aload_n 0, 1) := by decide +kernel
theorem d_Tg_setGuardAndEntry_1 : decode b_Tg_setGuardAndEntry 1 = .ok (.getfield 34, 3) := by decide +kernel
theorem d_Tg_setGuardAndEntry_4 : decode b_Tg_setGuardAndEntry 4 = .ok (.iload_n 1, 1) := by decide +kernel
theorem d_Tg_setGuardAndEntry_5 : decode b_Tg_setGuardAndEntry 5 = .ok (.iload_n 2, 1) := by decide +kernel
theorem d_Tg_setGuardAndEntry_6 : decode b_Tg_setGuardAndEntry 6 = .ok (.iastore, 1) := by decide +kernel
theorem d_Tg_setGuardAndEntry_7 : decode b_Tg_setGuardAndEntry 7 = .ok (.aload_n 0, 1) := by decide +kernel
theorem d_Tg_setGuardAndEntry_8 : decode b_Tg_setGuardAndEntry 8 = .ok (.getfield 37, 3) := by decide +kernel
theorem d_Tg_setGuardAndEntry_11 : decode b_Tg_setGuardAndEntry 11 = .ok (.iload_n 1, 1) := by decide +kernel
theorem d_Tg_setGuardAndEntry_12 : decode b_Tg_setGuardAndEntry 12 = .ok (.iload_n 3, 1) := by decide +kernel
theorem d_Tg_setGuardAndEntry_13 : decode b_Tg_setGuardAndEntry 13 = .ok (.iastore, 1) := by decide +kernel
theorem d_Tg_setGuardAndEntry_14 : decode b_Tg_setGuardAndEntry 14 = .ok (.return_, 1) := by decide +kernel
theorem d_Tg_cellCountOf_0 : decode b_Tg_cellCountOf 0 = .ok (.aload_n 0, 1) := by decide +kernel
theorem d_Tg_cellCountOf_1 : decode b_Tg_cellCountOf 1 = .ok (.getfield 40, 3) := by decide +kernel
theorem d_Tg_cellCountOf_4 : decode b_Tg_cellCountOf 4 = .ok (.iload_n 1, 1) := by decide +kernel
theorem d_Tg_cellCountOf_5 : decode b_Tg_cellCountOf 5 = .ok (.iaload, 1) := by decide +kernel
theorem d_Tg_cellCountOf_6 : decode b_Tg_cellCountOf 6 = .ok (.ireturn, 1) := by decide +kernel
theorem d_Tg_setCellCount_0 : decode b_Tg_setCellCount 0 = .ok (.aload_n 0, 1) := by decide +kernel
theorem d_Tg_setCellCount_1 : decode b_Tg_setCellCount 1 = .ok (.getfield 40, 3) := by decide +kernel
theorem d_Tg_setCellCount_4 : decode b_Tg_setCellCount 4 = .ok (.iload_n 1, 1) := by decide +kernel
theorem d_Tg_setCellCount_5 : decode b_Tg_setCellCount 5 = .ok (.iload_n 2, 1) := by decide +kernel
theorem d_Tg_setCellCount_6 : decode b_Tg_setCellCount 6 = .ok (.iastore, 1) := by decide +kernel
theorem d_Tg_setCellCount_7 : decode b_Tg_setCellCount 7 = .ok (.return_, 1) := by decide +kernel
theorem d_Tg_cellOf_0 : decode b_Tg_cellOf 0 = .ok (.aload_n 0, 1) := by decide +kernel
theorem d_Tg_cellOf_1 : decode b_Tg_cellOf 1 = .ok (.getfield 43, 3) := by decide +kernel
theorem d_Tg_cellOf_4 : decode b_Tg_cellOf 4 = .ok (.iload_n 1, 1) := by decide +kernel
theorem d_Tg_cellOf_5 : decode b_Tg_cellOf 5 = .ok (.bipush 8, 2) := by decide +kernel
theorem d_Tg_cellOf_7 : decode b_Tg_cellOf 7 = .ok (.imul, 1) := by decide +kernel
theorem d_Tg_cellOf_8 : decode b_Tg_cellOf 8 = .ok (.iload_n 2, 1) := by decide +kernel
theorem d_Tg_cellOf_9 : decode b_Tg_cellOf 9 = .ok (.iadd, 1) := by decide +kernel
theorem d_Tg_cellOf_10 : decode b_Tg_cellOf 10 = .ok (.iaload, 1) := by decide +kernel
theorem d_Tg_cellOf_11 : decode b_Tg_cellOf 11 = .ok (.ireturn, 1) := by decide +kernel
theorem d_Tg_setCell_0 : decode b_Tg_setCell 0 = .ok (.aload_n 0, 1) := by decide +kernel
theorem d_Tg_setCell_1 : decode b_Tg_setCell 1 = .ok (.getfield 43, 3) := by decide +kernel
theorem d_Tg_setCell_4 : decode b_Tg_setCell 4 = .ok (.iload_n 1, 1) := by decide +kernel
theorem d_Tg_setCell_5 : decode b_Tg_setCell 5 = .ok (.bipush 8, 2) := by decide +kernel
theorem d_Tg_setCell_7 : decode b_Tg_setCell 7 = .ok (.imul, 1) := by decide +kernel
theorem d_Tg_setCell_8 : decode b_Tg_setCell 8 = .ok (.iload_n 2, 1) := by decide +kernel
theorem d_Tg_setCell_9 : decode b_Tg_setCell 9 = .ok (.iadd, 1) := by decide +kernel
theorem d_Tg_setCell_10 : decode b_Tg_setCell 10 = .ok (.iload_n 3, 1) := by decide +kernel
theorem d_Tg_setCell_11 : decode b_Tg_setCell 11 = .ok (.iastore, 1) := by decide +kernel
theorem d_Tg_setCell_12 : decode b_Tg_setCell 12 = .ok (.return_, 1) := by decide +kernel
end
section
theorem d_Ke_init_0 : decode b_Ke_init 0 = .ok (.aload_n 0, 1) := by decide +kernel
theorem d_Ke_init_1 : decode b_Ke_init 1 = .ok (.invokespecial 1, 3) := by decide +kernel
theorem d_Ke_init_4 : decode b_Ke_init 4 = .ok (.aload_n 0, 1) := by decide +kernel
theorem d_Ke_init_5 : decode b_Ke_init 5 = .ok (.new 7, 3) := by decide +kernel
theorem d_Ke_init_8 : decode b_Ke_init 8 = .ok (.dup, 1) := by decide +kernel
theorem d_Ke_init_9 : decode b_Ke_init 9 = .ok (.invokespecial 9, 3) := by decide +kernel
theorem d_Ke_init_12 : decode b_Ke_init 12 = .ok (.putfield 10, 3) := by decide +kernel
theorem d_Ke_init_15 : decode b_Ke_init 15 = .ok (.aload_n 0, 1) := by decide +kernel
theorem d_Ke_init_16 : decode b_Ke_init 16 = .ok (.new 7, 3) := by decide +kernel
theorem d_Ke_init_19 : decode b_Ke_init 19 = .ok (.dup, 1) := by decide +kernel
theorem d_Ke_init_20 : decode b_Ke_init 20 = .ok (.invokespecial 9, 3) := by decide +kernel
theorem d_Ke_init_23 : decode b_Ke_init 23 = .ok (.putfield 16, 3) := by decide +kernel
theorem d_Ke_init_26 : decode b_Ke_init 26 = .ok (.aload_n 0, 1) := by decide +kernel
theorem d_Ke_init_27 : decode b_Ke_init 27 = .ok (.aload_n 0, 1) := by decide +kernel
theorem d_Ke_init_28 : decode b_Ke_init 28 = .ok (.getfield 10, 3) := by decide +kernel
theorem d_Ke_init_31 : decode b_Ke_init 31 = .ok (.getfield 19, 3) := by decide +kernel
theorem d_Ke_init_34 : decode b_Ke_init 34 = .ok (.putfield 23, 3) := by decide +kernel
theorem d_Ke_init_37 : decode b_Ke_init 37 = .ok (.aload_n 0, 1) := by decide +kernel
theorem d_Ke_init_38 : decode b_Ke_init 38 = .ok (.aload_n 0, 1) := by decide +kernel
theorem d_Ke_init_39 : decode b_Ke_init 39 = .ok (.getfield 10, 3) := by decide +kernel
theorem d_Ke_init_42 : decode b_Ke_init 42 = .ok (.getfield 24, 3) := by decide +kernel
theorem d_Ke_init_45 : decode b_Ke_init 45 = .ok (.putfield 28, 3) := by decide +kernel
theorem d_Ke_init_48 : decode b_Ke_init 48 = .ok (.aload_n 0, 1) := by decide +kernel
theorem d_Ke_init_49 : decode b_Ke_init 49 = .ok (.aload_n 0, 1) := by decide +kernel
theorem d_Ke_init_50 : decode b_Ke_init 50 = .ok (.getfield 10, 3) := by decide +kernel
theorem d_Ke_init_53 : decode b_Ke_init 53 = .ok (.getfield 29, 3) := by decide +kernel
theorem d_Ke_init_56 : decode b_Ke_init 56 = .ok (.putfield 33, 3) := by decide +kernel
theorem d_Ke_init_59 : decode b_Ke_init 59 = .ok (.return_, 1) := by decide +kernel
theorem d_Ke_label_0 : decode b_Ke_label 0 = .ok (.aload_n 0, 1) := by decide +kernel
theorem d_Ke_label_1 : decode b_Ke_label 1 = .ok (.getfield 23, 3) := by decide +kernel
theorem d_Ke_label_4 : decode b_Ke_label 4 = .ok (.iload_n 1, 1) := by decide +kernel
theorem d_Ke_label_5 : decode b_Ke_label 5 = .ok (.invokevirtual 34, 3) := by decide +kernel
theorem d_Ke_label_8 : decode b_Ke_label 8 = .ok (.ifCond .eq 26, 3) := by decide +kernel
theorem d_Ke_label_11 : decode b_Ke_label 11 = .ok (.iload_n 2, 1) := by decide +kernel
theorem d_Ke_label_12 : decode b_Ke_label 12 = .ok (.iconst 0, 1) := by decide +kernel
theorem d_Ke_label_13 : decode b_Ke_label 13 = .ok (.bipush 7, 2) := by decide +kernel
theorem d_Ke_label_15 : decode b_Ke_label 15 = .ok (.invokestatic 40, 3) := by decide +kernel
theorem d_Ke_label_18 : decode b_Ke_label 18 = .ok (.ifCond .eq 16, 3) := by decide +kernel
theorem d_Ke_label_21 : decode b_Ke_label 21 = .ok (.iload_n 3, 1) := by decide +kernel
theorem d_Ke_label_22 : decode b_Ke_label 22 = .ok (.iconst 0, 1) := by decide +kernel
theorem d_Ke_label_23 : decode b_Ke_label 23 = .ok (.iconst 4, 1) := by decide +kernel
theorem d_Ke_label_24 : decode b_Ke_label 24 = .ok (.invokestatic 40, 3) := by decide +kernel
theorem d_Ke_label_27 : decode b_Ke_label 27 = .ok (.ifCond .eq 7, 3) := by decide +kernel
theorem d_Ke_label_30 : decode b_Ke_label 30 = .ok (.iconst 1, 1) := by decide +kernel
theorem d_Ke_label_31 : decode b_Ke_label 31 = .ok (.goto 4, 3) := by decide +kernel
theorem d_Ke_label_34 : decode b_Ke_label 34 = .ok (.iconst 0, 1) := by decide +kernel
theorem d_Ke_label_35 : decode b_Ke_label 35 = .ok (.invokestatic 44, 3) := by decide +kernel
theorem d_Ke_label_38 : decode b_Ke_label 38 = .ok (.aload_n 0, 1) := by decide +kernel
theorem d_Ke_label_39 : decode b_Ke_label 39 = .ok (.getfield 23, 3) := by decide +kernel
theorem d_Ke_label_42 : decode b_Ke_label 42 = .ok (.iload_n 1, 1) := by decide +kernel
theorem d_Ke_label_43 : decode b_Ke_label 43 = .ok (.iload_n 2, 1) := by decide +kernel
theorem d_Ke_label_44 : decode b_Ke_label 44 = .ok (.iload_n 3, 1) := by decide +kernel
theorem d_Ke_label_45 : decode b_Ke_label 45 = .ok (.invokevirtual 48, 3) := by decide +kernel
theorem d_Ke_label_48 : decode b_Ke_label 48 = .ok (.istore 4, 2) := by decide +kernel
theorem d_Ke_label_50 : decode b_Ke_label 50 = .ok (.aload_n 0, 1) := by decide +kernel
theorem d_Ke_label_51 : decode b_Ke_label 51 = .ok (.getfield 23, 3) := by decide +kernel
theorem d_Ke_label_54 : decode b_Ke_label 54 = .ok (.iload 4, 2) := by decide +kernel
theorem d_Ke_label_56 : decode b_Ke_label 56 = .ok (.invokevirtual 52, 3) := by decide +kernel
theorem d_Ke_label_59 : decode b_Ke_label 59 = .ok (.aload_n 0, 1) := by decide +kernel
theorem d_Ke_label_60 : decode b_Ke_label 60 = .ok (.getfield 23, 3) := by decide +kernel
theorem d_Ke_label_63 : decode b_Ke_label 63 = .ok (.invokevirtual 56, 3) := by decide +kernel
theorem d_Ke_label_66 : decode b_Ke_label 66 = .ok (.if_icmp .gt 7, 3) := by decide +kernel
theorem d_Ke_label_69 : decode b_Ke_label 69 = .ok (.iconst 1, 1) := by decide +kernel
theorem d_Ke_label_70 : decode b_Ke_label 70 = .ok (.goto 4, 3) := by decide +kernel
theorem d_Ke_label_73 : decode b_Ke_label 73 = .ok (.iconst 0, 1) := by decide +kernel
theorem d_Ke_label_74 : decode b_Ke_label 74 = .ok (.invokestatic 60, 3) := by decide +kernel
theorem d_Ke_label_77 : decode b_Ke_label 77 = .ok (.aload_n 0, 1) := by decide +kernel
theorem d_Ke_label_78 : decode b_Ke_label 78 = .ok (.getfield 23, 3) := by decide +kernel
theorem d_Ke_label_81 : decode b_Ke_label 81 = .ok (.iload 4, 2) := by decide +kernel
theorem d_Ke_label_83 : decode b_Ke_label 83 = .ok (.invokevirtual 63, 3) := by decide +kernel
theorem d_Ke_label_86 : decode b_Ke_label 86 = .ok (.ireturn, 1) := by decide +kernel
theorem d_Ke_level_0 : decode b_Ke_level 0 = .ok (.aload_n 0, 1) := by decide +kernel
theorem d_Ke_level_1 : decode b_Ke_level 1 = .ok (.getfield 23, 3) := by decide +kernel
theorem d_Ke_level_4 : decode b_Ke_level 4 = .ok (.iload_n 1, 1) := by decide +kernel
theorem d_Ke_level_5 : decode b_Ke_level 5 = .ok (.invokevirtual 34, 3) := by decide +kernel
theorem d_Ke_level_8 : decode b_Ke_level 8 = .ok (.ifCond .eq 17, 3) := by decide +kernel
theorem d_Ke_level_11 : decode b_Ke_level 11 = .ok (.iload_n 2, 1) := by decide +kernel
theorem d_Ke_level_12 : decode b_Ke_level 12 = .ok (.iconst 0, 1) := by decide +kernel
theorem d_Ke_level_13 : decode b_Ke_level 13 = .ok (.bipush 7, 2) := by decide +kernel
theorem d_Ke_level_15 : decode b_Ke_level 15 = .ok (.invokestatic 40, 3) := by decide +kernel
theorem d_Ke_level_18 : decode b_Ke_level 18 = .ok (.ifCond .eq 7, 3) := by decide +kernel
theorem d_Ke_level_21 : decode b_Ke_level 21 = .ok (.iconst 1, 1) := by decide +kernel
theorem d_Ke_level_22 : decode b_Ke_level 22 = .ok (.goto 4, 3) := by decide +kernel
theorem d_Ke_level_25 : decode b_Ke_level 25 = .ok (.iconst 0, 1) := by decide +kernel
theorem d_Ke_level_26 : decode b_Ke_level 26 = .ok (.invokestatic 44, 3) := by decide +kernel
theorem d_Ke_level_29 : decode b_Ke_level 29 = .ok (.aload_n 0, 1) := by decide +kernel
theorem d_Ke_level_30 : decode b_Ke_level 30 = .ok (.getfield 23, 3) := by decide +kernel
theorem d_Ke_level_33 : decode b_Ke_level 33 = .ok (.iload_n 1, 1) := by decide +kernel
theorem d_Ke_level_34 : decode b_Ke_level 34 = .ok (.iload_n 2, 1) := by decide +kernel
theorem d_Ke_level_35 : decode b_Ke_level 35 = .ok (.invokevirtual 66, 3) := by decide +kernel
theorem d_Ke_level_38 : decode b_Ke_level 38 = .ok (.ireturn, 1) := by decide +kernel
theorem d_Ke_fits_0 : decode b_Ke_fits 0 = .ok (.aload_n 0, 1) := by decide +kernel
theorem d_Ke_fits_1 : decode b_Ke_fits 1 = .ok (.getfield 23, 3) := by decide +kernel
theorem d_Ke_fits_4 : decode b_Ke_fits 4 = .ok (.iload_n 1, 1) := by decide +kernel
theorem d_Ke_fits_5 : decode b_Ke_fits 5 = .ok (.invokevirtual 34, 3) := by decide +kernel
theorem d_Ke_fits_8 : decode b_Ke_fits 8 = .ok (.ifCond .eq 18, 3) := by decide +kernel
theorem d_Ke_fits_11 : decode b_Ke_fits 11 = .ok (.aload_n 0, 1) := by decide +kernel
theorem d_Ke_fits_12 : decode b_Ke_fits 12 = .ok (.getfield 23, 3) := by decide +kernel
theorem d_Ke_fits_15 : decode b_Ke_fits 15 = .ok (.iload_n 2, 1) := by decide +kernel
theorem d_Ke_fits_16 : decode b_Ke_fits 16 = .ok (.invokevirtual 34, 3) := by decide +kernel
theorem d_Ke_fits_19 : decode b_Ke_fits 19 = .ok (.ifCond .eq 7, 3) := by decide +kernel
theorem d_Ke_fits_22 : decode b_Ke_fits 22 = .ok (.iconst 1, 1) := by decide +kernel
theorem d_Ke_fits_23 : decode b_Ke_fits 23 = .ok (.goto 4, 3) := by decide +kernel
theorem d_Ke_fits_26 : decode b_Ke_fits 26 = .ok (.iconst 0, 1) := by decide +kernel
theorem d_Ke_fits_27 : decode b_Ke_fits 27 = .ok (.invokestatic 44, 3) := by decide +kernel
theorem d_Ke_fits_30 : decode b_Ke_fits 30 = .ok (.iload_n 3, 1) := by decide +kernel
theorem d_Ke_fits_31 : decode b_Ke_fits 31 = .ok (.ifCond .eq 15, 3) := by decide +kernel
theorem d_Ke_fits_34 : decode b_Ke_fits 34 = .ok (.aload_n 0, 1) := by decide +kernel
theorem d_Ke_fits_35 : decode b_Ke_fits 35 = .ok (.getfield 23, 3) := by decide +kernel
theorem d_Ke_fits_38 : decode b_Ke_fits 38 = .ok (.iload_n 1, 1) := by decide +kernel
theorem d_Ke_fits_39 : decode b_Ke_fits 39 = .ok (.iload_n 2, 1) := by decide +kernel
theorem d_Ke_fits_40 : decode b_Ke_fits 40 = .ok (.invokevirtual 70, 3) := by decide +kernel
theorem d_Ke_fits_43 : decode b_Ke_fits 43 = .ok (.goto 12, 3) := by decide +kernel
theorem d_Ke_fits_46 : decode b_Ke_fits 46 = .ok (.aload_n 0, 1) := by decide +kernel
theorem d_Ke_fits_47 : decode b_Ke_fits 47 = .ok (.getfield 23, 3) := by decide +kernel
theorem d_Ke_fits_50 : decode b_Ke_fits 50 = .ok (.iload_n 1, 1) := by decide +kernel
theorem d_Ke_fits_51 : decode b_Ke_fits 51 = .ok (.iload_n 2, 1) := by decide +kernel
theorem d_Ke_fits_52 : decode b_Ke_fits 52 = .ok (.invokevirtual 74, 3) := by decide +kernel
theorem d_Ke_fits_55 : decode b_Ke_fits 55 = .ok (.ireturn, 1) := by decide +kernel
theorem d_Ke_category_0 : decode b_Ke_category 0 = .ok (.aload_n 0, 1) := by decide +kernel
theorem d_Ke_category_1 : decode b_Ke_category 1 = .ok (.iload_n 1, 1) := by decide +kernel
theorem d_Ke_category_2 : decode b_Ke_category 2 = .ok (.invokevirtual 77, 3) := by decide +kernel
theorem d_Ke_category_5 : decode b_Ke_category 5 = .ok (.aload_n 0, 1) := by decide +kernel
theorem d_Ke_category_6 : decode b_Ke_category 6 = .ok (.getfield 10, 3) := by decide +kernel
theorem d_Ke_category_9 : decode b_Ke_category 9 = .ok (.getfield 81, 3) := by decide +kernel
theorem d_Ke_category_12 : decode b_Ke_category 12 = .ok (.bipush 8, 2) := by decide +kernel
theorem d_Ke_category_14 : decode b_Ke_category 14 = .ok (.if_icmp .ge 7, 3) := by decide +kernel
theorem d_Ke_category_17 : decode b_Ke_category 17 = .ok (.iconst 1, 1) := by decide +kernel
theorem d_Ke_category_18 : decode b_Ke_category 18 = .ok (.goto 4, 3) := by decide +kernel
theorem d_Ke_category_21 : decode b_Ke_category 21 = .ok (.iconst 0, 1) := by decide +kernel
theorem d_Ke_category_22 : decode b_Ke_category 22 = .ok (.invokestatic 60, 3) := by decide +kernel
theorem d_Ke_category_25 : decode b_Ke_category 25 = .ok (.aload_n 0, 1) := by decide +kernel
theorem d_Ke_category_26 : decode b_Ke_category 26 = .ok (.getfield 10, 3) := by decide +kernel
theorem d_Ke_category_29 : decode b_Ke_category 29 = .ok (.getfield 81, 3) := by decide +kernel
theorem d_Ke_category_32 : decode b_Ke_category 32 = .ok (.istore_n 2, 1) := by decide +kernel
theorem d_Ke_category_33 : decode b_Ke_category 33 = .ok (.aload_n 0, 1) := by decide +kernel
theorem d_Ke_category_34 : decode b_Ke_category 34 = .ok (.getfield 23, 3) := by decide +kernel
theorem d_Ke_category_37 : decode b_Ke_category 37 = .ok (.aload_n 0, 1) := by decide +kernel
theorem d_Ke_category_38 : decode b_Ke_category 38 = .ok (.getfield 28, 3) := by decide +kernel
theorem d_Ke_category_41 : decode b_Ke_category 41 = .ok (.iload_n 1, 1) := by decide +kernel
theorem d_Ke_category_42 : decode b_Ke_category 42 = .ok (.invokevirtual 85, 3) := by decide +kernel
theorem d_Ke_category_45 : decode b_Ke_category 45 = .ok (.iload_n 2, 1) := by decide +kernel
theorem d_Ke_category_46 : decode b_Ke_category 46 = .ok (.iconst 4, 1) := by decide +kernel
theorem d_Ke_category_47 : decode b_Ke_category 47 = .ok (.invokevirtual 48, 3) := by decide +kernel
theorem d_Ke_category_50 : decode b_Ke_category 50 = .ok (.istore_n 3, 1) := by decide +kernel
theorem d_Ke_category_51 : decode b_Ke_category 51 = .ok (.aload_n 0, 1) := by decide +kernel
theorem d_Ke_category_52 : decode b_Ke_category 52 = .ok (.getfield 23, 3) := by decide +kernel
theorem d_Ke_category_55 : decode b_Ke_category 55 = .ok (.aload_n 0, 1) := by decide +kernel
theorem d_Ke_category_56 : decode b_Ke_category 56 = .ok (.getfield 28, 3) := by decide +kernel
theorem d_Ke_category_59 : decode b_Ke_category 59 = .ok (.iload_n 1, 1) := by decide +kernel
theorem d_Ke_category_60 : decode b_Ke_category 60 = .ok (.invokevirtual 90, 3) := by decide +kernel
theorem d_Ke_category_63 : decode b_Ke_category 63 = .ok (.iload_n 2, 1) := by decide +kernel
theorem d_Ke_category_64 : decode b_Ke_category 64 = .ok (.iconst 3, 1) := by decide +kernel
theorem d_Ke_category_65 : decode b_Ke_category 65 = .ok (.invokevirtual 48, 3) := by decide +kernel
theorem d_Ke_category_68 : decode b_Ke_category 68 = .ok (.istore 4, 2) := by decide +kernel
theorem d_Ke_category_70 : decode b_Ke_category 70 = .ok (.aload_n 0, 1) := by decide +kernel
theorem d_Ke_category_71 : decode b_Ke_category 71 = .ok (.getfield 23, 3) := by decide +kernel
theorem d_Ke_category_74 : decode b_Ke_category 74 = .ok (.iload_n 3, 1) := by decide +kernel
theorem d_Ke_category_75 : decode b_Ke_category 75 = .ok (.invokevirtual 52, 3) := by decide +kernel
theorem d_Ke_category_78 : decode b_Ke_category 78 = .ok (.aload_n 0, 1) := by decide +kernel
theorem d_Ke_category_79 : decode b_Ke_category 79 = .ok (.getfield 23, 3) := by decide +kernel
theorem d_Ke_category_82 : decode b_Ke_category 82 = .ok (.iload 4, 2) := by decide +kernel
theorem d_Ke_category_84 : decode b_Ke_category 84 = .ok (.invokevirtual 52, 3) := by decide +kernel
theorem d_Ke_category_87 : decode b_Ke_category 87 = .ok (.iadd, 1) := by decide +kernel
theorem d_Ke_category_88 : decode b_Ke_category 88 = .ok (.aload_n 0, 1) := by decide +kernel
theorem d_Ke_category_89 : decode b_Ke_category 89 = .ok (.getfield 23, 3) := by decide +kernel
theorem d_Ke_category_92 : decode b_Ke_category 92 = .ok (.invokevirtual 56, 3) := by decide +kernel
theorem d_Ke_category_95 : decode b_Ke_category 95 = .ok (.if_icmp .gt 7, 3) := by decide +kernel
theorem d_Ke_category_98 : decode b_Ke_category 98 = .ok (.iconst 1, 1) := by decide +kernel
theorem d_Ke_category_99 : decode b_Ke_category 99 = .ok (.goto 4, 3) := by decide +kernel
theorem d_Ke_category_102 : decode b_Ke_category 102 = .ok (.iconst 0, 1) := by decide +kernel
theorem d_Ke_category_103 : decode b_Ke_category 103 = .ok (.invokestatic 60, 3) := by decide +kernel
theorem d_Ke_category_106 : decode b_Ke_category 106 = .ok (.aload_n 0, 1) := by decide +kernel
theorem d_Ke_category_107 : decode b_Ke_category 107 = .ok (.getfield 28, 3) := by decide +kernel
theorem d_Ke_category_110 : decode b_Ke_category 110 = .ok (.iload_n 1, 1) := by decide +kernel
theorem d_Ke_category_111 : decode b_Ke_category 111 = .ok (.aload_n 0, 1) := by decide +kernel
theorem d_Ke_category_112 : decode b_Ke_category 112 = .ok (.getfield 23, 3) := by decide +kernel
theorem d_Ke_category_115 : decode b_Ke_category 115 = .ok (.iload_n 3, 1) := by decide +kernel
theorem d_Ke_category_116 : decode b_Ke_category 116 = .ok (.invokevirtual 63, 3) := by decide +kernel
theorem d_Ke_category_119 : decode b_Ke_category 119 = .ok (.invokevirtual 93, 3) := by decide +kernel
theorem d_Ke_category_122 : decode b_Ke_category 122 = .ok (.aload_n 0, 1) := by decide +kernel
theorem d_Ke_category_123 : decode b_Ke_category 123 = .ok (.getfield 28, 3) := by decide +kernel
theorem d_Ke_category_126 : decode b_Ke_category 126 = .ok (.iload_n 1, 1) := by decide +kernel
theorem d_Ke_category_127 : decode b_Ke_category 127 = .ok (.aload_n 0, 1) := by decide +kernel
theorem d_Ke_category_128 : decode b_Ke_category 128 = .ok (.getfield 23, 3) := by decide +kernel
theorem d_Ke_category_131 : decode b_Ke_category 131 = .ok (.iload 4, 2) := by decide +kernel
theorem d_Ke_category_133 : decode b_Ke_category 133 = .ok (.invokevirtual 63, 3) := by decide +kernel
theorem d_Ke_category_136 : decode b_Ke_category 136 = .ok (.invokevirtual 97, 3) := by decide +kernel
theorem d_Ke_category_139 : decode b_Ke_category 139 = .ok (.aload_n 0, 1) := by decide +kernel
theorem d_Ke_category_140 : decode b_Ke_category 140 = .ok (.getfield 10, 3) := by decide +kernel
theorem d_Ke_category_143 : decode b_Ke_category 143 = .ok (.iload_n 2, 1) := by decide +kernel
theorem d_Ke_category_144 : decode b_Ke_category 144 = .ok (.iconst 1, 1) := by decide +kernel
theorem d_Ke_category_145 : decode b_Ke_category 145 = .ok (.iadd, 1) := by decide +kernel
theorem d_Ke_category_146 : decode b_Ke_category 146 = .ok (.putfield 81, 3) := by decide +kernel
theorem d_Ke_category_149 : decode b_Ke_category 149 = .ok (.iload_n 2, 1) := by decide +kernel
theorem d_Ke_category_150 : decode b_Ke_category 150 = .ok (.ireturn, 1) := by decide +kernel
theorem d_Ke_container_0 : decode b_Ke_container 0 = .ok (.aload_n 0, 1) := by decide +kernel
theorem d_Ke_container_1 : decode b_Ke_container 1 = .ok (.getfield 23, 3) := by decide +kernel
theorem d_Ke_container_4 : decode b_Ke_container 4 = .ok (.iload_n 3, 1) := by decide +kernel
theorem d_Ke_container_5 : decode b_Ke_container 5 = .ok (.invokevirtual 100, 3) := by decide +kernel
theorem d_Ke_container_8 : decode b_Ke_container 8 = .ok (.ifCond .eq 19, 3) := by decide +kernel
theorem d_Ke_container_11 : decode b_Ke_container 11 = .ok (.iload 4, 2) := by decide +kernel
theorem d_Ke_container_13 : decode b_Ke_container 13 = .ok (.iconst 1, 1) := by decide +kernel
theorem d_Ke_container_14 : decode b_Ke_container 14 = .ok (.sipush 200, 3) := by decide +kernel
theorem d_Ke_container_17 : decode b_Ke_container 17 = .ok (.invokestatic 40, 3) := by decide +kernel
theorem d_Ke_container_20 : decode b_Ke_container 20 = .ok (.ifCond .eq 7, 3) := by decide +kernel
theorem d_Ke_container_23 : decode b_Ke_container 23 = .ok (.iconst 1, 1) := by decide +kernel
theorem d_Ke_container_24 : decode b_Ke_container 24 = .ok (.goto 4, 3) := by decide +kernel
theorem d_Ke_container_27 : decode b_Ke_container 27 = .ok (.iconst 0, 1) := by decide +kernel
theorem d_Ke_container_28 : decode b_Ke_container 28 = .ok (.invokestatic 44, 3) := by decide +kernel
theorem d_Ke_container_31 : decode b_Ke_container 31 = .ok (.aload_n 0, 1) := by decide +kernel
theorem d_Ke_container_32 : decode b_Ke_container 32 = .ok (.iload_n 1, 1) := by decide +kernel
theorem d_Ke_container_33 : decode b_Ke_container 33 = .ok (.iload_n 2, 1) := by decide +kernel
theorem d_Ke_container_34 : decode b_Ke_container 34 = .ok (.invokevirtual 103, 3) := by decide +kernel
theorem d_Ke_container_37 : decode b_Ke_container 37 = .ok (.aload_n 0, 1) := by decide +kernel
theorem d_Ke_container_38 : decode b_Ke_container 38 = .ok (.iload_n 1, 1) := by decide +kernel
theorem d_Ke_container_39 : decode b_Ke_container 39 = .ok (.iload_n 2, 1) := by decide +kernel
theorem d_Ke_container_40 : decode b_Ke_container 40 = .ok (.iload_n 3, 1) := by decide +kernel
theorem d_Ke_container_41 : decode b_Ke_container 41 = .ok (.invokevirtual 106, 3) := by decide +kernel
theorem d_Ke_container_44 : decode b_Ke_container 44 = .ok (.aload_n 0, 1) := by decide +kernel
theorem d_Ke_container_45 : decode b_Ke_container 45 = .ok (.iload_n 2, 1) := by decide +kernel
theorem d_Ke_container_46 : decode b_Ke_container 46 = .ok (.iload 4, 2) := by decide +kernel
theorem d_Ke_container_48 : decode b_Ke_container 48 = .ok (.invokevirtual 110, 3) := by decide +kernel
theorem d_Ke_container_51 : decode b_Ke_container 51 = .ok (.aload_n 0, 1) := by decide +kernel
theorem d_Ke_container_52 : decode b_Ke_container 52 = .ok (.getfield 28, 3) := by decide +kernel
theorem d_Ke_container_55 : decode b_Ke_container 55 = .ok (.iconst 0, 1) := by decide +kernel
theorem d_Ke_container_56 : decode b_Ke_container 56 = .ok (.iload_n 2, 1) := by decide +kernel
theorem d_Ke_container_57 : decode b_Ke_container 57 = .ok (.iload_n 3, 1) := by decide +kernel
theorem d_Ke_container_58 : decode b_Ke_container 58 = .ok (.iload 4, 2) := by decide +kernel
theorem d_Ke_container_60 : decode b_Ke_container 60 = .ok (.invokevirtual 113, 3) := by decide +kernel
theorem d_Ke_container_63 : decode b_Ke_container 63 = .ok (.ireturn, 1) := by decide +kernel
theorem d_Ke_segment_0 : decode b_Ke_segment 0 = .ok (.aload_n 0, 1) := by decide +kernel
theorem d_Ke_segment_1 : decode b_Ke_segment 1 = .ok (.getfield 23, 3) := by decide +kernel
theorem d_Ke_segment_4 : decode b_Ke_segment 4 = .ok (.iload_n 3, 1) := by decide +kernel
theorem d_Ke_segment_5 : decode b_Ke_segment 5 = .ok (.invokevirtual 100, 3) := by decide +kernel
theorem d_Ke_segment_8 : decode b_Ke_segment 8 = .ok (.ifCond .eq 18, 3) := by decide +kernel
theorem d_Ke_segment_11 : decode b_Ke_segment 11 = .ok (.iload 4, 2) := by decide +kernel
theorem d_Ke_segment_13 : decode b_Ke_segment 13 = .ok (.iconst 1, 1) := by decide +kernel
theorem d_Ke_segment_14 : decode b_Ke_segment 14 = .ok (.bipush 8, 2) := by decide +kernel
theorem d_Ke_segment_16 : decode b_Ke_segment 16 = .ok (.invokestatic 40, 3) := by decide +kernel
theorem d_Ke_segment_19 : decode b_Ke_segment 19 = .ok (.ifCond .eq 7, 3) := by decide +kernel
theorem d_Ke_segment_22 : decode b_Ke_segment 22 = .ok (.iconst 1, 1) := by decide +kernel
theorem d_Ke_segment_23 : decode b_Ke_segment 23 = .ok (.goto 4, 3) := by decide +kernel
theorem d_Ke_segment_26 : decode b_Ke_segment 26 = .ok (.iconst 0, 1) := by decide +kernel
theorem d_Ke_segment_27 : decode b_Ke_segment 27 = .ok (.invokestatic 44, 3) := by decide +kernel
theorem d_Ke_segment_30 : decode b_Ke_segment 30 = .ok (.aload_n 0, 1) := by decide +kernel
theorem d_Ke_segment_31 : decode b_Ke_segment 31 = .ok (.iload_n 1, 1) := by decide +kernel
theorem d_Ke_segment_32 : decode b_Ke_segment 32 = .ok (.iload_n 2, 1) := by decide +kernel
theorem d_Ke_segment_33 : decode b_Ke_segment 33 = .ok (.invokevirtual 103, 3) := by decide +kernel
theorem d_Ke_segment_36 : decode b_Ke_segment 36 = .ok (.aload_n 0, 1) := by decide +kernel
theorem d_Ke_segment_37 : decode b_Ke_segment 37 = .ok (.iload_n 1, 1) := by decide +kernel
theorem d_Ke_segment_38 : decode b_Ke_segment 38 = .ok (.iload_n 2, 1) := by decide +kernel
theorem d_Ke_segment_39 : decode b_Ke_segment 39 = .ok (.iload_n 3, 1) := by decide +kernel
theorem d_Ke_segment_40 : decode b_Ke_segment 40 = .ok (.invokevirtual 106, 3) := by decide +kernel
theorem d_Ke_segment_43 : decode b_Ke_segment 43 = .ok (.aload_n 0, 1) := by decide +kernel
theorem d_Ke_segment_44 : decode b_Ke_segment 44 = .ok (.iload_n 2, 1) := by decide +kernel
theorem d_Ke_segment_45 : decode b_Ke_segment 45 = .ok (.iconst 1, 1) := by decide +kernel
theorem d_Ke_segment_46 : decode b_Ke_segment 46 = .ok (.iload 4, 2) := by decide +kernel
theorem d_Ke_segment_48 : decode b_Ke_segment 48 = .ok (.iadd, 1) := by decide +kernel
theorem d_Ke_segment_49 : decode b_Ke_segment 49 = .ok (.invokevirtual 110, 3) := by decide +kernel
theorem d_Ke_segment_52 : decode b_Ke_segment 52 = .ok (.aload_n 0, 1) := by decide +kernel
theorem d_Ke_segment_53 : decode b_Ke_segment 53 = .ok (.getfield 28, 3) := by decide +kernel
theorem d_Ke_segment_56 : decode b_Ke_segment 56 = .ok (.iconst 1, 1) := by decide +kernel
theorem d_Ke_segment_57 : decode b_Ke_segment 57 = .ok (.iload_n 2, 1) := by decide +kernel
theorem d_Ke_segment_58 : decode b_Ke_segment 58 = .ok (.iload_n 3, 1) := by decide +kernel
theorem d_Ke_segment_59 : decode b_Ke_segment 59 = .ok (.iconst 1, 1) := by decide +kernel
theorem d_Ke_segment_60 : decode b_Ke_segment 60 = .ok (.iload 4, 2) := by decide +kernel
theorem d_Ke_segment_62 : decode b_Ke_segment 62 = .ok (.iadd, 1) := by decide +kernel
theorem d_Ke_segment_63 : decode b_Ke_segment 63 = .ok (.invokevirtual 113, 3) := by decide +kernel
theorem d_Ke_segment_66 : decode b_Ke_segment 66 = .ok (.istore 5, 2) := by decide +kernel
theorem d_Ke_segment_68 : decode b_Ke_segment 68 = .ok (.aload_n 0, 1) := by decide +kernel
theorem d_Ke_segment_69 : decode b_Ke_segment 69 = .ok (.getfield 28, 3) := by decide +kernel
theorem d_Ke_segment_72 : decode b_Ke_segment 72 = .ok (.iload 5, 2) := by decide +kernel
theorem d_Ke_segment_74 : decode b_Ke_segment 74 = .ok (.iload 4, 2) := by decide +kernel
theorem d_Ke_segment_76 : decode b_Ke_segment 76 = .ok (.invokevirtual 117, 3) := by decide +kernel
theorem d_Ke_segment_79 : decode b_Ke_segment 79 = .ok (.iload 5, 2) := by decide +kernel
theorem d_Ke_segment_81 : decode b_Ke_segment 81 = .ok (.ireturn, 1) := by decide +kernel
theorem d_Ke_gate_0 : decode b_Ke_gate 0 = .ok (.aload_n 0, 1) := by decide +kernel
theorem d_Ke_gate_1 : decode b_Ke_gate 1 = .ok (.getfield 23, 3) := by decide +kernel
theorem d_Ke_gate_4 : decode b_Ke_gate 4 = .ok (.iload_n 3, 1) := by decide +kernel
theorem d_Ke_gate_5 : decode b_Ke_gate 5 = .ok (.invokevirtual 34, 3) := by decide +kernel
theorem d_Ke_gate_8 : decode b_Ke_gate 8 = .ok (.ifCond .eq 19, 3) := by decide +kernel
theorem d_Ke_gate_11 : decode b_Ke_gate 11 = .ok (.aload_n 0, 1) := by decide +kernel
theorem d_Ke_gate_12 : decode b_Ke_gate 12 = .ok (.getfield 23, 3) := by decide +kernel
theorem d_Ke_gate_15 : decode b_Ke_gate 15 = .ok (.iload 4, 2) := by decide +kernel
theorem d_Ke_gate_17 : decode b_Ke_gate 17 = .ok (.invokevirtual 100, 3) := by decide +kernel
theorem d_Ke_gate_20 : decode b_Ke_gate 20 = .ok (.ifCond .eq 7, 3) := by decide +kernel
theorem d_Ke_gate_23 : decode b_Ke_gate 23 = .ok (.iconst 1, 1) := by decide +kernel
theorem d_Ke_gate_24 : decode b_Ke_gate 24 = .ok (.goto 4, 3) := by decide +kernel
theorem d_Ke_gate_27 : decode b_Ke_gate 27 = .ok (.iconst 0, 1) := by decide +kernel
theorem d_Ke_gate_28 : decode b_Ke_gate 28 = .ok (.invokestatic 44, 3) := by decide +kernel
theorem d_Ke_gate_31 : decode b_Ke_gate 31 = .ok (.aload_n 0, 1) := by decide +kernel
theorem d_Ke_gate_32 : decode b_Ke_gate 32 = .ok (.iload_n 1, 1) := by decide +kernel
theorem d_Ke_gate_33 : decode b_Ke_gate 33 = .ok (.iload_n 2, 1) := by decide +kernel
theorem d_Ke_gate_34 : decode b_Ke_gate 34 = .ok (.invokevirtual 103, 3) := by decide +kernel
theorem d_Ke_gate_37 : decode b_Ke_gate 37 = .ok (.aload_n 0, 1) := by decide +kernel
theorem d_Ke_gate_38 : decode b_Ke_gate 38 = .ok (.iload_n 1, 1) := by decide +kernel
theorem d_Ke_gate_39 : decode b_Ke_gate 39 = .ok (.iload_n 2, 1) := by decide +kernel
theorem d_Ke_gate_40 : decode b_Ke_gate 40 = .ok (.iload_n 3, 1) := by decide +kernel
theorem d_Ke_gate_41 : decode b_Ke_gate 41 = .ok (.invokevirtual 106, 3) := by decide +kernel
theorem d_Ke_gate_44 : decode b_Ke_gate 44 = .ok (.aload_n 0, 1) := by decide +kernel
theorem d_Ke_gate_45 : decode b_Ke_gate 45 = .ok (.iload_n 2, 1) := by decide +kernel
theorem d_Ke_gate_46 : decode b_Ke_gate 46 = .ok (.iconst 2, 1) := by decide +kernel
theorem d_Ke_gate_47 : decode b_Ke_gate 47 = .ok (.invokevirtual 110, 3) := by decide +kernel
theorem d_Ke_gate_50 : decode b_Ke_gate 50 = .ok (.aload_n 0, 1) := by decide +kernel
theorem d_Ke_gate_51 : decode b_Ke_gate 51 = .ok (.getfield 28, 3) := by decide +kernel
theorem d_Ke_gate_54 : decode b_Ke_gate 54 = .ok (.iconst 2, 1) := by decide +kernel
theorem d_Ke_gate_55 : decode b_Ke_gate 55 = .ok (.iload_n 2, 1) := by decide +kernel
theorem d_Ke_gate_56 : decode b_Ke_gate 56 = .ok (.iload_n 3, 1) := by decide +kernel
theorem d_Ke_gate_57 : decode b_Ke_gate 57 = .ok (.iconst 2, 1) := by decide +kernel
theorem d_Ke_gate_58 : decode b_Ke_gate 58 = .ok (.invokevirtual 113, 3) := by decide +kernel
theorem d_Ke_gate_61 : decode b_Ke_gate 61 = .ok (.istore 6, 2) := by decide +kernel
theorem d_Ke_gate_63 : decode b_Ke_gate 63 = .ok (.aload_n 0, 1) := by decide +kernel
theorem d_Ke_gate_64 : decode b_Ke_gate 64 = .ok (.getfield 28, 3) := by decide +kernel
theorem d_Ke_gate_67 : decode b_Ke_gate 67 = .ok (.iload 6, 2) := by decide +kernel
theorem d_Ke_gate_69 : decode b_Ke_gate 69 = .ok (.aload_n 0, 1) := by decide +kernel
theorem d_Ke_gate_70 : decode b_Ke_gate 70 = .ok (.getfield 28, 3) := by decide +kernel
theorem d_Ke_gate_73 : decode b_Ke_gate 73 = .ok (.iload_n 1, 1) := by decide +kernel
theorem d_Ke_gate_74 : decode b_Ke_gate 74 = .ok (.invokevirtual 90, 3) := by decide +kernel
theorem d_Ke_gate_77 : decode b_Ke_gate 77 = .ok (.invokevirtual 97, 3) := by decide +kernel
theorem d_Ke_gate_80 : decode b_Ke_gate 80 = .ok (.aload_n 0, 1) := by decide +kernel
theorem d_Ke_gate_81 : decode b_Ke_gate 81 = .ok (.getfield 28, 3) := by decide +kernel
theorem d_Ke_gate_84 : decode b_Ke_gate 84 = .ok (.iload 6, 2) := by decide +kernel
theorem d_Ke_gate_86 : decode b_Ke_gate 86 = .ok (.iload 4, 2) := by decide +kernel
theorem d_Ke_gate_88 : decode b_Ke_gate 88 = .ok (.iload 5, 2) := by decide +kernel
theorem d_Ke_gate_90 : decode b_Ke_gate 90 = .ok (.invokevirtual 120, 3) := by decide +kernel
theorem d_Ke_gate_93 : decode b_Ke_gate 93 = .ok (.iload 6, 2) := by decide +kernel
theorem d_Ke_gate_95 : decode b_Ke_gate 95 = .ok (.ireturn, 1) := by decide +kernel
theorem d_Ke_thread_0 : decode b_Ke_thread 0 = .ok (.aload_n 0, 1) := by decide +kernel
theorem d_Ke_thread_1 : decode b_Ke_thread 1 = .ok (.getfield 23, 3) := by decide +kernel
theorem d_Ke_thread_4 : decode b_Ke_thread 4 = .ok (.iload_n 3, 1) := by decide +kernel
theorem d_Ke_thread_5 : decode b_Ke_thread 5 = .ok (.invokevirtual 34, 3) := by decide +kernel
theorem d_Ke_thread_8 : decode b_Ke_thread 8 = .ok (.ifCond .eq 19, 3) := by decide +kernel
theorem d_Ke_thread_11 : decode b_Ke_thread 11 = .ok (.aload_n 0, 1) := by decide +kernel
theorem d_Ke_thread_12 : decode b_Ke_thread 12 = .ok (.getfield 23, 3) := by decide +kernel
theorem d_Ke_thread_15 : decode b_Ke_thread 15 = .ok (.iload 4, 2) := by decide +kernel
theorem d_Ke_thread_17 : decode b_Ke_thread 17 = .ok (.invokevirtual 100, 3) := by decide +kernel
theorem d_Ke_thread_20 : decode b_Ke_thread 20 = .ok (.ifCond .eq 7, 3) := by decide +kernel
theorem d_Ke_thread_23 : decode b_Ke_thread 23 = .ok (.iconst 1, 1) := by decide +kernel
theorem d_Ke_thread_24 : decode b_Ke_thread 24 = .ok (.goto 4, 3) := by decide +kernel
theorem d_Ke_thread_27 : decode b_Ke_thread 27 = .ok (.iconst 0, 1) := by decide +kernel
theorem d_Ke_thread_28 : decode b_Ke_thread 28 = .ok (.invokestatic 44, 3) := by decide +kernel
theorem d_Ke_thread_31 : decode b_Ke_thread 31 = .ok (.aload_n 0, 1) := by decide +kernel
theorem d_Ke_thread_32 : decode b_Ke_thread 32 = .ok (.iload_n 1, 1) := by decide +kernel
theorem d_Ke_thread_33 : decode b_Ke_thread 33 = .ok (.iload_n 2, 1) := by decide +kernel
theorem d_Ke_thread_34 : decode b_Ke_thread 34 = .ok (.invokevirtual 103, 3) := by decide +kernel
theorem d_Ke_thread_37 : decode b_Ke_thread 37 = .ok (.aload_n 0, 1) := by decide +kernel
theorem d_Ke_thread_38 : decode b_Ke_thread 38 = .ok (.iload_n 1, 1) := by decide +kernel
theorem d_Ke_thread_39 : decode b_Ke_thread 39 = .ok (.iload_n 2, 1) := by decide +kernel
theorem d_Ke_thread_40 : decode b_Ke_thread 40 = .ok (.iload_n 3, 1) := by decide +kernel
theorem d_Ke_thread_41 : decode b_Ke_thread 41 = .ok (.invokevirtual 106, 3) := by decide +kernel
theorem d_Ke_thread_44 : decode b_Ke_thread 44 = .ok (.aload_n 0, 1) := by decide +kernel
theorem d_Ke_thread_45 : decode b_Ke_thread 45 = .ok (.getfield 23, 3) := by decide +kernel
theorem d_Ke_thread_48 : decode b_Ke_thread 48 = .ok (.iload 4, 2) := by decide +kernel
theorem d_Ke_thread_50 : decode b_Ke_thread 50 = .ok (.aload_n 0, 1) := by decide +kernel
theorem d_Ke_thread_51 : decode b_Ke_thread 51 = .ok (.getfield 28, 3) := by decide +kernel
theorem d_Ke_thread_54 : decode b_Ke_thread 54 = .ok (.iload_n 1, 1) := by decide +kernel
theorem d_Ke_thread_55 : decode b_Ke_thread 55 = .ok (.invokevirtual 90, 3) := by decide +kernel
theorem d_Ke_thread_58 : decode b_Ke_thread 58 = .ok (.invokevirtual 74, 3) := by decide +kernel
theorem d_Ke_thread_61 : decode b_Ke_thread 61 = .ok (.invokestatic 123, 3) := by decide +kernel
theorem d_Ke_thread_64 : decode b_Ke_thread 64 = .ok (.aload_n 0, 1) := by decide +kernel
theorem d_Ke_thread_65 : decode b_Ke_thread 65 = .ok (.getfield 23, 3) := by decide +kernel
theorem d_Ke_thread_68 : decode b_Ke_thread 68 = .ok (.iload_n 3, 1) := by decide +kernel
theorem d_Ke_thread_69 : decode b_Ke_thread 69 = .ok (.iload 4, 2) := by decide +kernel
theorem d_Ke_thread_71 : decode b_Ke_thread 71 = .ok (.invokevirtual 74, 3) := by decide +kernel
theorem d_Ke_thread_74 : decode b_Ke_thread 74 = .ok (.invokestatic 123, 3) := by decide +kernel
theorem d_Ke_thread_77 : decode b_Ke_thread 77 = .ok (.aload_n 0, 1) := by decide +kernel
theorem d_Ke_thread_78 : decode b_Ke_thread 78 = .ok (.iload_n 2, 1) := by decide +kernel
theorem d_Ke_thread_79 : decode b_Ke_thread 79 = .ok (.iconst 2, 1) := by decide +kernel
theorem d_Ke_thread_80 : decode b_Ke_thread 80 = .ok (.invokevirtual 110, 3) := by decide +kernel
theorem d_Ke_thread_83 : decode b_Ke_thread 83 = .ok (.aload_n 0, 1) := by decide +kernel
theorem d_Ke_thread_84 : decode b_Ke_thread 84 = .ok (.getfield 28, 3) := by decide +kernel
theorem d_Ke_thread_87 : decode b_Ke_thread 87 = .ok (.iconst 3, 1) := by decide +kernel
theorem d_Ke_thread_88 : decode b_Ke_thread 88 = .ok (.iload_n 2, 1) := by decide +kernel
theorem d_Ke_thread_89 : decode b_Ke_thread 89 = .ok (.iload_n 3, 1) := by decide +kernel
theorem d_Ke_thread_90 : decode b_Ke_thread 90 = .ok (.iconst 2, 1) := by decide +kernel
theorem d_Ke_thread_91 : decode b_Ke_thread 91 = .ok (.invokevirtual 113, 3) := by decide +kernel
theorem d_Ke_thread_94 : decode b_Ke_thread 94 = .ok (.istore 5, 2) := by decide +kernel
theorem d_Ke_thread_96 : decode b_Ke_thread 96 = .ok (.aload_n 0, 1) := by decide +kernel
theorem d_Ke_thread_97 : decode b_Ke_thread 97 = .ok (.getfield 28, 3) := by decide +kernel
theorem d_Ke_thread_100 : decode b_Ke_thread 100 = .ok (.iload 5, 2) := by decide +kernel
theorem d_Ke_thread_102 : decode b_Ke_thread 102 = .ok (.iload 4, 2) := by decide +kernel
theorem d_Ke_thread_104 : decode b_Ke_thread 104 = .ok (.invokevirtual 97, 3) := by decide +kernel
theorem d_Ke_thread_107 : decode b_Ke_thread 107 = .ok (.iload 5, 2) := by decide +kernel
theorem d_Ke_thread_109 : decode b_Ke_thread 109 = .ok (.ireturn, 1) := by decide +kernel
theorem d_Ke_read_0 : decode b_Ke_read 0 = .ok (.aload_n 0, 1) := by decide +kernel
theorem d_Ke_read_1 : decode b_Ke_read 1 = .ok (.iload_n 1, 1) := by decide +kernel
theorem d_Ke_read_2 : decode b_Ke_read 2 = .ok (.iload_n 2, 1) := by decide +kernel
theorem d_Ke_read_3 : decode b_Ke_read 3 = .ok (.iload_n 3, 1) := by decide +kernel
theorem d_Ke_read_4 : decode b_Ke_read 4 = .ok (.iload 4, 2) := by decide +kernel
theorem d_Ke_read_6 : decode b_Ke_read 6 = .ok (.invokevirtual 126, 3) := by decide +kernel
theorem d_Ke_read_9 : decode b_Ke_read 9 = .ok (.aload_n 0, 1) := by decide +kernel
theorem d_Ke_read_10 : decode b_Ke_read 10 = .ok (.iload_n 1, 1) := by decide +kernel
theorem d_Ke_read_11 : decode b_Ke_read 11 = .ok (.iload_n 2, 1) := by decide +kernel
theorem d_Ke_read_12 : decode b_Ke_read 12 = .ok (.invokevirtual 130, 3) := by decide +kernel
theorem d_Ke_read_15 : decode b_Ke_read 15 = .ok (.ifCond .eq 16, 3) := by decide +kernel
theorem d_Ke_read_18 : decode b_Ke_read 18 = .ok (.aload_n 0, 1) := by decide +kernel
theorem d_Ke_read_19 : decode b_Ke_read 19 = .ok (.iload_n 1, 1) := by decide +kernel
theorem d_Ke_read_20 : decode b_Ke_read 20 = .ok (.iload_n 3, 1) := by decide +kernel
theorem d_Ke_read_21 : decode b_Ke_read 21 = .ok (.invokevirtual 130, 3) := by decide +kernel
theorem d_Ke_read_24 : decode b_Ke_read 24 = .ok (.ifCond .eq 7, 3) := by decide +kernel
theorem d_Ke_read_27 : decode b_Ke_read 27 = .ok (.iconst 1, 1) := by decide +kernel
theorem d_Ke_read_28 : decode b_Ke_read 28 = .ok (.goto 4, 3) := by decide +kernel
theorem d_Ke_read_31 : decode b_Ke_read 31 = .ok (.iconst 0, 1) := by decide +kernel
theorem d_Ke_read_32 : decode b_Ke_read 32 = .ok (.invokestatic 123, 3) := by decide +kernel
theorem d_Ke_read_35 : decode b_Ke_read 35 = .ok (.aload_n 0, 1) := by decide +kernel
theorem d_Ke_read_36 : decode b_Ke_read 36 = .ok (.getfield 28, 3) := by decide +kernel
theorem d_Ke_read_39 : decode b_Ke_read 39 = .ok (.iload_n 3, 1) := by decide +kernel
theorem d_Ke_read_40 : decode b_Ke_read 40 = .ok (.iload 4, 2) := by decide +kernel
theorem d_Ke_read_42 : decode b_Ke_read 42 = .ok (.invokevirtual 133, 3) := by decide +kernel
theorem d_Ke_read_45 : decode b_Ke_read 45 = .ok (.ireturn, 1) := by decide +kernel
theorem d_Ke_write_0 : decode b_Ke_write 0 = .ok (.aload_n 0, 1) := by decide +kernel
theorem d_Ke_write_1 : decode b_Ke_write 1 = .ok (.iload_n 1, 1) := by decide +kernel
theorem d_Ke_write_2 : decode b_Ke_write 2 = .ok (.iload_n 2, 1) := by decide +kernel
theorem d_Ke_write_3 : decode b_Ke_write 3 = .ok (.iload_n 3, 1) := by decide +kernel
theorem d_Ke_write_4 : decode b_Ke_write 4 = .ok (.iload 4, 2) := by decide +kernel
theorem d_Ke_write_6 : decode b_Ke_write 6 = .ok (.invokevirtual 126, 3) := by decide +kernel
theorem d_Ke_write_9 : decode b_Ke_write 9 = .ok (.aload_n 0, 1) := by decide +kernel
theorem d_Ke_write_10 : decode b_Ke_write 10 = .ok (.iload_n 1, 1) := by decide +kernel
theorem d_Ke_write_11 : decode b_Ke_write 11 = .ok (.iload_n 2, 1) := by decide +kernel
theorem d_Ke_write_12 : decode b_Ke_write 12 = .ok (.invokevirtual 130, 3) := by decide +kernel
theorem d_Ke_write_15 : decode b_Ke_write 15 = .ok (.ifCond .eq 16, 3) := by decide +kernel
theorem d_Ke_write_18 : decode b_Ke_write 18 = .ok (.aload_n 0, 1) := by decide +kernel
theorem d_Ke_write_19 : decode b_Ke_write 19 = .ok (.iload_n 1, 1) := by decide +kernel
theorem d_Ke_write_20 : decode b_Ke_write 20 = .ok (.iload_n 3, 1) := by decide +kernel
theorem d_Ke_write_21 : decode b_Ke_write 21 = .ok (.invokevirtual 136, 3) := by decide +kernel
theorem d_Ke_write_24 : decode b_Ke_write 24 = .ok (.ifCond .eq 7, 3) := by decide +kernel
theorem d_Ke_write_27 : decode b_Ke_write 27 = .ok (.iconst 1, 1) := by decide +kernel
theorem d_Ke_write_28 : decode b_Ke_write 28 = .ok (.goto 4, 3) := by decide +kernel
theorem d_Ke_write_31 : decode b_Ke_write 31 = .ok (.iconst 0, 1) := by decide +kernel
theorem d_Ke_write_32 : decode b_Ke_write 32 = .ok (.invokestatic 123, 3) := by decide +kernel
theorem d_Ke_write_35 : decode b_Ke_write 35 = .ok (.aload_n 0, 1) := by decide +kernel
theorem d_Ke_write_36 : decode b_Ke_write 36 = .ok (.getfield 28, 3) := by decide +kernel
theorem d_Ke_write_39 : decode b_Ke_write 39 = .ok (.iload_n 3, 1) := by decide +kernel
theorem d_Ke_write_40 : decode b_Ke_write 40 = .ok (.iload 4, 2) := by decide +kernel
theorem d_Ke_write_42 : decode b_Ke_write 42 = .ok (.invokevirtual 133, 3) := by decide +kernel
theorem d_Ke_write_45 : decode b_Ke_write 45 = .ok (.istore 6, 2) := by decide +kernel
theorem d_Ke_write_47 : decode b_Ke_write 47 = .ok (.aload_n 0, 1) := by decide +kernel
theorem d_Ke_write_48 : decode b_Ke_write 48 = .ok (.getfield 28, 3) := by decide +kernel
theorem d_Ke_write_51 : decode b_Ke_write 51 = .ok (.iload_n 3, 1) := by decide +kernel
theorem d_Ke_write_52 : decode b_Ke_write 52 = .ok (.iload 4, 2) := by decide +kernel
theorem d_Ke_write_54 : decode b_Ke_write 54 = .ok (.iload 5, 2) := by decide +kernel
theorem d_Ke_write_56 : decode b_Ke_write 56 = .ok (.invokevirtual 139, 3) := by decide +kernel
theorem d_Ke_write_59 : decode b_Ke_write 59 = .ok (.iload 6, 2) := by decide +kernel
theorem d_Ke_write_61 : decode b_Ke_write 61 = .ok (.ireturn, 1) := by decide +kernel
theorem d_Ke_move_0 : decode b_Ke_move 0 = .ok (.iload 4, 2) := by decide +kernel
theorem d_Ke_move_2 : decode b_Ke_move 2 = .ok (.sipush (-200), 3) := by decide +kernel
theorem d_Ke_move_5 : decode b_Ke_move 5 = .ok (.sipush 200, 3) := by decide +kernel
theorem d_Ke_move_8 : decode b_Ke_move 8 = .ok (.invokestatic 40, 3) := by decide +kernel
theorem d_Ke_move_11 : decode b_Ke_move 11 = .ok (.invokestatic 44, 3) := by decide +kernel
theorem d_Ke_move_14 : decode b_Ke_move 14 = .ok (.aload_n 0, 1) := by decide +kernel
theorem d_Ke_move_15 : decode b_Ke_move 15 = .ok (.iload_n 1, 1) := by decide +kernel
theorem d_Ke_move_16 : decode b_Ke_move 16 = .ok (.iload_n 2, 1) := by decide +kernel
theorem d_Ke_move_17 : decode b_Ke_move 17 = .ok (.iload_n 3, 1) := by decide +kernel
theorem d_Ke_move_18 : decode b_Ke_move 18 = .ok (.invokevirtual 142, 3) := by decide +kernel
theorem d_Ke_move_21 : decode b_Ke_move 21 = .ok (.aload_n 0, 1) := by decide +kernel
theorem d_Ke_move_22 : decode b_Ke_move 22 = .ok (.iload_n 1, 1) := by decide +kernel
theorem d_Ke_move_23 : decode b_Ke_move 23 = .ok (.iload_n 2, 1) := by decide +kernel
theorem d_Ke_move_24 : decode b_Ke_move 24 = .ok (.invokevirtual 136, 3) := by decide +kernel
theorem d_Ke_move_27 : decode b_Ke_move 27 = .ok (.ifCond .eq 16, 3) := by decide +kernel
theorem d_Ke_move_30 : decode b_Ke_move 30 = .ok (.aload_n 0, 1) := by decide +kernel
theorem d_Ke_move_31 : decode b_Ke_move 31 = .ok (.iload_n 1, 1) := by decide +kernel
theorem d_Ke_move_32 : decode b_Ke_move 32 = .ok (.iload_n 3, 1) := by decide +kernel
theorem d_Ke_move_33 : decode b_Ke_move 33 = .ok (.invokevirtual 136, 3) := by decide +kernel
theorem d_Ke_move_36 : decode b_Ke_move 36 = .ok (.ifCond .eq 7, 3) := by decide +kernel
theorem d_Ke_move_39 : decode b_Ke_move 39 = .ok (.iconst 1, 1) := by decide +kernel
theorem d_Ke_move_40 : decode b_Ke_move 40 = .ok (.goto 4, 3) := by decide +kernel
theorem d_Ke_move_43 : decode b_Ke_move 43 = .ok (.iconst 0, 1) := by decide +kernel
theorem d_Ke_move_44 : decode b_Ke_move 44 = .ok (.invokestatic 123, 3) := by decide +kernel
theorem d_Ke_move_47 : decode b_Ke_move 47 = .ok (.aload_n 0, 1) := by decide +kernel
theorem d_Ke_move_48 : decode b_Ke_move 48 = .ok (.getfield 28, 3) := by decide +kernel
theorem d_Ke_move_51 : decode b_Ke_move 51 = .ok (.iload_n 3, 1) := by decide +kernel
theorem d_Ke_move_52 : decode b_Ke_move 52 = .ok (.invokevirtual 145, 3) := by decide +kernel
theorem d_Ke_move_55 : decode b_Ke_move 55 = .ok (.iload 4, 2) := by decide +kernel
theorem d_Ke_move_57 : decode b_Ke_move 57 = .ok (.iadd, 1) := by decide +kernel
theorem d_Ke_move_58 : decode b_Ke_move 58 = .ok (.istore 5, 2) := by decide +kernel
theorem d_Ke_move_60 : decode b_Ke_move 60 = .ok (.iload 5, 2) := by decide +kernel
theorem d_Ke_move_62 : decode b_Ke_move 62 = .ok (.aload_n 0, 1) := by decide +kernel
theorem d_Ke_move_63 : decode b_Ke_move 63 = .ok (.getfield 28, 3) := by decide +kernel
theorem d_Ke_move_66 : decode b_Ke_move 66 = .ok (.iload_n 3, 1) := by decide +kernel
theorem d_Ke_move_67 : decode b_Ke_move 67 = .ok (.invokevirtual 148, 3) := by decide +kernel
theorem d_Ke_move_70 : decode b_Ke_move 70 = .ok (.if_icmp .lt 29, 3) := by decide +kernel
theorem d_Ke_move_73 : decode b_Ke_move 73 = .ok (.aload_n 0, 1) := by decide +kernel
theorem d_Ke_move_74 : decode b_Ke_move 74 = .ok (.getfield 28, 3) := by decide +kernel
theorem d_Ke_move_77 : decode b_Ke_move 77 = .ok (.iload_n 2, 1) := by decide +kernel
theorem d_Ke_move_78 : decode b_Ke_move 78 = .ok (.invokevirtual 145, 3) := by decide +kernel
theorem d_Ke_move_81 : decode b_Ke_move 81 = .ok (.aload_n 0, 1) := by decide +kernel
theorem d_Ke_move_82 : decode b_Ke_move 82 = .ok (.getfield 28, 3) := by decide +kernel
theorem d_Ke_move_85 : decode b_Ke_move 85 = .ok (.iload_n 2, 1) := by decide +kernel
theorem d_Ke_move_86 : decode b_Ke_move 86 = .ok (.invokevirtual 148, 3) := by decide +kernel
theorem d_Ke_move_89 : decode b_Ke_move 89 = .ok (.iload 4, 2) := by decide +kernel
theorem d_Ke_move_91 : decode b_Ke_move 91 = .ok (.iadd, 1) := by decide +kernel
theorem d_Ke_move_92 : decode b_Ke_move 92 = .ok (.if_icmp .lt 7, 3) := by decide +kernel
theorem d_Ke_move_95 : decode b_Ke_move 95 = .ok (.iconst 1, 1) := by decide +kernel
theorem d_Ke_move_96 : decode b_Ke_move 96 = .ok (.goto 4, 3) := by decide +kernel
theorem d_Ke_move_99 : decode b_Ke_move 99 = .ok (.iconst 0, 1) := by decide +kernel
theorem d_Ke_move_100 : decode b_Ke_move 100 = .ok (.invokestatic 60, 3) := by decide +kernel
theorem d_Ke_move_103 : decode b_Ke_move 103 = .ok (.aload_n 0, 1) := by decide +kernel
theorem d_Ke_move_104 : decode b_Ke_move 104 = .ok (.getfield 28, 3) := by decide +kernel
theorem d_Ke_move_107 : decode b_Ke_move 107 = .ok (.iload_n 3, 1) := by decide +kernel
theorem d_Ke_move_108 : decode b_Ke_move 108 = .ok (.iload 5, 2) := by decide +kernel
theorem d_Ke_move_110 : decode b_Ke_move 110 = .ok (.invokevirtual 151, 3) := by decide +kernel
theorem d_Ke_move_113 : decode b_Ke_move 113 = .ok (.iload 5, 2) := by decide +kernel
theorem d_Ke_move_115 : decode b_Ke_move 115 = .ok (.ireturn, 1) := by decide +kernel
theorem d_Ke_drop_0 : decode b_Ke_drop 0 = .ok (.aload_n 0, 1) := by decide +kernel
theorem d_Ke_drop_1 : decode b_Ke_drop 1 = .ok (.iload_n 1, 1) := by decide +kernel
theorem d_Ke_drop_2 : decode b_Ke_drop 2 = .ok (.iload_n 2, 1) := by decide +kernel
theorem d_Ke_drop_3 : decode b_Ke_drop 3 = .ok (.iload_n 3, 1) := by decide +kernel
theorem d_Ke_drop_4 : decode b_Ke_drop 4 = .ok (.invokevirtual 142, 3) := by decide +kernel
theorem d_Ke_drop_7 : decode b_Ke_drop 7 = .ok (.aload_n 0, 1) := by decide +kernel
theorem d_Ke_drop_8 : decode b_Ke_drop 8 = .ok (.iload_n 1, 1) := by decide +kernel
theorem d_Ke_drop_9 : decode b_Ke_drop 9 = .ok (.iload_n 2, 1) := by decide +kernel
theorem d_Ke_drop_10 : decode b_Ke_drop 10 = .ok (.invokevirtual 136, 3) := by decide +kernel
theorem d_Ke_drop_13 : decode b_Ke_drop 13 = .ok (.invokestatic 123, 3) := by decide +kernel
theorem d_Ke_drop_16 : decode b_Ke_drop 16 = .ok (.aload_n 0, 1) := by decide +kernel
theorem d_Ke_drop_17 : decode b_Ke_drop 17 = .ok (.getfield 28, 3) := by decide +kernel
theorem d_Ke_drop_20 : decode b_Ke_drop 20 = .ok (.iload_n 3, 1) := by decide +kernel
theorem d_Ke_drop_21 : decode b_Ke_drop 21 = .ok (.invokevirtual 154, 3) := by decide +kernel
theorem d_Ke_drop_24 : decode b_Ke_drop 24 = .ok (.ireturn, 1) := by decide +kernel
theorem d_Ke_become_0 : decode b_Ke_become 0 = .ok (.aload_n 0, 1) := by decide +kernel
theorem d_Ke_become_1 : decode b_Ke_become 1 = .ok (.getfield 23, 3) := by decide +kernel
theorem d_Ke_become_4 : decode b_Ke_become 4 = .ok (.iload_n 2, 1) := by decide +kernel
theorem d_Ke_become_5 : decode b_Ke_become 5 = .ok (.invokevirtual 34, 3) := by decide +kernel
theorem d_Ke_become_8 : decode b_Ke_become 8 = .ok (.invokestatic 44, 3) := by decide +kernel
theorem d_Ke_become_11 : decode b_Ke_become 11 = .ok (.aload_n 0, 1) := by decide +kernel
theorem d_Ke_become_12 : decode b_Ke_become 12 = .ok (.iload_n 1, 1) := by decide +kernel
theorem d_Ke_become_13 : decode b_Ke_become 13 = .ok (.invokevirtual 77, 3) := by decide +kernel
theorem d_Ke_become_16 : decode b_Ke_become 16 = .ok (.aload_n 0, 1) := by decide +kernel
theorem d_Ke_become_17 : decode b_Ke_become 17 = .ok (.iload_n 1, 1) := by decide +kernel
theorem d_Ke_become_18 : decode b_Ke_become 18 = .ok (.iload_n 2, 1) := by decide +kernel
theorem d_Ke_become_19 : decode b_Ke_become 19 = .ok (.invokevirtual 157, 3) := by decide +kernel
theorem d_Ke_become_22 : decode b_Ke_become 22 = .ok (.invokestatic 123, 3) := by decide +kernel
theorem d_Ke_become_25 : decode b_Ke_become 25 = .ok (.aload_n 0, 1) := by decide +kernel
theorem d_Ke_become_26 : decode b_Ke_become 26 = .ok (.getfield 28, 3) := by decide +kernel
theorem d_Ke_become_29 : decode b_Ke_become 29 = .ok (.iload_n 1, 1) := by decide +kernel
theorem d_Ke_become_30 : decode b_Ke_become 30 = .ok (.iload_n 2, 1) := by decide +kernel
theorem d_Ke_become_31 : decode b_Ke_become 31 = .ok (.invokevirtual 93, 3) := by decide +kernel
theorem d_Ke_become_34 : decode b_Ke_become 34 = .ok (.iconst 0, 1) := by decide +kernel
theorem d_Ke_become_35 : decode b_Ke_become 35 = .ok (.ireturn, 1) := by decide +kernel
theorem d_Ke_lower_0 : decode b_Ke_lower 0 = .ok (.aload_n 0, 1) := by decide +kernel
theorem d_Ke_lower_1 : decode b_Ke_lower 1 = .ok (.getfield 23, 3) := by decide +kernel
theorem d_Ke_lower_4 : decode b_Ke_lower 4 = .ok (.iload_n 2, 1) := by decide +kernel
theorem d_Ke_lower_5 : decode b_Ke_lower 5 = .ok (.invokevirtual 100, 3) := by decide +kernel
theorem d_Ke_lower_8 : decode b_Ke_lower 8 = .ok (.invokestatic 44, 3) := by decide +kernel
theorem d_Ke_lower_11 : decode b_Ke_lower 11 = .ok (.aload_n 0, 1) := by decide +kernel
theorem d_Ke_lower_12 : decode b_Ke_lower 12 = .ok (.iload_n 1, 1) := by decide +kernel
theorem d_Ke_lower_13 : decode b_Ke_lower 13 = .ok (.invokevirtual 77, 3) := by decide +kernel
theorem d_Ke_lower_16 : decode b_Ke_lower 16 = .ok (.aload_n 0, 1) := by decide +kernel
theorem d_Ke_lower_17 : decode b_Ke_lower 17 = .ok (.getfield 23, 3) := by decide +kernel
theorem d_Ke_lower_20 : decode b_Ke_lower 20 = .ok (.iload_n 2, 1) := by decide +kernel
theorem d_Ke_lower_21 : decode b_Ke_lower 21 = .ok (.aload_n 0, 1) := by decide +kernel
theorem d_Ke_lower_22 : decode b_Ke_lower 22 = .ok (.getfield 28, 3) := by decide +kernel
theorem d_Ke_lower_25 : decode b_Ke_lower 25 = .ok (.iload_n 1, 1) := by decide +kernel
theorem d_Ke_lower_26 : decode b_Ke_lower 26 = .ok (.invokevirtual 90, 3) := by decide +kernel
theorem d_Ke_lower_29 : decode b_Ke_lower 29 = .ok (.invokevirtual 74, 3) := by decide +kernel
theorem d_Ke_lower_32 : decode b_Ke_lower 32 = .ok (.invokestatic 123, 3) := by decide +kernel
theorem d_Ke_lower_35 : decode b_Ke_lower 35 = .ok (.aload_n 0, 1) := by decide +kernel
theorem d_Ke_lower_36 : decode b_Ke_lower 36 = .ok (.getfield 23, 3) := by decide +kernel
theorem d_Ke_lower_39 : decode b_Ke_lower 39 = .ok (.aload_n 0, 1) := by decide +kernel
theorem d_Ke_lower_40 : decode b_Ke_lower 40 = .ok (.getfield 28, 3) := by decide +kernel
theorem d_Ke_lower_43 : decode b_Ke_lower 43 = .ok (.iload_n 1, 1) := by decide +kernel
theorem d_Ke_lower_44 : decode b_Ke_lower 44 = .ok (.invokevirtual 85, 3) := by decide +kernel
theorem d_Ke_lower_47 : decode b_Ke_lower 47 = .ok (.iload_n 2, 1) := by decide +kernel
theorem d_Ke_lower_48 : decode b_Ke_lower 48 = .ok (.invokevirtual 74, 3) := by decide +kernel
theorem d_Ke_lower_51 : decode b_Ke_lower 51 = .ok (.invokestatic 123, 3) := by decide +kernel
theorem d_Ke_lower_54 : decode b_Ke_lower 54 = .ok (.aload_n 0, 1) := by decide +kernel
theorem d_Ke_lower_55 : decode b_Ke_lower 55 = .ok (.getfield 28, 3) := by decide +kernel
theorem d_Ke_lower_58 : decode b_Ke_lower 58 = .ok (.iload_n 1, 1) := by decide +kernel
theorem d_Ke_lower_59 : decode b_Ke_lower 59 = .ok (.iload_n 2, 1) := by decide +kernel
theorem d_Ke_lower_60 : decode b_Ke_lower 60 = .ok (.invokevirtual 97, 3) := by decide +kernel
theorem d_Ke_lower_63 : decode b_Ke_lower 63 = .ok (.iconst 0, 1) := by decide +kernel
theorem d_Ke_lower_64 : decode b_Ke_lower 64 = .ok (.ireturn, 1) := by decide +kernel
theorem d_Ke_enter_0 : decode b_Ke_enter 0 = .ok (.aload_n 0, 1) := by decide +kernel
theorem d_Ke_enter_1 : decode b_Ke_enter 1 = .ok (.getfield 23, 3) := by decide +kernel
theorem d_Ke_enter_4 : decode b_Ke_enter 4 = .ok (.iload 4, 2) := by decide +kernel
theorem d_Ke_enter_6 : decode b_Ke_enter 6 = .ok (.invokevirtual 34, 3) := by decide +kernel
theorem d_Ke_enter_9 : decode b_Ke_enter 9 = .ok (.ifCond .eq 19, 3) := by decide +kernel
theorem d_Ke_enter_12 : decode b_Ke_enter 12 = .ok (.aload_n 0, 1) := by decide +kernel
theorem d_Ke_enter_13 : decode b_Ke_enter 13 = .ok (.getfield 23, 3) := by decide +kernel
theorem d_Ke_enter_16 : decode b_Ke_enter 16 = .ok (.iload 5, 2) := by decide +kernel
theorem d_Ke_enter_18 : decode b_Ke_enter 18 = .ok (.invokevirtual 100, 3) := by decide +kernel
theorem d_Ke_enter_21 : decode b_Ke_enter 21 = .ok (.ifCond .eq 7, 3) := by decide +kernel
theorem d_Ke_enter_24 : decode b_Ke_enter 24 = .ok (.iconst 1, 1) := by decide +kernel
theorem d_Ke_enter_25 : decode b_Ke_enter 25 = .ok (.goto 4, 3) := by decide +kernel
theorem d_Ke_enter_28 : decode b_Ke_enter 28 = .ok (.iconst 0, 1) := by decide +kernel
theorem d_Ke_enter_29 : decode b_Ke_enter 29 = .ok (.invokestatic 44, 3) := by decide +kernel
theorem d_Ke_enter_32 : decode b_Ke_enter 32 = .ok (.aload_n 0, 1) := by decide +kernel
theorem d_Ke_enter_33 : decode b_Ke_enter 33 = .ok (.iload_n 1, 1) := by decide +kernel
theorem d_Ke_enter_34 : decode b_Ke_enter 34 = .ok (.iload_n 2, 1) := by decide +kernel
theorem d_Ke_enter_35 : decode b_Ke_enter 35 = .ok (.iload_n 3, 1) := by decide +kernel
theorem d_Ke_enter_36 : decode b_Ke_enter 36 = .ok (.invokevirtual 160, 3) := by decide +kernel
theorem d_Ke_enter_39 : decode b_Ke_enter 39 = .ok (.aload_n 0, 1) := by decide +kernel
theorem d_Ke_enter_40 : decode b_Ke_enter 40 = .ok (.getfield 28, 3) := by decide +kernel
theorem d_Ke_enter_43 : decode b_Ke_enter 43 = .ok (.iload_n 1, 1) := by decide +kernel
theorem d_Ke_enter_44 : decode b_Ke_enter 44 = .ok (.iconst 3, 1) := by decide +kernel
theorem d_Ke_enter_45 : decode b_Ke_enter 45 = .ok (.invokevirtual 163, 3) := by decide +kernel
theorem d_Ke_enter_48 : decode b_Ke_enter 48 = .ok (.ifCond .eq 31, 3) := by decide +kernel
theorem d_Ke_enter_51 : decode b_Ke_enter 51 = .ok (.aload_n 0, 1) := by decide +kernel
theorem d_Ke_enter_52 : decode b_Ke_enter 52 = .ok (.getfield 28, 3) := by decide +kernel
theorem d_Ke_enter_55 : decode b_Ke_enter 55 = .ok (.iload_n 2, 1) := by decide +kernel
theorem d_Ke_enter_56 : decode b_Ke_enter 56 = .ok (.iconst 0, 1) := by decide +kernel
theorem d_Ke_enter_57 : decode b_Ke_enter 57 = .ok (.invokevirtual 163, 3) := by decide +kernel
theorem d_Ke_enter_60 : decode b_Ke_enter 60 = .ok (.ifCond .eq 19, 3) := by decide +kernel
theorem d_Ke_enter_63 : decode b_Ke_enter 63 = .ok (.aload_n 0, 1) := by decide +kernel
theorem d_Ke_enter_64 : decode b_Ke_enter 64 = .ok (.getfield 28, 3) := by decide +kernel
theorem d_Ke_enter_67 : decode b_Ke_enter 67 = .ok (.iload_n 3, 1) := by decide +kernel
theorem d_Ke_enter_68 : decode b_Ke_enter 68 = .ok (.iconst 2, 1) := by decide +kernel
theorem d_Ke_enter_69 : decode b_Ke_enter 69 = .ok (.invokevirtual 163, 3) := by decide +kernel
theorem d_Ke_enter_72 : decode b_Ke_enter 72 = .ok (.ifCond .eq 7, 3) := by decide +kernel
theorem d_Ke_enter_75 : decode b_Ke_enter 75 = .ok (.iconst 1, 1) := by decide +kernel
theorem d_Ke_enter_76 : decode b_Ke_enter 76 = .ok (.goto 4, 3) := by decide +kernel
theorem d_Ke_enter_79 : decode b_Ke_enter 79 = .ok (.iconst 0, 1) := by decide +kernel
theorem d_Ke_enter_80 : decode b_Ke_enter 80 = .ok (.invokestatic 44, 3) := by decide +kernel
theorem d_Ke_enter_83 : decode b_Ke_enter 83 = .ok (.aload_n 0, 1) := by decide +kernel
theorem d_Ke_enter_84 : decode b_Ke_enter 84 = .ok (.getfield 28, 3) := by decide +kernel
theorem d_Ke_enter_87 : decode b_Ke_enter 87 = .ok (.iload_n 3, 1) := by decide +kernel
theorem d_Ke_enter_88 : decode b_Ke_enter 88 = .ok (.iload_n 2, 1) := by decide +kernel
theorem d_Ke_enter_89 : decode b_Ke_enter 89 = .ok (.invokevirtual 166, 3) := by decide +kernel
theorem d_Ke_enter_92 : decode b_Ke_enter 92 = .ok (.invokestatic 169, 3) := by decide +kernel
theorem d_Ke_enter_95 : decode b_Ke_enter 95 = .ok (.aload_n 0, 1) := by decide +kernel
theorem d_Ke_enter_96 : decode b_Ke_enter 96 = .ok (.iload_n 1, 1) := by decide +kernel
theorem d_Ke_enter_97 : decode b_Ke_enter 97 = .ok (.iload_n 2, 1) := by decide +kernel
theorem d_Ke_enter_98 : decode b_Ke_enter 98 = .ok (.invokevirtual 130, 3) := by decide +kernel
theorem d_Ke_enter_101 : decode b_Ke_enter 101 = .ok (.ifCond .eq 33, 3) := by decide +kernel
theorem d_Ke_enter_104 : decode b_Ke_enter 104 = .ok (.aload_n 0, 1) := by decide +kernel
theorem d_Ke_enter_105 : decode b_Ke_enter 105 = .ok (.getfield 23, 3) := by decide +kernel
theorem d_Ke_enter_108 : decode b_Ke_enter 108 = .ok (.aload_n 0, 1) := by decide +kernel
theorem d_Ke_enter_109 : decode b_Ke_enter 109 = .ok (.getfield 28, 3) := by decide +kernel
theorem d_Ke_enter_112 : decode b_Ke_enter 112 = .ok (.iload_n 1, 1) := by decide +kernel
theorem d_Ke_enter_113 : decode b_Ke_enter 113 = .ok (.invokevirtual 85, 3) := by decide +kernel
theorem d_Ke_enter_116 : decode b_Ke_enter 116 = .ok (.aload_n 0, 1) := by decide +kernel
theorem d_Ke_enter_117 : decode b_Ke_enter 117 = .ok (.getfield 28, 3) := by decide +kernel
theorem d_Ke_enter_120 : decode b_Ke_enter 120 = .ok (.iload_n 3, 1) := by decide +kernel
theorem d_Ke_enter_121 : decode b_Ke_enter 121 = .ok (.invokevirtual 172, 3) := by decide +kernel
theorem d_Ke_enter_124 : decode b_Ke_enter 124 = .ok (.invokevirtual 74, 3) := by decide +kernel
theorem d_Ke_enter_127 : decode b_Ke_enter 127 = .ok (.ifCond .eq 7, 3) := by decide +kernel
theorem d_Ke_enter_130 : decode b_Ke_enter 130 = .ok (.iconst 1, 1) := by decide +kernel
theorem d_Ke_enter_131 : decode b_Ke_enter 131 = .ok (.goto 4, 3) := by decide +kernel
theorem d_Ke_enter_134 : decode b_Ke_enter 134 = .ok (.iconst 0, 1) := by decide +kernel
theorem d_Ke_enter_135 : decode b_Ke_enter 135 = .ok (.invokestatic 123, 3) := by decide +kernel
theorem d_Ke_enter_138 : decode b_Ke_enter 138 = .ok (.aload_n 0, 1) := by decide +kernel
theorem d_Ke_enter_139 : decode b_Ke_enter 139 = .ok (.getfield 23, 3) := by decide +kernel
theorem d_Ke_enter_142 : decode b_Ke_enter 142 = .ok (.iload 4, 2) := by decide +kernel
theorem d_Ke_enter_144 : decode b_Ke_enter 144 = .ok (.aload_n 0, 1) := by decide +kernel
theorem d_Ke_enter_145 : decode b_Ke_enter 145 = .ok (.getfield 28, 3) := by decide +kernel
theorem d_Ke_enter_148 : decode b_Ke_enter 148 = .ok (.iload_n 1, 1) := by decide +kernel
theorem d_Ke_enter_149 : decode b_Ke_enter 149 = .ok (.invokevirtual 85, 3) := by decide +kernel
theorem d_Ke_enter_152 : decode b_Ke_enter 152 = .ok (.aload_n 0, 1) := by decide +kernel
theorem d_Ke_enter_153 : decode b_Ke_enter 153 = .ok (.getfield 28, 3) := by decide +kernel
theorem d_Ke_enter_156 : decode b_Ke_enter 156 = .ok (.iload_n 3, 1) := by decide +kernel
theorem d_Ke_enter_157 : decode b_Ke_enter 157 = .ok (.invokevirtual 85, 3) := by decide +kernel
theorem d_Ke_enter_160 : decode b_Ke_enter 160 = .ok (.invokevirtual 175, 3) := by decide +kernel
theorem d_Ke_enter_163 : decode b_Ke_enter 163 = .ok (.invokestatic 123, 3) := by decide +kernel
theorem d_Ke_enter_166 : decode b_Ke_enter 166 = .ok (.aload_n 0, 1) := by decide +kernel
theorem d_Ke_enter_167 : decode b_Ke_enter 167 = .ok (.getfield 23, 3) := by decide +kernel
theorem d_Ke_enter_170 : decode b_Ke_enter 170 = .ok (.iload 4, 2) := by decide +kernel
theorem d_Ke_enter_172 : decode b_Ke_enter 172 = .ok (.iload 5, 2) := by decide +kernel
theorem d_Ke_enter_174 : decode b_Ke_enter 174 = .ok (.invokevirtual 74, 3) := by decide +kernel
theorem d_Ke_enter_177 : decode b_Ke_enter 177 = .ok (.invokestatic 123, 3) := by decide +kernel
theorem d_Ke_enter_180 : decode b_Ke_enter 180 = .ok (.aload_n 0, 1) := by decide +kernel
theorem d_Ke_enter_181 : decode b_Ke_enter 181 = .ok (.getfield 23, 3) := by decide +kernel
theorem d_Ke_enter_184 : decode b_Ke_enter 184 = .ok (.iload 5, 2) := by decide +kernel
theorem d_Ke_enter_186 : decode b_Ke_enter 186 = .ok (.aload_n 0, 1) := by decide +kernel
theorem d_Ke_enter_187 : decode b_Ke_enter 187 = .ok (.getfield 28, 3) := by decide +kernel
theorem d_Ke_enter_190 : decode b_Ke_enter 190 = .ok (.iload_n 1, 1) := by decide +kernel
theorem d_Ke_enter_191 : decode b_Ke_enter 191 = .ok (.invokevirtual 90, 3) := by decide +kernel
theorem d_Ke_enter_194 : decode b_Ke_enter 194 = .ok (.aload_n 0, 1) := by decide +kernel
theorem d_Ke_enter_195 : decode b_Ke_enter 195 = .ok (.getfield 28, 3) := by decide +kernel
theorem d_Ke_enter_198 : decode b_Ke_enter 198 = .ok (.iload_n 3, 1) := by decide +kernel
theorem d_Ke_enter_199 : decode b_Ke_enter 199 = .ok (.invokevirtual 90, 3) := by decide +kernel
theorem d_Ke_enter_202 : decode b_Ke_enter 202 = .ok (.invokevirtual 178, 3) := by decide +kernel
theorem d_Ke_enter_205 : decode b_Ke_enter 205 = .ok (.invokestatic 123, 3) := by decide +kernel
theorem d_Ke_enter_208 : decode b_Ke_enter 208 = .ok (.aload_n 0, 1) := by decide +kernel
theorem d_Ke_enter_209 : decode b_Ke_enter 209 = .ok (.getfield 28, 3) := by decide +kernel
theorem d_Ke_enter_212 : decode b_Ke_enter 212 = .ok (.iload_n 1, 1) := by decide +kernel
theorem d_Ke_enter_213 : decode b_Ke_enter 213 = .ok (.iload 4, 2) := by decide +kernel
theorem d_Ke_enter_215 : decode b_Ke_enter 215 = .ok (.invokevirtual 93, 3) := by decide +kernel
theorem d_Ke_enter_218 : decode b_Ke_enter 218 = .ok (.aload_n 0, 1) := by decide +kernel
theorem d_Ke_enter_219 : decode b_Ke_enter 219 = .ok (.getfield 28, 3) := by decide +kernel
theorem d_Ke_enter_222 : decode b_Ke_enter 222 = .ok (.iload_n 1, 1) := by decide +kernel
theorem d_Ke_enter_223 : decode b_Ke_enter 223 = .ok (.iload 5, 2) := by decide +kernel
theorem d_Ke_enter_225 : decode b_Ke_enter 225 = .ok (.invokevirtual 97, 3) := by decide +kernel
theorem d_Ke_enter_228 : decode b_Ke_enter 228 = .ok (.aload_n 0, 1) := by decide +kernel
theorem d_Ke_enter_229 : decode b_Ke_enter 229 = .ok (.getfield 28, 3) := by decide +kernel
theorem d_Ke_enter_232 : decode b_Ke_enter 232 = .ok (.iload_n 3, 1) := by decide +kernel
theorem d_Ke_enter_233 : decode b_Ke_enter 233 = .ok (.invokevirtual 181, 3) := by decide +kernel
theorem d_Ke_enter_236 : decode b_Ke_enter 236 = .ok (.ireturn, 1) := by decide +kernel
theorem d_Ke_user_0 : decode b_Ke_user 0 = .ok (.iload_n 2, 1) := by decide +kernel
theorem d_Ke_user_1 : decode b_Ke_user 1 = .ok (.iconst 0, 1) := by decide +kernel
theorem d_Ke_user_2 : decode b_Ke_user 2 = .ok (.iconst 3, 1) := by decide +kernel
theorem d_Ke_user_3 : decode b_Ke_user 3 = .ok (.invokestatic 40, 3) := by decide +kernel
theorem d_Ke_user_6 : decode b_Ke_user 6 = .ok (.ifCond .eq 18, 3) := by decide +kernel
theorem d_Ke_user_9 : decode b_Ke_user 9 = .ok (.aload_n 0, 1) := by decide +kernel
theorem d_Ke_user_10 : decode b_Ke_user 10 = .ok (.getfield 33, 3) := by decide +kernel
theorem d_Ke_user_13 : decode b_Ke_user 13 = .ok (.iload_n 2, 1) := by decide +kernel
theorem d_Ke_user_14 : decode b_Ke_user 14 = .ok (.invokevirtual 184, 3) := by decide +kernel
theorem d_Ke_user_17 : decode b_Ke_user 17 = .ok (.ifCond .ne 7, 3) := by decide +kernel
theorem d_Ke_user_20 : decode b_Ke_user 20 = .ok (.iconst 1, 1) := by decide +kernel
theorem d_Ke_user_21 : decode b_Ke_user 21 = .ok (.goto 4, 3) := by decide +kernel
theorem d_Ke_user_24 : decode b_Ke_user 24 = .ok (.iconst 0, 1) := by decide +kernel
theorem d_Ke_user_25 : decode b_Ke_user 25 = .ok (.invokestatic 44, 3) := by decide +kernel
theorem d_Ke_user_28 : decode b_Ke_user 28 = .ok (.aload_n 0, 1) := by decide +kernel
theorem d_Ke_user_29 : decode b_Ke_user 29 = .ok (.iload_n 1, 1) := by decide +kernel
theorem d_Ke_user_30 : decode b_Ke_user 30 = .ok (.invokevirtual 189, 3) := by decide +kernel
theorem d_Ke_user_33 : decode b_Ke_user 33 = .ok (.istore 4, 2) := by decide +kernel
theorem d_Ke_user_35 : decode b_Ke_user 35 = .ok (.aload_n 0, 1) := by decide +kernel
theorem d_Ke_user_36 : decode b_Ke_user 36 = .ok (.iload_n 1, 1) := by decide +kernel
theorem d_Ke_user_37 : decode b_Ke_user 37 = .ok (.invokevirtual 189, 3) := by decide +kernel
theorem d_Ke_user_40 : decode b_Ke_user 40 = .ok (.istore 5, 2) := by decide +kernel
theorem d_Ke_user_42 : decode b_Ke_user 42 = .ok (.aload_n 0, 1) := by decide +kernel
theorem d_Ke_user_43 : decode b_Ke_user 43 = .ok (.aload_n 0, 1) := by decide +kernel
theorem d_Ke_user_44 : decode b_Ke_user 44 = .ok (.iconst 0, 1) := by decide +kernel
theorem d_Ke_user_45 : decode b_Ke_user 45 = .ok (.iload 4, 2) := by decide +kernel
theorem d_Ke_user_47 : decode b_Ke_user 47 = .ok (.iconst 3, 1) := by decide +kernel
theorem d_Ke_user_48 : decode b_Ke_user 48 = .ok (.invokevirtual 192, 3) := by decide +kernel
theorem d_Ke_user_51 : decode b_Ke_user 51 = .ok (.iload 5, 2) := by decide +kernel
theorem d_Ke_user_53 : decode b_Ke_user 53 = .ok (.iconst 0, 1) := by decide +kernel
theorem d_Ke_user_54 : decode b_Ke_user 54 = .ok (.invokevirtual 192, 3) := by decide +kernel
theorem d_Ke_user_57 : decode b_Ke_user 57 = .ok (.istore 6, 2) := by decide +kernel
theorem d_Ke_user_59 : decode b_Ke_user 59 = .ok (.aload_n 0, 1) := by decide +kernel
theorem d_Ke_user_60 : decode b_Ke_user 60 = .ok (.iload_n 1, 1) := by decide +kernel
theorem d_Ke_user_61 : decode b_Ke_user 61 = .ok (.iconst 1, 1) := by decide +kernel
theorem d_Ke_user_62 : decode b_Ke_user 62 = .ok (.iload 6, 2) := by decide +kernel
theorem d_Ke_user_64 : decode b_Ke_user 64 = .ok (.bipush 40, 2) := by decide +kernel
theorem d_Ke_user_66 : decode b_Ke_user 66 = .ok (.invokevirtual 195, 3) := by decide +kernel
theorem d_Ke_user_69 : decode b_Ke_user 69 = .ok (.istore 7, 2) := by decide +kernel
theorem d_Ke_user_71 : decode b_Ke_user 71 = .ok (.aload_n 0, 1) := by decide +kernel
theorem d_Ke_user_72 : decode b_Ke_user 72 = .ok (.iload_n 1, 1) := by decide +kernel
theorem d_Ke_user_73 : decode b_Ke_user 73 = .ok (.iload 7, 2) := by decide +kernel
theorem d_Ke_user_75 : decode b_Ke_user 75 = .ok (.iload 6, 2) := by decide +kernel
theorem d_Ke_user_77 : decode b_Ke_user 77 = .ok (.iconst 4, 1) := by decide +kernel
theorem d_Ke_user_78 : decode b_Ke_user 78 = .ok (.invokevirtual 198, 3) := by decide +kernel
theorem d_Ke_user_81 : decode b_Ke_user 81 = .ok (.istore 8, 2) := by decide +kernel
theorem d_Ke_user_83 : decode b_Ke_user 83 = .ok (.aload_n 0, 1) := by decide +kernel
theorem d_Ke_user_84 : decode b_Ke_user 84 = .ok (.aload_n 0, 1) := by decide +kernel
theorem d_Ke_user_85 : decode b_Ke_user 85 = .ok (.iconst 0, 1) := by decide +kernel
theorem d_Ke_user_86 : decode b_Ke_user 86 = .ok (.iload 4, 2) := by decide +kernel
theorem d_Ke_user_88 : decode b_Ke_user 88 = .ok (.iconst 4, 1) := by decide +kernel
theorem d_Ke_user_89 : decode b_Ke_user 89 = .ok (.invokevirtual 192, 3) := by decide +kernel
theorem d_Ke_user_92 : decode b_Ke_user 92 = .ok (.iload 5, 2) := by decide +kernel
theorem d_Ke_user_94 : decode b_Ke_user 94 = .ok (.iconst 4, 1) := by decide +kernel
theorem d_Ke_user_95 : decode b_Ke_user 95 = .ok (.invokevirtual 192, 3) := by decide +kernel
theorem d_Ke_user_98 : decode b_Ke_user 98 = .ok (.istore 9, 2) := by decide +kernel
theorem d_Ke_user_100 : decode b_Ke_user 100 = .ok (.aload_n 0, 1) := by decide +kernel
theorem d_Ke_user_101 : decode b_Ke_user 101 = .ok (.iload_n 1, 1) := by decide +kernel
theorem d_Ke_user_102 : decode b_Ke_user 102 = .ok (.iconst 1, 1) := by decide +kernel
theorem d_Ke_user_103 : decode b_Ke_user 103 = .ok (.iload 9, 2) := by decide +kernel
theorem d_Ke_user_105 : decode b_Ke_user 105 = .ok (.iconst 1, 1) := by decide +kernel
theorem d_Ke_user_106 : decode b_Ke_user 106 = .ok (.iload_n 2, 1) := by decide +kernel
theorem d_Ke_user_107 : decode b_Ke_user 107 = .ok (.invokevirtual 201, 3) := by decide +kernel
theorem d_Ke_user_110 : decode b_Ke_user 110 = .ok (.istore 10, 2) := by decide +kernel
theorem d_Ke_user_112 : decode b_Ke_user 112 = .ok (.aload_n 0, 1) := by decide +kernel
theorem d_Ke_user_113 : decode b_Ke_user 113 = .ok (.getfield 33, 3) := by decide +kernel
theorem d_Ke_user_116 : decode b_Ke_user 116 = .ok (.iload_n 2, 1) := by decide +kernel
theorem d_Ke_user_117 : decode b_Ke_user 117 = .ok (.iload 4, 2) := by decide +kernel
theorem d_Ke_user_119 : decode b_Ke_user 119 = .ok (.iload 5, 2) := by decide +kernel
theorem d_Ke_user_121 : decode b_Ke_user 121 = .ok (.invokevirtual 205, 3) := by decide +kernel
theorem d_Ke_user_124 : decode b_Ke_user 124 = .ok (.aload_n 0, 1) := by decide +kernel
theorem d_Ke_user_125 : decode b_Ke_user 125 = .ok (.getfield 33, 3) := by decide +kernel
theorem d_Ke_user_128 : decode b_Ke_user 128 = .ok (.iload_n 2, 1) := by decide +kernel
theorem d_Ke_user_129 : decode b_Ke_user 129 = .ok (.iload 7, 2) := by decide +kernel
theorem d_Ke_user_131 : decode b_Ke_user 131 = .ok (.iload 8, 2) := by decide +kernel
theorem d_Ke_user_133 : decode b_Ke_user 133 = .ok (.iload 10, 2) := by decide +kernel
theorem d_Ke_user_135 : decode b_Ke_user 135 = .ok (.invokevirtual 208, 3) := by decide +kernel
theorem d_Ke_user_138 : decode b_Ke_user 138 = .ok (.aload_n 0, 1) := by decide +kernel
theorem d_Ke_user_139 : decode b_Ke_user 139 = .ok (.getfield 33, 3) := by decide +kernel
theorem d_Ke_user_142 : decode b_Ke_user 142 = .ok (.iload_n 2, 1) := by decide +kernel
theorem d_Ke_user_143 : decode b_Ke_user 143 = .ok (.iload_n 3, 1) := by decide +kernel
theorem d_Ke_user_144 : decode b_Ke_user 144 = .ok (.invokevirtual 211, 3) := by decide +kernel
theorem d_Ke_user_147 : decode b_Ke_user 147 = .ok (.iload 7, 2) := by decide +kernel
theorem d_Ke_user_149 : decode b_Ke_user 149 = .ok (.ireturn, 1) := by decide +kernel
theorem d_Ke_login_0 : decode b_Ke_login 0 = .ok (.iload_n 2, 1) := by decide +kernel
theorem d_Ke_login_1 : decode b_Ke_login 1 = .ok (.iconst 0, 1) := by decide +kernel
theorem d_Ke_login_2 : decode b_Ke_login 2 = .ok (.iconst 3, 1) := by decide +kernel
theorem d_Ke_login_3 : decode b_Ke_login 3 = .ok (.invokestatic 40, 3) := by decide +kernel
theorem d_Ke_login_6 : decode b_Ke_login 6 = .ok (.invokestatic 44, 3) := by decide +kernel
theorem d_Ke_login_9 : decode b_Ke_login 9 = .ok (.aload_n 0, 1) := by decide +kernel
theorem d_Ke_login_10 : decode b_Ke_login 10 = .ok (.getfield 33, 3) := by decide +kernel
theorem d_Ke_login_13 : decode b_Ke_login 13 = .ok (.iload_n 2, 1) := by decide +kernel
theorem d_Ke_login_14 : decode b_Ke_login 14 = .ok (.invokevirtual 184, 3) := by decide +kernel
theorem d_Ke_login_17 : decode b_Ke_login 17 = .ok (.invokestatic 169, 3) := by decide +kernel
theorem d_Ke_login_20 : decode b_Ke_login 20 = .ok (.aload_n 0, 1) := by decide +kernel
theorem d_Ke_login_21 : decode b_Ke_login 21 = .ok (.getfield 33, 3) := by decide +kernel
theorem d_Ke_login_24 : decode b_Ke_login 24 = .ok (.iload_n 2, 1) := by decide +kernel
theorem d_Ke_login_25 : decode b_Ke_login 25 = .ok (.invokevirtual 213, 3) := by decide +kernel
theorem d_Ke_login_28 : decode b_Ke_login 28 = .ok (.iload_n 3, 1) := by decide +kernel
theorem d_Ke_login_29 : decode b_Ke_login 29 = .ok (.if_icmp .ne 7, 3) := by decide +kernel
theorem d_Ke_login_32 : decode b_Ke_login 32 = .ok (.iconst 1, 1) := by decide +kernel
theorem d_Ke_login_33 : decode b_Ke_login 33 = .ok (.goto 4, 3) := by decide +kernel
theorem d_Ke_login_36 : decode b_Ke_login 36 = .ok (.iconst 0, 1) := by decide +kernel
theorem d_Ke_login_37 : decode b_Ke_login 37 = .ok (.invokestatic 123, 3) := by decide +kernel
theorem d_Ke_login_40 : decode b_Ke_login 40 = .ok (.aload_n 0, 1) := by decide +kernel
theorem d_Ke_login_41 : decode b_Ke_login 41 = .ok (.iload_n 1, 1) := by decide +kernel
theorem d_Ke_login_42 : decode b_Ke_login 42 = .ok (.invokevirtual 77, 3) := by decide +kernel
theorem d_Ke_login_45 : decode b_Ke_login 45 = .ok (.aload_n 0, 1) := by decide +kernel
theorem d_Ke_login_46 : decode b_Ke_login 46 = .ok (.getfield 33, 3) := by decide +kernel
theorem d_Ke_login_49 : decode b_Ke_login 49 = .ok (.iload_n 2, 1) := by decide +kernel
theorem d_Ke_login_50 : decode b_Ke_login 50 = .ok (.invokevirtual 216, 3) := by decide +kernel
theorem d_Ke_login_53 : decode b_Ke_login 53 = .ok (.istore 4, 2) := by decide +kernel
theorem d_Ke_login_55 : decode b_Ke_login 55 = .ok (.aload_n 0, 1) := by decide +kernel
theorem d_Ke_login_56 : decode b_Ke_login 56 = .ok (.getfield 33, 3) := by decide +kernel
theorem d_Ke_login_59 : decode b_Ke_login 59 = .ok (.iload_n 2, 1) := by decide +kernel
theorem d_Ke_login_60 : decode b_Ke_login 60 = .ok (.invokevirtual 219, 3) := by decide +kernel
theorem d_Ke_login_63 : decode b_Ke_login 63 = .ok (.istore 5, 2) := by decide +kernel
theorem d_Ke_login_65 : decode b_Ke_login 65 = .ok (.aload_n 0, 1) := by decide +kernel
theorem d_Ke_login_66 : decode b_Ke_login 66 = .ok (.aload_n 0, 1) := by decide +kernel
theorem d_Ke_login_67 : decode b_Ke_login 67 = .ok (.aload_n 0, 1) := by decide +kernel
theorem d_Ke_login_68 : decode b_Ke_login 68 = .ok (.getfield 28, 3) := by decide +kernel
theorem d_Ke_login_71 : decode b_Ke_login 71 = .ok (.iload_n 1, 1) := by decide +kernel
theorem d_Ke_login_72 : decode b_Ke_login 72 = .ok (.invokevirtual 85, 3) := by decide +kernel
theorem d_Ke_login_75 : decode b_Ke_login 75 = .ok (.iload 4, 2) := by decide +kernel
theorem d_Ke_login_77 : decode b_Ke_login 77 = .ok (.iconst 4, 1) := by decide +kernel
theorem d_Ke_login_78 : decode b_Ke_login 78 = .ok (.invokevirtual 192, 3) := by decide +kernel
theorem d_Ke_login_81 : decode b_Ke_login 81 = .ok (.iload 5, 2) := by decide +kernel
theorem d_Ke_login_83 : decode b_Ke_login 83 = .ok (.iconst 4, 1) := by decide +kernel
theorem d_Ke_login_84 : decode b_Ke_login 84 = .ok (.invokevirtual 192, 3) := by decide +kernel
theorem d_Ke_login_87 : decode b_Ke_login 87 = .ok (.istore 6, 2) := by decide +kernel
theorem d_Ke_login_89 : decode b_Ke_login 89 = .ok (.aload_n 0, 1) := by decide +kernel
theorem d_Ke_login_90 : decode b_Ke_login 90 = .ok (.aload_n 0, 1) := by decide +kernel
theorem d_Ke_login_91 : decode b_Ke_login 91 = .ok (.aload_n 0, 1) := by decide +kernel
theorem d_Ke_login_92 : decode b_Ke_login 92 = .ok (.getfield 28, 3) := by decide +kernel
theorem d_Ke_login_95 : decode b_Ke_login 95 = .ok (.iload_n 1, 1) := by decide +kernel
theorem d_Ke_login_96 : decode b_Ke_login 96 = .ok (.invokevirtual 90, 3) := by decide +kernel
theorem d_Ke_login_99 : decode b_Ke_login 99 = .ok (.iload 4, 2) := by decide +kernel
theorem d_Ke_login_101 : decode b_Ke_login 101 = .ok (.iconst 3, 1) := by decide +kernel
theorem d_Ke_login_102 : decode b_Ke_login 102 = .ok (.invokevirtual 192, 3) := by decide +kernel
theorem d_Ke_login_105 : decode b_Ke_login 105 = .ok (.iload 5, 2) := by decide +kernel
theorem d_Ke_login_107 : decode b_Ke_login 107 = .ok (.iconst 3, 1) := by decide +kernel
theorem d_Ke_login_108 : decode b_Ke_login 108 = .ok (.invokevirtual 192, 3) := by decide +kernel
theorem d_Ke_login_111 : decode b_Ke_login 111 = .ok (.istore 7, 2) := by decide +kernel
theorem d_Ke_login_113 : decode b_Ke_login 113 = .ok (.aload_n 0, 1) := by decide +kernel
theorem d_Ke_login_114 : decode b_Ke_login 114 = .ok (.iload_n 1, 1) := by decide +kernel
theorem d_Ke_login_115 : decode b_Ke_login 115 = .ok (.iconst 1, 1) := by decide +kernel
theorem d_Ke_login_116 : decode b_Ke_login 116 = .ok (.aload_n 0, 1) := by decide +kernel
theorem d_Ke_login_117 : decode b_Ke_login 117 = .ok (.getfield 33, 3) := by decide +kernel
theorem d_Ke_login_120 : decode b_Ke_login 120 = .ok (.iload_n 2, 1) := by decide +kernel
theorem d_Ke_login_121 : decode b_Ke_login 121 = .ok (.invokevirtual 222, 3) := by decide +kernel
theorem d_Ke_login_124 : decode b_Ke_login 124 = .ok (.iload 6, 2) := by decide +kernel
theorem d_Ke_login_126 : decode b_Ke_login 126 = .ok (.iload 7, 2) := by decide +kernel
theorem d_Ke_login_128 : decode b_Ke_login 128 = .ok (.invokevirtual 225, 3) := by decide +kernel
theorem d_Ke_login_131 : decode b_Ke_login 131 = .ok (.ireturn, 1) := by decide +kernel
theorem d_Ke_file_0 : decode b_Ke_file 0 = .ok (.iload_n 2, 1) := by decide +kernel
theorem d_Ke_file_1 : decode b_Ke_file 1 = .ok (.iconst 0, 1) := by decide +kernel
theorem d_Ke_file_2 : decode b_Ke_file 2 = .ok (.iconst 3, 1) := by decide +kernel
theorem d_Ke_file_3 : decode b_Ke_file 3 = .ok (.invokestatic 40, 3) := by decide +kernel
theorem d_Ke_file_6 : decode b_Ke_file 6 = .ok (.ifCond .eq 27, 3) := by decide +kernel
theorem d_Ke_file_9 : decode b_Ke_file 9 = .ok (.iload_n 3, 1) := by decide +kernel
theorem d_Ke_file_10 : decode b_Ke_file 10 = .ok (.iconst 0, 1) := by decide +kernel
theorem d_Ke_file_11 : decode b_Ke_file 11 = .ok (.iconst 3, 1) := by decide +kernel
theorem d_Ke_file_12 : decode b_Ke_file 12 = .ok (.invokestatic 40, 3) := by decide +kernel
theorem d_Ke_file_15 : decode b_Ke_file 15 = .ok (.ifCond .eq 18, 3) := by decide +kernel
theorem d_Ke_file_18 : decode b_Ke_file 18 = .ok (.iload 4, 2) := by decide +kernel
theorem d_Ke_file_20 : decode b_Ke_file 20 = .ok (.iconst 1, 1) := by decide +kernel
theorem d_Ke_file_21 : decode b_Ke_file 21 = .ok (.bipush 8, 2) := by decide +kernel
theorem d_Ke_file_23 : decode b_Ke_file 23 = .ok (.invokestatic 40, 3) := by decide +kernel
theorem d_Ke_file_26 : decode b_Ke_file 26 = .ok (.ifCond .eq 7, 3) := by decide +kernel
theorem d_Ke_file_29 : decode b_Ke_file 29 = .ok (.iconst 1, 1) := by decide +kernel
theorem d_Ke_file_30 : decode b_Ke_file 30 = .ok (.goto 4, 3) := by decide +kernel
theorem d_Ke_file_33 : decode b_Ke_file 33 = .ok (.iconst 0, 1) := by decide +kernel
theorem d_Ke_file_34 : decode b_Ke_file 34 = .ok (.invokestatic 44, 3) := by decide +kernel
theorem d_Ke_file_37 : decode b_Ke_file 37 = .ok (.aload_n 0, 1) := by decide +kernel
theorem d_Ke_file_38 : decode b_Ke_file 38 = .ok (.getfield 33, 3) := by decide +kernel
theorem d_Ke_file_41 : decode b_Ke_file 41 = .ok (.iload_n 2, 1) := by decide +kernel
theorem d_Ke_file_42 : decode b_Ke_file 42 = .ok (.invokevirtual 184, 3) := by decide +kernel
theorem d_Ke_file_45 : decode b_Ke_file 45 = .ok (.invokestatic 169, 3) := by decide +kernel
theorem d_Ke_file_48 : decode b_Ke_file 48 = .ok (.aload_n 0, 1) := by decide +kernel
theorem d_Ke_file_49 : decode b_Ke_file 49 = .ok (.getfield 33, 3) := by decide +kernel
theorem d_Ke_file_52 : decode b_Ke_file 52 = .ok (.iload_n 2, 1) := by decide +kernel
theorem d_Ke_file_53 : decode b_Ke_file 53 = .ok (.invokevirtual 228, 3) := by decide +kernel
theorem d_Ke_file_56 : decode b_Ke_file 56 = .ok (.istore 5, 2) := by decide +kernel
theorem d_Ke_file_58 : decode b_Ke_file 58 = .ok (.aload_n 0, 1) := by decide +kernel
theorem d_Ke_file_59 : decode b_Ke_file 59 = .ok (.getfield 33, 3) := by decide +kernel
theorem d_Ke_file_62 : decode b_Ke_file 62 = .ok (.iload_n 2, 1) := by decide +kernel
theorem d_Ke_file_63 : decode b_Ke_file 63 = .ok (.invokevirtual 231, 3) := by decide +kernel
theorem d_Ke_file_66 : decode b_Ke_file 66 = .ok (.istore 6, 2) := by decide +kernel
theorem d_Ke_file_68 : decode b_Ke_file 68 = .ok (.aload_n 0, 1) := by decide +kernel
theorem d_Ke_file_69 : decode b_Ke_file 69 = .ok (.iload_n 1, 1) := by decide +kernel
theorem d_Ke_file_70 : decode b_Ke_file 70 = .ok (.iload 5, 2) := by decide +kernel
theorem d_Ke_file_72 : decode b_Ke_file 72 = .ok (.iload 6, 2) := by decide +kernel
theorem d_Ke_file_74 : decode b_Ke_file 74 = .ok (.iload_n 3, 1) := by decide +kernel
theorem d_Ke_file_75 : decode b_Ke_file 75 = .ok (.invokevirtual 234, 3) := by decide +kernel
theorem d_Ke_file_78 : decode b_Ke_file 78 = .ok (.istore 7, 2) := by decide +kernel
theorem d_Ke_file_80 : decode b_Ke_file 80 = .ok (.iload 7, 2) := by decide +kernel
theorem d_Ke_file_82 : decode b_Ke_file 82 = .ok (.ifCond .eq 13, 3) := by decide +kernel
theorem d_Ke_file_85 : decode b_Ke_file 85 = .ok (.aload_n 0, 1) := by decide +kernel
theorem d_Ke_file_86 : decode b_Ke_file 86 = .ok (.iload_n 1, 1) := by decide +kernel
theorem d_Ke_file_87 : decode b_Ke_file 87 = .ok (.iload 5, 2) := by decide +kernel
theorem d_Ke_file_89 : decode b_Ke_file 89 = .ok (.iload 7, 2) := by decide +kernel
theorem d_Ke_file_91 : decode b_Ke_file 91 = .ok (.invokevirtual 237, 3) := by decide +kernel
theorem d_Ke_file_94 : decode b_Ke_file 94 = .ok (.pop, 1) := by decide +kernel
theorem d_Ke_file_95 : decode b_Ke_file 95 = .ok (.aload_n 0, 1) := by decide +kernel
theorem d_Ke_file_96 : decode b_Ke_file 96 = .ok (.iload_n 1, 1) := by decide +kernel
theorem d_Ke_file_97 : decode b_Ke_file 97 = .ok (.iload 5, 2) := by decide +kernel
theorem d_Ke_file_99 : decode b_Ke_file 99 = .ok (.aload_n 0, 1) := by decide +kernel
theorem d_Ke_file_100 : decode b_Ke_file 100 = .ok (.getfield 28, 3) := by decide +kernel
theorem d_Ke_file_103 : decode b_Ke_file 103 = .ok (.iload 5, 2) := by decide +kernel
theorem d_Ke_file_105 : decode b_Ke_file 105 = .ok (.invokevirtual 85, 3) := by decide +kernel
theorem d_Ke_file_108 : decode b_Ke_file 108 = .ok (.iload 4, 2) := by decide +kernel
theorem d_Ke_file_110 : decode b_Ke_file 110 = .ok (.invokevirtual 198, 3) := by decide +kernel
theorem d_Ke_file_113 : decode b_Ke_file 113 = .ok (.istore 8, 2) := by decide +kernel
theorem d_Ke_file_115 : decode b_Ke_file 115 = .ok (.aload_n 0, 1) := by decide +kernel
theorem d_Ke_file_116 : decode b_Ke_file 116 = .ok (.iload_n 1, 1) := by decide +kernel
theorem d_Ke_file_117 : decode b_Ke_file 117 = .ok (.iload 5, 2) := by decide +kernel
theorem d_Ke_file_119 : decode b_Ke_file 119 = .ok (.iload 6, 2) := by decide +kernel
theorem d_Ke_file_121 : decode b_Ke_file 121 = .ok (.iload_n 3, 1) := by decide +kernel
theorem d_Ke_file_122 : decode b_Ke_file 122 = .ok (.iload 8, 2) := by decide +kernel
theorem d_Ke_file_124 : decode b_Ke_file 124 = .ok (.invokevirtual 240, 3) := by decide +kernel
theorem d_Ke_file_127 : decode b_Ke_file 127 = .ok (.pop, 1) := by decide +kernel
theorem d_Ke_file_128 : decode b_Ke_file 128 = .ok (.iload 8, 2) := by decide +kernel
theorem d_Ke_file_130 : decode b_Ke_file 130 = .ok (.ireturn, 1) := by decide +kernel
theorem d_Ke_access_0 : decode b_Ke_access 0 = .ok (.iload_n 2, 1) := by decide +kernel
theorem d_Ke_access_1 : decode b_Ke_access 1 = .ok (.iconst 0, 1) := by decide +kernel
theorem d_Ke_access_2 : decode b_Ke_access 2 = .ok (.iconst 3, 1) := by decide +kernel
theorem d_Ke_access_3 : decode b_Ke_access 3 = .ok (.invokestatic 40, 3) := by decide +kernel
theorem d_Ke_access_6 : decode b_Ke_access 6 = .ok (.ifCond .eq 16, 3) := by decide +kernel
theorem d_Ke_access_9 : decode b_Ke_access 9 = .ok (.iload_n 3, 1) := by decide +kernel
theorem d_Ke_access_10 : decode b_Ke_access 10 = .ok (.iconst 0, 1) := by decide +kernel
theorem d_Ke_access_11 : decode b_Ke_access 11 = .ok (.iconst 3, 1) := by decide +kernel
theorem d_Ke_access_12 : decode b_Ke_access 12 = .ok (.invokestatic 40, 3) := by decide +kernel
theorem d_Ke_access_15 : decode b_Ke_access 15 = .ok (.ifCond .eq 7, 3) := by decide +kernel
theorem d_Ke_access_18 : decode b_Ke_access 18 = .ok (.iconst 1, 1) := by decide +kernel
theorem d_Ke_access_19 : decode b_Ke_access 19 = .ok (.goto 4, 3) := by decide +kernel
theorem d_Ke_access_22 : decode b_Ke_access 22 = .ok (.iconst 0, 1) := by decide +kernel
theorem d_Ke_access_23 : decode b_Ke_access 23 = .ok (.invokestatic 44, 3) := by decide +kernel
theorem d_Ke_access_26 : decode b_Ke_access 26 = .ok (.aload_n 0, 1) := by decide +kernel
theorem d_Ke_access_27 : decode b_Ke_access 27 = .ok (.getfield 33, 3) := by decide +kernel
theorem d_Ke_access_30 : decode b_Ke_access 30 = .ok (.iload_n 2, 1) := by decide +kernel
theorem d_Ke_access_31 : decode b_Ke_access 31 = .ok (.invokevirtual 184, 3) := by decide +kernel
theorem d_Ke_access_34 : decode b_Ke_access 34 = .ok (.invokestatic 169, 3) := by decide +kernel
theorem d_Ke_access_37 : decode b_Ke_access 37 = .ok (.aload_n 0, 1) := by decide +kernel
theorem d_Ke_access_38 : decode b_Ke_access 38 = .ok (.getfield 33, 3) := by decide +kernel
theorem d_Ke_access_41 : decode b_Ke_access 41 = .ok (.iload_n 2, 1) := by decide +kernel
theorem d_Ke_access_42 : decode b_Ke_access 42 = .ok (.invokevirtual 228, 3) := by decide +kernel
theorem d_Ke_access_45 : decode b_Ke_access 45 = .ok (.istore 7, 2) := by decide +kernel
theorem d_Ke_access_47 : decode b_Ke_access 47 = .ok (.aload_n 0, 1) := by decide +kernel
theorem d_Ke_access_48 : decode b_Ke_access 48 = .ok (.iload_n 1, 1) := by decide +kernel
theorem d_Ke_access_49 : decode b_Ke_access 49 = .ok (.iload 7, 2) := by decide +kernel
theorem d_Ke_access_51 : decode b_Ke_access 51 = .ok (.aload_n 0, 1) := by decide +kernel
theorem d_Ke_access_52 : decode b_Ke_access 52 = .ok (.getfield 33, 3) := by decide +kernel
theorem d_Ke_access_55 : decode b_Ke_access 55 = .ok (.iload_n 2, 1) := by decide +kernel
theorem d_Ke_access_56 : decode b_Ke_access 56 = .ok (.invokevirtual 231, 3) := by decide +kernel
theorem d_Ke_access_59 : decode b_Ke_access 59 = .ok (.iload_n 3, 1) := by decide +kernel
theorem d_Ke_access_60 : decode b_Ke_access 60 = .ok (.invokevirtual 234, 3) := by decide +kernel
theorem d_Ke_access_63 : decode b_Ke_access 63 = .ok (.istore 8, 2) := by decide +kernel
theorem d_Ke_access_65 : decode b_Ke_access 65 = .ok (.iload 8, 2) := by decide +kernel
theorem d_Ke_access_67 : decode b_Ke_access 67 = .ok (.ifCond .eq 7, 3) := by decide +kernel
theorem d_Ke_access_70 : decode b_Ke_access 70 = .ok (.iconst 1, 1) := by decide +kernel
theorem d_Ke_access_71 : decode b_Ke_access 71 = .ok (.goto 4, 3) := by decide +kernel
theorem d_Ke_access_74 : decode b_Ke_access 74 = .ok (.iconst 0, 1) := by decide +kernel
theorem d_Ke_access_75 : decode b_Ke_access 75 = .ok (.invokestatic 169, 3) := by decide +kernel
theorem d_Ke_access_78 : decode b_Ke_access 78 = .ok (.iload 5, 2) := by decide +kernel
theorem d_Ke_access_80 : decode b_Ke_access 80 = .ok (.ifCond .eq 19, 3) := by decide +kernel
theorem d_Ke_access_83 : decode b_Ke_access 83 = .ok (.aload_n 0, 1) := by decide +kernel
theorem d_Ke_access_84 : decode b_Ke_access 84 = .ok (.iload_n 1, 1) := by decide +kernel
theorem d_Ke_access_85 : decode b_Ke_access 85 = .ok (.iload 7, 2) := by decide +kernel
theorem d_Ke_access_87 : decode b_Ke_access 87 = .ok (.iload 8, 2) := by decide +kernel
theorem d_Ke_access_89 : decode b_Ke_access 89 = .ok (.iload 4, 2) := by decide +kernel
theorem d_Ke_access_91 : decode b_Ke_access 91 = .ok (.iload 6, 2) := by decide +kernel
theorem d_Ke_access_93 : decode b_Ke_access 93 = .ok (.invokevirtual 240, 3) := by decide +kernel
theorem d_Ke_access_96 : decode b_Ke_access 96 = .ok (.goto 14, 3) := by decide +kernel
theorem d_Ke_access_99 : decode b_Ke_access 99 = .ok (.aload_n 0, 1) := by decide +kernel
theorem d_Ke_access_100 : decode b_Ke_access 100 = .ok (.iload_n 1, 1) := by decide +kernel
theorem d_Ke_access_101 : decode b_Ke_access 101 = .ok (.iload 7, 2) := by decide +kernel
theorem d_Ke_access_103 : decode b_Ke_access 103 = .ok (.iload 8, 2) := by decide +kernel
theorem d_Ke_access_105 : decode b_Ke_access 105 = .ok (.iload 4, 2) := by decide +kernel
theorem d_Ke_access_107 : decode b_Ke_access 107 = .ok (.invokevirtual 234, 3) := by decide +kernel
theorem d_Ke_access_110 : decode b_Ke_access 110 = .ok (.ireturn, 1) := by decide +kernel
theorem d_Ke_snapshot_0 : decode b_Ke_snapshot 0 = .ok (.aload_n 0, 1) := by decide +kernel
theorem d_Ke_snapshot_1 : decode b_Ke_snapshot 1 = .ok (.getfield 16, 3) := by decide +kernel
theorem d_Ke_snapshot_4 : decode b_Ke_snapshot 4 = .ok (.aload_n 0, 1) := by decide +kernel
theorem d_Ke_snapshot_5 : decode b_Ke_snapshot 5 = .ok (.getfield 10, 3) := by decide +kernel
theorem d_Ke_snapshot_8 : decode b_Ke_snapshot 8 = .ok (.invokevirtual 243, 3) := by decide +kernel
theorem d_Ke_snapshot_11 : decode b_Ke_snapshot 11 = .ok (.aload_n 0, 1) := by decide +kernel
theorem d_Ke_snapshot_12 : decode b_Ke_snapshot 12 = .ok (.getfield 28, 3) := by decide +kernel
theorem d_Ke_snapshot_15 : decode b_Ke_snapshot 15 = .ok (.invokevirtual 247, 3) := by decide +kernel
theorem d_Ke_snapshot_18 : decode b_Ke_snapshot 18 = .ok (.ireturn, 1) := by decide +kernel
theorem d_Ke_crash_0 : decode b_Ke_crash 0 = .ok (.aload_n 0, 1) := by decide +kernel
theorem d_Ke_crash_1 : decode b_Ke_crash 1 = .ok (.getfield 10, 3) := by decide +kernel
theorem d_Ke_crash_4 : decode b_Ke_crash 4 = .ok (.aload_n 0, 1) := by decide +kernel
theorem d_Ke_crash_5 : decode b_Ke_crash 5 = .ok (.getfield 16, 3) := by decide +kernel
theorem d_Ke_crash_8 : decode b_Ke_crash 8 = .ok (.invokevirtual 243, 3) := by decide +kernel
theorem d_Ke_crash_11 : decode b_Ke_crash 11 = .ok (.aload_n 0, 1) := by decide +kernel
theorem d_Ke_crash_12 : decode b_Ke_crash 12 = .ok (.getfield 28, 3) := by decide +kernel
theorem d_Ke_crash_15 : decode b_Ke_crash 15 = .ok (.invokevirtual 247, 3) := by decide +kernel
theorem d_Ke_crash_18 : decode b_Ke_crash 18 = .ok (.ireturn, 1) := by decide +kernel
theorem d_Ke_object_0 : decode b_Ke_object 0 = .ok (.iload_n 2, 1) := by decide +kernel
theorem d_Ke_object_1 : decode b_Ke_object 1 = .ok (.iconst 0, 1) := by decide +kernel
theorem d_Ke_object_2 : decode b_Ke_object 2 = .ok (.bipush 6, 2) := by decide +kernel
theorem d_Ke_object_4 : decode b_Ke_object 4 = .ok (.invokestatic 40, 3) := by decide +kernel
theorem d_Ke_object_7 : decode b_Ke_object 7 = .ok (.invokestatic 44, 3) := by decide +kernel
theorem d_Ke_object_10 : decode b_Ke_object 10 = .ok (.aload_n 0, 1) := by decide +kernel
theorem d_Ke_object_11 : decode b_Ke_object 11 = .ok (.getfield 28, 3) := by decide +kernel
theorem d_Ke_object_14 : decode b_Ke_object 14 = .ok (.iload_n 1, 1) := by decide +kernel
theorem d_Ke_object_15 : decode b_Ke_object 15 = .ok (.invokevirtual 250, 3) := by decide +kernel
theorem d_Ke_object_18 : decode b_Ke_object 18 = .ok (.invokestatic 169, 3) := by decide +kernel
theorem d_Ke_object_21 : decode b_Ke_object 21 = .ok (.iload_n 2, 1) := by decide +kernel
theorem d_Ke_object_22 : decode b_Ke_object 22 = .ok (.tableswitch 92 0 5 #[38, 47, 56, 65, 74, 83], 38) := by decide +kernel
theorem d_Ke_object_60 : decode b_Ke_object 60 = .ok (.aload_n 0, 1) := by decide +kernel
theorem d_Ke_object_61 : decode b_Ke_object 61 = .ok (.getfield 28, 3) := by decide +kernel
theorem d_Ke_object_64 : decode b_Ke_object 64 = .ok (.iload_n 1, 1) := by decide +kernel
theorem d_Ke_object_65 : decode b_Ke_object 65 = .ok (.invokevirtual 251, 3) := by decide +kernel
theorem d_Ke_object_68 : decode b_Ke_object 68 = .ok (.ireturn, 1) := by decide +kernel
theorem d_Ke_object_69 : decode b_Ke_object 69 = .ok (.aload_n 0, 1) := by decide +kernel
theorem d_Ke_object_70 : decode b_Ke_object 70 = .ok (.getfield 28, 3) := by decide +kernel
theorem d_Ke_object_73 : decode b_Ke_object 73 = .ok (.iload_n 1, 1) := by decide +kernel
theorem d_Ke_object_74 : decode b_Ke_object 74 = .ok (.invokevirtual 85, 3) := by decide +kernel
theorem d_Ke_object_77 : decode b_Ke_object 77 = .ok (.ireturn, 1) := by decide +kernel
theorem d_Ke_object_78 : decode b_Ke_object 78 = .ok (.aload_n 0, 1) := by decide +kernel
theorem d_Ke_object_79 : decode b_Ke_object 79 = .ok (.getfield 28, 3) := by decide +kernel
theorem d_Ke_object_82 : decode b_Ke_object 82 = .ok (.iload_n 1, 1) := by decide +kernel
theorem d_Ke_object_83 : decode b_Ke_object 83 = .ok (.invokevirtual 145, 3) := by decide +kernel
theorem d_Ke_object_86 : decode b_Ke_object 86 = .ok (.ireturn, 1) := by decide +kernel
theorem d_Ke_object_87 : decode b_Ke_object 87 = .ok (.aload_n 0, 1) := by decide +kernel
theorem d_Ke_object_88 : decode b_Ke_object 88 = .ok (.getfield 28, 3) := by decide +kernel
theorem d_Ke_object_91 : decode b_Ke_object 91 = .ok (.iload_n 1, 1) := by decide +kernel
theorem d_Ke_object_92 : decode b_Ke_object 92 = .ok (.invokevirtual 148, 3) := by decide +kernel
theorem d_Ke_object_95 : decode b_Ke_object 95 = .ok (.ireturn, 1) := by decide +kernel
theorem d_Ke_object_96 : decode b_Ke_object 96 = .ok (.aload_n 0, 1) := by decide +kernel
theorem d_Ke_object_97 : decode b_Ke_object 97 = .ok (.getfield 28, 3) := by decide +kernel
theorem d_Ke_object_100 : decode b_Ke_object 100 = .ok (.iload_n 1, 1) := by decide +kernel
theorem d_Ke_object_101 : decode b_Ke_object 101 = .ok (.invokevirtual 254, 3) := by decide +kernel
theorem d_Ke_object_104 : decode b_Ke_object 104 = .ok (.ireturn, 1) := by decide +kernel
theorem d_Ke_object_105 : decode b_Ke_object 105 = .ok (.aload_n 0, 1) := by decide +kernel
theorem d_Ke_object_106 : decode b_Ke_object 106 = .ok (.getfield 28, 3) := by decide +kernel
theorem d_Ke_object_109 : decode b_Ke_object 109 = .ok (.iload_n 1, 1) := by decide +kernel
theorem d_Ke_object_110 : decode b_Ke_object 110 = .ok (.invokevirtual 90, 3) := by decide +kernel
theorem d_Ke_object_113 : decode b_Ke_object 113 = .ok (.ireturn, 1) := by decide +kernel
theorem d_Ke_object_114 : decode b_Ke_object 114 = .ok (.aload_n 0, 1) := by decide +kernel
theorem d_Ke_object_115 : decode b_Ke_object 115 = .ok (.getfield 28, 3) := by decide +kernel
theorem d_Ke_object_118 : decode b_Ke_object 118 = .ok (.iload_n 1, 1) := by decide +kernel
theorem d_Ke_object_119 : decode b_Ke_object 119 = .ok (.invokevirtual 257, 3) := by decide +kernel
theorem d_Ke_object_122 : decode b_Ke_object 122 = .ok (.ireturn, 1) := by decide +kernel
theorem d_Ke_in_0 : decode b_Ke_in 0 = .ok (.aload_n 0, 1) := by decide +kernel
theorem d_Ke_in_1 : decode b_Ke_in 1 = .ok (.getfield 28, 3) := by decide +kernel
theorem d_Ke_in_4 : decode b_Ke_in 4 = .ok (.iload_n 1, 1) := by decide +kernel
theorem d_Ke_in_5 : decode b_Ke_in 5 = .ok (.invokevirtual 250, 3) := by decide +kernel
theorem d_Ke_in_8 : decode b_Ke_in 8 = .ok (.invokestatic 169, 3) := by decide +kernel
theorem d_Ke_in_11 : decode b_Ke_in 11 = .ok (.aload_n 0, 1) := by decide +kernel
theorem d_Ke_in_12 : decode b_Ke_in 12 = .ok (.getfield 28, 3) := by decide +kernel
theorem d_Ke_in_15 : decode b_Ke_in 15 = .ok (.iload_n 1, 1) := by decide +kernel
theorem d_Ke_in_16 : decode b_Ke_in 16 = .ok (.iconst 0, 1) := by decide +kernel
theorem d_Ke_in_17 : decode b_Ke_in 17 = .ok (.invokevirtual 163, 3) := by decide +kernel
theorem d_Ke_in_20 : decode b_Ke_in 20 = .ok (.invokestatic 44, 3) := by decide +kernel
theorem d_Ke_in_23 : decode b_Ke_in 23 = .ok (.aload_n 0, 1) := by decide +kernel
theorem d_Ke_in_24 : decode b_Ke_in 24 = .ok (.getfield 28, 3) := by decide +kernel
theorem d_Ke_in_27 : decode b_Ke_in 27 = .ok (.iload_n 1, 1) := by decide +kernel
theorem d_Ke_in_28 : decode b_Ke_in 28 = .ok (.iload_n 2, 1) := by decide +kernel
theorem d_Ke_in_29 : decode b_Ke_in 29 = .ok (.invokevirtual 260, 3) := by decide +kernel
theorem d_Ke_in_32 : decode b_Ke_in 32 = .ok (.istore_n 3, 1) := by decide +kernel
theorem d_Ke_in_33 : decode b_Ke_in 33 = .ok (.iload_n 3, 1) := by decide +kernel
theorem d_Ke_in_34 : decode b_Ke_in 34 = .ok (.ifCond .eq 7, 3) := by decide +kernel
theorem d_Ke_in_37 : decode b_Ke_in 37 = .ok (.iconst 1, 1) := by decide +kernel
theorem d_Ke_in_38 : decode b_Ke_in 38 = .ok (.goto 4, 3) := by decide +kernel
theorem d_Ke_in_41 : decode b_Ke_in 41 = .ok (.iconst 0, 1) := by decide +kernel
theorem d_Ke_in_42 : decode b_Ke_in 42 = .ok (.invokestatic 169, 3) := by decide +kernel
theorem d_Ke_in_45 : decode b_Ke_in 45 = .ok (.iload_n 3, 1) := by decide +kernel
theorem d_Ke_in_46 : decode b_Ke_in 46 = .ok (.ireturn, 1) := by decide +kernel
theorem d_Ke_count_0 : decode b_Ke_count 0 = .ok (.iload_n 1, 1) := by decide +kernel
theorem d_Ke_count_1 : decode b_Ke_count 1 = .ok (.tableswitch 63 0 3 #[31, 39, 47, 55], 31) := by decide +kernel
theorem d_Ke_count_32 : decode b_Ke_count 32 = .ok (.aload_n 0, 1) := by decide +kernel
theorem d_Ke_count_33 : decode b_Ke_count 33 = .ok (.getfield 28, 3) := by decide +kernel
theorem d_Ke_count_36 : decode b_Ke_count 36 = .ok (.invokevirtual 247, 3) := by decide +kernel
theorem d_Ke_count_39 : decode b_Ke_count 39 = .ok (.ireturn, 1) := by decide +kernel
theorem d_Ke_count_40 : decode b_Ke_count 40 = .ok (.aload_n 0, 1) := by decide +kernel
theorem d_Ke_count_41 : decode b_Ke_count 41 = .ok (.getfield 23, 3) := by decide +kernel
theorem d_Ke_count_44 : decode b_Ke_count 44 = .ok (.invokevirtual 263, 3) := by decide +kernel
theorem d_Ke_count_47 : decode b_Ke_count 47 = .ok (.ireturn, 1) := by decide +kernel
theorem d_Ke_count_48 : decode b_Ke_count 48 = .ok (.aload_n 0, 1) := by decide +kernel
theorem d_Ke_count_49 : decode b_Ke_count 49 = .ok (.getfield 10, 3) := by decide +kernel
theorem d_Ke_count_52 : decode b_Ke_count 52 = .ok (.getfield 81, 3) := by decide +kernel
theorem d_Ke_count_55 : decode b_Ke_count 55 = .ok (.ireturn, 1) := by decide +kernel
theorem d_Ke_count_56 : decode b_Ke_count 56 = .ok (.aload_n 0, 1) := by decide +kernel
theorem d_Ke_count_57 : decode b_Ke_count 57 = .ok (.getfield 33, 3) := by decide +kernel
theorem d_Ke_count_60 : decode b_Ke_count 60 = .ok (.invokevirtual 264, 3) := by decide +kernel
theorem d_Ke_count_63 : decode b_Ke_count 63 = .ok (.ireturn, 1) := by decide +kernel
theorem d_Ke_count_64 : decode b_Ke_count 64 = .ok (.iconst (-1), 1) := by decide +kernel
theorem d_Ke_count_65 : decode b_Ke_count 65 = .ok (.ireturn, 1) := by decide +kernel
theorem d_Ke_maySee_0 : decode b_Ke_maySee 0 = .ok (.aload_n 0, 1) := by decide +kernel
theorem d_Ke_maySee_1 : decode b_Ke_maySee 1 = .ok (.getfield 23, 3) := by decide +kernel
theorem d_Ke_maySee_4 : decode b_Ke_maySee 4 = .ok (.aload_n 0, 1) := by decide +kernel
theorem d_Ke_maySee_5 : decode b_Ke_maySee 5 = .ok (.getfield 28, 3) := by decide +kernel
theorem d_Ke_maySee_8 : decode b_Ke_maySee 8 = .ok (.iload_n 2, 1) := by decide +kernel
theorem d_Ke_maySee_9 : decode b_Ke_maySee 9 = .ok (.invokevirtual 85, 3) := by decide +kernel
theorem d_Ke_maySee_12 : decode b_Ke_maySee 12 = .ok (.aload_n 0, 1) := by decide +kernel
theorem d_Ke_maySee_13 : decode b_Ke_maySee 13 = .ok (.getfield 28, 3) := by decide +kernel
theorem d_Ke_maySee_16 : decode b_Ke_maySee 16 = .ok (.iload_n 1, 1) := by decide +kernel
theorem d_Ke_maySee_17 : decode b_Ke_maySee 17 = .ok (.invokevirtual 85, 3) := by decide +kernel
theorem d_Ke_maySee_20 : decode b_Ke_maySee 20 = .ok (.invokevirtual 70, 3) := by decide +kernel
theorem d_Ke_maySee_23 : decode b_Ke_maySee 23 = .ok (.ireturn, 1) := by decide +kernel
theorem d_Ke_mayChange_0 : decode b_Ke_mayChange 0 = .ok (.aload_n 0, 1) := by decide +kernel
theorem d_Ke_mayChange_1 : decode b_Ke_mayChange 1 = .ok (.iload_n 1, 1) := by decide +kernel
theorem d_Ke_mayChange_2 : decode b_Ke_mayChange 2 = .ok (.iload_n 2, 1) := by decide +kernel
theorem d_Ke_mayChange_3 : decode b_Ke_mayChange 3 = .ok (.invokevirtual 130, 3) := by decide +kernel
theorem d_Ke_mayChange_6 : decode b_Ke_mayChange 6 = .ok (.ifCond .eq 33, 3) := by decide +kernel
theorem d_Ke_mayChange_9 : decode b_Ke_mayChange 9 = .ok (.aload_n 0, 1) := by decide +kernel
theorem d_Ke_mayChange_10 : decode b_Ke_mayChange 10 = .ok (.getfield 23, 3) := by decide +kernel
theorem d_Ke_mayChange_13 : decode b_Ke_mayChange 13 = .ok (.aload_n 0, 1) := by decide +kernel
theorem d_Ke_mayChange_14 : decode b_Ke_mayChange 14 = .ok (.getfield 28, 3) := by decide +kernel
theorem d_Ke_mayChange_17 : decode b_Ke_mayChange 17 = .ok (.iload_n 1, 1) := by decide +kernel
theorem d_Ke_mayChange_18 : decode b_Ke_mayChange 18 = .ok (.invokevirtual 85, 3) := by decide +kernel
theorem d_Ke_mayChange_21 : decode b_Ke_mayChange 21 = .ok (.aload_n 0, 1) := by decide +kernel
theorem d_Ke_mayChange_22 : decode b_Ke_mayChange 22 = .ok (.getfield 28, 3) := by decide +kernel
theorem d_Ke_mayChange_25 : decode b_Ke_mayChange 25 = .ok (.iload_n 2, 1) := by decide +kernel
theorem d_Ke_mayChange_26 : decode b_Ke_mayChange 26 = .ok (.invokevirtual 85, 3) := by decide +kernel
theorem d_Ke_mayChange_29 : decode b_Ke_mayChange 29 = .ok (.invokevirtual 74, 3) := by decide +kernel
theorem d_Ke_mayChange_32 : decode b_Ke_mayChange 32 = .ok (.ifCond .eq 7, 3) := by decide +kernel
theorem d_Ke_mayChange_35 : decode b_Ke_mayChange 35 = .ok (.iconst 1, 1) := by decide +kernel
theorem d_Ke_mayChange_36 : decode b_Ke_mayChange 36 = .ok (.goto 4, 3) := by decide +kernel
theorem d_Ke_mayChange_39 : decode b_Ke_mayChange 39 = .ok (.iconst 0, 1) := by decide +kernel
theorem d_Ke_mayChange_40 : decode b_Ke_mayChange 40 = .ok (.ireturn, 1) := by decide +kernel
theorem d_Ke_mayBear_0 : decode b_Ke_mayBear 0 = .ok (.aload_n 0, 1) := by decide +kernel
theorem d_Ke_mayBear_1 : decode b_Ke_mayBear 1 = .ok (.getfield 28, 3) := by decide +kernel
theorem d_Ke_mayBear_4 : decode b_Ke_mayBear 4 = .ok (.iload_n 1, 1) := by decide +kernel
theorem d_Ke_mayBear_5 : decode b_Ke_mayBear 5 = .ok (.invokevirtual 85, 3) := by decide +kernel
theorem d_Ke_mayBear_8 : decode b_Ke_mayBear 8 = .ok (.istore_n 3, 1) := by decide +kernel
theorem d_Ke_mayBear_9 : decode b_Ke_mayBear 9 = .ok (.aload_n 0, 1) := by decide +kernel
theorem d_Ke_mayBear_10 : decode b_Ke_mayBear 10 = .ok (.getfield 23, 3) := by decide +kernel
theorem d_Ke_mayBear_13 : decode b_Ke_mayBear 13 = .ok (.iload_n 3, 1) := by decide +kernel
theorem d_Ke_mayBear_14 : decode b_Ke_mayBear 14 = .ok (.iload_n 2, 1) := by decide +kernel
theorem d_Ke_mayBear_15 : decode b_Ke_mayBear 15 = .ok (.invokevirtual 74, 3) := by decide +kernel
theorem d_Ke_mayBear_18 : decode b_Ke_mayBear 18 = .ok (.ifCond .eq 38, 3) := by decide +kernel
theorem d_Ke_mayBear_21 : decode b_Ke_mayBear 21 = .ok (.aload_n 0, 1) := by decide +kernel
theorem d_Ke_mayBear_22 : decode b_Ke_mayBear 22 = .ok (.getfield 23, 3) := by decide +kernel
theorem d_Ke_mayBear_25 : decode b_Ke_mayBear 25 = .ok (.iload_n 2, 1) := by decide +kernel
theorem d_Ke_mayBear_26 : decode b_Ke_mayBear 26 = .ok (.aload_n 0, 1) := by decide +kernel
theorem d_Ke_mayBear_27 : decode b_Ke_mayBear 27 = .ok (.getfield 28, 3) := by decide +kernel
theorem d_Ke_mayBear_30 : decode b_Ke_mayBear 30 = .ok (.iload_n 1, 1) := by decide +kernel
theorem d_Ke_mayBear_31 : decode b_Ke_mayBear 31 = .ok (.invokevirtual 90, 3) := by decide +kernel
theorem d_Ke_mayBear_34 : decode b_Ke_mayBear 34 = .ok (.invokevirtual 74, 3) := by decide +kernel
theorem d_Ke_mayBear_37 : decode b_Ke_mayBear 37 = .ok (.ifCond .eq 19, 3) := by decide +kernel
theorem d_Ke_mayBear_40 : decode b_Ke_mayBear 40 = .ok (.aload_n 0, 1) := by decide +kernel
theorem d_Ke_mayBear_41 : decode b_Ke_mayBear 41 = .ok (.getfield 23, 3) := by decide +kernel
theorem d_Ke_mayBear_44 : decode b_Ke_mayBear 44 = .ok (.iload_n 2, 1) := by decide +kernel
theorem d_Ke_mayBear_45 : decode b_Ke_mayBear 45 = .ok (.iload_n 3, 1) := by decide +kernel
theorem d_Ke_mayBear_46 : decode b_Ke_mayBear 46 = .ok (.invokevirtual 265, 3) := by decide +kernel
theorem d_Ke_mayBear_49 : decode b_Ke_mayBear 49 = .ok (.ifCond .eq 7, 3) := by decide +kernel
theorem d_Ke_mayBear_52 : decode b_Ke_mayBear 52 = .ok (.iconst 1, 1) := by decide +kernel
theorem d_Ke_mayBear_53 : decode b_Ke_mayBear 53 = .ok (.goto 4, 3) := by decide +kernel
theorem d_Ke_mayBear_56 : decode b_Ke_mayBear 56 = .ok (.iconst 0, 1) := by decide +kernel
theorem d_Ke_mayBear_57 : decode b_Ke_mayBear 57 = .ok (.ireturn, 1) := by decide +kernel
theorem d_Ke_isBetween_0 : decode b_Ke_isBetween 0 = .ok (.iload_n 0, 1) := by decide +kernel
theorem d_Ke_isBetween_1 : decode b_Ke_isBetween 1 = .ok (.iload_n 1, 1) := by decide +kernel
theorem d_Ke_isBetween_2 : decode b_Ke_isBetween 2 = .ok (.if_icmp .lt 12, 3) := by decide +kernel
theorem d_Ke_isBetween_5 : decode b_Ke_isBetween 5 = .ok (.iload_n 0, 1) := by decide +kernel
theorem d_Ke_isBetween_6 : decode b_Ke_isBetween 6 = .ok (.iload_n 2, 1) := by decide +kernel
theorem d_Ke_isBetween_7 : decode b_Ke_isBetween 7 = .ok (.if_icmp .gt 7, 3) := by decide +kernel
theorem d_Ke_isBetween_10 : decode b_Ke_isBetween 10 = .ok (.iconst 1, 1) := by decide +kernel
theorem d_Ke_isBetween_11 : decode b_Ke_isBetween 11 = .ok (.goto 4, 3) := by decide +kernel
theorem d_Ke_isBetween_14 : decode b_Ke_isBetween 14 = .ok (.iconst 0, 1) := by decide +kernel
theorem d_Ke_isBetween_15 : decode b_Ke_isBetween 15 = .ok (.ireturn, 1) := by decide +kernel
theorem d_Ke_needNumber_0 : decode b_Ke_needNumber 0 = .ok (.iload_n 0, 1) := by decide +kernel
theorem d_Ke_needNumber_1 : decode b_Ke_needNumber 1 = .ok (.ifCond .ne 11, 3) := by decide +kernel
theorem d_Ke_needNumber_4 : decode b_Ke_needNumber 4 = .ok (.new 268, 3) := by decide +kernel
theorem d_Ke_needNumber_7 : decode b_Ke_needNumber 7 = .ok (.dup, 1) := by decide +kernel
theorem d_Ke_needNumber_8 : decode b_Ke_needNumber 8 = .ok (.invokespecial 270, 3) := by decide +kernel
theorem d_Ke_needNumber_11 : decode b_Ke_needNumber 11 = .ok (.athrow, 1) := by decide +kernel
theorem d_Ke_needNumber_12 : decode b_Ke_needNumber 12 = .ok (.return_, 1) := by decide +kernel
theorem d_Ke_needFound_0 : decode b_Ke_needFound 0 = .ok (.iload_n 0, 1) := by decide +kernel
theorem d_Ke_needFound_1 : decode b_Ke_needFound 1 = .ok (.ifCond .ne 11, 3) := by decide +kernel
theorem d_Ke_needFound_4 : decode b_Ke_needFound 4 = .ok (.new 271, 3) := by decide +kernel
theorem d_Ke_needFound_7 : decode b_Ke_needFound 7 = .ok (.dup, 1) := by decide +kernel
theorem d_Ke_needFound_8 : decode b_Ke_needFound 8 = .ok (.invokespecial 273, 3) := by decide +kernel
theorem d_Ke_needFound_11 : decode b_Ke_needFound 11 = .ok (.athrow, 1) := by decide +kernel
theorem d_Ke_needFound_12 : decode b_Ke_needFound 12 = .ok (.return_, 1) := by decide +kernel
theorem d_Ke_needAllowed_0 : decode b_Ke_needAllowed 0 = .ok (.iload_n 0, 1) := by decide +kernel
theorem d_Ke_needAllowed_1 : decode b_Ke_needAllowed 1 = .ok (.ifCond .ne 11, 3) := by decide +kernel
theorem d_Ke_needAllowed_4 : decode b_Ke_needAllowed 4 = .ok (.new 274, 3) := by decide +kernel
theorem d_Ke_needAllowed_7 : decode b_Ke_needAllowed 7 = .ok (.dup, 1) := by decide +kernel
theorem d_Ke_needAllowed_8 : decode b_Ke_needAllowed 8 = .ok (.invokespecial 276, 3) := by decide +kernel
theorem d_Ke_needAllowed_11 : decode b_Ke_needAllowed 11 = .ok (.athrow, 1) := by decide +kernel
theorem d_Ke_needAllowed_12 : decode b_Ke_needAllowed 12 = .ok (.return_, 1) := by decide +kernel
theorem d_Ke_needRoom_0 : decode b_Ke_needRoom 0 = .ok (.iload_n 0, 1) := by decide +kernel
theorem d_Ke_needRoom_1 : decode b_Ke_needRoom 1 = .ok (.ifCond .ne 11, 3) := by decide +kernel
theorem d_Ke_needRoom_4 : decode b_Ke_needRoom 4 = .ok (.new 277, 3) := by decide +kernel
theorem d_Ke_needRoom_7 : decode b_Ke_needRoom 7 = .ok (.dup, 1) := by decide +kernel
theorem d_Ke_needRoom_8 : decode b_Ke_needRoom 8 = .ok (.invokespecial 279, 3) := by decide +kernel
theorem d_Ke_needRoom_11 : decode b_Ke_needRoom 11 = .ok (.athrow, 1) := by decide +kernel
theorem d_Ke_needRoom_12 : decode b_Ke_needRoom 12 = .ok (.return_, 1) := by decide +kernel
theorem d_Ke_needThread_0 : decode b_Ke_needThread 0 = .ok (.aload_n 0, 1) := by decide +kernel
theorem d_Ke_needThread_1 : decode b_Ke_needThread 1 = .ok (.getfield 28, 3) := by decide +kernel
theorem d_Ke_needThread_4 : decode b_Ke_needThread 4 = .ok (.iload_n 1, 1) := by decide +kernel
theorem d_Ke_needThread_5 : decode b_Ke_needThread 5 = .ok (.invokevirtual 250, 3) := by decide +kernel
theorem d_Ke_needThread_8 : decode b_Ke_needThread 8 = .ok (.invokestatic 169, 3) := by decide +kernel
theorem d_Ke_needThread_11 : decode b_Ke_needThread 11 = .ok (.aload_n 0, 1) := by decide +kernel
theorem d_Ke_needThread_12 : decode b_Ke_needThread 12 = .ok (.getfield 28, 3) := by decide +kernel
theorem d_Ke_needThread_15 : decode b_Ke_needThread 15 = .ok (.iload_n 1, 1) := by decide +kernel
theorem d_Ke_needThread_16 : decode b_Ke_needThread 16 = .ok (.iconst 3, 1) := by decide +kernel
theorem d_Ke_needThread_17 : decode b_Ke_needThread 17 = .ok (.invokevirtual 163, 3) := by decide +kernel
theorem d_Ke_needThread_20 : decode b_Ke_needThread 20 = .ok (.invokestatic 44, 3) := by decide +kernel
theorem d_Ke_needThread_23 : decode b_Ke_needThread 23 = .ok (.return_, 1) := by decide +kernel
theorem d_Ke_needThreadAndContainer_0 : decode b_Ke_needThreadAndContainer 0 = .ok (.aload_n 0, 1) := by decide +kernel
theorem d_Ke_needThreadAndContainer_1 : decode b_Ke_needThreadAndContainer 1 = .ok (.getfield 28, 3) := by decide +kernel
theorem d_Ke_needThreadAndContainer_4 : decode b_Ke_needThreadAndContainer 4 = .ok (.iload_n 1, 1) := by decide +kernel
theorem d_Ke_needThreadAndContainer_5 : decode b_Ke_needThreadAndContainer 5 = .ok (.invokevirtual 250, 3) := by decide +kernel
theorem d_Ke_needThreadAndContainer_8 : decode b_Ke_needThreadAndContainer 8 = .ok (.ifCond .eq 18, 3) := by decide +kernel
theorem d_Ke_needThreadAndContainer_11 : decode b_Ke_needThreadAndContainer 11 = .ok (.aload_n 0, 1) := by decide +kernel
theorem d_Ke_needThreadAndContainer_12 : decode b_Ke_needThreadAndContainer 12 = .ok (.getfield 28, 3) := by decide +kernel
theorem d_Ke_needThreadAndContainer_15 : decode b_Ke_needThreadAndContainer 15 = .ok (.iload_n 2, 1) := by decide +kernel
theorem d_Ke_needThreadAndContainer_16 : decode b_Ke_needThreadAndContainer 16 = .ok (.invokevirtual 250, 3) := by decide +kernel
theorem d_Ke_needThreadAndContainer_19 : decode b_Ke_needThreadAndContainer 19 = .ok (.ifCond .eq 7, 3) := by decide +kernel
theorem d_Ke_needThreadAndContainer_22 : decode b_Ke_needThreadAndContainer 22 = .ok (.iconst 1, 1) := by decide +kernel
theorem d_Ke_needThreadAndContainer_23 : decode b_Ke_needThreadAndContainer 23 = .ok (.goto 4, 3) := by decide +kernel
theorem d_Ke_needThreadAndContainer_26 : decode b_Ke_needThreadAndContainer 26 = .ok (.iconst 0, 1) := by decide +kernel
theorem d_Ke_needThreadAndContainer_27 : decode b_Ke_needThreadAndContainer 27 = .ok (.invokestatic 169, 3) := by decide +kernel
theorem d_Ke_needThreadAndContainer_30 : decode b_Ke_needThreadAndContainer 30 = .ok (.aload_n 0, 1) := by decide +kernel
theorem d_Ke_needThreadAndContainer_31 : decode b_Ke_needThreadAndContainer 31 = .ok (.getfield 28, 3) := by decide +kernel
theorem d_Ke_needThreadAndContainer_34 : decode b_Ke_needThreadAndContainer 34 = .ok (.iload_n 1, 1) := by decide +kernel
theorem d_Ke_needThreadAndContainer_35 : decode b_Ke_needThreadAndContainer 35 = .ok (.iconst 3, 1) := by decide +kernel
theorem d_Ke_needThreadAndContainer_36 : decode b_Ke_needThreadAndContainer 36 = .ok (.invokevirtual 163, 3) := by decide +kernel
theorem d_Ke_needThreadAndContainer_39 : decode b_Ke_needThreadAndContainer 39 = .ok (.ifCond .eq 19, 3) := by decide +kernel
theorem d_Ke_needThreadAndContainer_42 : decode b_Ke_needThreadAndContainer 42 = .ok (.aload_n 0, 1) := by decide +kernel
theorem d_Ke_needThreadAndContainer_43 : decode b_Ke_needThreadAndContainer 43 = .ok (.getfield 28, 3) := by decide +kernel
theorem d_Ke_needThreadAndContainer_46 : decode b_Ke_needThreadAndContainer 46 = .ok (.iload_n 2, 1) := by decide +kernel
theorem d_Ke_needThreadAndContainer_47 : decode b_Ke_needThreadAndContainer 47 = .ok (.iconst 0, 1) := by decide +kernel
theorem d_Ke_needThreadAndContainer_48 : decode b_Ke_needThreadAndContainer 48 = .ok (.invokevirtual 163, 3) := by decide +kernel
theorem d_Ke_needThreadAndContainer_51 : decode b_Ke_needThreadAndContainer 51 = .ok (.ifCond .eq 7, 3) := by decide +kernel
theorem d_Ke_needThreadAndContainer_54 : decode b_Ke_needThreadAndContainer 54 = .ok (.iconst 1, 1) := by decide +kernel
theorem d_Ke_needThreadAndContainer_55 : decode b_Ke_needThreadAndContainer 55 = .ok (.goto 4, 3) := by decide +kernel
theorem d_Ke_needThreadAndContainer_58 : decode b_Ke_needThreadAndContainer 58 = .ok (.iconst 0, 1) := by decide +kernel
theorem d_Ke_needThreadAndContainer_59 : decode b_Ke_needThreadAndContainer 59 = .ok (.invokestatic 44, 3) := by decide +kernel
theorem d_Ke_needThreadAndContainer_62 : decode b_Ke_needThreadAndContainer 62 = .ok (.return_, 1) := by decide +kernel
theorem d_Ke_needThere_0 : decode b_Ke_needThere 0 = .ok (.aload_n 0, 1) := by decide +kernel
theorem d_Ke_needThere_1 : decode b_Ke_needThere 1 = .ok (.getfield 28, 3) := by decide +kernel
theorem d_Ke_needThere_4 : decode b_Ke_needThere 4 = .ok (.iload_n 1, 1) := by decide +kernel
theorem d_Ke_needThere_5 : decode b_Ke_needThere 5 = .ok (.invokevirtual 250, 3) := by decide +kernel
theorem d_Ke_needThere_8 : decode b_Ke_needThere 8 = .ok (.ifCond .eq 29, 3) := by decide +kernel
theorem d_Ke_needThere_11 : decode b_Ke_needThere 11 = .ok (.aload_n 0, 1) := by decide +kernel
theorem d_Ke_needThere_12 : decode b_Ke_needThere 12 = .ok (.getfield 28, 3) := by decide +kernel
theorem d_Ke_needThere_15 : decode b_Ke_needThere 15 = .ok (.iload_n 2, 1) := by decide +kernel
theorem d_Ke_needThere_16 : decode b_Ke_needThere 16 = .ok (.invokevirtual 250, 3) := by decide +kernel
theorem d_Ke_needThere_19 : decode b_Ke_needThere 19 = .ok (.ifCond .eq 18, 3) := by decide +kernel
theorem d_Ke_needThere_22 : decode b_Ke_needThere 22 = .ok (.aload_n 0, 1) := by decide +kernel
theorem d_Ke_needThere_23 : decode b_Ke_needThere 23 = .ok (.getfield 28, 3) := by decide +kernel
theorem d_Ke_needThere_26 : decode b_Ke_needThere 26 = .ok (.iload_n 3, 1) := by decide +kernel
theorem d_Ke_needThere_27 : decode b_Ke_needThere 27 = .ok (.invokevirtual 250, 3) := by decide +kernel
theorem d_Ke_needThere_30 : decode b_Ke_needThere 30 = .ok (.ifCond .eq 7, 3) := by decide +kernel
theorem d_Ke_needThere_33 : decode b_Ke_needThere 33 = .ok (.iconst 1, 1) := by decide +kernel
theorem d_Ke_needThere_34 : decode b_Ke_needThere 34 = .ok (.goto 4, 3) := by decide +kernel
theorem d_Ke_needThere_37 : decode b_Ke_needThere 37 = .ok (.iconst 0, 1) := by decide +kernel
theorem d_Ke_needThere_38 : decode b_Ke_needThere 38 = .ok (.invokestatic 169, 3) := by decide +kernel
theorem d_Ke_needThere_41 : decode b_Ke_needThere 41 = .ok (.return_, 1) := by decide +kernel
theorem d_Ke_needObjectIn_0 : decode b_Ke_needObjectIn 0 = .ok (.aload_n 0, 1) := by decide +kernel
theorem d_Ke_needObjectIn_1 : decode b_Ke_needObjectIn 1 = .ok (.iload_n 1, 1) := by decide +kernel
theorem d_Ke_needObjectIn_2 : decode b_Ke_needObjectIn 2 = .ok (.iload_n 2, 1) := by decide +kernel
theorem d_Ke_needObjectIn_3 : decode b_Ke_needObjectIn 3 = .ok (.iload_n 3, 1) := by decide +kernel
theorem d_Ke_needObjectIn_4 : decode b_Ke_needObjectIn 4 = .ok (.invokevirtual 160, 3) := by decide +kernel
theorem d_Ke_needObjectIn_7 : decode b_Ke_needObjectIn 7 = .ok (.aload_n 0, 1) := by decide +kernel
theorem d_Ke_needObjectIn_8 : decode b_Ke_needObjectIn 8 = .ok (.getfield 28, 3) := by decide +kernel
theorem d_Ke_needObjectIn_11 : decode b_Ke_needObjectIn 11 = .ok (.iload_n 1, 1) := by decide +kernel
theorem d_Ke_needObjectIn_12 : decode b_Ke_needObjectIn 12 = .ok (.iconst 3, 1) := by decide +kernel
theorem d_Ke_needObjectIn_13 : decode b_Ke_needObjectIn 13 = .ok (.invokevirtual 163, 3) := by decide +kernel
theorem d_Ke_needObjectIn_16 : decode b_Ke_needObjectIn 16 = .ok (.ifCond .eq 19, 3) := by decide +kernel
theorem d_Ke_needObjectIn_19 : decode b_Ke_needObjectIn 19 = .ok (.aload_n 0, 1) := by decide +kernel
theorem d_Ke_needObjectIn_20 : decode b_Ke_needObjectIn 20 = .ok (.getfield 28, 3) := by decide +kernel
theorem d_Ke_needObjectIn_23 : decode b_Ke_needObjectIn 23 = .ok (.iload_n 2, 1) := by decide +kernel
theorem d_Ke_needObjectIn_24 : decode b_Ke_needObjectIn 24 = .ok (.iconst 0, 1) := by decide +kernel
theorem d_Ke_needObjectIn_25 : decode b_Ke_needObjectIn 25 = .ok (.invokevirtual 163, 3) := by decide +kernel
theorem d_Ke_needObjectIn_28 : decode b_Ke_needObjectIn 28 = .ok (.ifCond .eq 7, 3) := by decide +kernel
theorem d_Ke_needObjectIn_31 : decode b_Ke_needObjectIn 31 = .ok (.iconst 1, 1) := by decide +kernel
theorem d_Ke_needObjectIn_32 : decode b_Ke_needObjectIn 32 = .ok (.goto 4, 3) := by decide +kernel
theorem d_Ke_needObjectIn_35 : decode b_Ke_needObjectIn 35 = .ok (.iconst 0, 1) := by decide +kernel
theorem d_Ke_needObjectIn_36 : decode b_Ke_needObjectIn 36 = .ok (.invokestatic 44, 3) := by decide +kernel
theorem d_Ke_needObjectIn_39 : decode b_Ke_needObjectIn 39 = .ok (.aload_n 0, 1) := by decide +kernel
theorem d_Ke_needObjectIn_40 : decode b_Ke_needObjectIn 40 = .ok (.getfield 28, 3) := by decide +kernel
theorem d_Ke_needObjectIn_43 : decode b_Ke_needObjectIn 43 = .ok (.iload_n 3, 1) := by decide +kernel
theorem d_Ke_needObjectIn_44 : decode b_Ke_needObjectIn 44 = .ok (.iload_n 2, 1) := by decide +kernel
theorem d_Ke_needObjectIn_45 : decode b_Ke_needObjectIn 45 = .ok (.invokevirtual 166, 3) := by decide +kernel
theorem d_Ke_needObjectIn_48 : decode b_Ke_needObjectIn 48 = .ok (.invokestatic 169, 3) := by decide +kernel
theorem d_Ke_needObjectIn_51 : decode b_Ke_needObjectIn 51 = .ok (.return_, 1) := by decide +kernel
theorem d_Ke_needCell_0 : decode b_Ke_needCell 0 = .ok (.iload 4, 2) := by decide +kernel
theorem d_Ke_needCell_2 : decode b_Ke_needCell 2 = .ok (.iconst 0, 1) := by decide +kernel
theorem d_Ke_needCell_3 : decode b_Ke_needCell 3 = .ok (.bipush 7, 2) := by decide +kernel
theorem d_Ke_needCell_5 : decode b_Ke_needCell 5 = .ok (.invokestatic 40, 3) := by decide +kernel
theorem d_Ke_needCell_8 : decode b_Ke_needCell 8 = .ok (.invokestatic 44, 3) := by decide +kernel
theorem d_Ke_needCell_11 : decode b_Ke_needCell 11 = .ok (.aload_n 0, 1) := by decide +kernel
theorem d_Ke_needCell_12 : decode b_Ke_needCell 12 = .ok (.iload_n 1, 1) := by decide +kernel
theorem d_Ke_needCell_13 : decode b_Ke_needCell 13 = .ok (.iload_n 2, 1) := by decide +kernel
theorem d_Ke_needCell_14 : decode b_Ke_needCell 14 = .ok (.iload_n 3, 1) := by decide +kernel
theorem d_Ke_needCell_15 : decode b_Ke_needCell 15 = .ok (.invokevirtual 160, 3) := by decide +kernel
theorem d_Ke_needCell_18 : decode b_Ke_needCell 18 = .ok (.aload_n 0, 1) := by decide +kernel
theorem d_Ke_needCell_19 : decode b_Ke_needCell 19 = .ok (.getfield 28, 3) := by decide +kernel
theorem d_Ke_needCell_22 : decode b_Ke_needCell 22 = .ok (.iload_n 1, 1) := by decide +kernel
theorem d_Ke_needCell_23 : decode b_Ke_needCell 23 = .ok (.iconst 3, 1) := by decide +kernel
theorem d_Ke_needCell_24 : decode b_Ke_needCell 24 = .ok (.invokevirtual 163, 3) := by decide +kernel
theorem d_Ke_needCell_27 : decode b_Ke_needCell 27 = .ok (.ifCond .eq 31, 3) := by decide +kernel
theorem d_Ke_needCell_30 : decode b_Ke_needCell 30 = .ok (.aload_n 0, 1) := by decide +kernel
theorem d_Ke_needCell_31 : decode b_Ke_needCell 31 = .ok (.getfield 28, 3) := by decide +kernel
theorem d_Ke_needCell_34 : decode b_Ke_needCell 34 = .ok (.iload_n 2, 1) := by decide +kernel
theorem d_Ke_needCell_35 : decode b_Ke_needCell 35 = .ok (.iconst 0, 1) := by decide +kernel
theorem d_Ke_needCell_36 : decode b_Ke_needCell 36 = .ok (.invokevirtual 163, 3) := by decide +kernel
theorem d_Ke_needCell_39 : decode b_Ke_needCell 39 = .ok (.ifCond .eq 19, 3) := by decide +kernel
theorem d_Ke_needCell_42 : decode b_Ke_needCell 42 = .ok (.aload_n 0, 1) := by decide +kernel
theorem d_Ke_needCell_43 : decode b_Ke_needCell 43 = .ok (.getfield 28, 3) := by decide +kernel
theorem d_Ke_needCell_46 : decode b_Ke_needCell 46 = .ok (.iload_n 3, 1) := by decide +kernel
theorem d_Ke_needCell_47 : decode b_Ke_needCell 47 = .ok (.iconst 1, 1) := by decide +kernel
theorem d_Ke_needCell_48 : decode b_Ke_needCell 48 = .ok (.invokevirtual 163, 3) := by decide +kernel
theorem d_Ke_needCell_51 : decode b_Ke_needCell 51 = .ok (.ifCond .eq 7, 3) := by decide +kernel
theorem d_Ke_needCell_54 : decode b_Ke_needCell 54 = .ok (.iconst 1, 1) := by decide +kernel
theorem d_Ke_needCell_55 : decode b_Ke_needCell 55 = .ok (.goto 4, 3) := by decide +kernel
theorem d_Ke_needCell_58 : decode b_Ke_needCell 58 = .ok (.iconst 0, 1) := by decide +kernel
theorem d_Ke_needCell_59 : decode b_Ke_needCell 59 = .ok (.invokestatic 44, 3) := by decide +kernel
theorem d_Ke_needCell_62 : decode b_Ke_needCell 62 = .ok (.aload_n 0, 1) := by decide +kernel
theorem d_Ke_needCell_63 : decode b_Ke_needCell 63 = .ok (.getfield 28, 3) := by decide +kernel
theorem d_Ke_needCell_66 : decode b_Ke_needCell 66 = .ok (.iload_n 3, 1) := by decide +kernel
theorem d_Ke_needCell_67 : decode b_Ke_needCell 67 = .ok (.iload_n 2, 1) := by decide +kernel
theorem d_Ke_needCell_68 : decode b_Ke_needCell 68 = .ok (.invokevirtual 166, 3) := by decide +kernel
theorem d_Ke_needCell_71 : decode b_Ke_needCell 71 = .ok (.ifCond .eq 20, 3) := by decide +kernel
theorem d_Ke_needCell_74 : decode b_Ke_needCell 74 = .ok (.iload 4, 2) := by decide +kernel
theorem d_Ke_needCell_76 : decode b_Ke_needCell 76 = .ok (.aload_n 0, 1) := by decide +kernel
theorem d_Ke_needCell_77 : decode b_Ke_needCell 77 = .ok (.getfield 28, 3) := by decide +kernel
theorem d_Ke_needCell_80 : decode b_Ke_needCell 80 = .ok (.iload_n 3, 1) := by decide +kernel
theorem d_Ke_needCell_81 : decode b_Ke_needCell 81 = .ok (.invokevirtual 257, 3) := by decide +kernel
theorem d_Ke_needCell_84 : decode b_Ke_needCell 84 = .ok (.if_icmp .ge 7, 3) := by decide +kernel
theorem d_Ke_needCell_87 : decode b_Ke_needCell 87 = .ok (.iconst 1, 1) := by decide +kernel
theorem d_Ke_needCell_88 : decode b_Ke_needCell 88 = .ok (.goto 4, 3) := by decide +kernel
theorem d_Ke_needCell_91 : decode b_Ke_needCell 91 = .ok (.iconst 0, 1) := by decide +kernel
theorem d_Ke_needCell_92 : decode b_Ke_needCell 92 = .ok (.invokestatic 169, 3) := by decide +kernel
theorem d_Ke_needCell_95 : decode b_Ke_needCell 95 = .ok (.return_, 1) := by decide +kernel
theorem d_Ke_needMayMake_0 : decode b_Ke_needMayMake 0 = .ok (.aload_n 0, 1) := by decide +kernel
theorem d_Ke_needMayMake_1 : decode b_Ke_needMayMake 1 = .ok (.iload_n 1, 1) := by decide +kernel
theorem d_Ke_needMayMake_2 : decode b_Ke_needMayMake 2 = .ok (.iload_n 2, 1) := by decide +kernel
theorem d_Ke_needMayMake_3 : decode b_Ke_needMayMake 3 = .ok (.invokevirtual 136, 3) := by decide +kernel
theorem d_Ke_needMayMake_6 : decode b_Ke_needMayMake 6 = .ok (.ifCond .eq 16, 3) := by decide +kernel
theorem d_Ke_needMayMake_9 : decode b_Ke_needMayMake 9 = .ok (.aload_n 0, 1) := by decide +kernel
theorem d_Ke_needMayMake_10 : decode b_Ke_needMayMake 10 = .ok (.iload_n 1, 1) := by decide +kernel
theorem d_Ke_needMayMake_11 : decode b_Ke_needMayMake 11 = .ok (.iload_n 3, 1) := by decide +kernel
theorem d_Ke_needMayMake_12 : decode b_Ke_needMayMake 12 = .ok (.invokevirtual 157, 3) := by decide +kernel
theorem d_Ke_needMayMake_15 : decode b_Ke_needMayMake 15 = .ok (.ifCond .eq 7, 3) := by decide +kernel
theorem d_Ke_needMayMake_18 : decode b_Ke_needMayMake 18 = .ok (.iconst 1, 1) := by decide +kernel
theorem d_Ke_needMayMake_19 : decode b_Ke_needMayMake 19 = .ok (.goto 4, 3) := by decide +kernel
theorem d_Ke_needMayMake_22 : decode b_Ke_needMayMake 22 = .ok (.iconst 0, 1) := by decide +kernel
theorem d_Ke_needMayMake_23 : decode b_Ke_needMayMake 23 = .ok (.invokestatic 123, 3) := by decide +kernel
theorem d_Ke_needMayMake_26 : decode b_Ke_needMayMake 26 = .ok (.return_, 1) := by decide +kernel
theorem d_Ke_needRoomIn_0 : decode b_Ke_needRoomIn 0 = .ok (.aload_n 0, 1) := by decide +kernel
theorem d_Ke_needRoomIn_1 : decode b_Ke_needRoomIn 1 = .ok (.getfield 28, 3) := by decide +kernel
theorem d_Ke_needRoomIn_4 : decode b_Ke_needRoomIn 4 = .ok (.iload_n 1, 1) := by decide +kernel
theorem d_Ke_needRoomIn_5 : decode b_Ke_needRoomIn 5 = .ok (.invokevirtual 145, 3) := by decide +kernel
theorem d_Ke_needRoomIn_8 : decode b_Ke_needRoomIn 8 = .ok (.aload_n 0, 1) := by decide +kernel
theorem d_Ke_needRoomIn_9 : decode b_Ke_needRoomIn 9 = .ok (.getfield 28, 3) := by decide +kernel
theorem d_Ke_needRoomIn_12 : decode b_Ke_needRoomIn 12 = .ok (.iload_n 1, 1) := by decide +kernel
theorem d_Ke_needRoomIn_13 : decode b_Ke_needRoomIn 13 = .ok (.invokevirtual 148, 3) := by decide +kernel
theorem d_Ke_needRoomIn_16 : decode b_Ke_needRoomIn 16 = .ok (.iload_n 2, 1) := by decide +kernel
theorem d_Ke_needRoomIn_17 : decode b_Ke_needRoomIn 17 = .ok (.iadd, 1) := by decide +kernel
theorem d_Ke_needRoomIn_18 : decode b_Ke_needRoomIn 18 = .ok (.if_icmp .lt 7, 3) := by decide +kernel
theorem d_Ke_needRoomIn_21 : decode b_Ke_needRoomIn 21 = .ok (.iconst 1, 1) := by decide +kernel
theorem d_Ke_needRoomIn_22 : decode b_Ke_needRoomIn 22 = .ok (.goto 4, 3) := by decide +kernel
theorem d_Ke_needRoomIn_25 : decode b_Ke_needRoomIn 25 = .ok (.iconst 0, 1) := by decide +kernel
theorem d_Ke_needRoomIn_26 : decode b_Ke_needRoomIn 26 = .ok (.invokestatic 60, 3) := by decide +kernel
theorem d_Ke_needRoomIn_29 : decode b_Ke_needRoomIn 29 = .ok (.aload_n 0, 1) := by decide +kernel
theorem d_Ke_needRoomIn_30 : decode b_Ke_needRoomIn 30 = .ok (.getfield 28, 3) := by decide +kernel
theorem d_Ke_needRoomIn_33 : decode b_Ke_needRoomIn 33 = .ok (.invokevirtual 280, 3) := by decide +kernel
theorem d_Ke_needRoomIn_36 : decode b_Ke_needRoomIn 36 = .ok (.ifCond .eq 20, 3) := by decide +kernel
theorem d_Ke_needRoomIn_39 : decode b_Ke_needRoomIn 39 = .ok (.aload_n 0, 1) := by decide +kernel
theorem d_Ke_needRoomIn_40 : decode b_Ke_needRoomIn 40 = .ok (.getfield 28, 3) := by decide +kernel
theorem d_Ke_needRoomIn_43 : decode b_Ke_needRoomIn 43 = .ok (.iload_n 1, 1) := by decide +kernel
theorem d_Ke_needRoomIn_44 : decode b_Ke_needRoomIn 44 = .ok (.invokevirtual 284, 3) := by decide +kernel
theorem d_Ke_needRoomIn_47 : decode b_Ke_needRoomIn 47 = .ok (.bipush 12, 2) := by decide +kernel
theorem d_Ke_needRoomIn_49 : decode b_Ke_needRoomIn 49 = .ok (.if_icmp .ge 7, 3) := by decide +kernel
theorem d_Ke_needRoomIn_52 : decode b_Ke_needRoomIn 52 = .ok (.iconst 1, 1) := by decide +kernel
theorem d_Ke_needRoomIn_53 : decode b_Ke_needRoomIn 53 = .ok (.goto 4, 3) := by decide +kernel
theorem d_Ke_needRoomIn_56 : decode b_Ke_needRoomIn 56 = .ok (.iconst 0, 1) := by decide +kernel
theorem d_Ke_needRoomIn_57 : decode b_Ke_needRoomIn 57 = .ok (.invokestatic 60, 3) := by decide +kernel
theorem d_Ke_needRoomIn_60 : decode b_Ke_needRoomIn 60 = .ok (.return_, 1) := by decide +kernel
end
section
theorem d_Mo_init_0 : decode b_Mo_init 0 = .ok (.aload_n 0, 1) := by decide +kernel
theorem d_Mo_init_1 : decode b_Mo_init 1 = .ok (.invokespecial 1, 3) := by decide +kernel
theorem d_Mo_init_4 : decode b_Mo_init 4 = .ok (.aload_n 0, 1) := by decide +kernel
theorem d_Mo_init_5 : decode b_Mo_init 5 = .ok (.sipush 1552, 3) := by decide +kernel
theorem d_Mo_init_8 : decode b_Mo_init 8 = .ok (.newarray .int, 2) := by decide +kernel
theorem d_Mo_init_10 : decode b_Mo_init 10 = .ok (.putfield 7, 3) := by decide +kernel
theorem d_Mo_init_13 : decode b_Mo_init 13 = .ok (.aload_n 0, 1) := by decide +kernel
theorem d_Mo_init_14 : decode b_Mo_init 14 = .ok (.sipush 1552, 3) := by decide +kernel
theorem d_Mo_init_17 : decode b_Mo_init 17 = .ok (.newarray .int, 2) := by decide +kernel
theorem d_Mo_init_19 : decode b_Mo_init 19 = .ok (.putfield 13, 3) := by decide +kernel
theorem d_Mo_init_22 : decode b_Mo_init 22 = .ok (.iconst 0, 1) := by decide +kernel
theorem d_Mo_init_23 : decode b_Mo_init 23 = .ok (.istore_n 1, 1) := by decide +kernel
theorem d_Mo_init_24 : decode b_Mo_init 24 = .ok (.iload_n 1, 1) := by decide +kernel
theorem d_Mo_init_25 : decode b_Mo_init 25 = .ok (.bipush 8, 2) := by decide +kernel
theorem d_Mo_init_27 : decode b_Mo_init 27 = .ok (.if_icmp .ge 31, 3) := by decide +kernel
theorem d_Mo_init_30 : decode b_Mo_init 30 = .ok (.aload_n 0, 1) := by decide +kernel
theorem d_Mo_init_31 : decode b_Mo_init 31 = .ok (.getfield 7, 3) := by decide +kernel
theorem d_Mo_init_34 : decode b_Mo_init 34 = .ok (.sipush 1037, 3) := by decide +kernel
theorem d_Mo_init_37 : decode b_Mo_init 37 = .ok (.iload_n 1, 1) := by decide +kernel
theorem d_Mo_init_38 : decode b_Mo_init 38 = .ok (.iadd, 1) := by decide +kernel
theorem d_Mo_init_39 : decode b_Mo_init 39 = .ok (.iconst 1, 1) := by decide +kernel
theorem d_Mo_init_40 : decode b_Mo_init 40 = .ok (.iastore, 1) := by decide +kernel
theorem d_Mo_init_41 : decode b_Mo_init 41 = .ok (.aload_n 0, 1) := by decide +kernel
theorem d_Mo_init_42 : decode b_Mo_init 42 = .ok (.getfield 7, 3) := by decide +kernel
theorem d_Mo_init_45 : decode b_Mo_init 45 = .ok (.sipush 1045, 3) := by decide +kernel
theorem d_Mo_init_48 : decode b_Mo_init 48 = .ok (.iload_n 1, 1) := by decide +kernel
theorem d_Mo_init_49 : decode b_Mo_init 49 = .ok (.iadd, 1) := by decide +kernel
theorem d_Mo_init_50 : decode b_Mo_init 50 = .ok (.iconst 2, 1) := by decide +kernel
theorem d_Mo_init_51 : decode b_Mo_init 51 = .ok (.iastore, 1) := by decide +kernel
theorem d_Mo_init_52 : decode b_Mo_init 52 = .ok (.iinc 1 1, 3) := by decide +kernel
theorem d_Mo_init_55 : decode b_Mo_init 55 = .ok (.goto (-31), 3) := by decide +kernel
theorem d_Mo_init_58 : decode b_Mo_init 58 = .ok (.aload_n 0, 1) := by decide +kernel
theorem d_Mo_init_59 : decode b_Mo_init 59 = .ok (.getfield 7, 3) := by decide +kernel
theorem d_Mo_init_62 : decode b_Mo_init 62 = .ok (.sipush 1550, 3) := by decide +kernel
theorem d_Mo_init_65 : decode b_Mo_init 65 = .ok (.iconst 2, 1) := by decide +kernel
theorem d_Mo_init_66 : decode b_Mo_init 66 = .ok (.iastore, 1) := by decide +kernel
theorem d_Mo_init_67 : decode b_Mo_init 67 = .ok (.aload_n 0, 1) := by decide +kernel
theorem d_Mo_init_68 : decode b_Mo_init 68 = .ok (.getfield 7, 3) := by decide +kernel
theorem d_Mo_init_71 : decode b_Mo_init 71 = .ok (.sipush 1549, 3) := by decide +kernel
theorem d_Mo_init_74 : decode b_Mo_init 74 = .ok (.iconst 2, 1) := by decide +kernel
theorem d_Mo_init_75 : decode b_Mo_init 75 = .ok (.iastore, 1) := by decide +kernel
theorem d_Mo_init_76 : decode b_Mo_init 76 = .ok (.aload_n 0, 1) := by decide +kernel
theorem d_Mo_init_77 : decode b_Mo_init 77 = .ok (.getfield 7, 3) := by decide +kernel
theorem d_Mo_init_80 : decode b_Mo_init 80 = .ok (.bipush 17, 2) := by decide +kernel
theorem d_Mo_init_82 : decode b_Mo_init 82 = .ok (.iconst 1, 1) := by decide +kernel
theorem d_Mo_init_83 : decode b_Mo_init 83 = .ok (.iastore, 1) := by decide +kernel
theorem d_Mo_init_84 : decode b_Mo_init 84 = .ok (.aload_n 0, 1) := by decide +kernel
theorem d_Mo_init_85 : decode b_Mo_init 85 = .ok (.getfield 7, 3) := by decide +kernel
theorem d_Mo_init_88 : decode b_Mo_init 88 = .ok (.bipush 20, 2) := by decide +kernel
theorem d_Mo_init_90 : decode b_Mo_init 90 = .ok (.sipush 200, 3) := by decide +kernel
theorem d_Mo_init_93 : decode b_Mo_init 93 = .ok (.iastore, 1) := by decide +kernel
theorem d_Mo_init_94 : decode b_Mo_init 94 = .ok (.aload_n 0, 1) := by decide +kernel
theorem d_Mo_init_95 : decode b_Mo_init 95 = .ok (.getfield 7, 3) := by decide +kernel
theorem d_Mo_init_98 : decode b_Mo_init 98 = .ok (.bipush 34, 2) := by decide +kernel
theorem d_Mo_init_100 : decode b_Mo_init 100 = .ok (.iconst 1, 1) := by decide +kernel
theorem d_Mo_init_101 : decode b_Mo_init 101 = .ok (.iastore, 1) := by decide +kernel
theorem d_Mo_init_102 : decode b_Mo_init 102 = .ok (.aload_n 0, 1) := by decide +kernel
theorem d_Mo_init_103 : decode b_Mo_init 103 = .ok (.getfield 7, 3) := by decide +kernel
theorem d_Mo_init_106 : decode b_Mo_init 106 = .ok (.bipush 35, 2) := by decide +kernel
theorem d_Mo_init_108 : decode b_Mo_init 108 = .ok (.iconst 3, 1) := by decide +kernel
theorem d_Mo_init_109 : decode b_Mo_init 109 = .ok (.iastore, 1) := by decide +kernel
theorem d_Mo_init_110 : decode b_Mo_init 110 = .ok (.aload_n 0, 1) := by decide +kernel
theorem d_Mo_init_111 : decode b_Mo_init 111 = .ok (.getfield 7, 3) := by decide +kernel
theorem d_Mo_init_114 : decode b_Mo_init 114 = .ok (.bipush 37, 2) := by decide +kernel
theorem d_Mo_init_116 : decode b_Mo_init 116 = .ok (.iconst 2, 1) := by decide +kernel
theorem d_Mo_init_117 : decode b_Mo_init 117 = .ok (.iastore, 1) := by decide +kernel
theorem d_Mo_init_118 : decode b_Mo_init 118 = .ok (.aload_n 0, 1) := by decide +kernel
theorem d_Mo_init_119 : decode b_Mo_init 119 = .ok (.getfield 7, 3) := by decide +kernel
theorem d_Mo_init_122 : decode b_Mo_init 122 = .ok (.bipush 38, 2) := by decide +kernel
theorem d_Mo_init_124 : decode b_Mo_init 124 = .ok (.iconst 1, 1) := by decide +kernel
theorem d_Mo_init_125 : decode b_Mo_init 125 = .ok (.iastore, 1) := by decide +kernel
theorem d_Mo_init_126 : decode b_Mo_init 126 = .ok (.aload_n 0, 1) := by decide +kernel
theorem d_Mo_init_127 : decode b_Mo_init 127 = .ok (.getfield 7, 3) := by decide +kernel
theorem d_Mo_init_130 : decode b_Mo_init 130 = .ok (.bipush 40, 2) := by decide +kernel
theorem d_Mo_init_132 : decode b_Mo_init 132 = .ok (.iconst 1, 1) := by decide +kernel
theorem d_Mo_init_133 : decode b_Mo_init 133 = .ok (.iastore, 1) := by decide +kernel
theorem d_Mo_init_134 : decode b_Mo_init 134 = .ok (.iconst 0, 1) := by decide +kernel
theorem d_Mo_init_135 : decode b_Mo_init 135 = .ok (.istore_n 1, 1) := by decide +kernel
theorem d_Mo_init_136 : decode b_Mo_init 136 = .ok (.iload_n 1, 1) := by decide +kernel
theorem d_Mo_init_137 : decode b_Mo_init 137 = .ok (.sipush 1552, 3) := by decide +kernel
theorem d_Mo_init_140 : decode b_Mo_init 140 = .ok (.if_icmp .ge 21, 3) := by decide +kernel
theorem d_Mo_init_143 : decode b_Mo_init 143 = .ok (.aload_n 0, 1) := by decide +kernel
theorem d_Mo_init_144 : decode b_Mo_init 144 = .ok (.getfield 13, 3) := by decide +kernel
theorem d_Mo_init_147 : decode b_Mo_init 147 = .ok (.iload_n 1, 1) := by decide +kernel
theorem d_Mo_init_148 : decode b_Mo_init 148 = .ok (.aload_n 0, 1) := by decide +kernel
theorem d_Mo_init_149 : decode b_Mo_init 149 = .ok (.getfield 7, 3) := by decide +kernel
theorem d_Mo_init_152 : decode b_Mo_init 152 = .ok (.iload_n 1, 1) := by decide +kernel
theorem d_Mo_init_153 : decode b_Mo_init 153 = .ok (.iaload, 1) := by decide +kernel
theorem d_Mo_init_154 : decode b_Mo_init 154 = .ok (.iastore, 1) := by decide +kernel
theorem d_Mo_init_155 : decode b_Mo_init 155 = .ok (.iinc 1 1, 3) := by decide +kernel
theorem d_Mo_init_158 : decode b_Mo_init 158 = .ok (.goto (-22), 3) := by decide +kernel
theorem d_Mo_init_161 : decode b_Mo_init 161 = .ok (.return_, 1) := by decide +kernel
theorem d_Mo_within_0 : decode b_Mo_within 0 = .ok (.iload_n 0, 1) := by decide +kernel
theorem d_Mo_within_1 : decode b_Mo_within 1 = .ok (.iload_n 1, 1) := by decide +kernel
theorem d_Mo_within_2 : decode b_Mo_within 2 = .ok (.if_icmp .lt 12, 3) := by decide +kernel
theorem d_Mo_within_5 : decode b_Mo_within 5 = .ok (.iload_n 0, 1) := by decide +kernel
theorem d_Mo_within_6 : decode b_Mo_within 6 = .ok (.iload_n 2, 1) := by decide +kernel
theorem d_Mo_within_7 : decode b_Mo_within 7 = .ok (.if_icmp .gt 7, 3) := by decide +kernel
theorem d_Mo_within_10 : decode b_Mo_within 10 = .ok (.iconst 1, 1) := by decide +kernel
theorem d_Mo_within_11 : decode b_Mo_within 11 = .ok (.goto 4, 3) := by decide +kernel
theorem d_Mo_within_14 : decode b_Mo_within 14 = .ok (.iconst 0, 1) := by decide +kernel
theorem d_Mo_within_15 : decode b_Mo_within 15 = .ok (.ireturn, 1) := by decide +kernel
theorem d_Mo_fail_0 : decode b_Mo_fail 0 = .ok (.aload_n 0, 1) := by decide +kernel
theorem d_Mo_fail_1 : decode b_Mo_fail 1 = .ok (.iload_n 1, 1) := by decide +kernel
theorem d_Mo_fail_2 : decode b_Mo_fail 2 = .ok (.putfield 16, 3) := by decide +kernel
theorem d_Mo_fail_5 : decode b_Mo_fail 5 = .ok (.iconst 0, 1) := by decide +kernel
theorem d_Mo_fail_6 : decode b_Mo_fail 6 = .ok (.ireturn, 1) := by decide +kernel
theorem d_Mo_thrown_0 : decode b_Mo_thrown 0 = .ok (.aload_n 0, 1) := by decide +kernel
theorem d_Mo_thrown_1 : decode b_Mo_thrown 1 = .ok (.getfield 16, 3) := by decide +kernel
theorem d_Mo_thrown_4 : decode b_Mo_thrown 4 = .ok (.ireturn, 1) := by decide +kernel
theorem d_Mo_at_0 : decode b_Mo_at 0 = .ok (.aload_n 0, 1) := by decide +kernel
theorem d_Mo_at_1 : decode b_Mo_at 1 = .ok (.getfield 7, 3) := by decide +kernel
theorem d_Mo_at_4 : decode b_Mo_at 4 = .ok (.bipush 17, 2) := by decide +kernel
theorem d_Mo_at_6 : decode b_Mo_at 6 = .ok (.iload_n 1, 1) := by decide +kernel
theorem d_Mo_at_7 : decode b_Mo_at 7 = .ok (.imul, 1) := by decide +kernel
theorem d_Mo_at_8 : decode b_Mo_at 8 = .ok (.iload_n 2, 1) := by decide +kernel
theorem d_Mo_at_9 : decode b_Mo_at 9 = .ok (.iadd, 1) := by decide +kernel
theorem d_Mo_at_10 : decode b_Mo_at 10 = .ok (.iaload, 1) := by decide +kernel
theorem d_Mo_at_11 : decode b_Mo_at 11 = .ok (.ireturn, 1) := by decide +kernel
theorem d_Mo_lev_0 : decode b_Mo_lev 0 = .ok (.aload_n 0, 1) := by decide +kernel
theorem d_Mo_lev_1 : decode b_Mo_lev 1 = .ok (.getfield 7, 3) := by decide +kernel
theorem d_Mo_lev_4 : decode b_Mo_lev 4 = .ok (.sipush 1037, 3) := by decide +kernel
theorem d_Mo_lev_7 : decode b_Mo_lev 7 = .ok (.bipush 8, 2) := by decide +kernel
theorem d_Mo_lev_9 : decode b_Mo_lev 9 = .ok (.iload_n 1, 1) := by decide +kernel
theorem d_Mo_lev_10 : decode b_Mo_lev 10 = .ok (.imul, 1) := by decide +kernel
theorem d_Mo_lev_11 : decode b_Mo_lev 11 = .ok (.iadd, 1) := by decide +kernel
theorem d_Mo_lev_12 : decode b_Mo_lev 12 = .ok (.iload_n 2, 1) := by decide +kernel
theorem d_Mo_lev_13 : decode b_Mo_lev 13 = .ok (.iadd, 1) := by decide +kernel
theorem d_Mo_lev_14 : decode b_Mo_lev 14 = .ok (.iaload, 1) := by decide +kernel
theorem d_Mo_lev_15 : decode b_Mo_lev 15 = .ok (.ireturn, 1) := by decide +kernel
theorem d_Mo_low_0 : decode b_Mo_low 0 = .ok (.iload_n 0, 1) := by decide +kernel
theorem d_Mo_low_1 : decode b_Mo_low 1 = .ok (.iconst 4, 1) := by decide +kernel
theorem d_Mo_low_2 : decode b_Mo_low 2 = .ok (.if_icmp .ne 7, 3) := by decide +kernel
theorem d_Mo_low_5 : decode b_Mo_low 5 = .ok (.iconst (-1), 1) := by decide +kernel
theorem d_Mo_low_6 : decode b_Mo_low 6 = .ok (.goto 4, 3) := by decide +kernel
theorem d_Mo_low_9 : decode b_Mo_low 9 = .ok (.iload_n 0, 1) := by decide +kernel
theorem d_Mo_low_10 : decode b_Mo_low 10 = .ok (.ireturn, 1) := by decide +kernel
theorem d_Mo_under_0 : decode b_Mo_under 0 = .ok (.iconst 0, 1) := by decide +kernel
theorem d_Mo_under_1 : decode b_Mo_under 1 = .ok (.istore 4, 2) := by decide +kernel
theorem d_Mo_under_3 : decode b_Mo_under 3 = .ok (.iload 4, 2) := by decide +kernel
theorem d_Mo_under_5 : decode b_Mo_under 5 = .ok (.bipush 8, 2) := by decide +kernel
theorem d_Mo_under_7 : decode b_Mo_under 7 = .ok (.if_icmp .ge 57, 3) := by decide +kernel
theorem d_Mo_under_10 : decode b_Mo_under 10 = .ok (.iload_n 3, 1) := by decide +kernel
theorem d_Mo_under_11 : decode b_Mo_under 11 = .ok (.ifCond .eq 18, 3) := by decide +kernel
theorem d_Mo_under_14 : decode b_Mo_under 14 = .ok (.aload_n 0, 1) := by decide +kernel
theorem d_Mo_under_15 : decode b_Mo_under 15 = .ok (.iload_n 2, 1) := by decide +kernel
theorem d_Mo_under_16 : decode b_Mo_under 16 = .ok (.iload 4, 2) := by decide +kernel
theorem d_Mo_under_18 : decode b_Mo_under 18 = .ok (.invokevirtual 20, 3) := by decide +kernel
theorem d_Mo_under_21 : decode b_Mo_under 21 = .ok (.iconst 4, 1) := by decide +kernel
theorem d_Mo_under_22 : decode b_Mo_under 22 = .ok (.if_icmp .ne 7, 3) := by decide +kernel
theorem d_Mo_under_25 : decode b_Mo_under 25 = .ok (.iconst 5, 1) := by decide +kernel
theorem d_Mo_under_26 : decode b_Mo_under 26 = .ok (.goto 13, 3) := by decide +kernel
theorem d_Mo_under_29 : decode b_Mo_under 29 = .ok (.aload_n 0, 1) := by decide +kernel
theorem d_Mo_under_30 : decode b_Mo_under 30 = .ok (.iload_n 2, 1) := by decide +kernel
theorem d_Mo_under_31 : decode b_Mo_under 31 = .ok (.iload 4, 2) := by decide +kernel
theorem d_Mo_under_33 : decode b_Mo_under 33 = .ok (.invokevirtual 20, 3) := by decide +kernel
theorem d_Mo_under_36 : decode b_Mo_under 36 = .ok (.invokestatic 24, 3) := by decide +kernel
theorem d_Mo_under_39 : decode b_Mo_under 39 = .ok (.istore 5, 2) := by decide +kernel
theorem d_Mo_under_41 : decode b_Mo_under 41 = .ok (.aload_n 0, 1) := by decide +kernel
theorem d_Mo_under_42 : decode b_Mo_under 42 = .ok (.iload_n 1, 1) := by decide +kernel
theorem d_Mo_under_43 : decode b_Mo_under 43 = .ok (.iload 4, 2) := by decide +kernel
theorem d_Mo_under_45 : decode b_Mo_under 45 = .ok (.invokevirtual 20, 3) := by decide +kernel
theorem d_Mo_under_48 : decode b_Mo_under 48 = .ok (.invokestatic 24, 3) := by decide +kernel
theorem d_Mo_under_51 : decode b_Mo_under 51 = .ok (.iload 5, 2) := by decide +kernel
theorem d_Mo_under_53 : decode b_Mo_under 53 = .ok (.if_icmp .le 5, 3) := by decide +kernel
theorem d_Mo_under_56 : decode b_Mo_under 56 = .ok (.iconst 0, 1) := by decide +kernel
theorem d_Mo_under_57 : decode b_Mo_under 57 = .ok (.ireturn, 1) := by decide +kernel
theorem d_Mo_under_58 : decode b_Mo_under 58 = .ok (.iinc 4 1, 3) := by decide +kernel
theorem d_Mo_under_61 : decode b_Mo_under 61 = .ok (.goto (-58), 3) := by decide +kernel
theorem d_Mo_under_64 : decode b_Mo_under 64 = .ok (.iconst 1, 1) := by decide +kernel
theorem d_Mo_under_65 : decode b_Mo_under 65 = .ok (.ireturn, 1) := by decide +kernel
theorem d_Mo_isLabel_0 : decode b_Mo_isLabel 0 = .ok (.iload_n 1, 1) := by decide +kernel
theorem d_Mo_isLabel_1 : decode b_Mo_isLabel 1 = .ok (.iconst 0, 1) := by decide +kernel
theorem d_Mo_isLabel_2 : decode b_Mo_isLabel 2 = .ok (.aload_n 0, 1) := by decide +kernel
theorem d_Mo_isLabel_3 : decode b_Mo_isLabel 3 = .ok (.getfield 7, 3) := by decide +kernel
theorem d_Mo_isLabel_6 : decode b_Mo_isLabel 6 = .ok (.sipush 1550, 3) := by decide +kernel
theorem d_Mo_isLabel_9 : decode b_Mo_isLabel 9 = .ok (.iaload, 1) := by decide +kernel
theorem d_Mo_isLabel_10 : decode b_Mo_isLabel 10 = .ok (.iconst 1, 1) := by decide +kernel
theorem d_Mo_isLabel_11 : decode b_Mo_isLabel 11 = .ok (.isub, 1) := by decide +kernel
theorem d_Mo_isLabel_12 : decode b_Mo_isLabel 12 = .ok (.invokestatic 28, 3) := by decide +kernel
theorem d_Mo_isLabel_15 : decode b_Mo_isLabel 15 = .ok (.ireturn, 1) := by decide +kernel
theorem d_Mo_starless_0 : decode b_Mo_starless 0 = .ok (.iconst 0, 1) := by decide +kernel
theorem d_Mo_starless_1 : decode b_Mo_starless 1 = .ok (.istore_n 2, 1) := by decide +kernel
theorem d_Mo_starless_2 : decode b_Mo_starless 2 = .ok (.iload_n 2, 1) := by decide +kernel
theorem d_Mo_starless_3 : decode b_Mo_starless 3 = .ok (.bipush 8, 2) := by decide +kernel
theorem d_Mo_starless_5 : decode b_Mo_starless 5 = .ok (.if_icmp .ge 21, 3) := by decide +kernel
theorem d_Mo_starless_8 : decode b_Mo_starless 8 = .ok (.aload_n 0, 1) := by decide +kernel
theorem d_Mo_starless_9 : decode b_Mo_starless 9 = .ok (.iload_n 1, 1) := by decide +kernel
theorem d_Mo_starless_10 : decode b_Mo_starless 10 = .ok (.iload_n 2, 1) := by decide +kernel
theorem d_Mo_starless_11 : decode b_Mo_starless 11 = .ok (.invokevirtual 20, 3) := by decide +kernel
theorem d_Mo_starless_14 : decode b_Mo_starless 14 = .ok (.iconst 4, 1) := by decide +kernel
theorem d_Mo_starless_15 : decode b_Mo_starless 15 = .ok (.if_icmp .ne 5, 3) := by decide +kernel
theorem d_Mo_starless_18 : decode b_Mo_starless 18 = .ok (.iconst 0, 1) := by decide +kernel
theorem d_Mo_starless_19 : decode b_Mo_starless 19 = .ok (.ireturn, 1) := by decide +kernel
theorem d_Mo_starless_20 : decode b_Mo_starless 20 = .ok (.iinc 2 1, 3) := by decide +kernel
theorem d_Mo_starless_23 : decode b_Mo_starless 23 = .ok (.goto (-21), 3) := by decide +kernel
theorem d_Mo_starless_26 : decode b_Mo_starless 26 = .ok (.iconst 1, 1) := by decide +kernel
theorem d_Mo_starless_27 : decode b_Mo_starless 27 = .ok (.ireturn, 1) := by decide +kernel
theorem d_Mo_there_0 : decode b_Mo_there 0 = .ok (.iload_n 1, 1) := by decide +kernel
theorem d_Mo_there_1 : decode b_Mo_there 1 = .ok (.iconst 1, 1) := by decide +kernel
theorem d_Mo_there_2 : decode b_Mo_there 2 = .ok (.aload_n 0, 1) := by decide +kernel
theorem d_Mo_there_3 : decode b_Mo_there 3 = .ok (.getfield 7, 3) := by decide +kernel
theorem d_Mo_there_6 : decode b_Mo_there 6 = .ok (.sipush 1549, 3) := by decide +kernel
theorem d_Mo_there_9 : decode b_Mo_there 9 = .ok (.iaload, 1) := by decide +kernel
theorem d_Mo_there_10 : decode b_Mo_there 10 = .ok (.invokestatic 28, 3) := by decide +kernel
theorem d_Mo_there_13 : decode b_Mo_there 13 = .ok (.ifCond .eq 17, 3) := by decide +kernel
theorem d_Mo_there_16 : decode b_Mo_there 16 = .ok (.aload_n 0, 1) := by decide +kernel
theorem d_Mo_there_17 : decode b_Mo_there 17 = .ok (.iload_n 1, 1) := by decide +kernel
theorem d_Mo_there_18 : decode b_Mo_there 18 = .ok (.iconst 0, 1) := by decide +kernel
theorem d_Mo_there_19 : decode b_Mo_there 19 = .ok (.invokevirtual 32, 3) := by decide +kernel
theorem d_Mo_there_22 : decode b_Mo_there 22 = .ok (.iconst 1, 1) := by decide +kernel
theorem d_Mo_there_23 : decode b_Mo_there 23 = .ok (.if_icmp .ne 7, 3) := by decide +kernel
theorem d_Mo_there_26 : decode b_Mo_there 26 = .ok (.iconst 1, 1) := by decide +kernel
theorem d_Mo_there_27 : decode b_Mo_there 27 = .ok (.goto 4, 3) := by decide +kernel
theorem d_Mo_there_30 : decode b_Mo_there 30 = .ok (.iconst 0, 1) := by decide +kernel
theorem d_Mo_there_31 : decode b_Mo_there 31 = .ok (.ireturn, 1) := by decide +kernel
theorem d_Mo_sees_0 : decode b_Mo_sees 0 = .ok (.aload_n 0, 1) := by decide +kernel
theorem d_Mo_sees_1 : decode b_Mo_sees 1 = .ok (.aload_n 0, 1) := by decide +kernel
theorem d_Mo_sees_2 : decode b_Mo_sees 2 = .ok (.iload_n 2, 1) := by decide +kernel
theorem d_Mo_sees_3 : decode b_Mo_sees 3 = .ok (.iconst 2, 1) := by decide +kernel
theorem d_Mo_sees_4 : decode b_Mo_sees 4 = .ok (.invokevirtual 32, 3) := by decide +kernel
theorem d_Mo_sees_7 : decode b_Mo_sees 7 = .ok (.aload_n 0, 1) := by decide +kernel
theorem d_Mo_sees_8 : decode b_Mo_sees 8 = .ok (.iload_n 1, 1) := by decide +kernel
theorem d_Mo_sees_9 : decode b_Mo_sees 9 = .ok (.iconst 2, 1) := by decide +kernel
theorem d_Mo_sees_10 : decode b_Mo_sees 10 = .ok (.invokevirtual 32, 3) := by decide +kernel
theorem d_Mo_sees_13 : decode b_Mo_sees 13 = .ok (.iconst 1, 1) := by decide +kernel
theorem d_Mo_sees_14 : decode b_Mo_sees 14 = .ok (.invokevirtual 35, 3) := by decide +kernel
theorem d_Mo_sees_17 : decode b_Mo_sees 17 = .ok (.ireturn, 1) := by decide +kernel
theorem d_Mo_changes_0 : decode b_Mo_changes 0 = .ok (.aload_n 0, 1) := by decide +kernel
theorem d_Mo_changes_1 : decode b_Mo_changes 1 = .ok (.iload_n 1, 1) := by decide +kernel
theorem d_Mo_changes_2 : decode b_Mo_changes 2 = .ok (.iload_n 2, 1) := by decide +kernel
theorem d_Mo_changes_3 : decode b_Mo_changes 3 = .ok (.invokevirtual 39, 3) := by decide +kernel
theorem d_Mo_changes_6 : decode b_Mo_changes 6 = .ok (.ifCond .eq 27, 3) := by decide +kernel
theorem d_Mo_changes_9 : decode b_Mo_changes 9 = .ok (.aload_n 0, 1) := by decide +kernel
theorem d_Mo_changes_10 : decode b_Mo_changes 10 = .ok (.aload_n 0, 1) := by decide +kernel
theorem d_Mo_changes_11 : decode b_Mo_changes 11 = .ok (.iload_n 1, 1) := by decide +kernel
theorem d_Mo_changes_12 : decode b_Mo_changes 12 = .ok (.iconst 2, 1) := by decide +kernel
theorem d_Mo_changes_13 : decode b_Mo_changes 13 = .ok (.invokevirtual 32, 3) := by decide +kernel
theorem d_Mo_changes_16 : decode b_Mo_changes 16 = .ok (.aload_n 0, 1) := by decide +kernel
theorem d_Mo_changes_17 : decode b_Mo_changes 17 = .ok (.iload_n 2, 1) := by decide +kernel
theorem d_Mo_changes_18 : decode b_Mo_changes 18 = .ok (.iconst 2, 1) := by decide +kernel
theorem d_Mo_changes_19 : decode b_Mo_changes 19 = .ok (.invokevirtual 32, 3) := by decide +kernel
theorem d_Mo_changes_22 : decode b_Mo_changes 22 = .ok (.iconst 0, 1) := by decide +kernel
theorem d_Mo_changes_23 : decode b_Mo_changes 23 = .ok (.invokevirtual 35, 3) := by decide +kernel
theorem d_Mo_changes_26 : decode b_Mo_changes 26 = .ok (.ifCond .eq 7, 3) := by decide +kernel
theorem d_Mo_changes_29 : decode b_Mo_changes 29 = .ok (.iconst 1, 1) := by decide +kernel
theorem d_Mo_changes_30 : decode b_Mo_changes 30 = .ok (.goto 4, 3) := by decide +kernel
theorem d_Mo_changes_33 : decode b_Mo_changes 33 = .ok (.iconst 0, 1) := by decide +kernel
theorem d_Mo_changes_34 : decode b_Mo_changes 34 = .ok (.ireturn, 1) := by decide +kernel
theorem d_Mo_use_0 : decode b_Mo_use 0 = .ok (.aload_n 0, 1) := by decide +kernel
theorem d_Mo_use_1 : decode b_Mo_use 1 = .ok (.iload_n 1, 1) := by decide +kernel
theorem d_Mo_use_2 : decode b_Mo_use 2 = .ok (.iconst 1, 1) := by decide +kernel
theorem d_Mo_use_3 : decode b_Mo_use 3 = .ok (.invokevirtual 32, 3) := by decide +kernel
theorem d_Mo_use_6 : decode b_Mo_use 6 = .ok (.iconst 1, 1) := by decide +kernel
theorem d_Mo_use_7 : decode b_Mo_use 7 = .ok (.if_icmp .ne 13, 3) := by decide +kernel
theorem d_Mo_use_10 : decode b_Mo_use 10 = .ok (.iconst 1, 1) := by decide +kernel
theorem d_Mo_use_11 : decode b_Mo_use 11 = .ok (.aload_n 0, 1) := by decide +kernel
theorem d_Mo_use_12 : decode b_Mo_use 12 = .ok (.iload_n 1, 1) := by decide +kernel
theorem d_Mo_use_13 : decode b_Mo_use 13 = .ok (.bipush 8, 2) := by decide +kernel
theorem d_Mo_use_15 : decode b_Mo_use 15 = .ok (.invokevirtual 32, 3) := by decide +kernel
theorem d_Mo_use_18 : decode b_Mo_use 18 = .ok (.iadd, 1) := by decide +kernel
theorem d_Mo_use_19 : decode b_Mo_use 19 = .ok (.ireturn, 1) := by decide +kernel
theorem d_Mo_use_20 : decode b_Mo_use 20 = .ok (.aload_n 0, 1) := by decide +kernel
theorem d_Mo_use_21 : decode b_Mo_use 21 = .ok (.iload_n 1, 1) := by decide +kernel
theorem d_Mo_use_22 : decode b_Mo_use 22 = .ok (.iconst 1, 1) := by decide +kernel
theorem d_Mo_use_23 : decode b_Mo_use 23 = .ok (.invokevirtual 32, 3) := by decide +kernel
theorem d_Mo_use_26 : decode b_Mo_use 26 = .ok (.ifCond .eq 5, 3) := by decide +kernel
theorem d_Mo_use_29 : decode b_Mo_use 29 = .ok (.iconst 2, 1) := by decide +kernel
theorem d_Mo_use_30 : decode b_Mo_use 30 = .ok (.ireturn, 1) := by decide +kernel
theorem d_Mo_use_31 : decode b_Mo_use 31 = .ok (.iconst 1, 1) := by decide +kernel
theorem d_Mo_use_32 : decode b_Mo_use 32 = .ok (.istore_n 2, 1) := by decide +kernel
theorem d_Mo_use_33 : decode b_Mo_use 33 = .ok (.iconst 1, 1) := by decide +kernel
theorem d_Mo_use_34 : decode b_Mo_use 34 = .ok (.istore_n 3, 1) := by decide +kernel
theorem d_Mo_use_35 : decode b_Mo_use 35 = .ok (.iload_n 3, 1) := by decide +kernel
theorem d_Mo_use_36 : decode b_Mo_use 36 = .ok (.aload_n 0, 1) := by decide +kernel
theorem d_Mo_use_37 : decode b_Mo_use 37 = .ok (.getfield 7, 3) := by decide +kernel
theorem d_Mo_use_40 : decode b_Mo_use 40 = .ok (.sipush 1549, 3) := by decide +kernel
theorem d_Mo_use_43 : decode b_Mo_use 43 = .ok (.iaload, 1) := by decide +kernel
theorem d_Mo_use_44 : decode b_Mo_use 44 = .ok (.if_icmp .gt 36, 3) := by decide +kernel
theorem d_Mo_use_47 : decode b_Mo_use 47 = .ok (.aload_n 0, 1) := by decide +kernel
theorem d_Mo_use_48 : decode b_Mo_use 48 = .ok (.iload_n 3, 1) := by decide +kernel
theorem d_Mo_use_49 : decode b_Mo_use 49 = .ok (.invokevirtual 43, 3) := by decide +kernel
theorem d_Mo_use_52 : decode b_Mo_use 52 = .ok (.ifCond .eq 22, 3) := by decide +kernel
theorem d_Mo_use_55 : decode b_Mo_use 55 = .ok (.aload_n 0, 1) := by decide +kernel
theorem d_Mo_use_56 : decode b_Mo_use 56 = .ok (.iload_n 3, 1) := by decide +kernel
theorem d_Mo_use_57 : decode b_Mo_use 57 = .ok (.iconst 4, 1) := by decide +kernel
theorem d_Mo_use_58 : decode b_Mo_use 58 = .ok (.invokevirtual 32, 3) := by decide +kernel
theorem d_Mo_use_61 : decode b_Mo_use 61 = .ok (.iload_n 1, 1) := by decide +kernel
theorem d_Mo_use_62 : decode b_Mo_use 62 = .ok (.if_icmp .ne 12, 3) := by decide +kernel
theorem d_Mo_use_65 : decode b_Mo_use 65 = .ok (.iload_n 2, 1) := by decide +kernel
theorem d_Mo_use_66 : decode b_Mo_use 66 = .ok (.aload_n 0, 1) := by decide +kernel
theorem d_Mo_use_67 : decode b_Mo_use 67 = .ok (.iload_n 3, 1) := by decide +kernel
theorem d_Mo_use_68 : decode b_Mo_use 68 = .ok (.iconst 3, 1) := by decide +kernel
theorem d_Mo_use_69 : decode b_Mo_use 69 = .ok (.invokevirtual 32, 3) := by decide +kernel
theorem d_Mo_use_72 : decode b_Mo_use 72 = .ok (.iadd, 1) := by decide +kernel
theorem d_Mo_use_73 : decode b_Mo_use 73 = .ok (.istore_n 2, 1) := by decide +kernel
theorem d_Mo_use_74 : decode b_Mo_use 74 = .ok (.iinc 3 1, 3) := by decide +kernel
theorem d_Mo_use_77 : decode b_Mo_use 77 = .ok (.goto (-42), 3) := by decide +kernel
theorem d_Mo_use_80 : decode b_Mo_use 80 = .ok (.iload_n 2, 1) := by decide +kernel
theorem d_Mo_use_81 : decode b_Mo_use 81 = .ok (.ireturn, 1) := by decide +kernel
theorem d_Mo_like_0 : decode b_Mo_like 0 = .ok (.iconst 0, 1) := by decide +kernel
theorem d_Mo_like_1 : decode b_Mo_like 1 = .ok (.istore 4, 2) := by decide +kernel
theorem d_Mo_like_3 : decode b_Mo_like 3 = .ok (.iload 4, 2) := by decide +kernel
theorem d_Mo_like_5 : decode b_Mo_like 5 = .ok (.aload_n 0, 1) := by decide +kernel
theorem d_Mo_like_6 : decode b_Mo_like 6 = .ok (.getfield 7, 3) := by decide +kernel
theorem d_Mo_like_9 : decode b_Mo_like 9 = .ok (.sipush 1550, 3) := by decide +kernel
theorem d_Mo_like_12 : decode b_Mo_like 12 = .ok (.iaload, 1) := by decide +kernel
theorem d_Mo_like_13 : decode b_Mo_like 13 = .ok (.if_icmp .ge 67, 3) := by decide +kernel
theorem d_Mo_like_16 : decode b_Mo_like 16 = .ok (.iconst 1, 1) := by decide +kernel
theorem d_Mo_like_17 : decode b_Mo_like 17 = .ok (.istore 5, 2) := by decide +kernel
theorem d_Mo_like_19 : decode b_Mo_like 19 = .ok (.iconst 0, 1) := by decide +kernel
theorem d_Mo_like_20 : decode b_Mo_like 20 = .ok (.istore 6, 2) := by decide +kernel
theorem d_Mo_like_22 : decode b_Mo_like 22 = .ok (.iload 6, 2) := by decide +kernel
theorem d_Mo_like_24 : decode b_Mo_like 24 = .ok (.bipush 8, 2) := by decide +kernel
theorem d_Mo_like_26 : decode b_Mo_like 26 = .ok (.if_icmp .ge 40, 3) := by decide +kernel
theorem d_Mo_like_29 : decode b_Mo_like 29 = .ok (.aload_n 0, 1) := by decide +kernel
theorem d_Mo_like_30 : decode b_Mo_like 30 = .ok (.iload 4, 2) := by decide +kernel
theorem d_Mo_like_32 : decode b_Mo_like 32 = .ok (.iload 6, 2) := by decide +kernel
theorem d_Mo_like_34 : decode b_Mo_like 34 = .ok (.invokevirtual 20, 3) := by decide +kernel
theorem d_Mo_like_37 : decode b_Mo_like 37 = .ok (.iload 6, 2) := by decide +kernel
theorem d_Mo_like_39 : decode b_Mo_like 39 = .ok (.iload_n 2, 1) := by decide +kernel
theorem d_Mo_like_40 : decode b_Mo_like 40 = .ok (.if_icmp .ne 7, 3) := by decide +kernel
theorem d_Mo_like_43 : decode b_Mo_like 43 = .ok (.iload_n 3, 1) := by decide +kernel
theorem d_Mo_like_44 : decode b_Mo_like 44 = .ok (.goto 10, 3) := by decide +kernel
theorem d_Mo_like_47 : decode b_Mo_like 47 = .ok (.aload_n 0, 1) := by decide +kernel
theorem d_Mo_like_48 : decode b_Mo_like 48 = .ok (.iload_n 1, 1) := by decide +kernel
theorem d_Mo_like_49 : decode b_Mo_like 49 = .ok (.iload 6, 2) := by decide +kernel
theorem d_Mo_like_51 : decode b_Mo_like 51 = .ok (.invokevirtual 20, 3) := by decide +kernel
theorem d_Mo_like_54 : decode b_Mo_like 54 = .ok (.if_icmp .eq 6, 3) := by decide +kernel
theorem d_Mo_like_57 : decode b_Mo_like 57 = .ok (.iconst 0, 1) := by decide +kernel
theorem d_Mo_like_58 : decode b_Mo_like 58 = .ok (.istore 5, 2) := by decide +kernel
theorem d_Mo_like_60 : decode b_Mo_like 60 = .ok (.iinc 6 1, 3) := by decide +kernel
theorem d_Mo_like_63 : decode b_Mo_like 63 = .ok (.goto (-41), 3) := by decide +kernel
theorem d_Mo_like_66 : decode b_Mo_like 66 = .ok (.iload 5, 2) := by decide +kernel
theorem d_Mo_like_68 : decode b_Mo_like 68 = .ok (.ifCond .eq 6, 3) := by decide +kernel
theorem d_Mo_like_71 : decode b_Mo_like 71 = .ok (.iload 4, 2) := by decide +kernel
theorem d_Mo_like_73 : decode b_Mo_like 73 = .ok (.ireturn, 1) := by decide +kernel
theorem d_Mo_like_74 : decode b_Mo_like 74 = .ok (.iinc 4 1, 3) := by decide +kernel
theorem d_Mo_like_77 : decode b_Mo_like 77 = .ok (.goto (-74), 3) := by decide +kernel
theorem d_Mo_like_80 : decode b_Mo_like 80 = .ok (.iconst (-1), 1) := by decide +kernel
theorem d_Mo_like_81 : decode b_Mo_like 81 = .ok (.ireturn, 1) := by decide +kernel
theorem d_Mo_made_0 : decode b_Mo_made 0 = .ok (.aload_n 0, 1) := by decide +kernel
theorem d_Mo_made_1 : decode b_Mo_made 1 = .ok (.iload_n 1, 1) := by decide +kernel
theorem d_Mo_made_2 : decode b_Mo_made 2 = .ok (.iload_n 2, 1) := by decide +kernel
theorem d_Mo_made_3 : decode b_Mo_made 3 = .ok (.iload_n 3, 1) := by decide +kernel
theorem d_Mo_made_4 : decode b_Mo_made 4 = .ok (.invokevirtual 47, 3) := by decide +kernel
theorem d_Mo_made_7 : decode b_Mo_made 7 = .ok (.istore 4, 2) := by decide +kernel
theorem d_Mo_made_9 : decode b_Mo_made 9 = .ok (.iload 4, 2) := by decide +kernel
theorem d_Mo_made_11 : decode b_Mo_made 11 = .ok (.ifCond .lt 6, 3) := by decide +kernel
theorem d_Mo_made_14 : decode b_Mo_made 14 = .ok (.iload 4, 2) := by decide +kernel
theorem d_Mo_made_16 : decode b_Mo_made 16 = .ok (.ireturn, 1) := by decide +kernel
theorem d_Mo_made_17 : decode b_Mo_made 17 = .ok (.aload_n 0, 1) := by decide +kernel
theorem d_Mo_made_18 : decode b_Mo_made 18 = .ok (.getfield 7, 3) := by decide +kernel
theorem d_Mo_made_21 : decode b_Mo_made 21 = .ok (.sipush 1550, 3) := by decide +kernel
theorem d_Mo_made_24 : decode b_Mo_made 24 = .ok (.iaload, 1) := by decide +kernel
theorem d_Mo_made_25 : decode b_Mo_made 25 = .ok (.bipush 60, 2) := by decide +kernel
theorem d_Mo_made_27 : decode b_Mo_made 27 = .ok (.if_icmp .ne 9, 3) := by decide +kernel
theorem d_Mo_made_30 : decode b_Mo_made 30 = .ok (.aload_n 0, 1) := by decide +kernel
theorem d_Mo_made_31 : decode b_Mo_made 31 = .ok (.iconst 4, 1) := by decide +kernel
theorem d_Mo_made_32 : decode b_Mo_made 32 = .ok (.invokevirtual 51, 3) := by decide +kernel
theorem d_Mo_made_35 : decode b_Mo_made 35 = .ok (.ireturn, 1) := by decide +kernel
theorem d_Mo_made_36 : decode b_Mo_made 36 = .ok (.aload_n 0, 1) := by decide +kernel
theorem d_Mo_made_37 : decode b_Mo_made 37 = .ok (.getfield 7, 3) := by decide +kernel
theorem d_Mo_made_40 : decode b_Mo_made 40 = .ok (.sipush 1550, 3) := by decide +kernel
theorem d_Mo_made_43 : decode b_Mo_made 43 = .ok (.iaload, 1) := by decide +kernel
theorem d_Mo_made_44 : decode b_Mo_made 44 = .ok (.istore 4, 2) := by decide +kernel
theorem d_Mo_made_46 : decode b_Mo_made 46 = .ok (.iconst 0, 1) := by decide +kernel
theorem d_Mo_made_47 : decode b_Mo_made 47 = .ok (.istore 5, 2) := by decide +kernel
theorem d_Mo_made_49 : decode b_Mo_made 49 = .ok (.iload 5, 2) := by decide +kernel
theorem d_Mo_made_51 : decode b_Mo_made 51 = .ok (.bipush 8, 2) := by decide +kernel
theorem d_Mo_made_53 : decode b_Mo_made 53 = .ok (.if_icmp .ge 43, 3) := by decide +kernel
theorem d_Mo_made_56 : decode b_Mo_made 56 = .ok (.aload_n 0, 1) := by decide +kernel
theorem d_Mo_made_57 : decode b_Mo_made 57 = .ok (.getfield 7, 3) := by decide +kernel
theorem d_Mo_made_60 : decode b_Mo_made 60 = .ok (.sipush 1037, 3) := by decide +kernel
theorem d_Mo_made_63 : decode b_Mo_made 63 = .ok (.bipush 8, 2) := by decide +kernel
theorem d_Mo_made_65 : decode b_Mo_made 65 = .ok (.iload 4, 2) := by decide +kernel
theorem d_Mo_made_67 : decode b_Mo_made 67 = .ok (.imul, 1) := by decide +kernel
theorem d_Mo_made_68 : decode b_Mo_made 68 = .ok (.iadd, 1) := by decide +kernel
theorem d_Mo_made_69 : decode b_Mo_made 69 = .ok (.iload 5, 2) := by decide +kernel
theorem d_Mo_made_71 : decode b_Mo_made 71 = .ok (.iadd, 1) := by decide +kernel
theorem d_Mo_made_72 : decode b_Mo_made 72 = .ok (.iload 5, 2) := by decide +kernel
theorem d_Mo_made_74 : decode b_Mo_made 74 = .ok (.iload_n 2, 1) := by decide +kernel
theorem d_Mo_made_75 : decode b_Mo_made 75 = .ok (.if_icmp .ne 7, 3) := by decide +kernel
theorem d_Mo_made_78 : decode b_Mo_made 78 = .ok (.iload_n 3, 1) := by decide +kernel
theorem d_Mo_made_79 : decode b_Mo_made 79 = .ok (.goto 10, 3) := by decide +kernel
theorem d_Mo_made_82 : decode b_Mo_made 82 = .ok (.aload_n 0, 1) := by decide +kernel
theorem d_Mo_made_83 : decode b_Mo_made 83 = .ok (.iload_n 1, 1) := by decide +kernel
theorem d_Mo_made_84 : decode b_Mo_made 84 = .ok (.iload 5, 2) := by decide +kernel
theorem d_Mo_made_86 : decode b_Mo_made 86 = .ok (.invokevirtual 20, 3) := by decide +kernel
theorem d_Mo_made_89 : decode b_Mo_made 89 = .ok (.iastore, 1) := by decide +kernel
theorem d_Mo_made_90 : decode b_Mo_made 90 = .ok (.iinc 5 1, 3) := by decide +kernel
theorem d_Mo_made_93 : decode b_Mo_made 93 = .ok (.goto (-44), 3) := by decide +kernel
theorem d_Mo_made_96 : decode b_Mo_made 96 = .ok (.aload_n 0, 1) := by decide +kernel
theorem d_Mo_made_97 : decode b_Mo_made 97 = .ok (.getfield 7, 3) := by decide +kernel
theorem d_Mo_made_100 : decode b_Mo_made 100 = .ok (.sipush 1550, 3) := by decide +kernel
theorem d_Mo_made_103 : decode b_Mo_made 103 = .ok (.dup2, 1) := by decide +kernel
theorem d_Mo_made_104 : decode b_Mo_made 104 = .ok (.iaload, 1) := by decide +kernel
theorem d_Mo_made_105 : decode b_Mo_made 105 = .ok (.iconst 1, 1) := by decide +kernel
theorem d_Mo_made_106 : decode b_Mo_made 106 = .ok (.iadd, 1) := by decide +kernel
theorem d_Mo_made_107 : decode b_Mo_made 107 = .ok (.iastore, 1) := by decide +kernel
theorem d_Mo_made_108 : decode b_Mo_made 108 = .ok (.iload 4, 2) := by decide +kernel
theorem d_Mo_made_110 : decode b_Mo_made 110 = .ok (.ireturn, 1) := by decide +kernel
theorem d_Mo_label_0 : decode b_Mo_label 0 = .ok (.aload_n 0, 1) := by decide +kernel
theorem d_Mo_label_1 : decode b_Mo_label 1 = .ok (.iconst 0, 1) := by decide +kernel
theorem d_Mo_label_2 : decode b_Mo_label 2 = .ok (.putfield 16, 3) := by decide +kernel
theorem d_Mo_label_5 : decode b_Mo_label 5 = .ok (.aload_n 0, 1) := by decide +kernel
theorem d_Mo_label_6 : decode b_Mo_label 6 = .ok (.iload_n 1, 1) := by decide +kernel
theorem d_Mo_label_7 : decode b_Mo_label 7 = .ok (.invokevirtual 54, 3) := by decide +kernel
theorem d_Mo_label_10 : decode b_Mo_label 10 = .ok (.ifCond .eq 22, 3) := by decide +kernel
theorem d_Mo_label_13 : decode b_Mo_label 13 = .ok (.iload_n 2, 1) := by decide +kernel
theorem d_Mo_label_14 : decode b_Mo_label 14 = .ok (.iconst 0, 1) := by decide +kernel
theorem d_Mo_label_15 : decode b_Mo_label 15 = .ok (.bipush 7, 2) := by decide +kernel
theorem d_Mo_label_17 : decode b_Mo_label 17 = .ok (.invokestatic 28, 3) := by decide +kernel
theorem d_Mo_label_20 : decode b_Mo_label 20 = .ok (.ifCond .eq 12, 3) := by decide +kernel
theorem d_Mo_label_23 : decode b_Mo_label 23 = .ok (.iload_n 3, 1) := by decide +kernel
theorem d_Mo_label_24 : decode b_Mo_label 24 = .ok (.iconst 0, 1) := by decide +kernel
theorem d_Mo_label_25 : decode b_Mo_label 25 = .ok (.iconst 4, 1) := by decide +kernel
theorem d_Mo_label_26 : decode b_Mo_label 26 = .ok (.invokestatic 28, 3) := by decide +kernel
theorem d_Mo_label_29 : decode b_Mo_label 29 = .ok (.ifCond .ne 11, 3) := by decide +kernel
theorem d_Mo_label_32 : decode b_Mo_label 32 = .ok (.aload_n 0, 1) := by decide +kernel
theorem d_Mo_label_33 : decode b_Mo_label 33 = .ok (.iconst 1, 1) := by decide +kernel
theorem d_Mo_label_34 : decode b_Mo_label 34 = .ok (.invokevirtual 51, 3) := by decide +kernel
theorem d_Mo_label_37 : decode b_Mo_label 37 = .ok (.goto 10, 3) := by decide +kernel
theorem d_Mo_label_40 : decode b_Mo_label 40 = .ok (.aload_n 0, 1) := by decide +kernel
theorem d_Mo_label_41 : decode b_Mo_label 41 = .ok (.iload_n 1, 1) := by decide +kernel
theorem d_Mo_label_42 : decode b_Mo_label 42 = .ok (.iload_n 2, 1) := by decide +kernel
theorem d_Mo_label_43 : decode b_Mo_label 43 = .ok (.iload_n 3, 1) := by decide +kernel
theorem d_Mo_label_44 : decode b_Mo_label 44 = .ok (.invokevirtual 57, 3) := by decide +kernel
theorem d_Mo_label_47 : decode b_Mo_label 47 = .ok (.ireturn, 1) := by decide +kernel
theorem d_Mo_level_0 : decode b_Mo_level 0 = .ok (.aload_n 0, 1) := by decide +kernel
theorem d_Mo_level_1 : decode b_Mo_level 1 = .ok (.iconst 0, 1) := by decide +kernel
theorem d_Mo_level_2 : decode b_Mo_level 2 = .ok (.putfield 16, 3) := by decide +kernel
theorem d_Mo_level_5 : decode b_Mo_level 5 = .ok (.aload_n 0, 1) := by decide +kernel
theorem d_Mo_level_6 : decode b_Mo_level 6 = .ok (.iload_n 1, 1) := by decide +kernel
theorem d_Mo_level_7 : decode b_Mo_level 7 = .ok (.invokevirtual 54, 3) := by decide +kernel
theorem d_Mo_level_10 : decode b_Mo_level 10 = .ok (.ifCond .eq 13, 3) := by decide +kernel
theorem d_Mo_level_13 : decode b_Mo_level 13 = .ok (.iload_n 2, 1) := by decide +kernel
theorem d_Mo_level_14 : decode b_Mo_level 14 = .ok (.iconst 0, 1) := by decide +kernel
theorem d_Mo_level_15 : decode b_Mo_level 15 = .ok (.bipush 7, 2) := by decide +kernel
theorem d_Mo_level_17 : decode b_Mo_level 17 = .ok (.invokestatic 28, 3) := by decide +kernel
theorem d_Mo_level_20 : decode b_Mo_level 20 = .ok (.ifCond .ne 11, 3) := by decide +kernel
theorem d_Mo_level_23 : decode b_Mo_level 23 = .ok (.aload_n 0, 1) := by decide +kernel
theorem d_Mo_level_24 : decode b_Mo_level 24 = .ok (.iconst 1, 1) := by decide +kernel
theorem d_Mo_level_25 : decode b_Mo_level 25 = .ok (.invokevirtual 51, 3) := by decide +kernel
theorem d_Mo_level_28 : decode b_Mo_level 28 = .ok (.goto 9, 3) := by decide +kernel
theorem d_Mo_level_31 : decode b_Mo_level 31 = .ok (.aload_n 0, 1) := by decide +kernel
theorem d_Mo_level_32 : decode b_Mo_level 32 = .ok (.iload_n 1, 1) := by decide +kernel
theorem d_Mo_level_33 : decode b_Mo_level 33 = .ok (.iload_n 2, 1) := by decide +kernel
theorem d_Mo_level_34 : decode b_Mo_level 34 = .ok (.invokevirtual 20, 3) := by decide +kernel
theorem d_Mo_level_37 : decode b_Mo_level 37 = .ok (.ireturn, 1) := by decide +kernel
theorem d_Mo_fits_0 : decode b_Mo_fits 0 = .ok (.aload_n 0, 1) := by decide +kernel
theorem d_Mo_fits_1 : decode b_Mo_fits 1 = .ok (.iconst 0, 1) := by decide +kernel
theorem d_Mo_fits_2 : decode b_Mo_fits 2 = .ok (.putfield 16, 3) := by decide +kernel
theorem d_Mo_fits_5 : decode b_Mo_fits 5 = .ok (.aload_n 0, 1) := by decide +kernel
theorem d_Mo_fits_6 : decode b_Mo_fits 6 = .ok (.iload_n 1, 1) := by decide +kernel
theorem d_Mo_fits_7 : decode b_Mo_fits 7 = .ok (.invokevirtual 54, 3) := by decide +kernel
theorem d_Mo_fits_10 : decode b_Mo_fits 10 = .ok (.ifCond .eq 19, 3) := by decide +kernel
theorem d_Mo_fits_13 : decode b_Mo_fits 13 = .ok (.aload_n 0, 1) := by decide +kernel
theorem d_Mo_fits_14 : decode b_Mo_fits 14 = .ok (.iload_n 2, 1) := by decide +kernel
theorem d_Mo_fits_15 : decode b_Mo_fits 15 = .ok (.invokevirtual 54, 3) := by decide +kernel
theorem d_Mo_fits_18 : decode b_Mo_fits 18 = .ok (.ifCond .eq 11, 3) := by decide +kernel
theorem d_Mo_fits_21 : decode b_Mo_fits 21 = .ok (.aload_n 0, 1) := by decide +kernel
theorem d_Mo_fits_22 : decode b_Mo_fits 22 = .ok (.iload_n 1, 1) := by decide +kernel
theorem d_Mo_fits_23 : decode b_Mo_fits 23 = .ok (.iload_n 2, 1) := by decide +kernel
theorem d_Mo_fits_24 : decode b_Mo_fits 24 = .ok (.iload_n 3, 1) := by decide +kernel
theorem d_Mo_fits_25 : decode b_Mo_fits 25 = .ok (.invokevirtual 35, 3) := by decide +kernel
theorem d_Mo_fits_28 : decode b_Mo_fits 28 = .ok (.ireturn, 1) := by decide +kernel
theorem d_Mo_fits_29 : decode b_Mo_fits 29 = .ok (.aload_n 0, 1) := by decide +kernel
theorem d_Mo_fits_30 : decode b_Mo_fits 30 = .ok (.iconst 1, 1) := by decide +kernel
theorem d_Mo_fits_31 : decode b_Mo_fits 31 = .ok (.putfield 16, 3) := by decide +kernel
theorem d_Mo_fits_34 : decode b_Mo_fits 34 = .ok (.iconst 0, 1) := by decide +kernel
theorem d_Mo_fits_35 : decode b_Mo_fits 35 = .ok (.ireturn, 1) := by decide +kernel
theorem d_Mo_threadOnly_0 : decode b_Mo_threadOnly 0 = .ok (.aload_n 0, 1) := by decide +kernel
theorem d_Mo_threadOnly_1 : decode b_Mo_threadOnly 1 = .ok (.iload_n 1, 1) := by decide +kernel
theorem d_Mo_threadOnly_2 : decode b_Mo_threadOnly 2 = .ok (.invokevirtual 43, 3) := by decide +kernel
theorem d_Mo_threadOnly_5 : decode b_Mo_threadOnly 5 = .ok (.ifCond .ne 11, 3) := by decide +kernel
theorem d_Mo_threadOnly_8 : decode b_Mo_threadOnly 8 = .ok (.aload_n 0, 1) := by decide +kernel
theorem d_Mo_threadOnly_9 : decode b_Mo_threadOnly 9 = .ok (.iconst 2, 1) := by decide +kernel
theorem d_Mo_threadOnly_10 : decode b_Mo_threadOnly 10 = .ok (.putfield 16, 3) := by decide +kernel
theorem d_Mo_threadOnly_13 : decode b_Mo_threadOnly 13 = .ok (.goto 18, 3) := by decide +kernel
theorem d_Mo_threadOnly_16 : decode b_Mo_threadOnly 16 = .ok (.aload_n 0, 1) := by decide +kernel
theorem d_Mo_threadOnly_17 : decode b_Mo_threadOnly 17 = .ok (.iload_n 1, 1) := by decide +kernel
theorem d_Mo_threadOnly_18 : decode b_Mo_threadOnly 18 = .ok (.iconst 1, 1) := by decide +kernel
theorem d_Mo_threadOnly_19 : decode b_Mo_threadOnly 19 = .ok (.invokevirtual 32, 3) := by decide +kernel
theorem d_Mo_threadOnly_22 : decode b_Mo_threadOnly 22 = .ok (.iconst 3, 1) := by decide +kernel
theorem d_Mo_threadOnly_23 : decode b_Mo_threadOnly 23 = .ok (.if_icmp .eq 8, 3) := by decide +kernel
theorem d_Mo_threadOnly_26 : decode b_Mo_threadOnly 26 = .ok (.aload_n 0, 1) := by decide +kernel
theorem d_Mo_threadOnly_27 : decode b_Mo_threadOnly 27 = .ok (.iconst 1, 1) := by decide +kernel
theorem d_Mo_threadOnly_28 : decode b_Mo_threadOnly 28 = .ok (.putfield 16, 3) := by decide +kernel
theorem d_Mo_threadOnly_31 : decode b_Mo_threadOnly 31 = .ok (.aload_n 0, 1) := by decide +kernel
theorem d_Mo_threadOnly_32 : decode b_Mo_threadOnly 32 = .ok (.getfield 16, 3) := by decide +kernel
theorem d_Mo_threadOnly_35 : decode b_Mo_threadOnly 35 = .ok (.ifCond .ne 7, 3) := by decide +kernel
theorem d_Mo_threadOnly_38 : decode b_Mo_threadOnly 38 = .ok (.iconst 1, 1) := by decide +kernel
theorem d_Mo_threadOnly_39 : decode b_Mo_threadOnly 39 = .ok (.goto 4, 3) := by decide +kernel
theorem d_Mo_threadOnly_42 : decode b_Mo_threadOnly 42 = .ok (.iconst 0, 1) := by decide +kernel
theorem d_Mo_threadOnly_43 : decode b_Mo_threadOnly 43 = .ok (.ireturn, 1) := by decide +kernel
theorem d_Mo_giveCategory_0 : decode b_Mo_giveCategory 0 = .ok (.aload_n 0, 1) := by decide +kernel
theorem d_Mo_giveCategory_1 : decode b_Mo_giveCategory 1 = .ok (.iload_n 1, 1) := by decide +kernel
theorem d_Mo_giveCategory_2 : decode b_Mo_giveCategory 2 = .ok (.invokevirtual 60, 3) := by decide +kernel
theorem d_Mo_giveCategory_5 : decode b_Mo_giveCategory 5 = .ok (.ifCond .ne 5, 3) := by decide +kernel
theorem d_Mo_giveCategory_8 : decode b_Mo_giveCategory 8 = .ok (.iconst 0, 1) := by decide +kernel
theorem d_Mo_giveCategory_9 : decode b_Mo_giveCategory 9 = .ok (.ireturn, 1) := by decide +kernel
theorem d_Mo_giveCategory_10 : decode b_Mo_giveCategory 10 = .ok (.aload_n 0, 1) := by decide +kernel
theorem d_Mo_giveCategory_11 : decode b_Mo_giveCategory 11 = .ok (.getfield 7, 3) := by decide +kernel
theorem d_Mo_giveCategory_14 : decode b_Mo_giveCategory 14 = .ok (.sipush 1551, 3) := by decide +kernel
theorem d_Mo_giveCategory_17 : decode b_Mo_giveCategory 17 = .ok (.iaload, 1) := by decide +kernel
theorem d_Mo_giveCategory_18 : decode b_Mo_giveCategory 18 = .ok (.istore_n 2, 1) := by decide +kernel
theorem d_Mo_giveCategory_19 : decode b_Mo_giveCategory 19 = .ok (.iload_n 2, 1) := by decide +kernel
theorem d_Mo_giveCategory_20 : decode b_Mo_giveCategory 20 = .ok (.bipush 8, 2) := by decide +kernel
theorem d_Mo_giveCategory_22 : decode b_Mo_giveCategory 22 = .ok (.if_icmp .ne 9, 3) := by decide +kernel
theorem d_Mo_giveCategory_25 : decode b_Mo_giveCategory 25 = .ok (.aload_n 0, 1) := by decide +kernel
theorem d_Mo_giveCategory_26 : decode b_Mo_giveCategory 26 = .ok (.iconst 4, 1) := by decide +kernel
theorem d_Mo_giveCategory_27 : decode b_Mo_giveCategory 27 = .ok (.invokevirtual 51, 3) := by decide +kernel
theorem d_Mo_giveCategory_30 : decode b_Mo_giveCategory 30 = .ok (.ireturn, 1) := by decide +kernel
theorem d_Mo_giveCategory_31 : decode b_Mo_giveCategory 31 = .ok (.aload_n 0, 1) := by decide +kernel
theorem d_Mo_giveCategory_32 : decode b_Mo_giveCategory 32 = .ok (.aload_n 0, 1) := by decide +kernel
theorem d_Mo_giveCategory_33 : decode b_Mo_giveCategory 33 = .ok (.iload_n 1, 1) := by decide +kernel
theorem d_Mo_giveCategory_34 : decode b_Mo_giveCategory 34 = .ok (.iconst 2, 1) := by decide +kernel
theorem d_Mo_giveCategory_35 : decode b_Mo_giveCategory 35 = .ok (.invokevirtual 32, 3) := by decide +kernel
theorem d_Mo_giveCategory_38 : decode b_Mo_giveCategory 38 = .ok (.iload_n 2, 1) := by decide +kernel
theorem d_Mo_giveCategory_39 : decode b_Mo_giveCategory 39 = .ok (.iconst 4, 1) := by decide +kernel
theorem d_Mo_giveCategory_40 : decode b_Mo_giveCategory 40 = .ok (.invokevirtual 47, 3) := by decide +kernel
theorem d_Mo_giveCategory_43 : decode b_Mo_giveCategory 43 = .ok (.ifCond .ge 7, 3) := by decide +kernel
theorem d_Mo_giveCategory_46 : decode b_Mo_giveCategory 46 = .ok (.iconst 1, 1) := by decide +kernel
theorem d_Mo_giveCategory_47 : decode b_Mo_giveCategory 47 = .ok (.goto 4, 3) := by decide +kernel
theorem d_Mo_giveCategory_50 : decode b_Mo_giveCategory 50 = .ok (.iconst 0, 1) := by decide +kernel
theorem d_Mo_giveCategory_51 : decode b_Mo_giveCategory 51 = .ok (.aload_n 0, 1) := by decide +kernel
theorem d_Mo_giveCategory_52 : decode b_Mo_giveCategory 52 = .ok (.aload_n 0, 1) := by decide +kernel
theorem d_Mo_giveCategory_53 : decode b_Mo_giveCategory 53 = .ok (.iload_n 1, 1) := by decide +kernel
theorem d_Mo_giveCategory_54 : decode b_Mo_giveCategory 54 = .ok (.bipush 6, 2) := by decide +kernel
theorem d_Mo_giveCategory_56 : decode b_Mo_giveCategory 56 = .ok (.invokevirtual 32, 3) := by decide +kernel
theorem d_Mo_giveCategory_59 : decode b_Mo_giveCategory 59 = .ok (.iload_n 2, 1) := by decide +kernel
theorem d_Mo_giveCategory_60 : decode b_Mo_giveCategory 60 = .ok (.iconst 3, 1) := by decide +kernel
theorem d_Mo_giveCategory_61 : decode b_Mo_giveCategory 61 = .ok (.invokevirtual 47, 3) := by decide +kernel
theorem d_Mo_giveCategory_64 : decode b_Mo_giveCategory 64 = .ok (.ifCond .ge 7, 3) := by decide +kernel
theorem d_Mo_giveCategory_67 : decode b_Mo_giveCategory 67 = .ok (.iconst 1, 1) := by decide +kernel
theorem d_Mo_giveCategory_68 : decode b_Mo_giveCategory 68 = .ok (.goto 4, 3) := by decide +kernel
theorem d_Mo_giveCategory_71 : decode b_Mo_giveCategory 71 = .ok (.iconst 0, 1) := by decide +kernel
theorem d_Mo_giveCategory_72 : decode b_Mo_giveCategory 72 = .ok (.iadd, 1) := by decide +kernel
theorem d_Mo_giveCategory_73 : decode b_Mo_giveCategory 73 = .ok (.istore_n 3, 1) := by decide +kernel
theorem d_Mo_giveCategory_74 : decode b_Mo_giveCategory 74 = .ok (.aload_n 0, 1) := by decide +kernel
theorem d_Mo_giveCategory_75 : decode b_Mo_giveCategory 75 = .ok (.getfield 7, 3) := by decide +kernel
theorem d_Mo_giveCategory_78 : decode b_Mo_giveCategory 78 = .ok (.sipush 1550, 3) := by decide +kernel
theorem d_Mo_giveCategory_81 : decode b_Mo_giveCategory 81 = .ok (.iaload, 1) := by decide +kernel
theorem d_Mo_giveCategory_82 : decode b_Mo_giveCategory 82 = .ok (.iload_n 3, 1) := by decide +kernel
theorem d_Mo_giveCategory_83 : decode b_Mo_giveCategory 83 = .ok (.iadd, 1) := by decide +kernel
theorem d_Mo_giveCategory_84 : decode b_Mo_giveCategory 84 = .ok (.bipush 60, 2) := by decide +kernel
theorem d_Mo_giveCategory_86 : decode b_Mo_giveCategory 86 = .ok (.if_icmp .le 9, 3) := by decide +kernel
theorem d_Mo_giveCategory_89 : decode b_Mo_giveCategory 89 = .ok (.aload_n 0, 1) := by decide +kernel
theorem d_Mo_giveCategory_90 : decode b_Mo_giveCategory 90 = .ok (.iconst 4, 1) := by decide +kernel
theorem d_Mo_giveCategory_91 : decode b_Mo_giveCategory 91 = .ok (.invokevirtual 51, 3) := by decide +kernel
theorem d_Mo_giveCategory_94 : decode b_Mo_giveCategory 94 = .ok (.ireturn, 1) := by decide +kernel
theorem d_Mo_giveCategory_95 : decode b_Mo_giveCategory 95 = .ok (.aload_n 0, 1) := by decide +kernel
theorem d_Mo_giveCategory_96 : decode b_Mo_giveCategory 96 = .ok (.getfield 7, 3) := by decide +kernel
theorem d_Mo_giveCategory_99 : decode b_Mo_giveCategory 99 = .ok (.bipush 17, 2) := by decide +kernel
theorem d_Mo_giveCategory_101 : decode b_Mo_giveCategory 101 = .ok (.iload_n 1, 1) := by decide +kernel
theorem d_Mo_giveCategory_102 : decode b_Mo_giveCategory 102 = .ok (.imul, 1) := by decide +kernel
theorem d_Mo_giveCategory_103 : decode b_Mo_giveCategory 103 = .ok (.iconst 2, 1) := by decide +kernel
theorem d_Mo_giveCategory_104 : decode b_Mo_giveCategory 104 = .ok (.iadd, 1) := by decide +kernel
theorem d_Mo_giveCategory_105 : decode b_Mo_giveCategory 105 = .ok (.aload_n 0, 1) := by decide +kernel
theorem d_Mo_giveCategory_106 : decode b_Mo_giveCategory 106 = .ok (.aload_n 0, 1) := by decide +kernel
theorem d_Mo_giveCategory_107 : decode b_Mo_giveCategory 107 = .ok (.iload_n 1, 1) := by decide +kernel
theorem d_Mo_giveCategory_108 : decode b_Mo_giveCategory 108 = .ok (.iconst 2, 1) := by decide +kernel
theorem d_Mo_giveCategory_109 : decode b_Mo_giveCategory 109 = .ok (.invokevirtual 32, 3) := by decide +kernel
theorem d_Mo_giveCategory_112 : decode b_Mo_giveCategory 112 = .ok (.iload_n 2, 1) := by decide +kernel
theorem d_Mo_giveCategory_113 : decode b_Mo_giveCategory 113 = .ok (.iconst 4, 1) := by decide +kernel
theorem d_Mo_giveCategory_114 : decode b_Mo_giveCategory 114 = .ok (.invokevirtual 57, 3) := by decide +kernel
theorem d_Mo_giveCategory_117 : decode b_Mo_giveCategory 117 = .ok (.iastore, 1) := by decide +kernel
theorem d_Mo_giveCategory_118 : decode b_Mo_giveCategory 118 = .ok (.aload_n 0, 1) := by decide +kernel
theorem d_Mo_giveCategory_119 : decode b_Mo_giveCategory 119 = .ok (.getfield 7, 3) := by decide +kernel
theorem d_Mo_giveCategory_122 : decode b_Mo_giveCategory 122 = .ok (.bipush 17, 2) := by decide +kernel
theorem d_Mo_giveCategory_124 : decode b_Mo_giveCategory 124 = .ok (.iload_n 1, 1) := by decide +kernel
theorem d_Mo_giveCategory_125 : decode b_Mo_giveCategory 125 = .ok (.imul, 1) := by decide +kernel
theorem d_Mo_giveCategory_126 : decode b_Mo_giveCategory 126 = .ok (.bipush 6, 2) := by decide +kernel
theorem d_Mo_giveCategory_128 : decode b_Mo_giveCategory 128 = .ok (.iadd, 1) := by decide +kernel
theorem d_Mo_giveCategory_129 : decode b_Mo_giveCategory 129 = .ok (.aload_n 0, 1) := by decide +kernel
theorem d_Mo_giveCategory_130 : decode b_Mo_giveCategory 130 = .ok (.aload_n 0, 1) := by decide +kernel
theorem d_Mo_giveCategory_131 : decode b_Mo_giveCategory 131 = .ok (.iload_n 1, 1) := by decide +kernel
theorem d_Mo_giveCategory_132 : decode b_Mo_giveCategory 132 = .ok (.bipush 6, 2) := by decide +kernel
theorem d_Mo_giveCategory_134 : decode b_Mo_giveCategory 134 = .ok (.invokevirtual 32, 3) := by decide +kernel
theorem d_Mo_giveCategory_137 : decode b_Mo_giveCategory 137 = .ok (.iload_n 2, 1) := by decide +kernel
theorem d_Mo_giveCategory_138 : decode b_Mo_giveCategory 138 = .ok (.iconst 3, 1) := by decide +kernel
theorem d_Mo_giveCategory_139 : decode b_Mo_giveCategory 139 = .ok (.invokevirtual 57, 3) := by decide +kernel
theorem d_Mo_giveCategory_142 : decode b_Mo_giveCategory 142 = .ok (.iastore, 1) := by decide +kernel
theorem d_Mo_giveCategory_143 : decode b_Mo_giveCategory 143 = .ok (.aload_n 0, 1) := by decide +kernel
theorem d_Mo_giveCategory_144 : decode b_Mo_giveCategory 144 = .ok (.getfield 7, 3) := by decide +kernel
theorem d_Mo_giveCategory_147 : decode b_Mo_giveCategory 147 = .ok (.sipush 1551, 3) := by decide +kernel
theorem d_Mo_giveCategory_150 : decode b_Mo_giveCategory 150 = .ok (.dup2, 1) := by decide +kernel
theorem d_Mo_giveCategory_151 : decode b_Mo_giveCategory 151 = .ok (.iaload, 1) := by decide +kernel
theorem d_Mo_giveCategory_152 : decode b_Mo_giveCategory 152 = .ok (.iconst 1, 1) := by decide +kernel
theorem d_Mo_giveCategory_153 : decode b_Mo_giveCategory 153 = .ok (.iadd, 1) := by decide +kernel
theorem d_Mo_giveCategory_154 : decode b_Mo_giveCategory 154 = .ok (.iastore, 1) := by decide +kernel
theorem d_Mo_giveCategory_155 : decode b_Mo_giveCategory 155 = .ok (.iload_n 2, 1) := by decide +kernel
theorem d_Mo_giveCategory_156 : decode b_Mo_giveCategory 156 = .ok (.ireturn, 1) := by decide +kernel
theorem d_Mo_category_0 : decode b_Mo_category 0 = .ok (.aload_n 0, 1) := by decide +kernel
theorem d_Mo_category_1 : decode b_Mo_category 1 = .ok (.iconst 0, 1) := by decide +kernel
theorem d_Mo_category_2 : decode b_Mo_category 2 = .ok (.putfield 16, 3) := by decide +kernel
theorem d_Mo_category_5 : decode b_Mo_category 5 = .ok (.aload_n 0, 1) := by decide +kernel
theorem d_Mo_category_6 : decode b_Mo_category 6 = .ok (.iload_n 1, 1) := by decide +kernel
theorem d_Mo_category_7 : decode b_Mo_category 7 = .ok (.invokevirtual 63, 3) := by decide +kernel
theorem d_Mo_category_10 : decode b_Mo_category 10 = .ok (.ireturn, 1) := by decide +kernel
theorem d_Mo_deep_0 : decode b_Mo_deep 0 = .ok (.iconst 0, 1) := by decide +kernel
theorem d_Mo_deep_1 : decode b_Mo_deep 1 = .ok (.istore_n 2, 1) := by decide +kernel
theorem d_Mo_deep_2 : decode b_Mo_deep 2 = .ok (.iload_n 1, 1) := by decide +kernel
theorem d_Mo_deep_3 : decode b_Mo_deep 3 = .ok (.istore_n 3, 1) := by decide +kernel
theorem d_Mo_deep_4 : decode b_Mo_deep 4 = .ok (.iload_n 3, 1) := by decide +kernel
theorem d_Mo_deep_5 : decode b_Mo_deep 5 = .ok (.iconst 1, 1) := by decide +kernel
theorem d_Mo_deep_6 : decode b_Mo_deep 6 = .ok (.if_icmp .le 16, 3) := by decide +kernel
theorem d_Mo_deep_9 : decode b_Mo_deep 9 = .ok (.iinc 2 1, 3) := by decide +kernel
theorem d_Mo_deep_12 : decode b_Mo_deep 12 = .ok (.aload_n 0, 1) := by decide +kernel
theorem d_Mo_deep_13 : decode b_Mo_deep 13 = .ok (.iload_n 3, 1) := by decide +kernel
theorem d_Mo_deep_14 : decode b_Mo_deep 14 = .ok (.iconst 4, 1) := by decide +kernel
theorem d_Mo_deep_15 : decode b_Mo_deep 15 = .ok (.invokevirtual 32, 3) := by decide +kernel
theorem d_Mo_deep_18 : decode b_Mo_deep 18 = .ok (.istore_n 3, 1) := by decide +kernel
theorem d_Mo_deep_19 : decode b_Mo_deep 19 = .ok (.goto (-15), 3) := by decide +kernel
theorem d_Mo_deep_22 : decode b_Mo_deep 22 = .ok (.iload_n 2, 1) := by decide +kernel
theorem d_Mo_deep_23 : decode b_Mo_deep 23 = .ok (.ireturn, 1) := by decide +kernel
theorem d_Mo_starsWithin_0 : decode b_Mo_starsWithin 0 = .ok (.iload_n 0, 1) := by decide +kernel
theorem d_Mo_starsWithin_1 : decode b_Mo_starsWithin 1 = .ok (.iconst 4, 1) := by decide +kernel
theorem d_Mo_starsWithin_2 : decode b_Mo_starsWithin 2 = .ok (.if_icmp .ne 8, 3) := by decide +kernel
theorem d_Mo_starsWithin_5 : decode b_Mo_starsWithin 5 = .ok (.iload_n 1, 1) := by decide +kernel
theorem d_Mo_starsWithin_6 : decode b_Mo_starsWithin 6 = .ok (.iconst 4, 1) := by decide +kernel
theorem d_Mo_starsWithin_7 : decode b_Mo_starsWithin 7 = .ok (.if_icmp .ne 7, 3) := by decide +kernel
theorem d_Mo_starsWithin_10 : decode b_Mo_starsWithin 10 = .ok (.iconst 1, 1) := by decide +kernel
theorem d_Mo_starsWithin_11 : decode b_Mo_starsWithin 11 = .ok (.goto 4, 3) := by decide +kernel
theorem d_Mo_starsWithin_14 : decode b_Mo_starsWithin 14 = .ok (.iconst 0, 1) := by decide +kernel
theorem d_Mo_starsWithin_15 : decode b_Mo_starsWithin 15 = .ok (.ireturn, 1) := by decide +kernel
theorem d_Mo_starsOf_0 : decode b_Mo_starsOf 0 = .ok (.iconst 0, 1) := by decide +kernel
theorem d_Mo_starsOf_1 : decode b_Mo_starsOf 1 = .ok (.istore_n 3, 1) := by decide +kernel
theorem d_Mo_starsOf_2 : decode b_Mo_starsOf 2 = .ok (.iload_n 3, 1) := by decide +kernel
theorem d_Mo_starsOf_3 : decode b_Mo_starsOf 3 = .ok (.bipush 8, 2) := by decide +kernel
theorem d_Mo_starsOf_5 : decode b_Mo_starsOf 5 = .ok (.if_icmp .ge 34, 3) := by decide +kernel
theorem d_Mo_starsOf_8 : decode b_Mo_starsOf 8 = .ok (.aload_n 0, 1) := by decide +kernel
theorem d_Mo_starsOf_9 : decode b_Mo_starsOf 9 = .ok (.iload_n 1, 1) := by decide +kernel
theorem d_Mo_starsOf_10 : decode b_Mo_starsOf 10 = .ok (.iload_n 3, 1) := by decide +kernel
theorem d_Mo_starsOf_11 : decode b_Mo_starsOf 11 = .ok (.invokevirtual 20, 3) := by decide +kernel
theorem d_Mo_starsOf_14 : decode b_Mo_starsOf 14 = .ok (.aload_n 0, 1) := by decide +kernel
theorem d_Mo_starsOf_15 : decode b_Mo_starsOf 15 = .ok (.aload_n 0, 1) := by decide +kernel
theorem d_Mo_starsOf_16 : decode b_Mo_starsOf 16 = .ok (.iload_n 2, 1) := by decide +kernel
theorem d_Mo_starsOf_17 : decode b_Mo_starsOf 17 = .ok (.iconst 2, 1) := by decide +kernel
theorem d_Mo_starsOf_18 : decode b_Mo_starsOf 18 = .ok (.invokevirtual 32, 3) := by decide +kernel
theorem d_Mo_starsOf_21 : decode b_Mo_starsOf 21 = .ok (.iload_n 3, 1) := by decide +kernel
theorem d_Mo_starsOf_22 : decode b_Mo_starsOf 22 = .ok (.invokevirtual 20, 3) := by decide +kernel
theorem d_Mo_starsOf_25 : decode b_Mo_starsOf 25 = .ok (.invokestatic 66, 3) := by decide +kernel
theorem d_Mo_starsOf_28 : decode b_Mo_starsOf 28 = .ok (.ifCond .ne 5, 3) := by decide +kernel
theorem d_Mo_starsOf_31 : decode b_Mo_starsOf 31 = .ok (.iconst 0, 1) := by decide +kernel
theorem d_Mo_starsOf_32 : decode b_Mo_starsOf 32 = .ok (.ireturn, 1) := by decide +kernel
theorem d_Mo_starsOf_33 : decode b_Mo_starsOf 33 = .ok (.iinc 3 1, 3) := by decide +kernel
theorem d_Mo_starsOf_36 : decode b_Mo_starsOf 36 = .ok (.goto (-34), 3) := by decide +kernel
theorem d_Mo_starsOf_39 : decode b_Mo_starsOf 39 = .ok (.iconst 1, 1) := by decide +kernel
theorem d_Mo_starsOf_40 : decode b_Mo_starsOf 40 = .ok (.ireturn, 1) := by decide +kernel
theorem d_Mo_make_0 : decode b_Mo_make 0 = .ok (.aload_n 0, 1) := by decide +kernel
theorem d_Mo_make_1 : decode b_Mo_make 1 = .ok (.iload_n 1, 1) := by decide +kernel
theorem d_Mo_make_2 : decode b_Mo_make 2 = .ok (.invokevirtual 43, 3) := by decide +kernel
theorem d_Mo_make_5 : decode b_Mo_make 5 = .ok (.ifCond .eq 11, 3) := by decide +kernel
theorem d_Mo_make_8 : decode b_Mo_make 8 = .ok (.aload_n 0, 1) := by decide +kernel
theorem d_Mo_make_9 : decode b_Mo_make 9 = .ok (.iload_n 2, 1) := by decide +kernel
theorem d_Mo_make_10 : decode b_Mo_make 10 = .ok (.invokevirtual 43, 3) := by decide +kernel
theorem d_Mo_make_13 : decode b_Mo_make 13 = .ok (.ifCond .ne 9, 3) := by decide +kernel
theorem d_Mo_make_16 : decode b_Mo_make 16 = .ok (.aload_n 0, 1) := by decide +kernel
theorem d_Mo_make_17 : decode b_Mo_make 17 = .ok (.iconst 2, 1) := by decide +kernel
theorem d_Mo_make_18 : decode b_Mo_make 18 = .ok (.invokevirtual 51, 3) := by decide +kernel
theorem d_Mo_make_21 : decode b_Mo_make 21 = .ok (.ireturn, 1) := by decide +kernel
theorem d_Mo_make_22 : decode b_Mo_make 22 = .ok (.aload_n 0, 1) := by decide +kernel
theorem d_Mo_make_23 : decode b_Mo_make 23 = .ok (.iload_n 1, 1) := by decide +kernel
theorem d_Mo_make_24 : decode b_Mo_make 24 = .ok (.iconst 1, 1) := by decide +kernel
theorem d_Mo_make_25 : decode b_Mo_make 25 = .ok (.invokevirtual 32, 3) := by decide +kernel
theorem d_Mo_make_28 : decode b_Mo_make 28 = .ok (.iconst 3, 1) := by decide +kernel
theorem d_Mo_make_29 : decode b_Mo_make 29 = .ok (.if_icmp .ne 12, 3) := by decide +kernel
theorem d_Mo_make_32 : decode b_Mo_make 32 = .ok (.aload_n 0, 1) := by decide +kernel
theorem d_Mo_make_33 : decode b_Mo_make 33 = .ok (.iload_n 2, 1) := by decide +kernel
theorem d_Mo_make_34 : decode b_Mo_make 34 = .ok (.iconst 1, 1) := by decide +kernel
theorem d_Mo_make_35 : decode b_Mo_make 35 = .ok (.invokevirtual 32, 3) := by decide +kernel
theorem d_Mo_make_38 : decode b_Mo_make 38 = .ok (.ifCond .eq 9, 3) := by decide +kernel
theorem d_Mo_make_41 : decode b_Mo_make 41 = .ok (.aload_n 0, 1) := by decide +kernel
theorem d_Mo_make_42 : decode b_Mo_make 42 = .ok (.iconst 1, 1) := by decide +kernel
theorem d_Mo_make_43 : decode b_Mo_make 43 = .ok (.invokevirtual 51, 3) := by decide +kernel
theorem d_Mo_make_46 : decode b_Mo_make 46 = .ok (.ireturn, 1) := by decide +kernel
theorem d_Mo_make_47 : decode b_Mo_make 47 = .ok (.aload_n 0, 1) := by decide +kernel
theorem d_Mo_make_48 : decode b_Mo_make 48 = .ok (.iload_n 1, 1) := by decide +kernel
theorem d_Mo_make_49 : decode b_Mo_make 49 = .ok (.iload_n 2, 1) := by decide +kernel
theorem d_Mo_make_50 : decode b_Mo_make 50 = .ok (.invokevirtual 69, 3) := by decide +kernel
theorem d_Mo_make_53 : decode b_Mo_make 53 = .ok (.ifCond .eq 47, 3) := by decide +kernel
theorem d_Mo_make_56 : decode b_Mo_make 56 = .ok (.aload_n 0, 1) := by decide +kernel
theorem d_Mo_make_57 : decode b_Mo_make 57 = .ok (.aload_n 0, 1) := by decide +kernel
theorem d_Mo_make_58 : decode b_Mo_make 58 = .ok (.iload_n 1, 1) := by decide +kernel
theorem d_Mo_make_59 : decode b_Mo_make 59 = .ok (.iconst 2, 1) := by decide +kernel
theorem d_Mo_make_60 : decode b_Mo_make 60 = .ok (.invokevirtual 32, 3) := by decide +kernel
theorem d_Mo_make_63 : decode b_Mo_make 63 = .ok (.iload_n 3, 1) := by decide +kernel
theorem d_Mo_make_64 : decode b_Mo_make 64 = .ok (.iconst 0, 1) := by decide +kernel
theorem d_Mo_make_65 : decode b_Mo_make 65 = .ok (.invokevirtual 35, 3) := by decide +kernel
theorem d_Mo_make_68 : decode b_Mo_make 68 = .ok (.ifCond .eq 32, 3) := by decide +kernel
theorem d_Mo_make_71 : decode b_Mo_make 71 = .ok (.aload_n 0, 1) := by decide +kernel
theorem d_Mo_make_72 : decode b_Mo_make 72 = .ok (.iload_n 3, 1) := by decide +kernel
theorem d_Mo_make_73 : decode b_Mo_make 73 = .ok (.aload_n 0, 1) := by decide +kernel
theorem d_Mo_make_74 : decode b_Mo_make 74 = .ok (.iload_n 1, 1) := by decide +kernel
theorem d_Mo_make_75 : decode b_Mo_make 75 = .ok (.bipush 6, 2) := by decide +kernel
theorem d_Mo_make_77 : decode b_Mo_make 77 = .ok (.invokevirtual 32, 3) := by decide +kernel
theorem d_Mo_make_80 : decode b_Mo_make 80 = .ok (.iconst 0, 1) := by decide +kernel
theorem d_Mo_make_81 : decode b_Mo_make 81 = .ok (.invokevirtual 35, 3) := by decide +kernel
theorem d_Mo_make_84 : decode b_Mo_make 84 = .ok (.ifCond .eq 16, 3) := by decide +kernel
theorem d_Mo_make_87 : decode b_Mo_make 87 = .ok (.aload_n 0, 1) := by decide +kernel
theorem d_Mo_make_88 : decode b_Mo_make 88 = .ok (.iload_n 3, 1) := by decide +kernel
theorem d_Mo_make_89 : decode b_Mo_make 89 = .ok (.iload_n 1, 1) := by decide +kernel
theorem d_Mo_make_90 : decode b_Mo_make 90 = .ok (.invokevirtual 72, 3) := by decide +kernel
theorem d_Mo_make_93 : decode b_Mo_make 93 = .ok (.ifCond .eq 7, 3) := by decide +kernel
theorem d_Mo_make_96 : decode b_Mo_make 96 = .ok (.iconst 1, 1) := by decide +kernel
theorem d_Mo_make_97 : decode b_Mo_make 97 = .ok (.goto 4, 3) := by decide +kernel
theorem d_Mo_make_100 : decode b_Mo_make 100 = .ok (.iconst 0, 1) := by decide +kernel
theorem d_Mo_make_101 : decode b_Mo_make 101 = .ok (.istore 7, 2) := by decide +kernel
theorem d_Mo_make_103 : decode b_Mo_make 103 = .ok (.iload 5, 2) := by decide +kernel
theorem d_Mo_make_105 : decode b_Mo_make 105 = .ok (.iconst 3, 1) := by decide +kernel
theorem d_Mo_make_106 : decode b_Mo_make 106 = .ok (.if_icmp .ne 43, 3) := by decide +kernel
theorem d_Mo_make_109 : decode b_Mo_make 109 = .ok (.iload 7, 2) := by decide +kernel
theorem d_Mo_make_111 : decode b_Mo_make 111 = .ok (.ifCond .eq 35, 3) := by decide +kernel
theorem d_Mo_make_114 : decode b_Mo_make 114 = .ok (.aload_n 0, 1) := by decide +kernel
theorem d_Mo_make_115 : decode b_Mo_make 115 = .ok (.iload 6, 2) := by decide +kernel
theorem d_Mo_make_117 : decode b_Mo_make 117 = .ok (.aload_n 0, 1) := by decide +kernel
theorem d_Mo_make_118 : decode b_Mo_make 118 = .ok (.iload_n 1, 1) := by decide +kernel
theorem d_Mo_make_119 : decode b_Mo_make 119 = .ok (.bipush 6, 2) := by decide +kernel
theorem d_Mo_make_121 : decode b_Mo_make 121 = .ok (.invokevirtual 32, 3) := by decide +kernel
theorem d_Mo_make_124 : decode b_Mo_make 124 = .ok (.iconst 0, 1) := by decide +kernel
theorem d_Mo_make_125 : decode b_Mo_make 125 = .ok (.invokevirtual 35, 3) := by decide +kernel
theorem d_Mo_make_128 : decode b_Mo_make 128 = .ok (.ifCond .eq 18, 3) := by decide +kernel
theorem d_Mo_make_131 : decode b_Mo_make 131 = .ok (.aload_n 0, 1) := by decide +kernel
theorem d_Mo_make_132 : decode b_Mo_make 132 = .ok (.iload_n 3, 1) := by decide +kernel
theorem d_Mo_make_133 : decode b_Mo_make 133 = .ok (.iload 6, 2) := by decide +kernel
theorem d_Mo_make_135 : decode b_Mo_make 135 = .ok (.iconst 0, 1) := by decide +kernel
theorem d_Mo_make_136 : decode b_Mo_make 136 = .ok (.invokevirtual 35, 3) := by decide +kernel
theorem d_Mo_make_139 : decode b_Mo_make 139 = .ok (.ifCond .eq 7, 3) := by decide +kernel
theorem d_Mo_make_142 : decode b_Mo_make 142 = .ok (.iconst 1, 1) := by decide +kernel
theorem d_Mo_make_143 : decode b_Mo_make 143 = .ok (.goto 4, 3) := by decide +kernel
theorem d_Mo_make_146 : decode b_Mo_make 146 = .ok (.iconst 0, 1) := by decide +kernel
theorem d_Mo_make_147 : decode b_Mo_make 147 = .ok (.istore 7, 2) := by decide +kernel
theorem d_Mo_make_149 : decode b_Mo_make 149 = .ok (.iload 7, 2) := by decide +kernel
theorem d_Mo_make_151 : decode b_Mo_make 151 = .ok (.ifCond .ne 9, 3) := by decide +kernel
theorem d_Mo_make_154 : decode b_Mo_make 154 = .ok (.aload_n 0, 1) := by decide +kernel
theorem d_Mo_make_155 : decode b_Mo_make 155 = .ok (.iconst 3, 1) := by decide +kernel
theorem d_Mo_make_156 : decode b_Mo_make 156 = .ok (.invokevirtual 51, 3) := by decide +kernel
theorem d_Mo_make_159 : decode b_Mo_make 159 = .ok (.ireturn, 1) := by decide +kernel
theorem d_Mo_make_160 : decode b_Mo_make 160 = .ok (.aload_n 0, 1) := by decide +kernel
theorem d_Mo_make_161 : decode b_Mo_make 161 = .ok (.iload_n 2, 1) := by decide +kernel
theorem d_Mo_make_162 : decode b_Mo_make 162 = .ok (.iconst 3, 1) := by decide +kernel
theorem d_Mo_make_163 : decode b_Mo_make 163 = .ok (.invokevirtual 32, 3) := by decide +kernel
theorem d_Mo_make_166 : decode b_Mo_make 166 = .ok (.aload_n 0, 1) := by decide +kernel
theorem d_Mo_make_167 : decode b_Mo_make 167 = .ok (.iload_n 2, 1) := by decide +kernel
theorem d_Mo_make_168 : decode b_Mo_make 168 = .ok (.invokevirtual 75, 3) := by decide +kernel
theorem d_Mo_make_171 : decode b_Mo_make 171 = .ok (.iload 4, 2) := by decide +kernel
theorem d_Mo_make_173 : decode b_Mo_make 173 = .ok (.iadd, 1) := by decide +kernel
theorem d_Mo_make_174 : decode b_Mo_make 174 = .ok (.if_icmp .lt 26, 3) := by decide +kernel
theorem d_Mo_make_177 : decode b_Mo_make 177 = .ok (.aload_n 0, 1) := by decide +kernel
theorem d_Mo_make_178 : decode b_Mo_make 178 = .ok (.getfield 7, 3) := by decide +kernel
theorem d_Mo_make_181 : decode b_Mo_make 181 = .ok (.sipush 1549, 3) := by decide +kernel
theorem d_Mo_make_184 : decode b_Mo_make 184 = .ok (.iaload, 1) := by decide +kernel
theorem d_Mo_make_185 : decode b_Mo_make 185 = .ok (.bipush 60, 2) := by decide +kernel
theorem d_Mo_make_187 : decode b_Mo_make 187 = .ok (.if_icmp .eq 13, 3) := by decide +kernel
theorem d_Mo_make_190 : decode b_Mo_make 190 = .ok (.aload_n 0, 1) := by decide +kernel
theorem d_Mo_make_191 : decode b_Mo_make 191 = .ok (.iload_n 2, 1) := by decide +kernel
theorem d_Mo_make_192 : decode b_Mo_make 192 = .ok (.invokevirtual 78, 3) := by decide +kernel
theorem d_Mo_make_195 : decode b_Mo_make 195 = .ok (.bipush 12, 2) := by decide +kernel
theorem d_Mo_make_197 : decode b_Mo_make 197 = .ok (.if_icmp .lt 9, 3) := by decide +kernel
theorem d_Mo_make_200 : decode b_Mo_make 200 = .ok (.aload_n 0, 1) := by decide +kernel
theorem d_Mo_make_201 : decode b_Mo_make 201 = .ok (.iconst 4, 1) := by decide +kernel
theorem d_Mo_make_202 : decode b_Mo_make 202 = .ok (.invokevirtual 51, 3) := by decide +kernel
theorem d_Mo_make_205 : decode b_Mo_make 205 = .ok (.ireturn, 1) := by decide +kernel
theorem d_Mo_make_206 : decode b_Mo_make 206 = .ok (.aload_n 0, 1) := by decide +kernel
theorem d_Mo_make_207 : decode b_Mo_make 207 = .ok (.getfield 7, 3) := by decide +kernel
theorem d_Mo_make_210 : decode b_Mo_make 210 = .ok (.sipush 1549, 3) := by decide +kernel
theorem d_Mo_make_213 : decode b_Mo_make 213 = .ok (.dup2, 1) := by decide +kernel
theorem d_Mo_make_214 : decode b_Mo_make 214 = .ok (.iaload, 1) := by decide +kernel
theorem d_Mo_make_215 : decode b_Mo_make 215 = .ok (.iconst 1, 1) := by decide +kernel
theorem d_Mo_make_216 : decode b_Mo_make 216 = .ok (.iadd, 1) := by decide +kernel
theorem d_Mo_make_217 : decode b_Mo_make 217 = .ok (.iastore, 1) := by decide +kernel
theorem d_Mo_make_218 : decode b_Mo_make 218 = .ok (.aload_n 0, 1) := by decide +kernel
theorem d_Mo_make_219 : decode b_Mo_make 219 = .ok (.getfield 7, 3) := by decide +kernel
theorem d_Mo_make_222 : decode b_Mo_make 222 = .ok (.sipush 1549, 3) := by decide +kernel
theorem d_Mo_make_225 : decode b_Mo_make 225 = .ok (.iaload, 1) := by decide +kernel
theorem d_Mo_make_226 : decode b_Mo_make 226 = .ok (.istore 8, 2) := by decide +kernel
theorem d_Mo_make_228 : decode b_Mo_make 228 = .ok (.iconst 0, 1) := by decide +kernel
theorem d_Mo_make_229 : decode b_Mo_make 229 = .ok (.istore 9, 2) := by decide +kernel
theorem d_Mo_make_231 : decode b_Mo_make 231 = .ok (.iload 9, 2) := by decide +kernel
theorem d_Mo_make_233 : decode b_Mo_make 233 = .ok (.bipush 17, 2) := by decide +kernel
theorem d_Mo_make_235 : decode b_Mo_make 235 = .ok (.if_icmp .ge 23, 3) := by decide +kernel
theorem d_Mo_make_238 : decode b_Mo_make 238 = .ok (.aload_n 0, 1) := by decide +kernel
theorem d_Mo_make_239 : decode b_Mo_make 239 = .ok (.getfield 7, 3) := by decide +kernel
theorem d_Mo_make_242 : decode b_Mo_make 242 = .ok (.bipush 17, 2) := by decide +kernel
theorem d_Mo_make_244 : decode b_Mo_make 244 = .ok (.iload 8, 2) := by decide +kernel
theorem d_Mo_make_246 : decode b_Mo_make 246 = .ok (.imul, 1) := by decide +kernel
theorem d_Mo_make_247 : decode b_Mo_make 247 = .ok (.iload 9, 2) := by decide +kernel
theorem d_Mo_make_249 : decode b_Mo_make 249 = .ok (.iadd, 1) := by decide +kernel
theorem d_Mo_make_250 : decode b_Mo_make 250 = .ok (.iconst 0, 1) := by decide +kernel
theorem d_Mo_make_251 : decode b_Mo_make 251 = .ok (.iastore, 1) := by decide +kernel
theorem d_Mo_make_252 : decode b_Mo_make 252 = .ok (.iinc 9 1, 3) := by decide +kernel
theorem d_Mo_make_255 : decode b_Mo_make 255 = .ok (.goto (-24), 3) := by decide +kernel
theorem d_Mo_make_258 : decode b_Mo_make 258 = .ok (.aload_n 0, 1) := by decide +kernel
theorem d_Mo_make_259 : decode b_Mo_make 259 = .ok (.getfield 7, 3) := by decide +kernel
theorem d_Mo_make_262 : decode b_Mo_make 262 = .ok (.bipush 17, 2) := by decide +kernel
theorem d_Mo_make_264 : decode b_Mo_make 264 = .ok (.iload 8, 2) := by decide +kernel
theorem d_Mo_make_266 : decode b_Mo_make 266 = .ok (.imul, 1) := by decide +kernel
theorem d_Mo_make_267 : decode b_Mo_make 267 = .ok (.iconst 0, 1) := by decide +kernel
theorem d_Mo_make_268 : decode b_Mo_make 268 = .ok (.iadd, 1) := by decide +kernel
theorem d_Mo_make_269 : decode b_Mo_make 269 = .ok (.iconst 1, 1) := by decide +kernel
theorem d_Mo_make_270 : decode b_Mo_make 270 = .ok (.iastore, 1) := by decide +kernel
theorem d_Mo_make_271 : decode b_Mo_make 271 = .ok (.aload_n 0, 1) := by decide +kernel
theorem d_Mo_make_272 : decode b_Mo_make 272 = .ok (.getfield 7, 3) := by decide +kernel
theorem d_Mo_make_275 : decode b_Mo_make 275 = .ok (.bipush 17, 2) := by decide +kernel
theorem d_Mo_make_277 : decode b_Mo_make 277 = .ok (.iload 8, 2) := by decide +kernel
theorem d_Mo_make_279 : decode b_Mo_make 279 = .ok (.imul, 1) := by decide +kernel
theorem d_Mo_make_280 : decode b_Mo_make 280 = .ok (.iconst 1, 1) := by decide +kernel
theorem d_Mo_make_281 : decode b_Mo_make 281 = .ok (.iadd, 1) := by decide +kernel
theorem d_Mo_make_282 : decode b_Mo_make 282 = .ok (.iload 5, 2) := by decide +kernel
theorem d_Mo_make_284 : decode b_Mo_make 284 = .ok (.iastore, 1) := by decide +kernel
theorem d_Mo_make_285 : decode b_Mo_make 285 = .ok (.aload_n 0, 1) := by decide +kernel
theorem d_Mo_make_286 : decode b_Mo_make 286 = .ok (.getfield 7, 3) := by decide +kernel
theorem d_Mo_make_289 : decode b_Mo_make 289 = .ok (.bipush 17, 2) := by decide +kernel
theorem d_Mo_make_291 : decode b_Mo_make 291 = .ok (.iload 8, 2) := by decide +kernel
theorem d_Mo_make_293 : decode b_Mo_make 293 = .ok (.imul, 1) := by decide +kernel
theorem d_Mo_make_294 : decode b_Mo_make 294 = .ok (.iconst 2, 1) := by decide +kernel
theorem d_Mo_make_295 : decode b_Mo_make 295 = .ok (.iadd, 1) := by decide +kernel
theorem d_Mo_make_296 : decode b_Mo_make 296 = .ok (.iload_n 3, 1) := by decide +kernel
theorem d_Mo_make_297 : decode b_Mo_make 297 = .ok (.iastore, 1) := by decide +kernel
theorem d_Mo_make_298 : decode b_Mo_make 298 = .ok (.aload_n 0, 1) := by decide +kernel
theorem d_Mo_make_299 : decode b_Mo_make 299 = .ok (.getfield 7, 3) := by decide +kernel
theorem d_Mo_make_302 : decode b_Mo_make 302 = .ok (.bipush 17, 2) := by decide +kernel
theorem d_Mo_make_304 : decode b_Mo_make 304 = .ok (.iload 8, 2) := by decide +kernel
theorem d_Mo_make_306 : decode b_Mo_make 306 = .ok (.imul, 1) := by decide +kernel
theorem d_Mo_make_307 : decode b_Mo_make 307 = .ok (.iconst 3, 1) := by decide +kernel
theorem d_Mo_make_308 : decode b_Mo_make 308 = .ok (.iadd, 1) := by decide +kernel
theorem d_Mo_make_309 : decode b_Mo_make 309 = .ok (.iload 4, 2) := by decide +kernel
theorem d_Mo_make_311 : decode b_Mo_make 311 = .ok (.iastore, 1) := by decide +kernel
theorem d_Mo_make_312 : decode b_Mo_make 312 = .ok (.aload_n 0, 1) := by decide +kernel
theorem d_Mo_make_313 : decode b_Mo_make 313 = .ok (.getfield 7, 3) := by decide +kernel
theorem d_Mo_make_316 : decode b_Mo_make 316 = .ok (.bipush 17, 2) := by decide +kernel
theorem d_Mo_make_318 : decode b_Mo_make 318 = .ok (.iload 8, 2) := by decide +kernel
theorem d_Mo_make_320 : decode b_Mo_make 320 = .ok (.imul, 1) := by decide +kernel
theorem d_Mo_make_321 : decode b_Mo_make 321 = .ok (.iconst 4, 1) := by decide +kernel
theorem d_Mo_make_322 : decode b_Mo_make 322 = .ok (.iadd, 1) := by decide +kernel
theorem d_Mo_make_323 : decode b_Mo_make 323 = .ok (.iload_n 2, 1) := by decide +kernel
theorem d_Mo_make_324 : decode b_Mo_make 324 = .ok (.iastore, 1) := by decide +kernel
theorem d_Mo_make_325 : decode b_Mo_make 325 = .ok (.aload_n 0, 1) := by decide +kernel
theorem d_Mo_make_326 : decode b_Mo_make 326 = .ok (.getfield 7, 3) := by decide +kernel
theorem d_Mo_make_329 : decode b_Mo_make 329 = .ok (.bipush 17, 2) := by decide +kernel
theorem d_Mo_make_331 : decode b_Mo_make 331 = .ok (.iload 8, 2) := by decide +kernel
theorem d_Mo_make_333 : decode b_Mo_make 333 = .ok (.imul, 1) := by decide +kernel
theorem d_Mo_make_334 : decode b_Mo_make 334 = .ok (.bipush 6, 2) := by decide +kernel
theorem d_Mo_make_336 : decode b_Mo_make 336 = .ok (.iadd, 1) := by decide +kernel
theorem d_Mo_make_337 : decode b_Mo_make 337 = .ok (.iload 5, 2) := by decide +kernel
theorem d_Mo_make_339 : decode b_Mo_make 339 = .ok (.iconst 3, 1) := by decide +kernel
theorem d_Mo_make_340 : decode b_Mo_make 340 = .ok (.if_icmp .ne 8, 3) := by decide +kernel
theorem d_Mo_make_343 : decode b_Mo_make 343 = .ok (.iload 6, 2) := by decide +kernel
theorem d_Mo_make_345 : decode b_Mo_make 345 = .ok (.goto 20, 3) := by decide +kernel
theorem d_Mo_make_348 : decode b_Mo_make 348 = .ok (.iload 5, 2) := by decide +kernel
theorem d_Mo_make_350 : decode b_Mo_make 350 = .ok (.iconst 2, 1) := by decide +kernel
theorem d_Mo_make_351 : decode b_Mo_make 351 = .ok (.if_icmp .ne 13, 3) := by decide +kernel
theorem d_Mo_make_354 : decode b_Mo_make 354 = .ok (.aload_n 0, 1) := by decide +kernel
theorem d_Mo_make_355 : decode b_Mo_make 355 = .ok (.iload_n 1, 1) := by decide +kernel
theorem d_Mo_make_356 : decode b_Mo_make 356 = .ok (.bipush 6, 2) := by decide +kernel
theorem d_Mo_make_358 : decode b_Mo_make 358 = .ok (.invokevirtual 32, 3) := by decide +kernel
theorem d_Mo_make_361 : decode b_Mo_make 361 = .ok (.goto 4, 3) := by decide +kernel
theorem d_Mo_make_364 : decode b_Mo_make 364 = .ok (.iconst 0, 1) := by decide +kernel
theorem d_Mo_make_365 : decode b_Mo_make 365 = .ok (.iastore, 1) := by decide +kernel
theorem d_Mo_make_366 : decode b_Mo_make 366 = .ok (.iload 8, 2) := by decide +kernel
theorem d_Mo_make_368 : decode b_Mo_make 368 = .ok (.ireturn, 1) := by decide +kernel
theorem d_Mo_makeContainer_0 : decode b_Mo_makeContainer 0 = .ok (.aload_n 0, 1) := by decide +kernel
theorem d_Mo_makeContainer_1 : decode b_Mo_makeContainer 1 = .ok (.iload_n 3, 1) := by decide +kernel
theorem d_Mo_makeContainer_2 : decode b_Mo_makeContainer 2 = .ok (.invokevirtual 54, 3) := by decide +kernel
theorem d_Mo_makeContainer_5 : decode b_Mo_makeContainer 5 = .ok (.ifCond .eq 23, 3) := by decide +kernel
theorem d_Mo_makeContainer_8 : decode b_Mo_makeContainer 8 = .ok (.iload 4, 2) := by decide +kernel
theorem d_Mo_makeContainer_10 : decode b_Mo_makeContainer 10 = .ok (.iconst 1, 1) := by decide +kernel
theorem d_Mo_makeContainer_11 : decode b_Mo_makeContainer 11 = .ok (.sipush 200, 3) := by decide +kernel
theorem d_Mo_makeContainer_14 : decode b_Mo_makeContainer 14 = .ok (.invokestatic 28, 3) := by decide +kernel
theorem d_Mo_makeContainer_17 : decode b_Mo_makeContainer 17 = .ok (.ifCond .eq 11, 3) := by decide +kernel
theorem d_Mo_makeContainer_20 : decode b_Mo_makeContainer 20 = .ok (.aload_n 0, 1) := by decide +kernel
theorem d_Mo_makeContainer_21 : decode b_Mo_makeContainer 21 = .ok (.iload_n 3, 1) := by decide +kernel
theorem d_Mo_makeContainer_22 : decode b_Mo_makeContainer 22 = .ok (.invokevirtual 81, 3) := by decide +kernel
theorem d_Mo_makeContainer_25 : decode b_Mo_makeContainer 25 = .ok (.ifCond .ne 9, 3) := by decide +kernel
theorem d_Mo_makeContainer_28 : decode b_Mo_makeContainer 28 = .ok (.aload_n 0, 1) := by decide +kernel
theorem d_Mo_makeContainer_29 : decode b_Mo_makeContainer 29 = .ok (.iconst 1, 1) := by decide +kernel
theorem d_Mo_makeContainer_30 : decode b_Mo_makeContainer 30 = .ok (.invokevirtual 51, 3) := by decide +kernel
theorem d_Mo_makeContainer_33 : decode b_Mo_makeContainer 33 = .ok (.ireturn, 1) := by decide +kernel
theorem d_Mo_makeContainer_34 : decode b_Mo_makeContainer 34 = .ok (.aload_n 0, 1) := by decide +kernel
theorem d_Mo_makeContainer_35 : decode b_Mo_makeContainer 35 = .ok (.iload_n 1, 1) := by decide +kernel
theorem d_Mo_makeContainer_36 : decode b_Mo_makeContainer 36 = .ok (.iload_n 2, 1) := by decide +kernel
theorem d_Mo_makeContainer_37 : decode b_Mo_makeContainer 37 = .ok (.iload_n 3, 1) := by decide +kernel
theorem d_Mo_makeContainer_38 : decode b_Mo_makeContainer 38 = .ok (.iload 4, 2) := by decide +kernel
theorem d_Mo_makeContainer_40 : decode b_Mo_makeContainer 40 = .ok (.iconst 0, 1) := by decide +kernel
theorem d_Mo_makeContainer_41 : decode b_Mo_makeContainer 41 = .ok (.iconst 0, 1) := by decide +kernel
theorem d_Mo_makeContainer_42 : decode b_Mo_makeContainer 42 = .ok (.invokevirtual 84, 3) := by decide +kernel
theorem d_Mo_makeContainer_45 : decode b_Mo_makeContainer 45 = .ok (.ireturn, 1) := by decide +kernel
theorem d_Mo_container_0 : decode b_Mo_container 0 = .ok (.aload_n 0, 1) := by decide +kernel
theorem d_Mo_container_1 : decode b_Mo_container 1 = .ok (.iconst 0, 1) := by decide +kernel
theorem d_Mo_container_2 : decode b_Mo_container 2 = .ok (.putfield 16, 3) := by decide +kernel
theorem d_Mo_container_5 : decode b_Mo_container 5 = .ok (.aload_n 0, 1) := by decide +kernel
theorem d_Mo_container_6 : decode b_Mo_container 6 = .ok (.iload_n 1, 1) := by decide +kernel
theorem d_Mo_container_7 : decode b_Mo_container 7 = .ok (.iload_n 2, 1) := by decide +kernel
theorem d_Mo_container_8 : decode b_Mo_container 8 = .ok (.iload_n 3, 1) := by decide +kernel
theorem d_Mo_container_9 : decode b_Mo_container 9 = .ok (.iload 4, 2) := by decide +kernel
theorem d_Mo_container_11 : decode b_Mo_container 11 = .ok (.invokevirtual 88, 3) := by decide +kernel
theorem d_Mo_container_14 : decode b_Mo_container 14 = .ok (.ireturn, 1) := by decide +kernel
theorem d_Mo_makeSegment_0 : decode b_Mo_makeSegment 0 = .ok (.aload_n 0, 1) := by decide +kernel
theorem d_Mo_makeSegment_1 : decode b_Mo_makeSegment 1 = .ok (.iload_n 3, 1) := by decide +kernel
theorem d_Mo_makeSegment_2 : decode b_Mo_makeSegment 2 = .ok (.invokevirtual 54, 3) := by decide +kernel
theorem d_Mo_makeSegment_5 : decode b_Mo_makeSegment 5 = .ok (.ifCond .eq 22, 3) := by decide +kernel
theorem d_Mo_makeSegment_8 : decode b_Mo_makeSegment 8 = .ok (.iload 4, 2) := by decide +kernel
theorem d_Mo_makeSegment_10 : decode b_Mo_makeSegment 10 = .ok (.iconst 1, 1) := by decide +kernel
theorem d_Mo_makeSegment_11 : decode b_Mo_makeSegment 11 = .ok (.bipush 8, 2) := by decide +kernel
theorem d_Mo_makeSegment_13 : decode b_Mo_makeSegment 13 = .ok (.invokestatic 28, 3) := by decide +kernel
theorem d_Mo_makeSegment_16 : decode b_Mo_makeSegment 16 = .ok (.ifCond .eq 11, 3) := by decide +kernel
theorem d_Mo_makeSegment_19 : decode b_Mo_makeSegment 19 = .ok (.aload_n 0, 1) := by decide +kernel
theorem d_Mo_makeSegment_20 : decode b_Mo_makeSegment 20 = .ok (.iload_n 3, 1) := by decide +kernel
theorem d_Mo_makeSegment_21 : decode b_Mo_makeSegment 21 = .ok (.invokevirtual 81, 3) := by decide +kernel
theorem d_Mo_makeSegment_24 : decode b_Mo_makeSegment 24 = .ok (.ifCond .ne 9, 3) := by decide +kernel
theorem d_Mo_makeSegment_27 : decode b_Mo_makeSegment 27 = .ok (.aload_n 0, 1) := by decide +kernel
theorem d_Mo_makeSegment_28 : decode b_Mo_makeSegment 28 = .ok (.iconst 1, 1) := by decide +kernel
theorem d_Mo_makeSegment_29 : decode b_Mo_makeSegment 29 = .ok (.invokevirtual 51, 3) := by decide +kernel
theorem d_Mo_makeSegment_32 : decode b_Mo_makeSegment 32 = .ok (.ireturn, 1) := by decide +kernel
theorem d_Mo_makeSegment_33 : decode b_Mo_makeSegment 33 = .ok (.aload_n 0, 1) := by decide +kernel
theorem d_Mo_makeSegment_34 : decode b_Mo_makeSegment 34 = .ok (.iload_n 1, 1) := by decide +kernel
theorem d_Mo_makeSegment_35 : decode b_Mo_makeSegment 35 = .ok (.iload_n 2, 1) := by decide +kernel
theorem d_Mo_makeSegment_36 : decode b_Mo_makeSegment 36 = .ok (.iload_n 3, 1) := by decide +kernel
theorem d_Mo_makeSegment_37 : decode b_Mo_makeSegment 37 = .ok (.iconst 1, 1) := by decide +kernel
theorem d_Mo_makeSegment_38 : decode b_Mo_makeSegment 38 = .ok (.iload 4, 2) := by decide +kernel
theorem d_Mo_makeSegment_40 : decode b_Mo_makeSegment 40 = .ok (.iadd, 1) := by decide +kernel
theorem d_Mo_makeSegment_41 : decode b_Mo_makeSegment 41 = .ok (.iconst 1, 1) := by decide +kernel
theorem d_Mo_makeSegment_42 : decode b_Mo_makeSegment 42 = .ok (.iconst 0, 1) := by decide +kernel
theorem d_Mo_makeSegment_43 : decode b_Mo_makeSegment 43 = .ok (.invokevirtual 84, 3) := by decide +kernel
theorem d_Mo_makeSegment_46 : decode b_Mo_makeSegment 46 = .ok (.istore 5, 2) := by decide +kernel
theorem d_Mo_makeSegment_48 : decode b_Mo_makeSegment 48 = .ok (.iload 5, 2) := by decide +kernel
theorem d_Mo_makeSegment_50 : decode b_Mo_makeSegment 50 = .ok (.ifCond .le 18, 3) := by decide +kernel
theorem d_Mo_makeSegment_53 : decode b_Mo_makeSegment 53 = .ok (.aload_n 0, 1) := by decide +kernel
theorem d_Mo_makeSegment_54 : decode b_Mo_makeSegment 54 = .ok (.getfield 7, 3) := by decide +kernel
theorem d_Mo_makeSegment_57 : decode b_Mo_makeSegment 57 = .ok (.bipush 17, 2) := by decide +kernel
theorem d_Mo_makeSegment_59 : decode b_Mo_makeSegment 59 = .ok (.iload 5, 2) := by decide +kernel
theorem d_Mo_makeSegment_61 : decode b_Mo_makeSegment 61 = .ok (.imul, 1) := by decide +kernel
theorem d_Mo_makeSegment_62 : decode b_Mo_makeSegment 62 = .ok (.bipush 8, 2) := by decide +kernel
theorem d_Mo_makeSegment_64 : decode b_Mo_makeSegment 64 = .ok (.iadd, 1) := by decide +kernel
theorem d_Mo_makeSegment_65 : decode b_Mo_makeSegment 65 = .ok (.iload 4, 2) := by decide +kernel
theorem d_Mo_makeSegment_67 : decode b_Mo_makeSegment 67 = .ok (.iastore, 1) := by decide +kernel
theorem d_Mo_makeSegment_68 : decode b_Mo_makeSegment 68 = .ok (.iload 5, 2) := by decide +kernel
theorem d_Mo_makeSegment_70 : decode b_Mo_makeSegment 70 = .ok (.ireturn, 1) := by decide +kernel
theorem d_Mo_segment_0 : decode b_Mo_segment 0 = .ok (.aload_n 0, 1) := by decide +kernel
theorem d_Mo_segment_1 : decode b_Mo_segment 1 = .ok (.iconst 0, 1) := by decide +kernel
theorem d_Mo_segment_2 : decode b_Mo_segment 2 = .ok (.putfield 16, 3) := by decide +kernel
theorem d_Mo_segment_5 : decode b_Mo_segment 5 = .ok (.aload_n 0, 1) := by decide +kernel
theorem d_Mo_segment_6 : decode b_Mo_segment 6 = .ok (.iload_n 1, 1) := by decide +kernel
theorem d_Mo_segment_7 : decode b_Mo_segment 7 = .ok (.iload_n 2, 1) := by decide +kernel
theorem d_Mo_segment_8 : decode b_Mo_segment 8 = .ok (.iload_n 3, 1) := by decide +kernel
theorem d_Mo_segment_9 : decode b_Mo_segment 9 = .ok (.iload 4, 2) := by decide +kernel
theorem d_Mo_segment_11 : decode b_Mo_segment 11 = .ok (.invokevirtual 92, 3) := by decide +kernel
theorem d_Mo_segment_14 : decode b_Mo_segment 14 = .ok (.ireturn, 1) := by decide +kernel
theorem d_Mo_makeGate_0 : decode b_Mo_makeGate 0 = .ok (.aload_n 0, 1) := by decide +kernel
theorem d_Mo_makeGate_1 : decode b_Mo_makeGate 1 = .ok (.iload_n 3, 1) := by decide +kernel
theorem d_Mo_makeGate_2 : decode b_Mo_makeGate 2 = .ok (.invokevirtual 54, 3) := by decide +kernel
theorem d_Mo_makeGate_5 : decode b_Mo_makeGate 5 = .ok (.ifCond .eq 21, 3) := by decide +kernel
theorem d_Mo_makeGate_8 : decode b_Mo_makeGate 8 = .ok (.aload_n 0, 1) := by decide +kernel
theorem d_Mo_makeGate_9 : decode b_Mo_makeGate 9 = .ok (.iload 4, 2) := by decide +kernel
theorem d_Mo_makeGate_11 : decode b_Mo_makeGate 11 = .ok (.invokevirtual 54, 3) := by decide +kernel
theorem d_Mo_makeGate_14 : decode b_Mo_makeGate 14 = .ok (.ifCond .eq 12, 3) := by decide +kernel
theorem d_Mo_makeGate_17 : decode b_Mo_makeGate 17 = .ok (.aload_n 0, 1) := by decide +kernel
theorem d_Mo_makeGate_18 : decode b_Mo_makeGate 18 = .ok (.iload 4, 2) := by decide +kernel
theorem d_Mo_makeGate_20 : decode b_Mo_makeGate 20 = .ok (.invokevirtual 81, 3) := by decide +kernel
theorem d_Mo_makeGate_23 : decode b_Mo_makeGate 23 = .ok (.ifCond .ne 9, 3) := by decide +kernel
theorem d_Mo_makeGate_26 : decode b_Mo_makeGate 26 = .ok (.aload_n 0, 1) := by decide +kernel
theorem d_Mo_makeGate_27 : decode b_Mo_makeGate 27 = .ok (.iconst 1, 1) := by decide +kernel
theorem d_Mo_makeGate_28 : decode b_Mo_makeGate 28 = .ok (.invokevirtual 51, 3) := by decide +kernel
theorem d_Mo_makeGate_31 : decode b_Mo_makeGate 31 = .ok (.ireturn, 1) := by decide +kernel
theorem d_Mo_makeGate_32 : decode b_Mo_makeGate 32 = .ok (.aload_n 0, 1) := by decide +kernel
theorem d_Mo_makeGate_33 : decode b_Mo_makeGate 33 = .ok (.iload_n 1, 1) := by decide +kernel
theorem d_Mo_makeGate_34 : decode b_Mo_makeGate 34 = .ok (.iload_n 2, 1) := by decide +kernel
theorem d_Mo_makeGate_35 : decode b_Mo_makeGate 35 = .ok (.iload_n 3, 1) := by decide +kernel
theorem d_Mo_makeGate_36 : decode b_Mo_makeGate 36 = .ok (.iconst 2, 1) := by decide +kernel
theorem d_Mo_makeGate_37 : decode b_Mo_makeGate 37 = .ok (.iconst 2, 1) := by decide +kernel
theorem d_Mo_makeGate_38 : decode b_Mo_makeGate 38 = .ok (.iconst 0, 1) := by decide +kernel
theorem d_Mo_makeGate_39 : decode b_Mo_makeGate 39 = .ok (.invokevirtual 84, 3) := by decide +kernel
theorem d_Mo_makeGate_42 : decode b_Mo_makeGate 42 = .ok (.istore 6, 2) := by decide +kernel
theorem d_Mo_makeGate_44 : decode b_Mo_makeGate 44 = .ok (.iload 6, 2) := by decide +kernel
theorem d_Mo_makeGate_46 : decode b_Mo_makeGate 46 = .ok (.ifCond .ne 5, 3) := by decide +kernel
theorem d_Mo_makeGate_49 : decode b_Mo_makeGate 49 = .ok (.iconst 0, 1) := by decide +kernel
theorem d_Mo_makeGate_50 : decode b_Mo_makeGate 50 = .ok (.ireturn, 1) := by decide +kernel
theorem d_Mo_makeGate_51 : decode b_Mo_makeGate 51 = .ok (.aload_n 0, 1) := by decide +kernel
theorem d_Mo_makeGate_52 : decode b_Mo_makeGate 52 = .ok (.getfield 7, 3) := by decide +kernel
theorem d_Mo_makeGate_55 : decode b_Mo_makeGate 55 = .ok (.bipush 17, 2) := by decide +kernel
theorem d_Mo_makeGate_57 : decode b_Mo_makeGate 57 = .ok (.iload 6, 2) := by decide +kernel
theorem d_Mo_makeGate_59 : decode b_Mo_makeGate 59 = .ok (.imul, 1) := by decide +kernel
theorem d_Mo_makeGate_60 : decode b_Mo_makeGate 60 = .ok (.iconst 5, 1) := by decide +kernel
theorem d_Mo_makeGate_61 : decode b_Mo_makeGate 61 = .ok (.iadd, 1) := by decide +kernel
theorem d_Mo_makeGate_62 : decode b_Mo_makeGate 62 = .ok (.iload 4, 2) := by decide +kernel
theorem d_Mo_makeGate_64 : decode b_Mo_makeGate 64 = .ok (.iastore, 1) := by decide +kernel
theorem d_Mo_makeGate_65 : decode b_Mo_makeGate 65 = .ok (.aload_n 0, 1) := by decide +kernel
theorem d_Mo_makeGate_66 : decode b_Mo_makeGate 66 = .ok (.getfield 7, 3) := by decide +kernel
theorem d_Mo_makeGate_69 : decode b_Mo_makeGate 69 = .ok (.bipush 17, 2) := by decide +kernel
theorem d_Mo_makeGate_71 : decode b_Mo_makeGate 71 = .ok (.iload 6, 2) := by decide +kernel
theorem d_Mo_makeGate_73 : decode b_Mo_makeGate 73 = .ok (.imul, 1) := by decide +kernel
theorem d_Mo_makeGate_74 : decode b_Mo_makeGate 74 = .ok (.bipush 7, 2) := by decide +kernel
theorem d_Mo_makeGate_76 : decode b_Mo_makeGate 76 = .ok (.iadd, 1) := by decide +kernel
theorem d_Mo_makeGate_77 : decode b_Mo_makeGate 77 = .ok (.iload 5, 2) := by decide +kernel
theorem d_Mo_makeGate_79 : decode b_Mo_makeGate 79 = .ok (.iastore, 1) := by decide +kernel
theorem d_Mo_makeGate_80 : decode b_Mo_makeGate 80 = .ok (.iload 6, 2) := by decide +kernel
theorem d_Mo_makeGate_82 : decode b_Mo_makeGate 82 = .ok (.ireturn, 1) := by decide +kernel
theorem d_Mo_gate_0 : decode b_Mo_gate 0 = .ok (.aload_n 0, 1) := by decide +kernel
theorem d_Mo_gate_1 : decode b_Mo_gate 1 = .ok (.iconst 0, 1) := by decide +kernel
theorem d_Mo_gate_2 : decode b_Mo_gate 2 = .ok (.putfield 16, 3) := by decide +kernel
theorem d_Mo_gate_5 : decode b_Mo_gate 5 = .ok (.aload_n 0, 1) := by decide +kernel
theorem d_Mo_gate_6 : decode b_Mo_gate 6 = .ok (.iload_n 1, 1) := by decide +kernel
theorem d_Mo_gate_7 : decode b_Mo_gate 7 = .ok (.iload_n 2, 1) := by decide +kernel
theorem d_Mo_gate_8 : decode b_Mo_gate 8 = .ok (.iload_n 3, 1) := by decide +kernel
theorem d_Mo_gate_9 : decode b_Mo_gate 9 = .ok (.iload 4, 2) := by decide +kernel
theorem d_Mo_gate_11 : decode b_Mo_gate 11 = .ok (.iload 5, 2) := by decide +kernel
theorem d_Mo_gate_13 : decode b_Mo_gate 13 = .ok (.invokevirtual 95, 3) := by decide +kernel
theorem d_Mo_gate_16 : decode b_Mo_gate 16 = .ok (.ireturn, 1) := by decide +kernel
theorem d_Mo_thread_0 : decode b_Mo_thread 0 = .ok (.aload_n 0, 1) := by decide +kernel
theorem d_Mo_thread_1 : decode b_Mo_thread 1 = .ok (.iconst 0, 1) := by decide +kernel
theorem d_Mo_thread_2 : decode b_Mo_thread 2 = .ok (.putfield 16, 3) := by decide +kernel
theorem d_Mo_thread_5 : decode b_Mo_thread 5 = .ok (.aload_n 0, 1) := by decide +kernel
theorem d_Mo_thread_6 : decode b_Mo_thread 6 = .ok (.iload_n 3, 1) := by decide +kernel
theorem d_Mo_thread_7 : decode b_Mo_thread 7 = .ok (.invokevirtual 54, 3) := by decide +kernel
theorem d_Mo_thread_10 : decode b_Mo_thread 10 = .ok (.ifCond .eq 21, 3) := by decide +kernel
theorem d_Mo_thread_13 : decode b_Mo_thread 13 = .ok (.aload_n 0, 1) := by decide +kernel
theorem d_Mo_thread_14 : decode b_Mo_thread 14 = .ok (.iload 4, 2) := by decide +kernel
theorem d_Mo_thread_16 : decode b_Mo_thread 16 = .ok (.invokevirtual 54, 3) := by decide +kernel
theorem d_Mo_thread_19 : decode b_Mo_thread 19 = .ok (.ifCond .eq 12, 3) := by decide +kernel
theorem d_Mo_thread_22 : decode b_Mo_thread 22 = .ok (.aload_n 0, 1) := by decide +kernel
theorem d_Mo_thread_23 : decode b_Mo_thread 23 = .ok (.iload 4, 2) := by decide +kernel
theorem d_Mo_thread_25 : decode b_Mo_thread 25 = .ok (.invokevirtual 81, 3) := by decide +kernel
theorem d_Mo_thread_28 : decode b_Mo_thread 28 = .ok (.ifCond .ne 9, 3) := by decide +kernel
theorem d_Mo_thread_31 : decode b_Mo_thread 31 = .ok (.aload_n 0, 1) := by decide +kernel
theorem d_Mo_thread_32 : decode b_Mo_thread 32 = .ok (.iconst 1, 1) := by decide +kernel
theorem d_Mo_thread_33 : decode b_Mo_thread 33 = .ok (.invokevirtual 51, 3) := by decide +kernel
theorem d_Mo_thread_36 : decode b_Mo_thread 36 = .ok (.ireturn, 1) := by decide +kernel
theorem d_Mo_thread_37 : decode b_Mo_thread 37 = .ok (.aload_n 0, 1) := by decide +kernel
theorem d_Mo_thread_38 : decode b_Mo_thread 38 = .ok (.iload_n 1, 1) := by decide +kernel
theorem d_Mo_thread_39 : decode b_Mo_thread 39 = .ok (.iload_n 2, 1) := by decide +kernel
theorem d_Mo_thread_40 : decode b_Mo_thread 40 = .ok (.iload_n 3, 1) := by decide +kernel
theorem d_Mo_thread_41 : decode b_Mo_thread 41 = .ok (.iconst 2, 1) := by decide +kernel
theorem d_Mo_thread_42 : decode b_Mo_thread 42 = .ok (.iconst 3, 1) := by decide +kernel
theorem d_Mo_thread_43 : decode b_Mo_thread 43 = .ok (.iload 4, 2) := by decide +kernel
theorem d_Mo_thread_45 : decode b_Mo_thread 45 = .ok (.invokevirtual 84, 3) := by decide +kernel
theorem d_Mo_thread_48 : decode b_Mo_thread 48 = .ok (.ireturn, 1) := by decide +kernel
theorem d_Mo_named_0 : decode b_Mo_named 0 = .ok (.aload_n 0, 1) := by decide +kernel
theorem d_Mo_named_1 : decode b_Mo_named 1 = .ok (.iload_n 1, 1) := by decide +kernel
theorem d_Mo_named_2 : decode b_Mo_named 2 = .ok (.invokevirtual 43, 3) := by decide +kernel
theorem d_Mo_named_5 : decode b_Mo_named 5 = .ok (.ifCond .eq 19, 3) := by decide +kernel
theorem d_Mo_named_8 : decode b_Mo_named 8 = .ok (.aload_n 0, 1) := by decide +kernel
theorem d_Mo_named_9 : decode b_Mo_named 9 = .ok (.iload_n 2, 1) := by decide +kernel
theorem d_Mo_named_10 : decode b_Mo_named 10 = .ok (.invokevirtual 43, 3) := by decide +kernel
theorem d_Mo_named_13 : decode b_Mo_named 13 = .ok (.ifCond .eq 11, 3) := by decide +kernel
theorem d_Mo_named_16 : decode b_Mo_named 16 = .ok (.aload_n 0, 1) := by decide +kernel
theorem d_Mo_named_17 : decode b_Mo_named 17 = .ok (.iload_n 3, 1) := by decide +kernel
theorem d_Mo_named_18 : decode b_Mo_named 18 = .ok (.invokevirtual 43, 3) := by decide +kernel
theorem d_Mo_named_21 : decode b_Mo_named 21 = .ok (.ifCond .ne 11, 3) := by decide +kernel
theorem d_Mo_named_24 : decode b_Mo_named 24 = .ok (.aload_n 0, 1) := by decide +kernel
theorem d_Mo_named_25 : decode b_Mo_named 25 = .ok (.iconst 2, 1) := by decide +kernel
theorem d_Mo_named_26 : decode b_Mo_named 26 = .ok (.putfield 16, 3) := by decide +kernel
theorem d_Mo_named_29 : decode b_Mo_named 29 = .ok (.goto 61, 3) := by decide +kernel
theorem d_Mo_named_32 : decode b_Mo_named 32 = .ok (.aload_n 0, 1) := by decide +kernel
theorem d_Mo_named_33 : decode b_Mo_named 33 = .ok (.iload_n 1, 1) := by decide +kernel
theorem d_Mo_named_34 : decode b_Mo_named 34 = .ok (.iconst 1, 1) := by decide +kernel
theorem d_Mo_named_35 : decode b_Mo_named 35 = .ok (.invokevirtual 32, 3) := by decide +kernel
theorem d_Mo_named_38 : decode b_Mo_named 38 = .ok (.iconst 3, 1) := by decide +kernel
theorem d_Mo_named_39 : decode b_Mo_named 39 = .ok (.if_icmp .ne 28, 3) := by decide +kernel
theorem d_Mo_named_42 : decode b_Mo_named 42 = .ok (.aload_n 0, 1) := by decide +kernel
theorem d_Mo_named_43 : decode b_Mo_named 43 = .ok (.iload_n 2, 1) := by decide +kernel
theorem d_Mo_named_44 : decode b_Mo_named 44 = .ok (.iconst 1, 1) := by decide +kernel
theorem d_Mo_named_45 : decode b_Mo_named 45 = .ok (.invokevirtual 32, 3) := by decide +kernel
theorem d_Mo_named_48 : decode b_Mo_named 48 = .ok (.ifCond .ne 19, 3) := by decide +kernel
theorem d_Mo_named_51 : decode b_Mo_named 51 = .ok (.iload 4, 2) := by decide +kernel
theorem d_Mo_named_53 : decode b_Mo_named 53 = .ok (.ifCond .lt 22, 3) := by decide +kernel
theorem d_Mo_named_56 : decode b_Mo_named 56 = .ok (.aload_n 0, 1) := by decide +kernel
theorem d_Mo_named_57 : decode b_Mo_named 57 = .ok (.iload_n 3, 1) := by decide +kernel
theorem d_Mo_named_58 : decode b_Mo_named 58 = .ok (.iconst 1, 1) := by decide +kernel
theorem d_Mo_named_59 : decode b_Mo_named 59 = .ok (.invokevirtual 32, 3) := by decide +kernel
theorem d_Mo_named_62 : decode b_Mo_named 62 = .ok (.iload 4, 2) := by decide +kernel
theorem d_Mo_named_64 : decode b_Mo_named 64 = .ok (.if_icmp .eq 11, 3) := by decide +kernel
theorem d_Mo_named_67 : decode b_Mo_named 67 = .ok (.aload_n 0, 1) := by decide +kernel
theorem d_Mo_named_68 : decode b_Mo_named 68 = .ok (.iconst 1, 1) := by decide +kernel
theorem d_Mo_named_69 : decode b_Mo_named 69 = .ok (.putfield 16, 3) := by decide +kernel
theorem d_Mo_named_72 : decode b_Mo_named 72 = .ok (.goto 18, 3) := by decide +kernel
theorem d_Mo_named_75 : decode b_Mo_named 75 = .ok (.aload_n 0, 1) := by decide +kernel
theorem d_Mo_named_76 : decode b_Mo_named 76 = .ok (.iload_n 3, 1) := by decide +kernel
theorem d_Mo_named_77 : decode b_Mo_named 77 = .ok (.iconst 4, 1) := by decide +kernel
theorem d_Mo_named_78 : decode b_Mo_named 78 = .ok (.invokevirtual 32, 3) := by decide +kernel
theorem d_Mo_named_81 : decode b_Mo_named 81 = .ok (.iload_n 2, 1) := by decide +kernel
theorem d_Mo_named_82 : decode b_Mo_named 82 = .ok (.if_icmp .eq 8, 3) := by decide +kernel
theorem d_Mo_named_85 : decode b_Mo_named 85 = .ok (.aload_n 0, 1) := by decide +kernel
theorem d_Mo_named_86 : decode b_Mo_named 86 = .ok (.iconst 2, 1) := by decide +kernel
theorem d_Mo_named_87 : decode b_Mo_named 87 = .ok (.putfield 16, 3) := by decide +kernel
theorem d_Mo_named_90 : decode b_Mo_named 90 = .ok (.aload_n 0, 1) := by decide +kernel
theorem d_Mo_named_91 : decode b_Mo_named 91 = .ok (.getfield 16, 3) := by decide +kernel
theorem d_Mo_named_94 : decode b_Mo_named 94 = .ok (.ifCond .ne 7, 3) := by decide +kernel
theorem d_Mo_named_97 : decode b_Mo_named 97 = .ok (.iconst 1, 1) := by decide +kernel
theorem d_Mo_named_98 : decode b_Mo_named 98 = .ok (.goto 4, 3) := by decide +kernel
theorem d_Mo_named_101 : decode b_Mo_named 101 = .ok (.iconst 0, 1) := by decide +kernel
theorem d_Mo_named_102 : decode b_Mo_named 102 = .ok (.ireturn, 1) := by decide +kernel
theorem d_Mo_cell_0 : decode b_Mo_cell 0 = .ok (.iload 4, 2) := by decide +kernel
theorem d_Mo_cell_2 : decode b_Mo_cell 2 = .ok (.iconst 0, 1) := by decide +kernel
theorem d_Mo_cell_3 : decode b_Mo_cell 3 = .ok (.bipush 7, 2) := by decide +kernel
theorem d_Mo_cell_5 : decode b_Mo_cell 5 = .ok (.invokestatic 28, 3) := by decide +kernel
theorem d_Mo_cell_8 : decode b_Mo_cell 8 = .ok (.ifCond .ne 9, 3) := by decide +kernel
theorem d_Mo_cell_11 : decode b_Mo_cell 11 = .ok (.aload_n 0, 1) := by decide +kernel
theorem d_Mo_cell_12 : decode b_Mo_cell 12 = .ok (.iconst 1, 1) := by decide +kernel
theorem d_Mo_cell_13 : decode b_Mo_cell 13 = .ok (.invokevirtual 51, 3) := by decide +kernel
theorem d_Mo_cell_16 : decode b_Mo_cell 16 = .ok (.ireturn, 1) := by decide +kernel
theorem d_Mo_cell_17 : decode b_Mo_cell 17 = .ok (.aload_n 0, 1) := by decide +kernel
theorem d_Mo_cell_18 : decode b_Mo_cell 18 = .ok (.iload_n 1, 1) := by decide +kernel
theorem d_Mo_cell_19 : decode b_Mo_cell 19 = .ok (.iload_n 2, 1) := by decide +kernel
theorem d_Mo_cell_20 : decode b_Mo_cell 20 = .ok (.iload_n 3, 1) := by decide +kernel
theorem d_Mo_cell_21 : decode b_Mo_cell 21 = .ok (.iconst 1, 1) := by decide +kernel
theorem d_Mo_cell_22 : decode b_Mo_cell 22 = .ok (.invokevirtual 99, 3) := by decide +kernel
theorem d_Mo_cell_25 : decode b_Mo_cell 25 = .ok (.ifCond .ne 5, 3) := by decide +kernel
theorem d_Mo_cell_28 : decode b_Mo_cell 28 = .ok (.iconst 0, 1) := by decide +kernel
theorem d_Mo_cell_29 : decode b_Mo_cell 29 = .ok (.ireturn, 1) := by decide +kernel
theorem d_Mo_cell_30 : decode b_Mo_cell 30 = .ok (.iload 4, 2) := by decide +kernel
theorem d_Mo_cell_32 : decode b_Mo_cell 32 = .ok (.aload_n 0, 1) := by decide +kernel
theorem d_Mo_cell_33 : decode b_Mo_cell 33 = .ok (.iload_n 3, 1) := by decide +kernel
theorem d_Mo_cell_34 : decode b_Mo_cell 34 = .ok (.bipush 8, 2) := by decide +kernel
theorem d_Mo_cell_36 : decode b_Mo_cell 36 = .ok (.invokevirtual 32, 3) := by decide +kernel
theorem d_Mo_cell_39 : decode b_Mo_cell 39 = .ok (.if_icmp .lt 9, 3) := by decide +kernel
theorem d_Mo_cell_42 : decode b_Mo_cell 42 = .ok (.aload_n 0, 1) := by decide +kernel
theorem d_Mo_cell_43 : decode b_Mo_cell 43 = .ok (.iconst 2, 1) := by decide +kernel
theorem d_Mo_cell_44 : decode b_Mo_cell 44 = .ok (.invokevirtual 51, 3) := by decide +kernel
theorem d_Mo_cell_47 : decode b_Mo_cell 47 = .ok (.ireturn, 1) := by decide +kernel
theorem d_Mo_cell_48 : decode b_Mo_cell 48 = .ok (.aload_n 0, 1) := by decide +kernel
theorem d_Mo_cell_49 : decode b_Mo_cell 49 = .ok (.iload_n 1, 1) := by decide +kernel
theorem d_Mo_cell_50 : decode b_Mo_cell 50 = .ok (.iload_n 2, 1) := by decide +kernel
theorem d_Mo_cell_51 : decode b_Mo_cell 51 = .ok (.invokevirtual 39, 3) := by decide +kernel
theorem d_Mo_cell_54 : decode b_Mo_cell 54 = .ok (.ifCond .eq 29, 3) := by decide +kernel
theorem d_Mo_cell_57 : decode b_Mo_cell 57 = .ok (.iload 5, 2) := by decide +kernel
theorem d_Mo_cell_59 : decode b_Mo_cell 59 = .ok (.ifCond .eq 15, 3) := by decide +kernel
theorem d_Mo_cell_62 : decode b_Mo_cell 62 = .ok (.aload_n 0, 1) := by decide +kernel
theorem d_Mo_cell_63 : decode b_Mo_cell 63 = .ok (.iload_n 1, 1) := by decide +kernel
theorem d_Mo_cell_64 : decode b_Mo_cell 64 = .ok (.iload_n 3, 1) := by decide +kernel
theorem d_Mo_cell_65 : decode b_Mo_cell 65 = .ok (.invokevirtual 69, 3) := by decide +kernel
theorem d_Mo_cell_68 : decode b_Mo_cell 68 = .ok (.ifCond .eq 15, 3) := by decide +kernel
theorem d_Mo_cell_71 : decode b_Mo_cell 71 = .ok (.goto 18, 3) := by decide +kernel
theorem d_Mo_cell_74 : decode b_Mo_cell 74 = .ok (.aload_n 0, 1) := by decide +kernel
theorem d_Mo_cell_75 : decode b_Mo_cell 75 = .ok (.iload_n 1, 1) := by decide +kernel
theorem d_Mo_cell_76 : decode b_Mo_cell 76 = .ok (.iload_n 3, 1) := by decide +kernel
theorem d_Mo_cell_77 : decode b_Mo_cell 77 = .ok (.invokevirtual 39, 3) := by decide +kernel
theorem d_Mo_cell_80 : decode b_Mo_cell 80 = .ok (.ifCond .ne 9, 3) := by decide +kernel
theorem d_Mo_cell_83 : decode b_Mo_cell 83 = .ok (.aload_n 0, 1) := by decide +kernel
theorem d_Mo_cell_84 : decode b_Mo_cell 84 = .ok (.iconst 3, 1) := by decide +kernel
theorem d_Mo_cell_85 : decode b_Mo_cell 85 = .ok (.invokevirtual 51, 3) := by decide +kernel
theorem d_Mo_cell_88 : decode b_Mo_cell 88 = .ok (.ireturn, 1) := by decide +kernel
theorem d_Mo_cell_89 : decode b_Mo_cell 89 = .ok (.bipush 17, 2) := by decide +kernel
theorem d_Mo_cell_91 : decode b_Mo_cell 91 = .ok (.iload_n 3, 1) := by decide +kernel
theorem d_Mo_cell_92 : decode b_Mo_cell 92 = .ok (.imul, 1) := by decide +kernel
theorem d_Mo_cell_93 : decode b_Mo_cell 93 = .ok (.bipush 9, 2) := by decide +kernel
theorem d_Mo_cell_95 : decode b_Mo_cell 95 = .ok (.iadd, 1) := by decide +kernel
theorem d_Mo_cell_96 : decode b_Mo_cell 96 = .ok (.iload 4, 2) := by decide +kernel
theorem d_Mo_cell_98 : decode b_Mo_cell 98 = .ok (.iadd, 1) := by decide +kernel
theorem d_Mo_cell_99 : decode b_Mo_cell 99 = .ok (.istore 7, 2) := by decide +kernel
theorem d_Mo_cell_101 : decode b_Mo_cell 101 = .ok (.aload_n 0, 1) := by decide +kernel
theorem d_Mo_cell_102 : decode b_Mo_cell 102 = .ok (.getfield 7, 3) := by decide +kernel
theorem d_Mo_cell_105 : decode b_Mo_cell 105 = .ok (.iload 7, 2) := by decide +kernel
theorem d_Mo_cell_107 : decode b_Mo_cell 107 = .ok (.iaload, 1) := by decide +kernel
theorem d_Mo_cell_108 : decode b_Mo_cell 108 = .ok (.istore 8, 2) := by decide +kernel
theorem d_Mo_cell_110 : decode b_Mo_cell 110 = .ok (.iload 5, 2) := by decide +kernel
theorem d_Mo_cell_112 : decode b_Mo_cell 112 = .ok (.ifCond .eq 12, 3) := by decide +kernel
theorem d_Mo_cell_115 : decode b_Mo_cell 115 = .ok (.aload_n 0, 1) := by decide +kernel
theorem d_Mo_cell_116 : decode b_Mo_cell 116 = .ok (.getfield 7, 3) := by decide +kernel
theorem d_Mo_cell_119 : decode b_Mo_cell 119 = .ok (.iload 7, 2) := by decide +kernel
theorem d_Mo_cell_121 : decode b_Mo_cell 121 = .ok (.iload 6, 2) := by decide +kernel
theorem d_Mo_cell_123 : decode b_Mo_cell 123 = .ok (.iastore, 1) := by decide +kernel
theorem d_Mo_cell_124 : decode b_Mo_cell 124 = .ok (.iload 8, 2) := by decide +kernel
theorem d_Mo_cell_126 : decode b_Mo_cell 126 = .ok (.ireturn, 1) := by decide +kernel
theorem d_Mo_read_0 : decode b_Mo_read 0 = .ok (.aload_n 0, 1) := by decide +kernel
theorem d_Mo_read_1 : decode b_Mo_read 1 = .ok (.iconst 0, 1) := by decide +kernel
theorem d_Mo_read_2 : decode b_Mo_read 2 = .ok (.putfield 16, 3) := by decide +kernel
theorem d_Mo_read_5 : decode b_Mo_read 5 = .ok (.aload_n 0, 1) := by decide +kernel
theorem d_Mo_read_6 : decode b_Mo_read 6 = .ok (.iload_n 1, 1) := by decide +kernel
theorem d_Mo_read_7 : decode b_Mo_read 7 = .ok (.iload_n 2, 1) := by decide +kernel
theorem d_Mo_read_8 : decode b_Mo_read 8 = .ok (.iload_n 3, 1) := by decide +kernel
theorem d_Mo_read_9 : decode b_Mo_read 9 = .ok (.iload 4, 2) := by decide +kernel
theorem d_Mo_read_11 : decode b_Mo_read 11 = .ok (.iconst 0, 1) := by decide +kernel
theorem d_Mo_read_12 : decode b_Mo_read 12 = .ok (.iconst 0, 1) := by decide +kernel
theorem d_Mo_read_13 : decode b_Mo_read 13 = .ok (.invokevirtual 103, 3) := by decide +kernel
theorem d_Mo_read_16 : decode b_Mo_read 16 = .ok (.ireturn, 1) := by decide +kernel
theorem d_Mo_write_0 : decode b_Mo_write 0 = .ok (.aload_n 0, 1) := by decide +kernel
theorem d_Mo_write_1 : decode b_Mo_write 1 = .ok (.iconst 0, 1) := by decide +kernel
theorem d_Mo_write_2 : decode b_Mo_write 2 = .ok (.putfield 16, 3) := by decide +kernel
theorem d_Mo_write_5 : decode b_Mo_write 5 = .ok (.aload_n 0, 1) := by decide +kernel
theorem d_Mo_write_6 : decode b_Mo_write 6 = .ok (.iload_n 1, 1) := by decide +kernel
theorem d_Mo_write_7 : decode b_Mo_write 7 = .ok (.iload_n 2, 1) := by decide +kernel
theorem d_Mo_write_8 : decode b_Mo_write 8 = .ok (.iload_n 3, 1) := by decide +kernel
theorem d_Mo_write_9 : decode b_Mo_write 9 = .ok (.iload 4, 2) := by decide +kernel
theorem d_Mo_write_11 : decode b_Mo_write 11 = .ok (.iconst 1, 1) := by decide +kernel
theorem d_Mo_write_12 : decode b_Mo_write 12 = .ok (.iload 5, 2) := by decide +kernel
theorem d_Mo_write_14 : decode b_Mo_write 14 = .ok (.invokevirtual 103, 3) := by decide +kernel
theorem d_Mo_write_17 : decode b_Mo_write 17 = .ok (.ireturn, 1) := by decide +kernel
theorem d_Mo_move_0 : decode b_Mo_move 0 = .ok (.aload_n 0, 1) := by decide +kernel
theorem d_Mo_move_1 : decode b_Mo_move 1 = .ok (.iconst 0, 1) := by decide +kernel
theorem d_Mo_move_2 : decode b_Mo_move 2 = .ok (.putfield 16, 3) := by decide +kernel
theorem d_Mo_move_5 : decode b_Mo_move 5 = .ok (.iload 4, 2) := by decide +kernel
theorem d_Mo_move_7 : decode b_Mo_move 7 = .ok (.sipush (-200), 3) := by decide +kernel
theorem d_Mo_move_10 : decode b_Mo_move 10 = .ok (.sipush 200, 3) := by decide +kernel
theorem d_Mo_move_13 : decode b_Mo_move 13 = .ok (.invokestatic 28, 3) := by decide +kernel
theorem d_Mo_move_16 : decode b_Mo_move 16 = .ok (.ifCond .ne 9, 3) := by decide +kernel
theorem d_Mo_move_19 : decode b_Mo_move 19 = .ok (.aload_n 0, 1) := by decide +kernel
theorem d_Mo_move_20 : decode b_Mo_move 20 = .ok (.iconst 1, 1) := by decide +kernel
theorem d_Mo_move_21 : decode b_Mo_move 21 = .ok (.invokevirtual 51, 3) := by decide +kernel
theorem d_Mo_move_24 : decode b_Mo_move 24 = .ok (.ireturn, 1) := by decide +kernel
theorem d_Mo_move_25 : decode b_Mo_move 25 = .ok (.aload_n 0, 1) := by decide +kernel
theorem d_Mo_move_26 : decode b_Mo_move 26 = .ok (.iload_n 1, 1) := by decide +kernel
theorem d_Mo_move_27 : decode b_Mo_move 27 = .ok (.iload_n 2, 1) := by decide +kernel
theorem d_Mo_move_28 : decode b_Mo_move 28 = .ok (.iload_n 3, 1) := by decide +kernel
theorem d_Mo_move_29 : decode b_Mo_move 29 = .ok (.iconst (-1), 1) := by decide +kernel
theorem d_Mo_move_30 : decode b_Mo_move 30 = .ok (.invokevirtual 99, 3) := by decide +kernel
theorem d_Mo_move_33 : decode b_Mo_move 33 = .ok (.ifCond .ne 5, 3) := by decide +kernel
theorem d_Mo_move_36 : decode b_Mo_move 36 = .ok (.iconst 0, 1) := by decide +kernel
theorem d_Mo_move_37 : decode b_Mo_move 37 = .ok (.ireturn, 1) := by decide +kernel
theorem d_Mo_move_38 : decode b_Mo_move 38 = .ok (.aload_n 0, 1) := by decide +kernel
theorem d_Mo_move_39 : decode b_Mo_move 39 = .ok (.iload_n 1, 1) := by decide +kernel
theorem d_Mo_move_40 : decode b_Mo_move 40 = .ok (.iload_n 2, 1) := by decide +kernel
theorem d_Mo_move_41 : decode b_Mo_move 41 = .ok (.invokevirtual 69, 3) := by decide +kernel
theorem d_Mo_move_44 : decode b_Mo_move 44 = .ok (.ifCond .eq 12, 3) := by decide +kernel
theorem d_Mo_move_47 : decode b_Mo_move 47 = .ok (.aload_n 0, 1) := by decide +kernel
theorem d_Mo_move_48 : decode b_Mo_move 48 = .ok (.iload_n 1, 1) := by decide +kernel
theorem d_Mo_move_49 : decode b_Mo_move 49 = .ok (.iload_n 3, 1) := by decide +kernel
theorem d_Mo_move_50 : decode b_Mo_move 50 = .ok (.invokevirtual 69, 3) := by decide +kernel
theorem d_Mo_move_53 : decode b_Mo_move 53 = .ok (.ifCond .ne 9, 3) := by decide +kernel
theorem d_Mo_move_56 : decode b_Mo_move 56 = .ok (.aload_n 0, 1) := by decide +kernel
theorem d_Mo_move_57 : decode b_Mo_move 57 = .ok (.iconst 3, 1) := by decide +kernel
theorem d_Mo_move_58 : decode b_Mo_move 58 = .ok (.invokevirtual 51, 3) := by decide +kernel
theorem d_Mo_move_61 : decode b_Mo_move 61 = .ok (.ireturn, 1) := by decide +kernel
theorem d_Mo_move_62 : decode b_Mo_move 62 = .ok (.aload_n 0, 1) := by decide +kernel
theorem d_Mo_move_63 : decode b_Mo_move 63 = .ok (.iload_n 2, 1) := by decide +kernel
theorem d_Mo_move_64 : decode b_Mo_move 64 = .ok (.iconst 3, 1) := by decide +kernel
theorem d_Mo_move_65 : decode b_Mo_move 65 = .ok (.invokevirtual 32, 3) := by decide +kernel
theorem d_Mo_move_68 : decode b_Mo_move 68 = .ok (.aload_n 0, 1) := by decide +kernel
theorem d_Mo_move_69 : decode b_Mo_move 69 = .ok (.iload_n 2, 1) := by decide +kernel
theorem d_Mo_move_70 : decode b_Mo_move 70 = .ok (.invokevirtual 75, 3) := by decide +kernel
theorem d_Mo_move_73 : decode b_Mo_move 73 = .ok (.iload 4, 2) := by decide +kernel
theorem d_Mo_move_75 : decode b_Mo_move 75 = .ok (.iadd, 1) := by decide +kernel
theorem d_Mo_move_76 : decode b_Mo_move 76 = .ok (.if_icmp .lt 20, 3) := by decide +kernel
theorem d_Mo_move_79 : decode b_Mo_move 79 = .ok (.aload_n 0, 1) := by decide +kernel
theorem d_Mo_move_80 : decode b_Mo_move 80 = .ok (.iload_n 3, 1) := by decide +kernel
theorem d_Mo_move_81 : decode b_Mo_move 81 = .ok (.iconst 3, 1) := by decide +kernel
theorem d_Mo_move_82 : decode b_Mo_move 82 = .ok (.invokevirtual 32, 3) := by decide +kernel
theorem d_Mo_move_85 : decode b_Mo_move 85 = .ok (.iload 4, 2) := by decide +kernel
theorem d_Mo_move_87 : decode b_Mo_move 87 = .ok (.iadd, 1) := by decide +kernel
theorem d_Mo_move_88 : decode b_Mo_move 88 = .ok (.aload_n 0, 1) := by decide +kernel
theorem d_Mo_move_89 : decode b_Mo_move 89 = .ok (.iload_n 3, 1) := by decide +kernel
theorem d_Mo_move_90 : decode b_Mo_move 90 = .ok (.invokevirtual 75, 3) := by decide +kernel
theorem d_Mo_move_93 : decode b_Mo_move 93 = .ok (.if_icmp .ge 9, 3) := by decide +kernel
theorem d_Mo_move_96 : decode b_Mo_move 96 = .ok (.aload_n 0, 1) := by decide +kernel
theorem d_Mo_move_97 : decode b_Mo_move 97 = .ok (.iconst 4, 1) := by decide +kernel
theorem d_Mo_move_98 : decode b_Mo_move 98 = .ok (.invokevirtual 51, 3) := by decide +kernel
theorem d_Mo_move_101 : decode b_Mo_move 101 = .ok (.ireturn, 1) := by decide +kernel
theorem d_Mo_move_102 : decode b_Mo_move 102 = .ok (.aload_n 0, 1) := by decide +kernel
theorem d_Mo_move_103 : decode b_Mo_move 103 = .ok (.getfield 7, 3) := by decide +kernel
theorem d_Mo_move_106 : decode b_Mo_move 106 = .ok (.bipush 17, 2) := by decide +kernel
theorem d_Mo_move_108 : decode b_Mo_move 108 = .ok (.iload_n 3, 1) := by decide +kernel
theorem d_Mo_move_109 : decode b_Mo_move 109 = .ok (.imul, 1) := by decide +kernel
theorem d_Mo_move_110 : decode b_Mo_move 110 = .ok (.iconst 3, 1) := by decide +kernel
theorem d_Mo_move_111 : decode b_Mo_move 111 = .ok (.iadd, 1) := by decide +kernel
theorem d_Mo_move_112 : decode b_Mo_move 112 = .ok (.dup2, 1) := by decide +kernel
theorem d_Mo_move_113 : decode b_Mo_move 113 = .ok (.iaload, 1) := by decide +kernel
theorem d_Mo_move_114 : decode b_Mo_move 114 = .ok (.iload 4, 2) := by decide +kernel
theorem d_Mo_move_116 : decode b_Mo_move 116 = .ok (.iadd, 1) := by decide +kernel
theorem d_Mo_move_117 : decode b_Mo_move 117 = .ok (.iastore, 1) := by decide +kernel
theorem d_Mo_move_118 : decode b_Mo_move 118 = .ok (.aload_n 0, 1) := by decide +kernel
theorem d_Mo_move_119 : decode b_Mo_move 119 = .ok (.iload_n 3, 1) := by decide +kernel
theorem d_Mo_move_120 : decode b_Mo_move 120 = .ok (.iconst 3, 1) := by decide +kernel
theorem d_Mo_move_121 : decode b_Mo_move 121 = .ok (.invokevirtual 32, 3) := by decide +kernel
theorem d_Mo_move_124 : decode b_Mo_move 124 = .ok (.ireturn, 1) := by decide +kernel
theorem d_Mo_remove_0 : decode b_Mo_remove 0 = .ok (.aload_n 0, 1) := by decide +kernel
theorem d_Mo_remove_1 : decode b_Mo_remove 1 = .ok (.iload_n 1, 1) := by decide +kernel
theorem d_Mo_remove_2 : decode b_Mo_remove 2 = .ok (.iload_n 2, 1) := by decide +kernel
theorem d_Mo_remove_3 : decode b_Mo_remove 3 = .ok (.iload_n 3, 1) := by decide +kernel
theorem d_Mo_remove_4 : decode b_Mo_remove 4 = .ok (.iconst (-1), 1) := by decide +kernel
theorem d_Mo_remove_5 : decode b_Mo_remove 5 = .ok (.invokevirtual 99, 3) := by decide +kernel
theorem d_Mo_remove_8 : decode b_Mo_remove 8 = .ok (.ifCond .ne 5, 3) := by decide +kernel
theorem d_Mo_remove_11 : decode b_Mo_remove 11 = .ok (.iconst 0, 1) := by decide +kernel
theorem d_Mo_remove_12 : decode b_Mo_remove 12 = .ok (.ireturn, 1) := by decide +kernel
theorem d_Mo_remove_13 : decode b_Mo_remove 13 = .ok (.aload_n 0, 1) := by decide +kernel
theorem d_Mo_remove_14 : decode b_Mo_remove 14 = .ok (.iload_n 1, 1) := by decide +kernel
theorem d_Mo_remove_15 : decode b_Mo_remove 15 = .ok (.iload_n 2, 1) := by decide +kernel
theorem d_Mo_remove_16 : decode b_Mo_remove 16 = .ok (.invokevirtual 69, 3) := by decide +kernel
theorem d_Mo_remove_19 : decode b_Mo_remove 19 = .ok (.ifCond .ne 9, 3) := by decide +kernel
theorem d_Mo_remove_22 : decode b_Mo_remove 22 = .ok (.aload_n 0, 1) := by decide +kernel
theorem d_Mo_remove_23 : decode b_Mo_remove 23 = .ok (.iconst 3, 1) := by decide +kernel
theorem d_Mo_remove_24 : decode b_Mo_remove 24 = .ok (.invokevirtual 51, 3) := by decide +kernel
theorem d_Mo_remove_27 : decode b_Mo_remove 27 = .ok (.ireturn, 1) := by decide +kernel
theorem d_Mo_remove_28 : decode b_Mo_remove 28 = .ok (.aload_n 0, 1) := by decide +kernel
theorem d_Mo_remove_29 : decode b_Mo_remove 29 = .ok (.getfield 7, 3) := by decide +kernel
theorem d_Mo_remove_32 : decode b_Mo_remove 32 = .ok (.bipush 17, 2) := by decide +kernel
theorem d_Mo_remove_34 : decode b_Mo_remove 34 = .ok (.iload_n 3, 1) := by decide +kernel
theorem d_Mo_remove_35 : decode b_Mo_remove 35 = .ok (.imul, 1) := by decide +kernel
theorem d_Mo_remove_36 : decode b_Mo_remove 36 = .ok (.iconst 0, 1) := by decide +kernel
theorem d_Mo_remove_37 : decode b_Mo_remove 37 = .ok (.iadd, 1) := by decide +kernel
theorem d_Mo_remove_38 : decode b_Mo_remove 38 = .ok (.iconst 0, 1) := by decide +kernel
theorem d_Mo_remove_39 : decode b_Mo_remove 39 = .ok (.iastore, 1) := by decide +kernel
theorem d_Mo_remove_40 : decode b_Mo_remove 40 = .ok (.iconst 1, 1) := by decide +kernel
theorem d_Mo_remove_41 : decode b_Mo_remove 41 = .ok (.istore 4, 2) := by decide +kernel
theorem d_Mo_remove_43 : decode b_Mo_remove 43 = .ok (.iload_n 3, 1) := by decide +kernel
theorem d_Mo_remove_44 : decode b_Mo_remove 44 = .ok (.iconst 1, 1) := by decide +kernel
theorem d_Mo_remove_45 : decode b_Mo_remove 45 = .ok (.iadd, 1) := by decide +kernel
theorem d_Mo_remove_46 : decode b_Mo_remove 46 = .ok (.istore 5, 2) := by decide +kernel
theorem d_Mo_remove_48 : decode b_Mo_remove 48 = .ok (.iload 5, 2) := by decide +kernel
theorem d_Mo_remove_50 : decode b_Mo_remove 50 = .ok (.aload_n 0, 1) := by decide +kernel
theorem d_Mo_remove_51 : decode b_Mo_remove 51 = .ok (.getfield 7, 3) := by decide +kernel
theorem d_Mo_remove_54 : decode b_Mo_remove 54 = .ok (.sipush 1549, 3) := by decide +kernel
theorem d_Mo_remove_57 : decode b_Mo_remove 57 = .ok (.iaload, 1) := by decide +kernel
theorem d_Mo_remove_58 : decode b_Mo_remove 58 = .ok (.if_icmp .gt 53, 3) := by decide +kernel
theorem d_Mo_remove_61 : decode b_Mo_remove 61 = .ok (.aload_n 0, 1) := by decide +kernel
theorem d_Mo_remove_62 : decode b_Mo_remove 62 = .ok (.iload 5, 2) := by decide +kernel
theorem d_Mo_remove_64 : decode b_Mo_remove 64 = .ok (.invokevirtual 43, 3) := by decide +kernel
theorem d_Mo_remove_67 : decode b_Mo_remove 67 = .ok (.ifCond .eq 38, 3) := by decide +kernel
theorem d_Mo_remove_70 : decode b_Mo_remove 70 = .ok (.aload_n 0, 1) := by decide +kernel
theorem d_Mo_remove_71 : decode b_Mo_remove 71 = .ok (.aload_n 0, 1) := by decide +kernel
theorem d_Mo_remove_72 : decode b_Mo_remove 72 = .ok (.iload 5, 2) := by decide +kernel
theorem d_Mo_remove_74 : decode b_Mo_remove 74 = .ok (.iconst 4, 1) := by decide +kernel
theorem d_Mo_remove_75 : decode b_Mo_remove 75 = .ok (.invokevirtual 32, 3) := by decide +kernel
theorem d_Mo_remove_78 : decode b_Mo_remove 78 = .ok (.iconst 0, 1) := by decide +kernel
theorem d_Mo_remove_79 : decode b_Mo_remove 79 = .ok (.invokevirtual 32, 3) := by decide +kernel
theorem d_Mo_remove_82 : decode b_Mo_remove 82 = .ok (.iconst 1, 1) := by decide +kernel
theorem d_Mo_remove_83 : decode b_Mo_remove 83 = .ok (.if_icmp .ne 6, 3) := by decide +kernel
theorem d_Mo_remove_86 : decode b_Mo_remove 86 = .ok (.goto 19, 3) := by decide +kernel
theorem d_Mo_remove_89 : decode b_Mo_remove 89 = .ok (.aload_n 0, 1) := by decide +kernel
theorem d_Mo_remove_90 : decode b_Mo_remove 90 = .ok (.getfield 7, 3) := by decide +kernel
theorem d_Mo_remove_93 : decode b_Mo_remove 93 = .ok (.bipush 17, 2) := by decide +kernel
theorem d_Mo_remove_95 : decode b_Mo_remove 95 = .ok (.iload 5, 2) := by decide +kernel
theorem d_Mo_remove_97 : decode b_Mo_remove 97 = .ok (.imul, 1) := by decide +kernel
theorem d_Mo_remove_98 : decode b_Mo_remove 98 = .ok (.iconst 0, 1) := by decide +kernel
theorem d_Mo_remove_99 : decode b_Mo_remove 99 = .ok (.iadd, 1) := by decide +kernel
theorem d_Mo_remove_100 : decode b_Mo_remove 100 = .ok (.iconst 0, 1) := by decide +kernel
theorem d_Mo_remove_101 : decode b_Mo_remove 101 = .ok (.iastore, 1) := by decide +kernel
theorem d_Mo_remove_102 : decode b_Mo_remove 102 = .ok (.iinc 4 1, 3) := by decide +kernel
theorem d_Mo_remove_105 : decode b_Mo_remove 105 = .ok (.iinc 5 1, 3) := by decide +kernel
theorem d_Mo_remove_108 : decode b_Mo_remove 108 = .ok (.goto (-60), 3) := by decide +kernel
theorem d_Mo_remove_111 : decode b_Mo_remove 111 = .ok (.iload 4, 2) := by decide +kernel
theorem d_Mo_remove_113 : decode b_Mo_remove 113 = .ok (.ireturn, 1) := by decide +kernel
theorem d_Mo_drop_0 : decode b_Mo_drop 0 = .ok (.aload_n 0, 1) := by decide +kernel
theorem d_Mo_drop_1 : decode b_Mo_drop 1 = .ok (.iconst 0, 1) := by decide +kernel
theorem d_Mo_drop_2 : decode b_Mo_drop 2 = .ok (.putfield 16, 3) := by decide +kernel
theorem d_Mo_drop_5 : decode b_Mo_drop 5 = .ok (.aload_n 0, 1) := by decide +kernel
theorem d_Mo_drop_6 : decode b_Mo_drop 6 = .ok (.iload_n 1, 1) := by decide +kernel
theorem d_Mo_drop_7 : decode b_Mo_drop 7 = .ok (.iload_n 2, 1) := by decide +kernel
theorem d_Mo_drop_8 : decode b_Mo_drop 8 = .ok (.iload_n 3, 1) := by decide +kernel
theorem d_Mo_drop_9 : decode b_Mo_drop 9 = .ok (.invokevirtual 107, 3) := by decide +kernel
theorem d_Mo_drop_12 : decode b_Mo_drop 12 = .ok (.ireturn, 1) := by decide +kernel
theorem d_Mo_become_0 : decode b_Mo_become 0 = .ok (.aload_n 0, 1) := by decide +kernel
theorem d_Mo_become_1 : decode b_Mo_become 1 = .ok (.iconst 0, 1) := by decide +kernel
theorem d_Mo_become_2 : decode b_Mo_become 2 = .ok (.putfield 16, 3) := by decide +kernel
theorem d_Mo_become_5 : decode b_Mo_become 5 = .ok (.aload_n 0, 1) := by decide +kernel
theorem d_Mo_become_6 : decode b_Mo_become 6 = .ok (.iload_n 2, 1) := by decide +kernel
theorem d_Mo_become_7 : decode b_Mo_become 7 = .ok (.invokevirtual 54, 3) := by decide +kernel
theorem d_Mo_become_10 : decode b_Mo_become 10 = .ok (.ifCond .ne 9, 3) := by decide +kernel
theorem d_Mo_become_13 : decode b_Mo_become 13 = .ok (.aload_n 0, 1) := by decide +kernel
theorem d_Mo_become_14 : decode b_Mo_become 14 = .ok (.iconst 1, 1) := by decide +kernel
theorem d_Mo_become_15 : decode b_Mo_become 15 = .ok (.invokevirtual 51, 3) := by decide +kernel
theorem d_Mo_become_18 : decode b_Mo_become 18 = .ok (.ireturn, 1) := by decide +kernel
theorem d_Mo_become_19 : decode b_Mo_become 19 = .ok (.aload_n 0, 1) := by decide +kernel
theorem d_Mo_become_20 : decode b_Mo_become 20 = .ok (.iload_n 1, 1) := by decide +kernel
theorem d_Mo_become_21 : decode b_Mo_become 21 = .ok (.invokevirtual 60, 3) := by decide +kernel
theorem d_Mo_become_24 : decode b_Mo_become 24 = .ok (.ifCond .ne 5, 3) := by decide +kernel
theorem d_Mo_become_27 : decode b_Mo_become 27 = .ok (.iconst 0, 1) := by decide +kernel
theorem d_Mo_become_28 : decode b_Mo_become 28 = .ok (.ireturn, 1) := by decide +kernel
theorem d_Mo_become_29 : decode b_Mo_become 29 = .ok (.aload_n 0, 1) := by decide +kernel
theorem d_Mo_become_30 : decode b_Mo_become 30 = .ok (.aload_n 0, 1) := by decide +kernel
theorem d_Mo_become_31 : decode b_Mo_become 31 = .ok (.iload_n 1, 1) := by decide +kernel
theorem d_Mo_become_32 : decode b_Mo_become 32 = .ok (.iconst 2, 1) := by decide +kernel
theorem d_Mo_become_33 : decode b_Mo_become 33 = .ok (.invokevirtual 32, 3) := by decide +kernel
theorem d_Mo_become_36 : decode b_Mo_become 36 = .ok (.iload_n 2, 1) := by decide +kernel
theorem d_Mo_become_37 : decode b_Mo_become 37 = .ok (.iconst 0, 1) := by decide +kernel
theorem d_Mo_become_38 : decode b_Mo_become 38 = .ok (.invokevirtual 35, 3) := by decide +kernel
theorem d_Mo_become_41 : decode b_Mo_become 41 = .ok (.ifCond .eq 28, 3) := by decide +kernel
theorem d_Mo_become_44 : decode b_Mo_become 44 = .ok (.aload_n 0, 1) := by decide +kernel
theorem d_Mo_become_45 : decode b_Mo_become 45 = .ok (.iload_n 2, 1) := by decide +kernel
theorem d_Mo_become_46 : decode b_Mo_become 46 = .ok (.aload_n 0, 1) := by decide +kernel
theorem d_Mo_become_47 : decode b_Mo_become 47 = .ok (.iload_n 1, 1) := by decide +kernel
theorem d_Mo_become_48 : decode b_Mo_become 48 = .ok (.bipush 6, 2) := by decide +kernel
theorem d_Mo_become_50 : decode b_Mo_become 50 = .ok (.invokevirtual 32, 3) := by decide +kernel
theorem d_Mo_become_53 : decode b_Mo_become 53 = .ok (.iconst 0, 1) := by decide +kernel
theorem d_Mo_become_54 : decode b_Mo_become 54 = .ok (.invokevirtual 35, 3) := by decide +kernel
theorem d_Mo_become_57 : decode b_Mo_become 57 = .ok (.ifCond .eq 12, 3) := by decide +kernel
theorem d_Mo_become_60 : decode b_Mo_become 60 = .ok (.aload_n 0, 1) := by decide +kernel
theorem d_Mo_become_61 : decode b_Mo_become 61 = .ok (.iload_n 2, 1) := by decide +kernel
theorem d_Mo_become_62 : decode b_Mo_become 62 = .ok (.iload_n 1, 1) := by decide +kernel
theorem d_Mo_become_63 : decode b_Mo_become 63 = .ok (.invokevirtual 72, 3) := by decide +kernel
theorem d_Mo_become_66 : decode b_Mo_become 66 = .ok (.ifCond .ne 9, 3) := by decide +kernel
theorem d_Mo_become_69 : decode b_Mo_become 69 = .ok (.aload_n 0, 1) := by decide +kernel
theorem d_Mo_become_70 : decode b_Mo_become 70 = .ok (.iconst 3, 1) := by decide +kernel
theorem d_Mo_become_71 : decode b_Mo_become 71 = .ok (.invokevirtual 51, 3) := by decide +kernel
theorem d_Mo_become_74 : decode b_Mo_become 74 = .ok (.ireturn, 1) := by decide +kernel
theorem d_Mo_become_75 : decode b_Mo_become 75 = .ok (.aload_n 0, 1) := by decide +kernel
theorem d_Mo_become_76 : decode b_Mo_become 76 = .ok (.getfield 7, 3) := by decide +kernel
theorem d_Mo_become_79 : decode b_Mo_become 79 = .ok (.bipush 17, 2) := by decide +kernel
theorem d_Mo_become_81 : decode b_Mo_become 81 = .ok (.iload_n 1, 1) := by decide +kernel
theorem d_Mo_become_82 : decode b_Mo_become 82 = .ok (.imul, 1) := by decide +kernel
theorem d_Mo_become_83 : decode b_Mo_become 83 = .ok (.iconst 2, 1) := by decide +kernel
theorem d_Mo_become_84 : decode b_Mo_become 84 = .ok (.iadd, 1) := by decide +kernel
theorem d_Mo_become_85 : decode b_Mo_become 85 = .ok (.iload_n 2, 1) := by decide +kernel
theorem d_Mo_become_86 : decode b_Mo_become 86 = .ok (.iastore, 1) := by decide +kernel
theorem d_Mo_become_87 : decode b_Mo_become 87 = .ok (.iconst 0, 1) := by decide +kernel
theorem d_Mo_become_88 : decode b_Mo_become 88 = .ok (.ireturn, 1) := by decide +kernel
theorem d_Mo_lower_0 : decode b_Mo_lower 0 = .ok (.aload_n 0, 1) := by decide +kernel
theorem d_Mo_lower_1 : decode b_Mo_lower 1 = .ok (.iconst 0, 1) := by decide +kernel
theorem d_Mo_lower_2 : decode b_Mo_lower 2 = .ok (.putfield 16, 3) := by decide +kernel
theorem d_Mo_lower_5 : decode b_Mo_lower 5 = .ok (.aload_n 0, 1) := by decide +kernel
theorem d_Mo_lower_6 : decode b_Mo_lower 6 = .ok (.iload_n 2, 1) := by decide +kernel
theorem d_Mo_lower_7 : decode b_Mo_lower 7 = .ok (.invokevirtual 54, 3) := by decide +kernel
theorem d_Mo_lower_10 : decode b_Mo_lower 10 = .ok (.ifCond .eq 11, 3) := by decide +kernel
theorem d_Mo_lower_13 : decode b_Mo_lower 13 = .ok (.aload_n 0, 1) := by decide +kernel
theorem d_Mo_lower_14 : decode b_Mo_lower 14 = .ok (.iload_n 2, 1) := by decide +kernel
theorem d_Mo_lower_15 : decode b_Mo_lower 15 = .ok (.invokevirtual 81, 3) := by decide +kernel
theorem d_Mo_lower_18 : decode b_Mo_lower 18 = .ok (.ifCond .ne 9, 3) := by decide +kernel
theorem d_Mo_lower_21 : decode b_Mo_lower 21 = .ok (.aload_n 0, 1) := by decide +kernel
theorem d_Mo_lower_22 : decode b_Mo_lower 22 = .ok (.iconst 1, 1) := by decide +kernel
theorem d_Mo_lower_23 : decode b_Mo_lower 23 = .ok (.invokevirtual 51, 3) := by decide +kernel
theorem d_Mo_lower_26 : decode b_Mo_lower 26 = .ok (.ireturn, 1) := by decide +kernel
theorem d_Mo_lower_27 : decode b_Mo_lower 27 = .ok (.aload_n 0, 1) := by decide +kernel
theorem d_Mo_lower_28 : decode b_Mo_lower 28 = .ok (.iload_n 1, 1) := by decide +kernel
theorem d_Mo_lower_29 : decode b_Mo_lower 29 = .ok (.invokevirtual 60, 3) := by decide +kernel
theorem d_Mo_lower_32 : decode b_Mo_lower 32 = .ok (.ifCond .ne 5, 3) := by decide +kernel
theorem d_Mo_lower_35 : decode b_Mo_lower 35 = .ok (.iconst 0, 1) := by decide +kernel
theorem d_Mo_lower_36 : decode b_Mo_lower 36 = .ok (.ireturn, 1) := by decide +kernel
theorem d_Mo_lower_37 : decode b_Mo_lower 37 = .ok (.aload_n 0, 1) := by decide +kernel
theorem d_Mo_lower_38 : decode b_Mo_lower 38 = .ok (.iload_n 2, 1) := by decide +kernel
theorem d_Mo_lower_39 : decode b_Mo_lower 39 = .ok (.aload_n 0, 1) := by decide +kernel
theorem d_Mo_lower_40 : decode b_Mo_lower 40 = .ok (.iload_n 1, 1) := by decide +kernel
theorem d_Mo_lower_41 : decode b_Mo_lower 41 = .ok (.bipush 6, 2) := by decide +kernel
theorem d_Mo_lower_43 : decode b_Mo_lower 43 = .ok (.invokevirtual 32, 3) := by decide +kernel
theorem d_Mo_lower_46 : decode b_Mo_lower 46 = .ok (.iconst 0, 1) := by decide +kernel
theorem d_Mo_lower_47 : decode b_Mo_lower 47 = .ok (.invokevirtual 35, 3) := by decide +kernel
theorem d_Mo_lower_50 : decode b_Mo_lower 50 = .ok (.ifCond .eq 18, 3) := by decide +kernel
theorem d_Mo_lower_53 : decode b_Mo_lower 53 = .ok (.aload_n 0, 1) := by decide +kernel
theorem d_Mo_lower_54 : decode b_Mo_lower 54 = .ok (.aload_n 0, 1) := by decide +kernel
theorem d_Mo_lower_55 : decode b_Mo_lower 55 = .ok (.iload_n 1, 1) := by decide +kernel
theorem d_Mo_lower_56 : decode b_Mo_lower 56 = .ok (.iconst 2, 1) := by decide +kernel
theorem d_Mo_lower_57 : decode b_Mo_lower 57 = .ok (.invokevirtual 32, 3) := by decide +kernel
theorem d_Mo_lower_60 : decode b_Mo_lower 60 = .ok (.iload_n 2, 1) := by decide +kernel
theorem d_Mo_lower_61 : decode b_Mo_lower 61 = .ok (.iconst 0, 1) := by decide +kernel
theorem d_Mo_lower_62 : decode b_Mo_lower 62 = .ok (.invokevirtual 35, 3) := by decide +kernel
theorem d_Mo_lower_65 : decode b_Mo_lower 65 = .ok (.ifCond .ne 9, 3) := by decide +kernel
theorem d_Mo_lower_68 : decode b_Mo_lower 68 = .ok (.aload_n 0, 1) := by decide +kernel
theorem d_Mo_lower_69 : decode b_Mo_lower 69 = .ok (.iconst 3, 1) := by decide +kernel
theorem d_Mo_lower_70 : decode b_Mo_lower 70 = .ok (.invokevirtual 51, 3) := by decide +kernel
theorem d_Mo_lower_73 : decode b_Mo_lower 73 = .ok (.ireturn, 1) := by decide +kernel
theorem d_Mo_lower_74 : decode b_Mo_lower 74 = .ok (.aload_n 0, 1) := by decide +kernel
theorem d_Mo_lower_75 : decode b_Mo_lower 75 = .ok (.getfield 7, 3) := by decide +kernel
theorem d_Mo_lower_78 : decode b_Mo_lower 78 = .ok (.bipush 17, 2) := by decide +kernel
theorem d_Mo_lower_80 : decode b_Mo_lower 80 = .ok (.iload_n 1, 1) := by decide +kernel
theorem d_Mo_lower_81 : decode b_Mo_lower 81 = .ok (.imul, 1) := by decide +kernel
theorem d_Mo_lower_82 : decode b_Mo_lower 82 = .ok (.bipush 6, 2) := by decide +kernel
theorem d_Mo_lower_84 : decode b_Mo_lower 84 = .ok (.iadd, 1) := by decide +kernel
theorem d_Mo_lower_85 : decode b_Mo_lower 85 = .ok (.iload_n 2, 1) := by decide +kernel
theorem d_Mo_lower_86 : decode b_Mo_lower 86 = .ok (.iastore, 1) := by decide +kernel
theorem d_Mo_lower_87 : decode b_Mo_lower 87 = .ok (.iconst 0, 1) := by decide +kernel
theorem d_Mo_lower_88 : decode b_Mo_lower 88 = .ok (.ireturn, 1) := by decide +kernel
theorem d_Mo_passes_0 : decode b_Mo_passes 0 = .ok (.aload_n 0, 1) := by decide +kernel
theorem d_Mo_passes_1 : decode b_Mo_passes 1 = .ok (.aload_n 0, 1) := by decide +kernel
theorem d_Mo_passes_2 : decode b_Mo_passes 2 = .ok (.iload_n 1, 1) := by decide +kernel
theorem d_Mo_passes_3 : decode b_Mo_passes 3 = .ok (.iconst 2, 1) := by decide +kernel
theorem d_Mo_passes_4 : decode b_Mo_passes 4 = .ok (.invokevirtual 32, 3) := by decide +kernel
theorem d_Mo_passes_7 : decode b_Mo_passes 7 = .ok (.aload_n 0, 1) := by decide +kernel
theorem d_Mo_passes_8 : decode b_Mo_passes 8 = .ok (.iload_n 2, 1) := by decide +kernel
theorem d_Mo_passes_9 : decode b_Mo_passes 9 = .ok (.iconst 5, 1) := by decide +kernel
theorem d_Mo_passes_10 : decode b_Mo_passes 10 = .ok (.invokevirtual 32, 3) := by decide +kernel
theorem d_Mo_passes_13 : decode b_Mo_passes 13 = .ok (.iconst 0, 1) := by decide +kernel
theorem d_Mo_passes_14 : decode b_Mo_passes 14 = .ok (.invokevirtual 35, 3) := by decide +kernel
theorem d_Mo_passes_17 : decode b_Mo_passes 17 = .ok (.ifCond .eq 14, 3) := by decide +kernel
theorem d_Mo_passes_20 : decode b_Mo_passes 20 = .ok (.aload_n 0, 1) := by decide +kernel
theorem d_Mo_passes_21 : decode b_Mo_passes 21 = .ok (.iload_n 3, 1) := by decide +kernel
theorem d_Mo_passes_22 : decode b_Mo_passes 22 = .ok (.iload 4, 2) := by decide +kernel
theorem d_Mo_passes_24 : decode b_Mo_passes 24 = .ok (.iconst 0, 1) := by decide +kernel
theorem d_Mo_passes_25 : decode b_Mo_passes 25 = .ok (.invokevirtual 35, 3) := by decide +kernel
theorem d_Mo_passes_28 : decode b_Mo_passes 28 = .ok (.ifCond .ne 5, 3) := by decide +kernel
theorem d_Mo_passes_31 : decode b_Mo_passes 31 = .ok (.iconst 0, 1) := by decide +kernel
theorem d_Mo_passes_32 : decode b_Mo_passes 32 = .ok (.ireturn, 1) := by decide +kernel
theorem d_Mo_passes_33 : decode b_Mo_passes 33 = .ok (.iconst 0, 1) := by decide +kernel
theorem d_Mo_passes_34 : decode b_Mo_passes 34 = .ok (.istore 5, 2) := by decide +kernel
theorem d_Mo_passes_36 : decode b_Mo_passes 36 = .ok (.iload 5, 2) := by decide +kernel
theorem d_Mo_passes_38 : decode b_Mo_passes 38 = .ok (.bipush 8, 2) := by decide +kernel
theorem d_Mo_passes_40 : decode b_Mo_passes 40 = .ok (.if_icmp .ge 137, 3) := by decide +kernel
theorem d_Mo_passes_43 : decode b_Mo_passes 43 = .ok (.aload_n 0, 1) := by decide +kernel
theorem d_Mo_passes_44 : decode b_Mo_passes 44 = .ok (.iload_n 3, 1) := by decide +kernel
theorem d_Mo_passes_45 : decode b_Mo_passes 45 = .ok (.iload 5, 2) := by decide +kernel
theorem d_Mo_passes_47 : decode b_Mo_passes 47 = .ok (.invokevirtual 20, 3) := by decide +kernel
theorem d_Mo_passes_50 : decode b_Mo_passes 50 = .ok (.istore 6, 2) := by decide +kernel
theorem d_Mo_passes_52 : decode b_Mo_passes 52 = .ok (.aload_n 0, 1) := by decide +kernel
theorem d_Mo_passes_53 : decode b_Mo_passes 53 = .ok (.aload_n 0, 1) := by decide +kernel
theorem d_Mo_passes_54 : decode b_Mo_passes 54 = .ok (.iload_n 1, 1) := by decide +kernel
theorem d_Mo_passes_55 : decode b_Mo_passes 55 = .ok (.iconst 2, 1) := by decide +kernel
theorem d_Mo_passes_56 : decode b_Mo_passes 56 = .ok (.invokevirtual 32, 3) := by decide +kernel
theorem d_Mo_passes_59 : decode b_Mo_passes 59 = .ok (.iload 5, 2) := by decide +kernel
theorem d_Mo_passes_61 : decode b_Mo_passes 61 = .ok (.invokevirtual 20, 3) := by decide +kernel
theorem d_Mo_passes_64 : decode b_Mo_passes 64 = .ok (.istore 7, 2) := by decide +kernel
theorem d_Mo_passes_66 : decode b_Mo_passes 66 = .ok (.aload_n 0, 1) := by decide +kernel
theorem d_Mo_passes_67 : decode b_Mo_passes 67 = .ok (.aload_n 0, 1) := by decide +kernel
theorem d_Mo_passes_68 : decode b_Mo_passes 68 = .ok (.iload_n 2, 1) := by decide +kernel
theorem d_Mo_passes_69 : decode b_Mo_passes 69 = .ok (.iconst 2, 1) := by decide +kernel
theorem d_Mo_passes_70 : decode b_Mo_passes 70 = .ok (.invokevirtual 32, 3) := by decide +kernel
theorem d_Mo_passes_73 : decode b_Mo_passes 73 = .ok (.iload 5, 2) := by decide +kernel
theorem d_Mo_passes_75 : decode b_Mo_passes 75 = .ok (.invokevirtual 20, 3) := by decide +kernel
theorem d_Mo_passes_78 : decode b_Mo_passes 78 = .ok (.istore 8, 2) := by decide +kernel
theorem d_Mo_passes_80 : decode b_Mo_passes 80 = .ok (.iload 6, 2) := by decide +kernel
theorem d_Mo_passes_82 : decode b_Mo_passes 82 = .ok (.iconst 4, 1) := by decide +kernel
theorem d_Mo_passes_83 : decode b_Mo_passes 83 = .ok (.if_icmp .ne 18, 3) := by decide +kernel
theorem d_Mo_passes_86 : decode b_Mo_passes 86 = .ok (.iload 7, 2) := by decide +kernel
theorem d_Mo_passes_88 : decode b_Mo_passes 88 = .ok (.iconst 4, 1) := by decide +kernel
theorem d_Mo_passes_89 : decode b_Mo_passes 89 = .ok (.if_icmp .eq 34, 3) := by decide +kernel
theorem d_Mo_passes_92 : decode b_Mo_passes 92 = .ok (.iload 8, 2) := by decide +kernel
theorem d_Mo_passes_94 : decode b_Mo_passes 94 = .ok (.iconst 4, 1) := by decide +kernel
theorem d_Mo_passes_95 : decode b_Mo_passes 95 = .ok (.if_icmp .eq 28, 3) := by decide +kernel
theorem d_Mo_passes_98 : decode b_Mo_passes 98 = .ok (.goto 23, 3) := by decide +kernel
theorem d_Mo_passes_101 : decode b_Mo_passes 101 = .ok (.iload 6, 2) := by decide +kernel
theorem d_Mo_passes_103 : decode b_Mo_passes 103 = .ok (.iload 7, 2) := by decide +kernel
theorem d_Mo_passes_105 : decode b_Mo_passes 105 = .ok (.invokestatic 24, 3) := by decide +kernel
theorem d_Mo_passes_108 : decode b_Mo_passes 108 = .ok (.if_icmp .lt 13, 3) := by decide +kernel
theorem d_Mo_passes_111 : decode b_Mo_passes 111 = .ok (.iload 6, 2) := by decide +kernel
theorem d_Mo_passes_113 : decode b_Mo_passes 113 = .ok (.iload 8, 2) := by decide +kernel
theorem d_Mo_passes_115 : decode b_Mo_passes 115 = .ok (.invokestatic 24, 3) := by decide +kernel
theorem d_Mo_passes_118 : decode b_Mo_passes 118 = .ok (.if_icmp .ge 5, 3) := by decide +kernel
theorem d_Mo_passes_121 : decode b_Mo_passes 121 = .ok (.iconst 0, 1) := by decide +kernel
theorem d_Mo_passes_122 : decode b_Mo_passes 122 = .ok (.ireturn, 1) := by decide +kernel
theorem d_Mo_passes_123 : decode b_Mo_passes 123 = .ok (.aload_n 0, 1) := by decide +kernel
theorem d_Mo_passes_124 : decode b_Mo_passes 124 = .ok (.iload 4, 2) := by decide +kernel
theorem d_Mo_passes_126 : decode b_Mo_passes 126 = .ok (.iload 5, 2) := by decide +kernel
theorem d_Mo_passes_128 : decode b_Mo_passes 128 = .ok (.invokevirtual 20, 3) := by decide +kernel
theorem d_Mo_passes_131 : decode b_Mo_passes 131 = .ok (.istore 9, 2) := by decide +kernel
theorem d_Mo_passes_133 : decode b_Mo_passes 133 = .ok (.iload 9, 2) := by decide +kernel
theorem d_Mo_passes_135 : decode b_Mo_passes 135 = .ok (.aload_n 0, 1) := by decide +kernel
theorem d_Mo_passes_136 : decode b_Mo_passes 136 = .ok (.aload_n 0, 1) := by decide +kernel
theorem d_Mo_passes_137 : decode b_Mo_passes 137 = .ok (.iload_n 1, 1) := by decide +kernel
theorem d_Mo_passes_138 : decode b_Mo_passes 138 = .ok (.bipush 6, 2) := by decide +kernel
theorem d_Mo_passes_140 : decode b_Mo_passes 140 = .ok (.invokevirtual 32, 3) := by decide +kernel
theorem d_Mo_passes_143 : decode b_Mo_passes 143 = .ok (.iload 5, 2) := by decide +kernel
theorem d_Mo_passes_145 : decode b_Mo_passes 145 = .ok (.invokevirtual 20, 3) := by decide +kernel
theorem d_Mo_passes_148 : decode b_Mo_passes 148 = .ok (.if_icmp .le 23, 3) := by decide +kernel
theorem d_Mo_passes_151 : decode b_Mo_passes 151 = .ok (.iload 9, 2) := by decide +kernel
theorem d_Mo_passes_153 : decode b_Mo_passes 153 = .ok (.aload_n 0, 1) := by decide +kernel
theorem d_Mo_passes_154 : decode b_Mo_passes 154 = .ok (.aload_n 0, 1) := by decide +kernel
theorem d_Mo_passes_155 : decode b_Mo_passes 155 = .ok (.iload_n 2, 1) := by decide +kernel
theorem d_Mo_passes_156 : decode b_Mo_passes 156 = .ok (.bipush 6, 2) := by decide +kernel
theorem d_Mo_passes_158 : decode b_Mo_passes 158 = .ok (.invokevirtual 32, 3) := by decide +kernel
theorem d_Mo_passes_161 : decode b_Mo_passes 161 = .ok (.iload 5, 2) := by decide +kernel
theorem d_Mo_passes_163 : decode b_Mo_passes 163 = .ok (.invokevirtual 20, 3) := by decide +kernel
theorem d_Mo_passes_166 : decode b_Mo_passes 166 = .ok (.if_icmp .le 5, 3) := by decide +kernel
theorem d_Mo_passes_169 : decode b_Mo_passes 169 = .ok (.iconst 0, 1) := by decide +kernel
theorem d_Mo_passes_170 : decode b_Mo_passes 170 = .ok (.ireturn, 1) := by decide +kernel
theorem d_Mo_passes_171 : decode b_Mo_passes 171 = .ok (.iinc 5 1, 3) := by decide +kernel
theorem d_Mo_passes_174 : decode b_Mo_passes 174 = .ok (.goto (-138), 3) := by decide +kernel
theorem d_Mo_passes_177 : decode b_Mo_passes 177 = .ok (.iconst 1, 1) := by decide +kernel
theorem d_Mo_passes_178 : decode b_Mo_passes 178 = .ok (.ireturn, 1) := by decide +kernel
theorem d_Mo_go_0 : decode b_Mo_go 0 = .ok (.aload_n 0, 1) := by decide +kernel
theorem d_Mo_go_1 : decode b_Mo_go 1 = .ok (.iload 4, 2) := by decide +kernel
theorem d_Mo_go_3 : decode b_Mo_go 3 = .ok (.invokevirtual 54, 3) := by decide +kernel
theorem d_Mo_go_6 : decode b_Mo_go 6 = .ok (.ifCond .eq 21, 3) := by decide +kernel
theorem d_Mo_go_9 : decode b_Mo_go 9 = .ok (.aload_n 0, 1) := by decide +kernel
theorem d_Mo_go_10 : decode b_Mo_go 10 = .ok (.iload 5, 2) := by decide +kernel
theorem d_Mo_go_12 : decode b_Mo_go 12 = .ok (.invokevirtual 54, 3) := by decide +kernel
theorem d_Mo_go_15 : decode b_Mo_go 15 = .ok (.ifCond .eq 12, 3) := by decide +kernel
theorem d_Mo_go_18 : decode b_Mo_go 18 = .ok (.aload_n 0, 1) := by decide +kernel
theorem d_Mo_go_19 : decode b_Mo_go 19 = .ok (.iload 5, 2) := by decide +kernel
theorem d_Mo_go_21 : decode b_Mo_go 21 = .ok (.invokevirtual 81, 3) := by decide +kernel
theorem d_Mo_go_24 : decode b_Mo_go 24 = .ok (.ifCond .ne 9, 3) := by decide +kernel
theorem d_Mo_go_27 : decode b_Mo_go 27 = .ok (.aload_n 0, 1) := by decide +kernel
theorem d_Mo_go_28 : decode b_Mo_go 28 = .ok (.iconst 1, 1) := by decide +kernel
theorem d_Mo_go_29 : decode b_Mo_go 29 = .ok (.invokevirtual 51, 3) := by decide +kernel
theorem d_Mo_go_32 : decode b_Mo_go 32 = .ok (.ireturn, 1) := by decide +kernel
theorem d_Mo_go_33 : decode b_Mo_go 33 = .ok (.aload_n 0, 1) := by decide +kernel
theorem d_Mo_go_34 : decode b_Mo_go 34 = .ok (.iload_n 1, 1) := by decide +kernel
theorem d_Mo_go_35 : decode b_Mo_go 35 = .ok (.iload_n 2, 1) := by decide +kernel
theorem d_Mo_go_36 : decode b_Mo_go 36 = .ok (.iload_n 3, 1) := by decide +kernel
theorem d_Mo_go_37 : decode b_Mo_go 37 = .ok (.iconst 2, 1) := by decide +kernel
theorem d_Mo_go_38 : decode b_Mo_go 38 = .ok (.invokevirtual 99, 3) := by decide +kernel
theorem d_Mo_go_41 : decode b_Mo_go 41 = .ok (.ifCond .ne 5, 3) := by decide +kernel
theorem d_Mo_go_44 : decode b_Mo_go 44 = .ok (.iconst 0, 1) := by decide +kernel
theorem d_Mo_go_45 : decode b_Mo_go 45 = .ok (.ireturn, 1) := by decide +kernel
theorem d_Mo_go_46 : decode b_Mo_go 46 = .ok (.aload_n 0, 1) := by decide +kernel
theorem d_Mo_go_47 : decode b_Mo_go 47 = .ok (.iload_n 1, 1) := by decide +kernel
theorem d_Mo_go_48 : decode b_Mo_go 48 = .ok (.iload_n 2, 1) := by decide +kernel
theorem d_Mo_go_49 : decode b_Mo_go 49 = .ok (.invokevirtual 39, 3) := by decide +kernel
theorem d_Mo_go_52 : decode b_Mo_go 52 = .ok (.ifCond .eq 16, 3) := by decide +kernel
theorem d_Mo_go_55 : decode b_Mo_go 55 = .ok (.aload_n 0, 1) := by decide +kernel
theorem d_Mo_go_56 : decode b_Mo_go 56 = .ok (.iload_n 1, 1) := by decide +kernel
theorem d_Mo_go_57 : decode b_Mo_go 57 = .ok (.iload_n 3, 1) := by decide +kernel
theorem d_Mo_go_58 : decode b_Mo_go 58 = .ok (.iload 4, 2) := by decide +kernel
theorem d_Mo_go_60 : decode b_Mo_go 60 = .ok (.iload 5, 2) := by decide +kernel
theorem d_Mo_go_62 : decode b_Mo_go 62 = .ok (.invokevirtual 110, 3) := by decide +kernel
theorem d_Mo_go_65 : decode b_Mo_go 65 = .ok (.ifCond .ne 9, 3) := by decide +kernel
theorem d_Mo_go_68 : decode b_Mo_go 68 = .ok (.aload_n 0, 1) := by decide +kernel
theorem d_Mo_go_69 : decode b_Mo_go 69 = .ok (.iconst 3, 1) := by decide +kernel
theorem d_Mo_go_70 : decode b_Mo_go 70 = .ok (.invokevirtual 51, 3) := by decide +kernel
theorem d_Mo_go_73 : decode b_Mo_go 73 = .ok (.ireturn, 1) := by decide +kernel
theorem d_Mo_go_74 : decode b_Mo_go 74 = .ok (.aload_n 0, 1) := by decide +kernel
theorem d_Mo_go_75 : decode b_Mo_go 75 = .ok (.getfield 7, 3) := by decide +kernel
theorem d_Mo_go_78 : decode b_Mo_go 78 = .ok (.bipush 17, 2) := by decide +kernel
theorem d_Mo_go_80 : decode b_Mo_go 80 = .ok (.iload_n 1, 1) := by decide +kernel
theorem d_Mo_go_81 : decode b_Mo_go 81 = .ok (.imul, 1) := by decide +kernel
theorem d_Mo_go_82 : decode b_Mo_go 82 = .ok (.iconst 2, 1) := by decide +kernel
theorem d_Mo_go_83 : decode b_Mo_go 83 = .ok (.iadd, 1) := by decide +kernel
theorem d_Mo_go_84 : decode b_Mo_go 84 = .ok (.iload 4, 2) := by decide +kernel
theorem d_Mo_go_86 : decode b_Mo_go 86 = .ok (.iastore, 1) := by decide +kernel
theorem d_Mo_go_87 : decode b_Mo_go 87 = .ok (.aload_n 0, 1) := by decide +kernel
theorem d_Mo_go_88 : decode b_Mo_go 88 = .ok (.getfield 7, 3) := by decide +kernel
theorem d_Mo_go_91 : decode b_Mo_go 91 = .ok (.bipush 17, 2) := by decide +kernel
theorem d_Mo_go_93 : decode b_Mo_go 93 = .ok (.iload_n 1, 1) := by decide +kernel
theorem d_Mo_go_94 : decode b_Mo_go 94 = .ok (.imul, 1) := by decide +kernel
theorem d_Mo_go_95 : decode b_Mo_go 95 = .ok (.bipush 6, 2) := by decide +kernel
theorem d_Mo_go_97 : decode b_Mo_go 97 = .ok (.iadd, 1) := by decide +kernel
theorem d_Mo_go_98 : decode b_Mo_go 98 = .ok (.iload 5, 2) := by decide +kernel
theorem d_Mo_go_100 : decode b_Mo_go 100 = .ok (.iastore, 1) := by decide +kernel
theorem d_Mo_go_101 : decode b_Mo_go 101 = .ok (.aload_n 0, 1) := by decide +kernel
theorem d_Mo_go_102 : decode b_Mo_go 102 = .ok (.iload_n 3, 1) := by decide +kernel
theorem d_Mo_go_103 : decode b_Mo_go 103 = .ok (.bipush 7, 2) := by decide +kernel
theorem d_Mo_go_105 : decode b_Mo_go 105 = .ok (.invokevirtual 32, 3) := by decide +kernel
theorem d_Mo_go_108 : decode b_Mo_go 108 = .ok (.ireturn, 1) := by decide +kernel
theorem d_Mo_enter_0 : decode b_Mo_enter 0 = .ok (.aload_n 0, 1) := by decide +kernel
theorem d_Mo_enter_1 : decode b_Mo_enter 1 = .ok (.iconst 0, 1) := by decide +kernel
theorem d_Mo_enter_2 : decode b_Mo_enter 2 = .ok (.putfield 16, 3) := by decide +kernel
theorem d_Mo_enter_5 : decode b_Mo_enter 5 = .ok (.aload_n 0, 1) := by decide +kernel
theorem d_Mo_enter_6 : decode b_Mo_enter 6 = .ok (.iload_n 1, 1) := by decide +kernel
theorem d_Mo_enter_7 : decode b_Mo_enter 7 = .ok (.iload_n 2, 1) := by decide +kernel
theorem d_Mo_enter_8 : decode b_Mo_enter 8 = .ok (.iload_n 3, 1) := by decide +kernel
theorem d_Mo_enter_9 : decode b_Mo_enter 9 = .ok (.iload 4, 2) := by decide +kernel
theorem d_Mo_enter_11 : decode b_Mo_enter 11 = .ok (.iload 5, 2) := by decide +kernel
theorem d_Mo_enter_13 : decode b_Mo_enter 13 = .ok (.invokevirtual 113, 3) := by decide +kernel
theorem d_Mo_enter_16 : decode b_Mo_enter 16 = .ok (.ireturn, 1) := by decide +kernel
theorem d_Mo_of_0 : decode b_Mo_of 0 = .ok (.aload_n 0, 1) := by decide +kernel
theorem d_Mo_of_1 : decode b_Mo_of 1 = .ok (.getfield 7, 3) := by decide +kernel
theorem d_Mo_of_4 : decode b_Mo_of 4 = .ok (.sipush 1517, 3) := by decide +kernel
theorem d_Mo_of_7 : decode b_Mo_of 7 = .ok (.bipush 8, 2) := by decide +kernel
theorem d_Mo_of_9 : decode b_Mo_of 9 = .ok (.iload_n 1, 1) := by decide +kernel
theorem d_Mo_of_10 : decode b_Mo_of 10 = .ok (.imul, 1) := by decide +kernel
theorem d_Mo_of_11 : decode b_Mo_of 11 = .ok (.iadd, 1) := by decide +kernel
theorem d_Mo_of_12 : decode b_Mo_of 12 = .ok (.iload_n 2, 1) := by decide +kernel
theorem d_Mo_of_13 : decode b_Mo_of 13 = .ok (.iadd, 1) := by decide +kernel
theorem d_Mo_of_14 : decode b_Mo_of 14 = .ok (.iaload, 1) := by decide +kernel
theorem d_Mo_of_15 : decode b_Mo_of 15 = .ok (.ireturn, 1) := by decide +kernel
theorem d_Mo_both_0 : decode b_Mo_both 0 = .ok (.aload_n 0, 1) := by decide +kernel
theorem d_Mo_both_1 : decode b_Mo_both 1 = .ok (.iload_n 1, 1) := by decide +kernel
theorem d_Mo_both_2 : decode b_Mo_both 2 = .ok (.iload_n 2, 1) := by decide +kernel
theorem d_Mo_both_3 : decode b_Mo_both 3 = .ok (.iload 4, 2) := by decide +kernel
theorem d_Mo_both_5 : decode b_Mo_both 5 = .ok (.invokevirtual 57, 3) := by decide +kernel
theorem d_Mo_both_8 : decode b_Mo_both 8 = .ok (.istore 6, 2) := by decide +kernel
theorem d_Mo_both_10 : decode b_Mo_both 10 = .ok (.aload_n 0, 1) := by decide +kernel
theorem d_Mo_both_11 : decode b_Mo_both 11 = .ok (.getfield 16, 3) := by decide +kernel
theorem d_Mo_both_14 : decode b_Mo_both 14 = .ok (.ifCond .ne 15, 3) := by decide +kernel
theorem d_Mo_both_17 : decode b_Mo_both 17 = .ok (.aload_n 0, 1) := by decide +kernel
theorem d_Mo_both_18 : decode b_Mo_both 18 = .ok (.iload 6, 2) := by decide +kernel
theorem d_Mo_both_20 : decode b_Mo_both 20 = .ok (.iload_n 3, 1) := by decide +kernel
theorem d_Mo_both_21 : decode b_Mo_both 21 = .ok (.iload 5, 2) := by decide +kernel
theorem d_Mo_both_23 : decode b_Mo_both 23 = .ok (.invokevirtual 57, 3) := by decide +kernel
theorem d_Mo_both_26 : decode b_Mo_both 26 = .ok (.goto 4, 3) := by decide +kernel
theorem d_Mo_both_29 : decode b_Mo_both 29 = .ok (.iconst 0, 1) := by decide +kernel
theorem d_Mo_both_30 : decode b_Mo_both 30 = .ok (.ireturn, 1) := by decide +kernel
theorem d_Mo_user_0 : decode b_Mo_user 0 = .ok (.aload_n 0, 1) := by decide +kernel
theorem d_Mo_user_1 : decode b_Mo_user 1 = .ok (.iconst 0, 1) := by decide +kernel
theorem d_Mo_user_2 : decode b_Mo_user 2 = .ok (.putfield 16, 3) := by decide +kernel
theorem d_Mo_user_5 : decode b_Mo_user 5 = .ok (.iload_n 2, 1) := by decide +kernel
theorem d_Mo_user_6 : decode b_Mo_user 6 = .ok (.iconst 0, 1) := by decide +kernel
theorem d_Mo_user_7 : decode b_Mo_user 7 = .ok (.iconst 3, 1) := by decide +kernel
theorem d_Mo_user_8 : decode b_Mo_user 8 = .ok (.invokestatic 28, 3) := by decide +kernel
theorem d_Mo_user_11 : decode b_Mo_user 11 = .ok (.ifCond .eq 13, 3) := by decide +kernel
theorem d_Mo_user_14 : decode b_Mo_user 14 = .ok (.aload_n 0, 1) := by decide +kernel
theorem d_Mo_user_15 : decode b_Mo_user 15 = .ok (.iload_n 2, 1) := by decide +kernel
theorem d_Mo_user_16 : decode b_Mo_user 16 = .ok (.iconst 0, 1) := by decide +kernel
theorem d_Mo_user_17 : decode b_Mo_user 17 = .ok (.invokevirtual 116, 3) := by decide +kernel
theorem d_Mo_user_20 : decode b_Mo_user 20 = .ok (.iconst 1, 1) := by decide +kernel
theorem d_Mo_user_21 : decode b_Mo_user 21 = .ok (.if_icmp .ne 9, 3) := by decide +kernel
theorem d_Mo_user_24 : decode b_Mo_user 24 = .ok (.aload_n 0, 1) := by decide +kernel
theorem d_Mo_user_25 : decode b_Mo_user 25 = .ok (.iconst 1, 1) := by decide +kernel
theorem d_Mo_user_26 : decode b_Mo_user 26 = .ok (.invokevirtual 51, 3) := by decide +kernel
theorem d_Mo_user_29 : decode b_Mo_user 29 = .ok (.ireturn, 1) := by decide +kernel
theorem d_Mo_user_30 : decode b_Mo_user 30 = .ok (.aload_n 0, 1) := by decide +kernel
theorem d_Mo_user_31 : decode b_Mo_user 31 = .ok (.iload_n 1, 1) := by decide +kernel
theorem d_Mo_user_32 : decode b_Mo_user 32 = .ok (.invokevirtual 63, 3) := by decide +kernel
theorem d_Mo_user_35 : decode b_Mo_user 35 = .ok (.istore 4, 2) := by decide +kernel
theorem d_Mo_user_37 : decode b_Mo_user 37 = .ok (.aload_n 0, 1) := by decide +kernel
theorem d_Mo_user_38 : decode b_Mo_user 38 = .ok (.getfield 16, 3) := by decide +kernel
theorem d_Mo_user_41 : decode b_Mo_user 41 = .ok (.ifCond .ne 11, 3) := by decide +kernel
theorem d_Mo_user_44 : decode b_Mo_user 44 = .ok (.aload_n 0, 1) := by decide +kernel
theorem d_Mo_user_45 : decode b_Mo_user 45 = .ok (.iload_n 1, 1) := by decide +kernel
theorem d_Mo_user_46 : decode b_Mo_user 46 = .ok (.invokevirtual 63, 3) := by decide +kernel
theorem d_Mo_user_49 : decode b_Mo_user 49 = .ok (.goto 4, 3) := by decide +kernel
theorem d_Mo_user_52 : decode b_Mo_user 52 = .ok (.iconst 0, 1) := by decide +kernel
theorem d_Mo_user_53 : decode b_Mo_user 53 = .ok (.istore 5, 2) := by decide +kernel
theorem d_Mo_user_55 : decode b_Mo_user 55 = .ok (.aload_n 0, 1) := by decide +kernel
theorem d_Mo_user_56 : decode b_Mo_user 56 = .ok (.getfield 16, 3) := by decide +kernel
theorem d_Mo_user_59 : decode b_Mo_user 59 = .ok (.ifCond .ne 17, 3) := by decide +kernel
theorem d_Mo_user_62 : decode b_Mo_user 62 = .ok (.aload_n 0, 1) := by decide +kernel
theorem d_Mo_user_63 : decode b_Mo_user 63 = .ok (.iconst 0, 1) := by decide +kernel
theorem d_Mo_user_64 : decode b_Mo_user 64 = .ok (.iload 4, 2) := by decide +kernel
theorem d_Mo_user_66 : decode b_Mo_user 66 = .ok (.iload 5, 2) := by decide +kernel
theorem d_Mo_user_68 : decode b_Mo_user 68 = .ok (.iconst 3, 1) := by decide +kernel
theorem d_Mo_user_69 : decode b_Mo_user 69 = .ok (.iconst 0, 1) := by decide +kernel
theorem d_Mo_user_70 : decode b_Mo_user 70 = .ok (.invokevirtual 119, 3) := by decide +kernel
theorem d_Mo_user_73 : decode b_Mo_user 73 = .ok (.goto 4, 3) := by decide +kernel
theorem d_Mo_user_76 : decode b_Mo_user 76 = .ok (.iconst 0, 1) := by decide +kernel
theorem d_Mo_user_77 : decode b_Mo_user 77 = .ok (.istore 6, 2) := by decide +kernel
theorem d_Mo_user_79 : decode b_Mo_user 79 = .ok (.aload_n 0, 1) := by decide +kernel
theorem d_Mo_user_80 : decode b_Mo_user 80 = .ok (.getfield 16, 3) := by decide +kernel
theorem d_Mo_user_83 : decode b_Mo_user 83 = .ok (.ifCond .ne 16, 3) := by decide +kernel
theorem d_Mo_user_86 : decode b_Mo_user 86 = .ok (.aload_n 0, 1) := by decide +kernel
theorem d_Mo_user_87 : decode b_Mo_user 87 = .ok (.iload_n 1, 1) := by decide +kernel
theorem d_Mo_user_88 : decode b_Mo_user 88 = .ok (.iconst 1, 1) := by decide +kernel
theorem d_Mo_user_89 : decode b_Mo_user 89 = .ok (.iload 6, 2) := by decide +kernel
theorem d_Mo_user_91 : decode b_Mo_user 91 = .ok (.bipush 40, 2) := by decide +kernel
theorem d_Mo_user_93 : decode b_Mo_user 93 = .ok (.invokevirtual 88, 3) := by decide +kernel
theorem d_Mo_user_96 : decode b_Mo_user 96 = .ok (.goto 4, 3) := by decide +kernel
theorem d_Mo_user_99 : decode b_Mo_user 99 = .ok (.iconst 0, 1) := by decide +kernel
theorem d_Mo_user_100 : decode b_Mo_user 100 = .ok (.istore 7, 2) := by decide +kernel
theorem d_Mo_user_102 : decode b_Mo_user 102 = .ok (.aload_n 0, 1) := by decide +kernel
theorem d_Mo_user_103 : decode b_Mo_user 103 = .ok (.getfield 16, 3) := by decide +kernel
theorem d_Mo_user_106 : decode b_Mo_user 106 = .ok (.ifCond .ne 16, 3) := by decide +kernel
theorem d_Mo_user_109 : decode b_Mo_user 109 = .ok (.aload_n 0, 1) := by decide +kernel
theorem d_Mo_user_110 : decode b_Mo_user 110 = .ok (.iload_n 1, 1) := by decide +kernel
theorem d_Mo_user_111 : decode b_Mo_user 111 = .ok (.iload 7, 2) := by decide +kernel
theorem d_Mo_user_113 : decode b_Mo_user 113 = .ok (.iload 6, 2) := by decide +kernel
theorem d_Mo_user_115 : decode b_Mo_user 115 = .ok (.iconst 4, 1) := by decide +kernel
theorem d_Mo_user_116 : decode b_Mo_user 116 = .ok (.invokevirtual 92, 3) := by decide +kernel
theorem d_Mo_user_119 : decode b_Mo_user 119 = .ok (.goto 4, 3) := by decide +kernel
theorem d_Mo_user_122 : decode b_Mo_user 122 = .ok (.iconst 0, 1) := by decide +kernel
theorem d_Mo_user_123 : decode b_Mo_user 123 = .ok (.istore 8, 2) := by decide +kernel
theorem d_Mo_user_125 : decode b_Mo_user 125 = .ok (.aload_n 0, 1) := by decide +kernel
theorem d_Mo_user_126 : decode b_Mo_user 126 = .ok (.getfield 16, 3) := by decide +kernel
theorem d_Mo_user_129 : decode b_Mo_user 129 = .ok (.ifCond .ne 17, 3) := by decide +kernel
theorem d_Mo_user_132 : decode b_Mo_user 132 = .ok (.aload_n 0, 1) := by decide +kernel
theorem d_Mo_user_133 : decode b_Mo_user 133 = .ok (.iconst 0, 1) := by decide +kernel
theorem d_Mo_user_134 : decode b_Mo_user 134 = .ok (.iload 4, 2) := by decide +kernel
theorem d_Mo_user_136 : decode b_Mo_user 136 = .ok (.iload 5, 2) := by decide +kernel
theorem d_Mo_user_138 : decode b_Mo_user 138 = .ok (.iconst 4, 1) := by decide +kernel
theorem d_Mo_user_139 : decode b_Mo_user 139 = .ok (.iconst 4, 1) := by decide +kernel
theorem d_Mo_user_140 : decode b_Mo_user 140 = .ok (.invokevirtual 119, 3) := by decide +kernel
theorem d_Mo_user_143 : decode b_Mo_user 143 = .ok (.goto 4, 3) := by decide +kernel
theorem d_Mo_user_146 : decode b_Mo_user 146 = .ok (.iconst 0, 1) := by decide +kernel
theorem d_Mo_user_147 : decode b_Mo_user 147 = .ok (.istore 9, 2) := by decide +kernel
theorem d_Mo_user_149 : decode b_Mo_user 149 = .ok (.aload_n 0, 1) := by decide +kernel
theorem d_Mo_user_150 : decode b_Mo_user 150 = .ok (.getfield 16, 3) := by decide +kernel
theorem d_Mo_user_153 : decode b_Mo_user 153 = .ok (.ifCond .ne 16, 3) := by decide +kernel
theorem d_Mo_user_156 : decode b_Mo_user 156 = .ok (.aload_n 0, 1) := by decide +kernel
theorem d_Mo_user_157 : decode b_Mo_user 157 = .ok (.iload_n 1, 1) := by decide +kernel
theorem d_Mo_user_158 : decode b_Mo_user 158 = .ok (.iconst 1, 1) := by decide +kernel
theorem d_Mo_user_159 : decode b_Mo_user 159 = .ok (.iload 9, 2) := by decide +kernel
theorem d_Mo_user_161 : decode b_Mo_user 161 = .ok (.iconst 1, 1) := by decide +kernel
theorem d_Mo_user_162 : decode b_Mo_user 162 = .ok (.iload_n 2, 1) := by decide +kernel
theorem d_Mo_user_163 : decode b_Mo_user 163 = .ok (.invokevirtual 95, 3) := by decide +kernel
theorem d_Mo_user_166 : decode b_Mo_user 166 = .ok (.goto 4, 3) := by decide +kernel
theorem d_Mo_user_169 : decode b_Mo_user 169 = .ok (.iconst 0, 1) := by decide +kernel
theorem d_Mo_user_170 : decode b_Mo_user 170 = .ok (.istore 10, 2) := by decide +kernel
theorem d_Mo_user_172 : decode b_Mo_user 172 = .ok (.aload_n 0, 1) := by decide +kernel
theorem d_Mo_user_173 : decode b_Mo_user 173 = .ok (.getfield 16, 3) := by decide +kernel
theorem d_Mo_user_176 : decode b_Mo_user 176 = .ok (.ifCond .eq 5, 3) := by decide +kernel
theorem d_Mo_user_179 : decode b_Mo_user 179 = .ok (.iconst 0, 1) := by decide +kernel
theorem d_Mo_user_180 : decode b_Mo_user 180 = .ok (.ireturn, 1) := by decide +kernel
theorem d_Mo_user_181 : decode b_Mo_user 181 = .ok (.sipush 1517, 3) := by decide +kernel
theorem d_Mo_user_184 : decode b_Mo_user 184 = .ok (.bipush 8, 2) := by decide +kernel
theorem d_Mo_user_186 : decode b_Mo_user 186 = .ok (.iload_n 2, 1) := by decide +kernel
theorem d_Mo_user_187 : decode b_Mo_user 187 = .ok (.imul, 1) := by decide +kernel
theorem d_Mo_user_188 : decode b_Mo_user 188 = .ok (.iadd, 1) := by decide +kernel
theorem d_Mo_user_189 : decode b_Mo_user 189 = .ok (.istore 11, 2) := by decide +kernel
theorem d_Mo_user_191 : decode b_Mo_user 191 = .ok (.aload_n 0, 1) := by decide +kernel
theorem d_Mo_user_192 : decode b_Mo_user 192 = .ok (.getfield 7, 3) := by decide +kernel
theorem d_Mo_user_195 : decode b_Mo_user 195 = .ok (.iload 11, 2) := by decide +kernel
theorem d_Mo_user_197 : decode b_Mo_user 197 = .ok (.iconst 1, 1) := by decide +kernel
theorem d_Mo_user_198 : decode b_Mo_user 198 = .ok (.iastore, 1) := by decide +kernel
theorem d_Mo_user_199 : decode b_Mo_user 199 = .ok (.aload_n 0, 1) := by decide +kernel
theorem d_Mo_user_200 : decode b_Mo_user 200 = .ok (.getfield 7, 3) := by decide +kernel
theorem d_Mo_user_203 : decode b_Mo_user 203 = .ok (.iload 11, 2) := by decide +kernel
theorem d_Mo_user_205 : decode b_Mo_user 205 = .ok (.iconst 1, 1) := by decide +kernel
theorem d_Mo_user_206 : decode b_Mo_user 206 = .ok (.iadd, 1) := by decide +kernel
theorem d_Mo_user_207 : decode b_Mo_user 207 = .ok (.iload_n 3, 1) := by decide +kernel
theorem d_Mo_user_208 : decode b_Mo_user 208 = .ok (.iastore, 1) := by decide +kernel
theorem d_Mo_user_209 : decode b_Mo_user 209 = .ok (.aload_n 0, 1) := by decide +kernel
theorem d_Mo_user_210 : decode b_Mo_user 210 = .ok (.getfield 7, 3) := by decide +kernel
theorem d_Mo_user_213 : decode b_Mo_user 213 = .ok (.iload 11, 2) := by decide +kernel
theorem d_Mo_user_215 : decode b_Mo_user 215 = .ok (.iconst 2, 1) := by decide +kernel
theorem d_Mo_user_216 : decode b_Mo_user 216 = .ok (.iadd, 1) := by decide +kernel
theorem d_Mo_user_217 : decode b_Mo_user 217 = .ok (.iload 4, 2) := by decide +kernel
theorem d_Mo_user_219 : decode b_Mo_user 219 = .ok (.iastore, 1) := by decide +kernel
theorem d_Mo_user_220 : decode b_Mo_user 220 = .ok (.aload_n 0, 1) := by decide +kernel
theorem d_Mo_user_221 : decode b_Mo_user 221 = .ok (.getfield 7, 3) := by decide +kernel
theorem d_Mo_user_224 : decode b_Mo_user 224 = .ok (.iload 11, 2) := by decide +kernel
theorem d_Mo_user_226 : decode b_Mo_user 226 = .ok (.iconst 3, 1) := by decide +kernel
theorem d_Mo_user_227 : decode b_Mo_user 227 = .ok (.iadd, 1) := by decide +kernel
theorem d_Mo_user_228 : decode b_Mo_user 228 = .ok (.iload 5, 2) := by decide +kernel
theorem d_Mo_user_230 : decode b_Mo_user 230 = .ok (.iastore, 1) := by decide +kernel
theorem d_Mo_user_231 : decode b_Mo_user 231 = .ok (.aload_n 0, 1) := by decide +kernel
theorem d_Mo_user_232 : decode b_Mo_user 232 = .ok (.getfield 7, 3) := by decide +kernel
theorem d_Mo_user_235 : decode b_Mo_user 235 = .ok (.iload 11, 2) := by decide +kernel
theorem d_Mo_user_237 : decode b_Mo_user 237 = .ok (.iconst 4, 1) := by decide +kernel
theorem d_Mo_user_238 : decode b_Mo_user 238 = .ok (.iadd, 1) := by decide +kernel
theorem d_Mo_user_239 : decode b_Mo_user 239 = .ok (.iload 7, 2) := by decide +kernel
theorem d_Mo_user_241 : decode b_Mo_user 241 = .ok (.iastore, 1) := by decide +kernel
theorem d_Mo_user_242 : decode b_Mo_user 242 = .ok (.aload_n 0, 1) := by decide +kernel
theorem d_Mo_user_243 : decode b_Mo_user 243 = .ok (.getfield 7, 3) := by decide +kernel
theorem d_Mo_user_246 : decode b_Mo_user 246 = .ok (.iload 11, 2) := by decide +kernel
theorem d_Mo_user_248 : decode b_Mo_user 248 = .ok (.iconst 5, 1) := by decide +kernel
theorem d_Mo_user_249 : decode b_Mo_user 249 = .ok (.iadd, 1) := by decide +kernel
theorem d_Mo_user_250 : decode b_Mo_user 250 = .ok (.iload 8, 2) := by decide +kernel
theorem d_Mo_user_252 : decode b_Mo_user 252 = .ok (.iastore, 1) := by decide +kernel
theorem d_Mo_user_253 : decode b_Mo_user 253 = .ok (.aload_n 0, 1) := by decide +kernel
theorem d_Mo_user_254 : decode b_Mo_user 254 = .ok (.getfield 7, 3) := by decide +kernel
theorem d_Mo_user_257 : decode b_Mo_user 257 = .ok (.iload 11, 2) := by decide +kernel
theorem d_Mo_user_259 : decode b_Mo_user 259 = .ok (.bipush 6, 2) := by decide +kernel
theorem d_Mo_user_261 : decode b_Mo_user 261 = .ok (.iadd, 1) := by decide +kernel
theorem d_Mo_user_262 : decode b_Mo_user 262 = .ok (.iload 10, 2) := by decide +kernel
theorem d_Mo_user_264 : decode b_Mo_user 264 = .ok (.iastore, 1) := by decide +kernel
theorem d_Mo_user_265 : decode b_Mo_user 265 = .ok (.iload 7, 2) := by decide +kernel
theorem d_Mo_user_267 : decode b_Mo_user 267 = .ok (.ireturn, 1) := by decide +kernel
theorem d_Mo_login_0 : decode b_Mo_login 0 = .ok (.aload_n 0, 1) := by decide +kernel
theorem d_Mo_login_1 : decode b_Mo_login 1 = .ok (.iconst 0, 1) := by decide +kernel
theorem d_Mo_login_2 : decode b_Mo_login 2 = .ok (.putfield 16, 3) := by decide +kernel
theorem d_Mo_login_5 : decode b_Mo_login 5 = .ok (.iload_n 2, 1) := by decide +kernel
theorem d_Mo_login_6 : decode b_Mo_login 6 = .ok (.iconst 0, 1) := by decide +kernel
theorem d_Mo_login_7 : decode b_Mo_login 7 = .ok (.iconst 3, 1) := by decide +kernel
theorem d_Mo_login_8 : decode b_Mo_login 8 = .ok (.invokestatic 28, 3) := by decide +kernel
theorem d_Mo_login_11 : decode b_Mo_login 11 = .ok (.ifCond .ne 9, 3) := by decide +kernel
theorem d_Mo_login_14 : decode b_Mo_login 14 = .ok (.aload_n 0, 1) := by decide +kernel
theorem d_Mo_login_15 : decode b_Mo_login 15 = .ok (.iconst 1, 1) := by decide +kernel
theorem d_Mo_login_16 : decode b_Mo_login 16 = .ok (.invokevirtual 51, 3) := by decide +kernel
theorem d_Mo_login_19 : decode b_Mo_login 19 = .ok (.ireturn, 1) := by decide +kernel
theorem d_Mo_login_20 : decode b_Mo_login 20 = .ok (.aload_n 0, 1) := by decide +kernel
theorem d_Mo_login_21 : decode b_Mo_login 21 = .ok (.iload_n 2, 1) := by decide +kernel
theorem d_Mo_login_22 : decode b_Mo_login 22 = .ok (.iconst 0, 1) := by decide +kernel
theorem d_Mo_login_23 : decode b_Mo_login 23 = .ok (.invokevirtual 116, 3) := by decide +kernel
theorem d_Mo_login_26 : decode b_Mo_login 26 = .ok (.ifCond .ne 9, 3) := by decide +kernel
theorem d_Mo_login_29 : decode b_Mo_login 29 = .ok (.aload_n 0, 1) := by decide +kernel
theorem d_Mo_login_30 : decode b_Mo_login 30 = .ok (.iconst 2, 1) := by decide +kernel
theorem d_Mo_login_31 : decode b_Mo_login 31 = .ok (.invokevirtual 51, 3) := by decide +kernel
theorem d_Mo_login_34 : decode b_Mo_login 34 = .ok (.ireturn, 1) := by decide +kernel
theorem d_Mo_login_35 : decode b_Mo_login 35 = .ok (.aload_n 0, 1) := by decide +kernel
theorem d_Mo_login_36 : decode b_Mo_login 36 = .ok (.iload_n 2, 1) := by decide +kernel
theorem d_Mo_login_37 : decode b_Mo_login 37 = .ok (.iconst 1, 1) := by decide +kernel
theorem d_Mo_login_38 : decode b_Mo_login 38 = .ok (.invokevirtual 116, 3) := by decide +kernel
theorem d_Mo_login_41 : decode b_Mo_login 41 = .ok (.iload_n 3, 1) := by decide +kernel
theorem d_Mo_login_42 : decode b_Mo_login 42 = .ok (.if_icmp .eq 9, 3) := by decide +kernel
theorem d_Mo_login_45 : decode b_Mo_login 45 = .ok (.aload_n 0, 1) := by decide +kernel
theorem d_Mo_login_46 : decode b_Mo_login 46 = .ok (.iconst 3, 1) := by decide +kernel
theorem d_Mo_login_47 : decode b_Mo_login 47 = .ok (.invokevirtual 51, 3) := by decide +kernel
theorem d_Mo_login_50 : decode b_Mo_login 50 = .ok (.ireturn, 1) := by decide +kernel
theorem d_Mo_login_51 : decode b_Mo_login 51 = .ok (.aload_n 0, 1) := by decide +kernel
theorem d_Mo_login_52 : decode b_Mo_login 52 = .ok (.iload_n 1, 1) := by decide +kernel
theorem d_Mo_login_53 : decode b_Mo_login 53 = .ok (.invokevirtual 60, 3) := by decide +kernel
theorem d_Mo_login_56 : decode b_Mo_login 56 = .ok (.ifCond .ne 5, 3) := by decide +kernel
theorem d_Mo_login_59 : decode b_Mo_login 59 = .ok (.iconst 0, 1) := by decide +kernel
theorem d_Mo_login_60 : decode b_Mo_login 60 = .ok (.ireturn, 1) := by decide +kernel
theorem d_Mo_login_61 : decode b_Mo_login 61 = .ok (.aload_n 0, 1) := by decide +kernel
theorem d_Mo_login_62 : decode b_Mo_login 62 = .ok (.iload_n 2, 1) := by decide +kernel
theorem d_Mo_login_63 : decode b_Mo_login 63 = .ok (.iconst 2, 1) := by decide +kernel
theorem d_Mo_login_64 : decode b_Mo_login 64 = .ok (.invokevirtual 116, 3) := by decide +kernel
theorem d_Mo_login_67 : decode b_Mo_login 67 = .ok (.istore 4, 2) := by decide +kernel
theorem d_Mo_login_69 : decode b_Mo_login 69 = .ok (.aload_n 0, 1) := by decide +kernel
theorem d_Mo_login_70 : decode b_Mo_login 70 = .ok (.iload_n 2, 1) := by decide +kernel
theorem d_Mo_login_71 : decode b_Mo_login 71 = .ok (.iconst 3, 1) := by decide +kernel
theorem d_Mo_login_72 : decode b_Mo_login 72 = .ok (.invokevirtual 116, 3) := by decide +kernel
theorem d_Mo_login_75 : decode b_Mo_login 75 = .ok (.istore 5, 2) := by decide +kernel
theorem d_Mo_login_77 : decode b_Mo_login 77 = .ok (.aload_n 0, 1) := by decide +kernel
theorem d_Mo_login_78 : decode b_Mo_login 78 = .ok (.aload_n 0, 1) := by decide +kernel
theorem d_Mo_login_79 : decode b_Mo_login 79 = .ok (.iload_n 1, 1) := by decide +kernel
theorem d_Mo_login_80 : decode b_Mo_login 80 = .ok (.iconst 2, 1) := by decide +kernel
theorem d_Mo_login_81 : decode b_Mo_login 81 = .ok (.invokevirtual 32, 3) := by decide +kernel
theorem d_Mo_login_84 : decode b_Mo_login 84 = .ok (.iload 4, 2) := by decide +kernel
theorem d_Mo_login_86 : decode b_Mo_login 86 = .ok (.iload 5, 2) := by decide +kernel
theorem d_Mo_login_88 : decode b_Mo_login 88 = .ok (.iconst 4, 1) := by decide +kernel
theorem d_Mo_login_89 : decode b_Mo_login 89 = .ok (.iconst 4, 1) := by decide +kernel
theorem d_Mo_login_90 : decode b_Mo_login 90 = .ok (.invokevirtual 119, 3) := by decide +kernel
theorem d_Mo_login_93 : decode b_Mo_login 93 = .ok (.istore 6, 2) := by decide +kernel
theorem d_Mo_login_95 : decode b_Mo_login 95 = .ok (.aload_n 0, 1) := by decide +kernel
theorem d_Mo_login_96 : decode b_Mo_login 96 = .ok (.getfield 16, 3) := by decide +kernel
theorem d_Mo_login_99 : decode b_Mo_login 99 = .ok (.ifCond .ne 23, 3) := by decide +kernel
theorem d_Mo_login_102 : decode b_Mo_login 102 = .ok (.aload_n 0, 1) := by decide +kernel
theorem d_Mo_login_103 : decode b_Mo_login 103 = .ok (.aload_n 0, 1) := by decide +kernel
theorem d_Mo_login_104 : decode b_Mo_login 104 = .ok (.iload_n 1, 1) := by decide +kernel
theorem d_Mo_login_105 : decode b_Mo_login 105 = .ok (.bipush 6, 2) := by decide +kernel
theorem d_Mo_login_107 : decode b_Mo_login 107 = .ok (.invokevirtual 32, 3) := by decide +kernel
theorem d_Mo_login_110 : decode b_Mo_login 110 = .ok (.iload 4, 2) := by decide +kernel
theorem d_Mo_login_112 : decode b_Mo_login 112 = .ok (.iload 5, 2) := by decide +kernel
theorem d_Mo_login_114 : decode b_Mo_login 114 = .ok (.iconst 3, 1) := by decide +kernel
theorem d_Mo_login_115 : decode b_Mo_login 115 = .ok (.iconst 3, 1) := by decide +kernel
theorem d_Mo_login_116 : decode b_Mo_login 116 = .ok (.invokevirtual 119, 3) := by decide +kernel
theorem d_Mo_login_119 : decode b_Mo_login 119 = .ok (.goto 4, 3) := by decide +kernel
theorem d_Mo_login_122 : decode b_Mo_login 122 = .ok (.iconst 0, 1) := by decide +kernel
theorem d_Mo_login_123 : decode b_Mo_login 123 = .ok (.istore 7, 2) := by decide +kernel
theorem d_Mo_login_125 : decode b_Mo_login 125 = .ok (.aload_n 0, 1) := by decide +kernel
theorem d_Mo_login_126 : decode b_Mo_login 126 = .ok (.getfield 16, 3) := by decide +kernel
theorem d_Mo_login_129 : decode b_Mo_login 129 = .ok (.ifCond .ne 23, 3) := by decide +kernel
theorem d_Mo_login_132 : decode b_Mo_login 132 = .ok (.aload_n 0, 1) := by decide +kernel
theorem d_Mo_login_133 : decode b_Mo_login 133 = .ok (.iload_n 1, 1) := by decide +kernel
theorem d_Mo_login_134 : decode b_Mo_login 134 = .ok (.iconst 1, 1) := by decide +kernel
theorem d_Mo_login_135 : decode b_Mo_login 135 = .ok (.aload_n 0, 1) := by decide +kernel
theorem d_Mo_login_136 : decode b_Mo_login 136 = .ok (.iload_n 2, 1) := by decide +kernel
theorem d_Mo_login_137 : decode b_Mo_login 137 = .ok (.bipush 6, 2) := by decide +kernel
theorem d_Mo_login_139 : decode b_Mo_login 139 = .ok (.invokevirtual 116, 3) := by decide +kernel
theorem d_Mo_login_142 : decode b_Mo_login 142 = .ok (.iload 6, 2) := by decide +kernel
theorem d_Mo_login_144 : decode b_Mo_login 144 = .ok (.iload 7, 2) := by decide +kernel
theorem d_Mo_login_146 : decode b_Mo_login 146 = .ok (.invokevirtual 113, 3) := by decide +kernel
theorem d_Mo_login_149 : decode b_Mo_login 149 = .ok (.goto 4, 3) := by decide +kernel
theorem d_Mo_login_152 : decode b_Mo_login 152 = .ok (.iconst 0, 1) := by decide +kernel
theorem d_Mo_login_153 : decode b_Mo_login 153 = .ok (.ireturn, 1) := by decide +kernel
theorem d_Mo_file_0 : decode b_Mo_file 0 = .ok (.aload_n 0, 1) := by decide +kernel
theorem d_Mo_file_1 : decode b_Mo_file 1 = .ok (.iconst 0, 1) := by decide +kernel
theorem d_Mo_file_2 : decode b_Mo_file 2 = .ok (.putfield 16, 3) := by decide +kernel
theorem d_Mo_file_5 : decode b_Mo_file 5 = .ok (.iload_n 2, 1) := by decide +kernel
theorem d_Mo_file_6 : decode b_Mo_file 6 = .ok (.iconst 0, 1) := by decide +kernel
theorem d_Mo_file_7 : decode b_Mo_file 7 = .ok (.iconst 3, 1) := by decide +kernel
theorem d_Mo_file_8 : decode b_Mo_file 8 = .ok (.invokestatic 28, 3) := by decide +kernel
theorem d_Mo_file_11 : decode b_Mo_file 11 = .ok (.ifCond .eq 23, 3) := by decide +kernel
theorem d_Mo_file_14 : decode b_Mo_file 14 = .ok (.iload_n 3, 1) := by decide +kernel
theorem d_Mo_file_15 : decode b_Mo_file 15 = .ok (.iconst 0, 1) := by decide +kernel
theorem d_Mo_file_16 : decode b_Mo_file 16 = .ok (.iconst 3, 1) := by decide +kernel
theorem d_Mo_file_17 : decode b_Mo_file 17 = .ok (.invokestatic 28, 3) := by decide +kernel
theorem d_Mo_file_20 : decode b_Mo_file 20 = .ok (.ifCond .eq 14, 3) := by decide +kernel
theorem d_Mo_file_23 : decode b_Mo_file 23 = .ok (.iload 4, 2) := by decide +kernel
theorem d_Mo_file_25 : decode b_Mo_file 25 = .ok (.iconst 1, 1) := by decide +kernel
theorem d_Mo_file_26 : decode b_Mo_file 26 = .ok (.bipush 8, 2) := by decide +kernel
theorem d_Mo_file_28 : decode b_Mo_file 28 = .ok (.invokestatic 28, 3) := by decide +kernel
theorem d_Mo_file_31 : decode b_Mo_file 31 = .ok (.ifCond .ne 9, 3) := by decide +kernel
theorem d_Mo_file_34 : decode b_Mo_file 34 = .ok (.aload_n 0, 1) := by decide +kernel
theorem d_Mo_file_35 : decode b_Mo_file 35 = .ok (.iconst 1, 1) := by decide +kernel
theorem d_Mo_file_36 : decode b_Mo_file 36 = .ok (.invokevirtual 51, 3) := by decide +kernel
theorem d_Mo_file_39 : decode b_Mo_file 39 = .ok (.ireturn, 1) := by decide +kernel
theorem d_Mo_file_40 : decode b_Mo_file 40 = .ok (.aload_n 0, 1) := by decide +kernel
theorem d_Mo_file_41 : decode b_Mo_file 41 = .ok (.iload_n 2, 1) := by decide +kernel
theorem d_Mo_file_42 : decode b_Mo_file 42 = .ok (.iconst 0, 1) := by decide +kernel
theorem d_Mo_file_43 : decode b_Mo_file 43 = .ok (.invokevirtual 116, 3) := by decide +kernel
theorem d_Mo_file_46 : decode b_Mo_file 46 = .ok (.ifCond .ne 9, 3) := by decide +kernel
theorem d_Mo_file_49 : decode b_Mo_file 49 = .ok (.aload_n 0, 1) := by decide +kernel
theorem d_Mo_file_50 : decode b_Mo_file 50 = .ok (.iconst 2, 1) := by decide +kernel
theorem d_Mo_file_51 : decode b_Mo_file 51 = .ok (.invokevirtual 51, 3) := by decide +kernel
theorem d_Mo_file_54 : decode b_Mo_file 54 = .ok (.ireturn, 1) := by decide +kernel
theorem d_Mo_file_55 : decode b_Mo_file 55 = .ok (.aload_n 0, 1) := by decide +kernel
theorem d_Mo_file_56 : decode b_Mo_file 56 = .ok (.iload_n 2, 1) := by decide +kernel
theorem d_Mo_file_57 : decode b_Mo_file 57 = .ok (.iconst 4, 1) := by decide +kernel
theorem d_Mo_file_58 : decode b_Mo_file 58 = .ok (.invokevirtual 116, 3) := by decide +kernel
theorem d_Mo_file_61 : decode b_Mo_file 61 = .ok (.istore 5, 2) := by decide +kernel
theorem d_Mo_file_63 : decode b_Mo_file 63 = .ok (.aload_n 0, 1) := by decide +kernel
theorem d_Mo_file_64 : decode b_Mo_file 64 = .ok (.iload_n 1, 1) := by decide +kernel
theorem d_Mo_file_65 : decode b_Mo_file 65 = .ok (.iload 5, 2) := by decide +kernel
theorem d_Mo_file_67 : decode b_Mo_file 67 = .ok (.aload_n 0, 1) := by decide +kernel
theorem d_Mo_file_68 : decode b_Mo_file 68 = .ok (.iload_n 2, 1) := by decide +kernel
theorem d_Mo_file_69 : decode b_Mo_file 69 = .ok (.iconst 5, 1) := by decide +kernel
theorem d_Mo_file_70 : decode b_Mo_file 70 = .ok (.invokevirtual 116, 3) := by decide +kernel
theorem d_Mo_file_73 : decode b_Mo_file 73 = .ok (.iload_n 3, 1) := by decide +kernel
theorem d_Mo_file_74 : decode b_Mo_file 74 = .ok (.iconst 0, 1) := by decide +kernel
theorem d_Mo_file_75 : decode b_Mo_file 75 = .ok (.iconst 0, 1) := by decide +kernel
theorem d_Mo_file_76 : decode b_Mo_file 76 = .ok (.invokevirtual 103, 3) := by decide +kernel
theorem d_Mo_file_79 : decode b_Mo_file 79 = .ok (.istore 6, 2) := by decide +kernel
theorem d_Mo_file_81 : decode b_Mo_file 81 = .ok (.aload_n 0, 1) := by decide +kernel
theorem d_Mo_file_82 : decode b_Mo_file 82 = .ok (.getfield 16, 3) := by decide +kernel
theorem d_Mo_file_85 : decode b_Mo_file 85 = .ok (.ifCond .ne 18, 3) := by decide +kernel
theorem d_Mo_file_88 : decode b_Mo_file 88 = .ok (.iload 6, 2) := by decide +kernel
theorem d_Mo_file_90 : decode b_Mo_file 90 = .ok (.ifCond .eq 13, 3) := by decide +kernel
theorem d_Mo_file_93 : decode b_Mo_file 93 = .ok (.aload_n 0, 1) := by decide +kernel
theorem d_Mo_file_94 : decode b_Mo_file 94 = .ok (.iload_n 1, 1) := by decide +kernel
theorem d_Mo_file_95 : decode b_Mo_file 95 = .ok (.iload 5, 2) := by decide +kernel
theorem d_Mo_file_97 : decode b_Mo_file 97 = .ok (.iload 6, 2) := by decide +kernel
theorem d_Mo_file_99 : decode b_Mo_file 99 = .ok (.invokevirtual 107, 3) := by decide +kernel
theorem d_Mo_file_102 : decode b_Mo_file 102 = .ok (.pop, 1) := by decide +kernel
theorem d_Mo_file_103 : decode b_Mo_file 103 = .ok (.aload_n 0, 1) := by decide +kernel
theorem d_Mo_file_104 : decode b_Mo_file 104 = .ok (.getfield 16, 3) := by decide +kernel
theorem d_Mo_file_107 : decode b_Mo_file 107 = .ok (.ifCond .ne 22, 3) := by decide +kernel
theorem d_Mo_file_110 : decode b_Mo_file 110 = .ok (.aload_n 0, 1) := by decide +kernel
theorem d_Mo_file_111 : decode b_Mo_file 111 = .ok (.iload_n 1, 1) := by decide +kernel
theorem d_Mo_file_112 : decode b_Mo_file 112 = .ok (.iload 5, 2) := by decide +kernel
theorem d_Mo_file_114 : decode b_Mo_file 114 = .ok (.aload_n 0, 1) := by decide +kernel
theorem d_Mo_file_115 : decode b_Mo_file 115 = .ok (.iload 5, 2) := by decide +kernel
theorem d_Mo_file_117 : decode b_Mo_file 117 = .ok (.iconst 2, 1) := by decide +kernel
theorem d_Mo_file_118 : decode b_Mo_file 118 = .ok (.invokevirtual 32, 3) := by decide +kernel
theorem d_Mo_file_121 : decode b_Mo_file 121 = .ok (.iload 4, 2) := by decide +kernel
theorem d_Mo_file_123 : decode b_Mo_file 123 = .ok (.invokevirtual 92, 3) := by decide +kernel
theorem d_Mo_file_126 : decode b_Mo_file 126 = .ok (.goto 4, 3) := by decide +kernel
theorem d_Mo_file_129 : decode b_Mo_file 129 = .ok (.iconst 0, 1) := by decide +kernel
theorem d_Mo_file_130 : decode b_Mo_file 130 = .ok (.istore 7, 2) := by decide +kernel
theorem d_Mo_file_132 : decode b_Mo_file 132 = .ok (.aload_n 0, 1) := by decide +kernel
theorem d_Mo_file_133 : decode b_Mo_file 133 = .ok (.getfield 16, 3) := by decide +kernel
theorem d_Mo_file_136 : decode b_Mo_file 136 = .ok (.ifCond .ne 21, 3) := by decide +kernel
theorem d_Mo_file_139 : decode b_Mo_file 139 = .ok (.aload_n 0, 1) := by decide +kernel
theorem d_Mo_file_140 : decode b_Mo_file 140 = .ok (.iload_n 1, 1) := by decide +kernel
theorem d_Mo_file_141 : decode b_Mo_file 141 = .ok (.iload 5, 2) := by decide +kernel
theorem d_Mo_file_143 : decode b_Mo_file 143 = .ok (.aload_n 0, 1) := by decide +kernel
theorem d_Mo_file_144 : decode b_Mo_file 144 = .ok (.iload_n 2, 1) := by decide +kernel
theorem d_Mo_file_145 : decode b_Mo_file 145 = .ok (.iconst 5, 1) := by decide +kernel
theorem d_Mo_file_146 : decode b_Mo_file 146 = .ok (.invokevirtual 116, 3) := by decide +kernel
theorem d_Mo_file_149 : decode b_Mo_file 149 = .ok (.iload_n 3, 1) := by decide +kernel
theorem d_Mo_file_150 : decode b_Mo_file 150 = .ok (.iconst 1, 1) := by decide +kernel
theorem d_Mo_file_151 : decode b_Mo_file 151 = .ok (.iload 7, 2) := by decide +kernel
theorem d_Mo_file_153 : decode b_Mo_file 153 = .ok (.invokevirtual 103, 3) := by decide +kernel
theorem d_Mo_file_156 : decode b_Mo_file 156 = .ok (.pop, 1) := by decide +kernel
theorem d_Mo_file_157 : decode b_Mo_file 157 = .ok (.iload 7, 2) := by decide +kernel
theorem d_Mo_file_159 : decode b_Mo_file 159 = .ok (.ireturn, 1) := by decide +kernel
theorem d_Mo_access_0 : decode b_Mo_access 0 = .ok (.aload_n 0, 1) := by decide +kernel
theorem d_Mo_access_1 : decode b_Mo_access 1 = .ok (.iconst 0, 1) := by decide +kernel
theorem d_Mo_access_2 : decode b_Mo_access 2 = .ok (.putfield 16, 3) := by decide +kernel
theorem d_Mo_access_5 : decode b_Mo_access 5 = .ok (.iload_n 2, 1) := by decide +kernel
theorem d_Mo_access_6 : decode b_Mo_access 6 = .ok (.iconst 0, 1) := by decide +kernel
theorem d_Mo_access_7 : decode b_Mo_access 7 = .ok (.iconst 3, 1) := by decide +kernel
theorem d_Mo_access_8 : decode b_Mo_access 8 = .ok (.invokestatic 28, 3) := by decide +kernel
theorem d_Mo_access_11 : decode b_Mo_access 11 = .ok (.ifCond .eq 23, 3) := by decide +kernel
theorem d_Mo_access_14 : decode b_Mo_access 14 = .ok (.iload_n 3, 1) := by decide +kernel
theorem d_Mo_access_15 : decode b_Mo_access 15 = .ok (.iconst 0, 1) := by decide +kernel
theorem d_Mo_access_16 : decode b_Mo_access 16 = .ok (.iconst 3, 1) := by decide +kernel
theorem d_Mo_access_17 : decode b_Mo_access 17 = .ok (.invokestatic 28, 3) := by decide +kernel
theorem d_Mo_access_20 : decode b_Mo_access 20 = .ok (.ifCond .eq 14, 3) := by decide +kernel
theorem d_Mo_access_23 : decode b_Mo_access 23 = .ok (.iload 4, 2) := by decide +kernel
theorem d_Mo_access_25 : decode b_Mo_access 25 = .ok (.iconst 0, 1) := by decide +kernel
theorem d_Mo_access_26 : decode b_Mo_access 26 = .ok (.bipush 7, 2) := by decide +kernel
theorem d_Mo_access_28 : decode b_Mo_access 28 = .ok (.invokestatic 28, 3) := by decide +kernel
theorem d_Mo_access_31 : decode b_Mo_access 31 = .ok (.ifCond .ne 9, 3) := by decide +kernel
theorem d_Mo_access_34 : decode b_Mo_access 34 = .ok (.aload_n 0, 1) := by decide +kernel
theorem d_Mo_access_35 : decode b_Mo_access 35 = .ok (.iconst 1, 1) := by decide +kernel
theorem d_Mo_access_36 : decode b_Mo_access 36 = .ok (.invokevirtual 51, 3) := by decide +kernel
theorem d_Mo_access_39 : decode b_Mo_access 39 = .ok (.ireturn, 1) := by decide +kernel
theorem d_Mo_access_40 : decode b_Mo_access 40 = .ok (.aload_n 0, 1) := by decide +kernel
theorem d_Mo_access_41 : decode b_Mo_access 41 = .ok (.iload_n 2, 1) := by decide +kernel
theorem d_Mo_access_42 : decode b_Mo_access 42 = .ok (.iconst 0, 1) := by decide +kernel
theorem d_Mo_access_43 : decode b_Mo_access 43 = .ok (.invokevirtual 116, 3) := by decide +kernel
theorem d_Mo_access_46 : decode b_Mo_access 46 = .ok (.ifCond .ne 9, 3) := by decide +kernel
theorem d_Mo_access_49 : decode b_Mo_access 49 = .ok (.aload_n 0, 1) := by decide +kernel
theorem d_Mo_access_50 : decode b_Mo_access 50 = .ok (.iconst 2, 1) := by decide +kernel
theorem d_Mo_access_51 : decode b_Mo_access 51 = .ok (.invokevirtual 51, 3) := by decide +kernel
theorem d_Mo_access_54 : decode b_Mo_access 54 = .ok (.ireturn, 1) := by decide +kernel
theorem d_Mo_access_55 : decode b_Mo_access 55 = .ok (.aload_n 0, 1) := by decide +kernel
theorem d_Mo_access_56 : decode b_Mo_access 56 = .ok (.iload_n 2, 1) := by decide +kernel
theorem d_Mo_access_57 : decode b_Mo_access 57 = .ok (.iconst 4, 1) := by decide +kernel
theorem d_Mo_access_58 : decode b_Mo_access 58 = .ok (.invokevirtual 116, 3) := by decide +kernel
theorem d_Mo_access_61 : decode b_Mo_access 61 = .ok (.istore 7, 2) := by decide +kernel
theorem d_Mo_access_63 : decode b_Mo_access 63 = .ok (.aload_n 0, 1) := by decide +kernel
theorem d_Mo_access_64 : decode b_Mo_access 64 = .ok (.iload_n 1, 1) := by decide +kernel
theorem d_Mo_access_65 : decode b_Mo_access 65 = .ok (.iload 7, 2) := by decide +kernel
theorem d_Mo_access_67 : decode b_Mo_access 67 = .ok (.aload_n 0, 1) := by decide +kernel
theorem d_Mo_access_68 : decode b_Mo_access 68 = .ok (.iload_n 2, 1) := by decide +kernel
theorem d_Mo_access_69 : decode b_Mo_access 69 = .ok (.iconst 5, 1) := by decide +kernel
theorem d_Mo_access_70 : decode b_Mo_access 70 = .ok (.invokevirtual 116, 3) := by decide +kernel
theorem d_Mo_access_73 : decode b_Mo_access 73 = .ok (.iload_n 3, 1) := by decide +kernel
theorem d_Mo_access_74 : decode b_Mo_access 74 = .ok (.iconst 0, 1) := by decide +kernel
theorem d_Mo_access_75 : decode b_Mo_access 75 = .ok (.iconst 0, 1) := by decide +kernel
theorem d_Mo_access_76 : decode b_Mo_access 76 = .ok (.invokevirtual 103, 3) := by decide +kernel
theorem d_Mo_access_79 : decode b_Mo_access 79 = .ok (.istore 8, 2) := by decide +kernel
theorem d_Mo_access_81 : decode b_Mo_access 81 = .ok (.aload_n 0, 1) := by decide +kernel
theorem d_Mo_access_82 : decode b_Mo_access 82 = .ok (.getfield 16, 3) := by decide +kernel
theorem d_Mo_access_85 : decode b_Mo_access 85 = .ok (.ifCond .ne 14, 3) := by decide +kernel
theorem d_Mo_access_88 : decode b_Mo_access 88 = .ok (.iload 8, 2) := by decide +kernel
theorem d_Mo_access_90 : decode b_Mo_access 90 = .ok (.ifCond .ne 9, 3) := by decide +kernel
theorem d_Mo_access_93 : decode b_Mo_access 93 = .ok (.aload_n 0, 1) := by decide +kernel
theorem d_Mo_access_94 : decode b_Mo_access 94 = .ok (.iconst 2, 1) := by decide +kernel
theorem d_Mo_access_95 : decode b_Mo_access 95 = .ok (.invokevirtual 51, 3) := by decide +kernel
theorem d_Mo_access_98 : decode b_Mo_access 98 = .ok (.ireturn, 1) := by decide +kernel
theorem d_Mo_access_99 : decode b_Mo_access 99 = .ok (.aload_n 0, 1) := by decide +kernel
theorem d_Mo_access_100 : decode b_Mo_access 100 = .ok (.getfield 16, 3) := by decide +kernel
theorem d_Mo_access_103 : decode b_Mo_access 103 = .ok (.ifCond .ne 21, 3) := by decide +kernel
theorem d_Mo_access_106 : decode b_Mo_access 106 = .ok (.aload_n 0, 1) := by decide +kernel
theorem d_Mo_access_107 : decode b_Mo_access 107 = .ok (.iload_n 1, 1) := by decide +kernel
theorem d_Mo_access_108 : decode b_Mo_access 108 = .ok (.iload 7, 2) := by decide +kernel
theorem d_Mo_access_110 : decode b_Mo_access 110 = .ok (.iload 8, 2) := by decide +kernel
theorem d_Mo_access_112 : decode b_Mo_access 112 = .ok (.iload 4, 2) := by decide +kernel
theorem d_Mo_access_114 : decode b_Mo_access 114 = .ok (.iload 5, 2) := by decide +kernel
theorem d_Mo_access_116 : decode b_Mo_access 116 = .ok (.iload 6, 2) := by decide +kernel
theorem d_Mo_access_118 : decode b_Mo_access 118 = .ok (.invokevirtual 103, 3) := by decide +kernel
theorem d_Mo_access_121 : decode b_Mo_access 121 = .ok (.goto 4, 3) := by decide +kernel
theorem d_Mo_access_124 : decode b_Mo_access 124 = .ok (.iconst 0, 1) := by decide +kernel
theorem d_Mo_access_125 : decode b_Mo_access 125 = .ok (.ireturn, 1) := by decide +kernel
theorem d_Mo_objects_0 : decode b_Mo_objects 0 = .ok (.iconst 0, 1) := by decide +kernel
theorem d_Mo_objects_1 : decode b_Mo_objects 1 = .ok (.istore_n 1, 1) := by decide +kernel
theorem d_Mo_objects_2 : decode b_Mo_objects 2 = .ok (.iconst 1, 1) := by decide +kernel
theorem d_Mo_objects_3 : decode b_Mo_objects 3 = .ok (.istore_n 2, 1) := by decide +kernel
theorem d_Mo_objects_4 : decode b_Mo_objects 4 = .ok (.iload_n 2, 1) := by decide +kernel
theorem d_Mo_objects_5 : decode b_Mo_objects 5 = .ok (.aload_n 0, 1) := by decide +kernel
theorem d_Mo_objects_6 : decode b_Mo_objects 6 = .ok (.getfield 7, 3) := by decide +kernel
theorem d_Mo_objects_9 : decode b_Mo_objects 9 = .ok (.sipush 1549, 3) := by decide +kernel
theorem d_Mo_objects_12 : decode b_Mo_objects 12 = .ok (.iaload, 1) := by decide +kernel
theorem d_Mo_objects_13 : decode b_Mo_objects 13 = .ok (.if_icmp .gt 18, 3) := by decide +kernel
theorem d_Mo_objects_16 : decode b_Mo_objects 16 = .ok (.iload_n 1, 1) := by decide +kernel
theorem d_Mo_objects_17 : decode b_Mo_objects 17 = .ok (.aload_n 0, 1) := by decide +kernel
theorem d_Mo_objects_18 : decode b_Mo_objects 18 = .ok (.iload_n 2, 1) := by decide +kernel
theorem d_Mo_objects_19 : decode b_Mo_objects 19 = .ok (.iconst 0, 1) := by decide +kernel
theorem d_Mo_objects_20 : decode b_Mo_objects 20 = .ok (.invokevirtual 32, 3) := by decide +kernel
theorem d_Mo_objects_23 : decode b_Mo_objects 23 = .ok (.iadd, 1) := by decide +kernel
theorem d_Mo_objects_24 : decode b_Mo_objects 24 = .ok (.istore_n 1, 1) := by decide +kernel
theorem d_Mo_objects_25 : decode b_Mo_objects 25 = .ok (.iinc 2 1, 3) := by decide +kernel
theorem d_Mo_objects_28 : decode b_Mo_objects 28 = .ok (.goto (-24), 3) := by decide +kernel
theorem d_Mo_objects_31 : decode b_Mo_objects 31 = .ok (.iload_n 1, 1) := by decide +kernel
theorem d_Mo_objects_32 : decode b_Mo_objects 32 = .ok (.ireturn, 1) := by decide +kernel
theorem d_Mo_snapshot_0 : decode b_Mo_snapshot 0 = .ok (.aload_n 0, 1) := by decide +kernel
theorem d_Mo_snapshot_1 : decode b_Mo_snapshot 1 = .ok (.iconst 0, 1) := by decide +kernel
theorem d_Mo_snapshot_2 : decode b_Mo_snapshot 2 = .ok (.putfield 16, 3) := by decide +kernel
theorem d_Mo_snapshot_5 : decode b_Mo_snapshot 5 = .ok (.iconst 0, 1) := by decide +kernel
theorem d_Mo_snapshot_6 : decode b_Mo_snapshot 6 = .ok (.istore_n 1, 1) := by decide +kernel
theorem d_Mo_snapshot_7 : decode b_Mo_snapshot 7 = .ok (.iload_n 1, 1) := by decide +kernel
theorem d_Mo_snapshot_8 : decode b_Mo_snapshot 8 = .ok (.sipush 1552, 3) := by decide +kernel
theorem d_Mo_snapshot_11 : decode b_Mo_snapshot 11 = .ok (.if_icmp .ge 21, 3) := by decide +kernel
theorem d_Mo_snapshot_14 : decode b_Mo_snapshot 14 = .ok (.aload_n 0, 1) := by decide +kernel
theorem d_Mo_snapshot_15 : decode b_Mo_snapshot 15 = .ok (.getfield 13, 3) := by decide +kernel
theorem d_Mo_snapshot_18 : decode b_Mo_snapshot 18 = .ok (.iload_n 1, 1) := by decide +kernel
theorem d_Mo_snapshot_19 : decode b_Mo_snapshot 19 = .ok (.aload_n 0, 1) := by decide +kernel
theorem d_Mo_snapshot_20 : decode b_Mo_snapshot 20 = .ok (.getfield 7, 3) := by decide +kernel
theorem d_Mo_snapshot_23 : decode b_Mo_snapshot 23 = .ok (.iload_n 1, 1) := by decide +kernel
theorem d_Mo_snapshot_24 : decode b_Mo_snapshot 24 = .ok (.iaload, 1) := by decide +kernel
theorem d_Mo_snapshot_25 : decode b_Mo_snapshot 25 = .ok (.iastore, 1) := by decide +kernel
theorem d_Mo_snapshot_26 : decode b_Mo_snapshot 26 = .ok (.iinc 1 1, 3) := by decide +kernel
theorem d_Mo_snapshot_29 : decode b_Mo_snapshot 29 = .ok (.goto (-22), 3) := by decide +kernel
theorem d_Mo_snapshot_32 : decode b_Mo_snapshot 32 = .ok (.aload_n 0, 1) := by decide +kernel
theorem d_Mo_snapshot_33 : decode b_Mo_snapshot 33 = .ok (.invokevirtual 122, 3) := by decide +kernel
theorem d_Mo_snapshot_36 : decode b_Mo_snapshot 36 = .ok (.ireturn, 1) := by decide +kernel
theorem d_Mo_crash_0 : decode b_Mo_crash 0 = .ok (.aload_n 0, 1) := by decide +kernel
theorem d_Mo_crash_1 : decode b_Mo_crash 1 = .ok (.iconst 0, 1) := by decide +kernel
theorem d_Mo_crash_2 : decode b_Mo_crash 2 = .ok (.putfield 16, 3) := by decide +kernel
theorem d_Mo_crash_5 : decode b_Mo_crash 5 = .ok (.iconst 0, 1) := by decide +kernel
theorem d_Mo_crash_6 : decode b_Mo_crash 6 = .ok (.istore_n 1, 1) := by decide +kernel
theorem d_Mo_crash_7 : decode b_Mo_crash 7 = .ok (.iload_n 1, 1) := by decide +kernel
theorem d_Mo_crash_8 : decode b_Mo_crash 8 = .ok (.sipush 1552, 3) := by decide +kernel
theorem d_Mo_crash_11 : decode b_Mo_crash 11 = .ok (.if_icmp .ge 21, 3) := by decide +kernel
theorem d_Mo_crash_14 : decode b_Mo_crash 14 = .ok (.aload_n 0, 1) := by decide +kernel
theorem d_Mo_crash_15 : decode b_Mo_crash 15 = .ok (.getfield 7, 3) := by decide +kernel
theorem d_Mo_crash_18 : decode b_Mo_crash 18 = .ok (.iload_n 1, 1) := by decide +kernel
theorem d_Mo_crash_19 : decode b_Mo_crash 19 = .ok (.aload_n 0, 1) := by decide +kernel
theorem d_Mo_crash_20 : decode b_Mo_crash 20 = .ok (.getfield 13, 3) := by decide +kernel
theorem d_Mo_crash_23 : decode b_Mo_crash 23 = .ok (.iload_n 1, 1) := by decide +kernel
theorem d_Mo_crash_24 : decode b_Mo_crash 24 = .ok (.iaload, 1) := by decide +kernel
theorem d_Mo_crash_25 : decode b_Mo_crash 25 = .ok (.iastore, 1) := by decide +kernel
theorem d_Mo_crash_26 : decode b_Mo_crash 26 = .ok (.iinc 1 1, 3) := by decide +kernel
theorem d_Mo_crash_29 : decode b_Mo_crash 29 = .ok (.goto (-22), 3) := by decide +kernel
theorem d_Mo_crash_32 : decode b_Mo_crash 32 = .ok (.aload_n 0, 1) := by decide +kernel
theorem d_Mo_crash_33 : decode b_Mo_crash 33 = .ok (.invokevirtual 122, 3) := by decide +kernel
theorem d_Mo_crash_36 : decode b_Mo_crash 36 = .ok (.ireturn, 1) := by decide +kernel
theorem d_Mo_object_0 : decode b_Mo_object 0 = .ok (.aload_n 0, 1) := by decide +kernel
theorem d_Mo_object_1 : decode b_Mo_object 1 = .ok (.iconst 0, 1) := by decide +kernel
theorem d_Mo_object_2 : decode b_Mo_object 2 = .ok (.putfield 16, 3) := by decide +kernel
theorem d_Mo_object_5 : decode b_Mo_object 5 = .ok (.iload_n 2, 1) := by decide +kernel
theorem d_Mo_object_6 : decode b_Mo_object 6 = .ok (.iconst 0, 1) := by decide +kernel
theorem d_Mo_object_7 : decode b_Mo_object 7 = .ok (.bipush 6, 2) := by decide +kernel
theorem d_Mo_object_9 : decode b_Mo_object 9 = .ok (.invokestatic 28, 3) := by decide +kernel
theorem d_Mo_object_12 : decode b_Mo_object 12 = .ok (.ifCond .ne 9, 3) := by decide +kernel
theorem d_Mo_object_15 : decode b_Mo_object 15 = .ok (.aload_n 0, 1) := by decide +kernel
theorem d_Mo_object_16 : decode b_Mo_object 16 = .ok (.iconst 1, 1) := by decide +kernel
theorem d_Mo_object_17 : decode b_Mo_object 17 = .ok (.invokevirtual 51, 3) := by decide +kernel
theorem d_Mo_object_20 : decode b_Mo_object 20 = .ok (.ireturn, 1) := by decide +kernel
theorem d_Mo_object_21 : decode b_Mo_object 21 = .ok (.aload_n 0, 1) := by decide +kernel
theorem d_Mo_object_22 : decode b_Mo_object 22 = .ok (.iload_n 1, 1) := by decide +kernel
theorem d_Mo_object_23 : decode b_Mo_object 23 = .ok (.invokevirtual 43, 3) := by decide +kernel
theorem d_Mo_object_26 : decode b_Mo_object 26 = .ok (.ifCond .ne 9, 3) := by decide +kernel
theorem d_Mo_object_29 : decode b_Mo_object 29 = .ok (.aload_n 0, 1) := by decide +kernel
theorem d_Mo_object_30 : decode b_Mo_object 30 = .ok (.iconst 2, 1) := by decide +kernel
theorem d_Mo_object_31 : decode b_Mo_object 31 = .ok (.invokevirtual 51, 3) := by decide +kernel
theorem d_Mo_object_34 : decode b_Mo_object 34 = .ok (.ireturn, 1) := by decide +kernel
theorem d_Mo_object_35 : decode b_Mo_object 35 = .ok (.iload_n 2, 1) := by decide +kernel
theorem d_Mo_object_36 : decode b_Mo_object 36 = .ok (.tableswitch 96 0 5 #[40, 47, 54, 61, 67, 74], 40) := by decide +kernel
theorem d_Mo_object_76 : decode b_Mo_object 76 = .ok (.aload_n 0, 1) := by decide +kernel
theorem d_Mo_object_77 : decode b_Mo_object 77 = .ok (.iload_n 1, 1) := by decide +kernel
theorem d_Mo_object_78 : decode b_Mo_object 78 = .ok (.iconst 1, 1) := by decide +kernel
theorem d_Mo_object_79 : decode b_Mo_object 79 = .ok (.invokevirtual 32, 3) := by decide +kernel
theorem d_Mo_object_82 : decode b_Mo_object 82 = .ok (.ireturn, 1) := by decide +kernel
theorem d_Mo_object_83 : decode b_Mo_object 83 = .ok (.aload_n 0, 1) := by decide +kernel
theorem d_Mo_object_84 : decode b_Mo_object 84 = .ok (.iload_n 1, 1) := by decide +kernel
theorem d_Mo_object_85 : decode b_Mo_object 85 = .ok (.iconst 2, 1) := by decide +kernel
theorem d_Mo_object_86 : decode b_Mo_object 86 = .ok (.invokevirtual 32, 3) := by decide +kernel
theorem d_Mo_object_89 : decode b_Mo_object 89 = .ok (.ireturn, 1) := by decide +kernel
theorem d_Mo_object_90 : decode b_Mo_object 90 = .ok (.aload_n 0, 1) := by decide +kernel
theorem d_Mo_object_91 : decode b_Mo_object 91 = .ok (.iload_n 1, 1) := by decide +kernel
theorem d_Mo_object_92 : decode b_Mo_object 92 = .ok (.iconst 3, 1) := by decide +kernel
theorem d_Mo_object_93 : decode b_Mo_object 93 = .ok (.invokevirtual 32, 3) := by decide +kernel
theorem d_Mo_object_96 : decode b_Mo_object 96 = .ok (.ireturn, 1) := by decide +kernel
theorem d_Mo_object_97 : decode b_Mo_object 97 = .ok (.aload_n 0, 1) := by decide +kernel
theorem d_Mo_object_98 : decode b_Mo_object 98 = .ok (.iload_n 1, 1) := by decide +kernel
theorem d_Mo_object_99 : decode b_Mo_object 99 = .ok (.invokevirtual 75, 3) := by decide +kernel
theorem d_Mo_object_102 : decode b_Mo_object 102 = .ok (.ireturn, 1) := by decide +kernel
theorem d_Mo_object_103 : decode b_Mo_object 103 = .ok (.aload_n 0, 1) := by decide +kernel
theorem d_Mo_object_104 : decode b_Mo_object 104 = .ok (.iload_n 1, 1) := by decide +kernel
theorem d_Mo_object_105 : decode b_Mo_object 105 = .ok (.iconst 4, 1) := by decide +kernel
theorem d_Mo_object_106 : decode b_Mo_object 106 = .ok (.invokevirtual 32, 3) := by decide +kernel
theorem d_Mo_object_109 : decode b_Mo_object 109 = .ok (.ireturn, 1) := by decide +kernel
theorem d_Mo_object_110 : decode b_Mo_object 110 = .ok (.aload_n 0, 1) := by decide +kernel
theorem d_Mo_object_111 : decode b_Mo_object 111 = .ok (.iload_n 1, 1) := by decide +kernel
theorem d_Mo_object_112 : decode b_Mo_object 112 = .ok (.iconst 1, 1) := by decide +kernel
theorem d_Mo_object_113 : decode b_Mo_object 113 = .ok (.invokevirtual 32, 3) := by decide +kernel
theorem d_Mo_object_116 : decode b_Mo_object 116 = .ok (.iconst 2, 1) := by decide +kernel
theorem d_Mo_object_117 : decode b_Mo_object 117 = .ok (.if_icmp .lt 13, 3) := by decide +kernel
theorem d_Mo_object_120 : decode b_Mo_object 120 = .ok (.aload_n 0, 1) := by decide +kernel
theorem d_Mo_object_121 : decode b_Mo_object 121 = .ok (.iload_n 1, 1) := by decide +kernel
theorem d_Mo_object_122 : decode b_Mo_object 122 = .ok (.bipush 6, 2) := by decide +kernel
theorem d_Mo_object_124 : decode b_Mo_object 124 = .ok (.invokevirtual 32, 3) := by decide +kernel
theorem d_Mo_object_127 : decode b_Mo_object 127 = .ok (.goto 4, 3) := by decide +kernel
theorem d_Mo_object_130 : decode b_Mo_object 130 = .ok (.iconst (-1), 1) := by decide +kernel
theorem d_Mo_object_131 : decode b_Mo_object 131 = .ok (.ireturn, 1) := by decide +kernel
theorem d_Mo_object_132 : decode b_Mo_object 132 = .ok (.aload_n 0, 1) := by decide +kernel
theorem d_Mo_object_133 : decode b_Mo_object 133 = .ok (.iload_n 1, 1) := by decide +kernel
theorem d_Mo_object_134 : decode b_Mo_object 134 = .ok (.bipush 8, 2) := by decide +kernel
theorem d_Mo_object_136 : decode b_Mo_object 136 = .ok (.invokevirtual 32, 3) := by decide +kernel
theorem d_Mo_object_139 : decode b_Mo_object 139 = .ok (.ireturn, 1) := by decide +kernel
theorem d_Mo_in_0 : decode b_Mo_in 0 = .ok (.aload_n 0, 1) := by decide +kernel
theorem d_Mo_in_1 : decode b_Mo_in 1 = .ok (.iconst 0, 1) := by decide +kernel
theorem d_Mo_in_2 : decode b_Mo_in 2 = .ok (.putfield 16, 3) := by decide +kernel
theorem d_Mo_in_5 : decode b_Mo_in 5 = .ok (.aload_n 0, 1) := by decide +kernel
theorem d_Mo_in_6 : decode b_Mo_in 6 = .ok (.iload_n 1, 1) := by decide +kernel
theorem d_Mo_in_7 : decode b_Mo_in 7 = .ok (.invokevirtual 43, 3) := by decide +kernel
theorem d_Mo_in_10 : decode b_Mo_in 10 = .ok (.ifCond .ne 9, 3) := by decide +kernel
theorem d_Mo_in_13 : decode b_Mo_in 13 = .ok (.aload_n 0, 1) := by decide +kernel
theorem d_Mo_in_14 : decode b_Mo_in 14 = .ok (.iconst 2, 1) := by decide +kernel
theorem d_Mo_in_15 : decode b_Mo_in 15 = .ok (.invokevirtual 51, 3) := by decide +kernel
theorem d_Mo_in_18 : decode b_Mo_in 18 = .ok (.ireturn, 1) := by decide +kernel
theorem d_Mo_in_19 : decode b_Mo_in 19 = .ok (.aload_n 0, 1) := by decide +kernel
theorem d_Mo_in_20 : decode b_Mo_in 20 = .ok (.iload_n 1, 1) := by decide +kernel
theorem d_Mo_in_21 : decode b_Mo_in 21 = .ok (.iconst 1, 1) := by decide +kernel
theorem d_Mo_in_22 : decode b_Mo_in 22 = .ok (.invokevirtual 32, 3) := by decide +kernel
theorem d_Mo_in_25 : decode b_Mo_in 25 = .ok (.ifCond .eq 9, 3) := by decide +kernel
theorem d_Mo_in_28 : decode b_Mo_in 28 = .ok (.aload_n 0, 1) := by decide +kernel
theorem d_Mo_in_29 : decode b_Mo_in 29 = .ok (.iconst 1, 1) := by decide +kernel
theorem d_Mo_in_30 : decode b_Mo_in 30 = .ok (.invokevirtual 51, 3) := by decide +kernel
theorem d_Mo_in_33 : decode b_Mo_in 33 = .ok (.ireturn, 1) := by decide +kernel
theorem d_Mo_in_34 : decode b_Mo_in 34 = .ok (.iconst 0, 1) := by decide +kernel
theorem d_Mo_in_35 : decode b_Mo_in 35 = .ok (.istore_n 3, 1) := by decide +kernel
theorem d_Mo_in_36 : decode b_Mo_in 36 = .ok (.iconst 1, 1) := by decide +kernel
theorem d_Mo_in_37 : decode b_Mo_in 37 = .ok (.istore 4, 2) := by decide +kernel
theorem d_Mo_in_39 : decode b_Mo_in 39 = .ok (.iload 4, 2) := by decide +kernel
theorem d_Mo_in_41 : decode b_Mo_in 41 = .ok (.aload_n 0, 1) := by decide +kernel
theorem d_Mo_in_42 : decode b_Mo_in 42 = .ok (.getfield 7, 3) := by decide +kernel
theorem d_Mo_in_45 : decode b_Mo_in 45 = .ok (.sipush 1549, 3) := by decide +kernel
theorem d_Mo_in_48 : decode b_Mo_in 48 = .ok (.iaload, 1) := by decide +kernel
theorem d_Mo_in_49 : decode b_Mo_in 49 = .ok (.if_icmp .gt 43, 3) := by decide +kernel
theorem d_Mo_in_52 : decode b_Mo_in 52 = .ok (.aload_n 0, 1) := by decide +kernel
theorem d_Mo_in_53 : decode b_Mo_in 53 = .ok (.iload 4, 2) := by decide +kernel
theorem d_Mo_in_55 : decode b_Mo_in 55 = .ok (.invokevirtual 43, 3) := by decide +kernel
theorem d_Mo_in_58 : decode b_Mo_in 58 = .ok (.ifCond .eq 28, 3) := by decide +kernel
theorem d_Mo_in_61 : decode b_Mo_in 61 = .ok (.aload_n 0, 1) := by decide +kernel
theorem d_Mo_in_62 : decode b_Mo_in 62 = .ok (.iload 4, 2) := by decide +kernel
theorem d_Mo_in_64 : decode b_Mo_in 64 = .ok (.iconst 4, 1) := by decide +kernel
theorem d_Mo_in_65 : decode b_Mo_in 65 = .ok (.invokevirtual 32, 3) := by decide +kernel
theorem d_Mo_in_68 : decode b_Mo_in 68 = .ok (.iload_n 1, 1) := by decide +kernel
theorem d_Mo_in_69 : decode b_Mo_in 69 = .ok (.if_icmp .eq 6, 3) := by decide +kernel
theorem d_Mo_in_72 : decode b_Mo_in 72 = .ok (.goto 14, 3) := by decide +kernel
theorem d_Mo_in_75 : decode b_Mo_in 75 = .ok (.iload_n 3, 1) := by decide +kernel
theorem d_Mo_in_76 : decode b_Mo_in 76 = .ok (.iload_n 2, 1) := by decide +kernel
theorem d_Mo_in_77 : decode b_Mo_in 77 = .ok (.if_icmp .ne 6, 3) := by decide +kernel
theorem d_Mo_in_80 : decode b_Mo_in 80 = .ok (.iload 4, 2) := by decide +kernel
theorem d_Mo_in_82 : decode b_Mo_in 82 = .ok (.ireturn, 1) := by decide +kernel
theorem d_Mo_in_83 : decode b_Mo_in 83 = .ok (.iinc 3 1, 3) := by decide +kernel
theorem d_Mo_in_86 : decode b_Mo_in 86 = .ok (.iinc 4 1, 3) := by decide +kernel
theorem d_Mo_in_89 : decode b_Mo_in 89 = .ok (.goto (-50), 3) := by decide +kernel
theorem d_Mo_in_92 : decode b_Mo_in 92 = .ok (.aload_n 0, 1) := by decide +kernel
theorem d_Mo_in_93 : decode b_Mo_in 93 = .ok (.iconst 2, 1) := by decide +kernel
theorem d_Mo_in_94 : decode b_Mo_in 94 = .ok (.invokevirtual 51, 3) := by decide +kernel
theorem d_Mo_in_97 : decode b_Mo_in 97 = .ok (.ireturn, 1) := by decide +kernel
theorem d_Mo_count_0 : decode b_Mo_count 0 = .ok (.aload_n 0, 1) := by decide +kernel
theorem d_Mo_count_1 : decode b_Mo_count 1 = .ok (.iconst 0, 1) := by decide +kernel
theorem d_Mo_count_2 : decode b_Mo_count 2 = .ok (.putfield 16, 3) := by decide +kernel
theorem d_Mo_count_5 : decode b_Mo_count 5 = .ok (.iconst 0, 1) := by decide +kernel
theorem d_Mo_count_6 : decode b_Mo_count 6 = .ok (.istore_n 2, 1) := by decide +kernel
theorem d_Mo_count_7 : decode b_Mo_count 7 = .ok (.iconst 0, 1) := by decide +kernel
theorem d_Mo_count_8 : decode b_Mo_count 8 = .ok (.istore_n 3, 1) := by decide +kernel
theorem d_Mo_count_9 : decode b_Mo_count 9 = .ok (.iload_n 3, 1) := by decide +kernel
theorem d_Mo_count_10 : decode b_Mo_count 10 = .ok (.iconst 4, 1) := by decide +kernel
theorem d_Mo_count_11 : decode b_Mo_count 11 = .ok (.if_icmp .ge 18, 3) := by decide +kernel
theorem d_Mo_count_14 : decode b_Mo_count 14 = .ok (.iload_n 2, 1) := by decide +kernel
theorem d_Mo_count_15 : decode b_Mo_count 15 = .ok (.aload_n 0, 1) := by decide +kernel
theorem d_Mo_count_16 : decode b_Mo_count 16 = .ok (.iload_n 3, 1) := by decide +kernel
theorem d_Mo_count_17 : decode b_Mo_count 17 = .ok (.iconst 0, 1) := by decide +kernel
theorem d_Mo_count_18 : decode b_Mo_count 18 = .ok (.invokevirtual 116, 3) := by decide +kernel
theorem d_Mo_count_21 : decode b_Mo_count 21 = .ok (.iadd, 1) := by decide +kernel
theorem d_Mo_count_22 : decode b_Mo_count 22 = .ok (.istore_n 2, 1) := by decide +kernel
theorem d_Mo_count_23 : decode b_Mo_count 23 = .ok (.iinc 3 1, 3) := by decide +kernel
theorem d_Mo_count_26 : decode b_Mo_count 26 = .ok (.goto (-17), 3) := by decide +kernel
theorem d_Mo_count_29 : decode b_Mo_count 29 = .ok (.iload_n 1, 1) := by decide +kernel
theorem d_Mo_count_30 : decode b_Mo_count 30 = .ok (.ifCond .ne 10, 3) := by decide +kernel
theorem d_Mo_count_33 : decode b_Mo_count 33 = .ok (.aload_n 0, 1) := by decide +kernel
theorem d_Mo_count_34 : decode b_Mo_count 34 = .ok (.invokevirtual 122, 3) := by decide +kernel
theorem d_Mo_count_37 : decode b_Mo_count 37 = .ok (.goto 45, 3) := by decide +kernel
theorem d_Mo_count_40 : decode b_Mo_count 40 = .ok (.iload_n 1, 1) := by decide +kernel
theorem d_Mo_count_41 : decode b_Mo_count 41 = .ok (.iconst 1, 1) := by decide +kernel
theorem d_Mo_count_42 : decode b_Mo_count 42 = .ok (.if_icmp .ne 14, 3) := by decide +kernel
theorem d_Mo_count_45 : decode b_Mo_count 45 = .ok (.aload_n 0, 1) := by decide +kernel
theorem d_Mo_count_46 : decode b_Mo_count 46 = .ok (.getfield 7, 3) := by decide +kernel
theorem d_Mo_count_49 : decode b_Mo_count 49 = .ok (.sipush 1550, 3) := by decide +kernel
theorem d_Mo_count_52 : decode b_Mo_count 52 = .ok (.iaload, 1) := by decide +kernel
theorem d_Mo_count_53 : decode b_Mo_count 53 = .ok (.goto 29, 3) := by decide +kernel
theorem d_Mo_count_56 : decode b_Mo_count 56 = .ok (.iload_n 1, 1) := by decide +kernel
theorem d_Mo_count_57 : decode b_Mo_count 57 = .ok (.iconst 2, 1) := by decide +kernel
theorem d_Mo_count_58 : decode b_Mo_count 58 = .ok (.if_icmp .ne 14, 3) := by decide +kernel
theorem d_Mo_count_61 : decode b_Mo_count 61 = .ok (.aload_n 0, 1) := by decide +kernel
theorem d_Mo_count_62 : decode b_Mo_count 62 = .ok (.getfield 7, 3) := by decide +kernel
theorem d_Mo_count_65 : decode b_Mo_count 65 = .ok (.sipush 1551, 3) := by decide +kernel
theorem d_Mo_count_68 : decode b_Mo_count 68 = .ok (.iaload, 1) := by decide +kernel
theorem d_Mo_count_69 : decode b_Mo_count 69 = .ok (.goto 13, 3) := by decide +kernel
theorem d_Mo_count_72 : decode b_Mo_count 72 = .ok (.iload_n 1, 1) := by decide +kernel
theorem d_Mo_count_73 : decode b_Mo_count 73 = .ok (.iconst 3, 1) := by decide +kernel
theorem d_Mo_count_74 : decode b_Mo_count 74 = .ok (.if_icmp .ne 7, 3) := by decide +kernel
theorem d_Mo_count_77 : decode b_Mo_count 77 = .ok (.iload_n 2, 1) := by decide +kernel
theorem d_Mo_count_78 : decode b_Mo_count 78 = .ok (.goto 4, 3) := by decide +kernel
theorem d_Mo_count_81 : decode b_Mo_count 81 = .ok (.iconst (-1), 1) := by decide +kernel
theorem d_Mo_count_82 : decode b_Mo_count 82 = .ok (.ireturn, 1) := by decide +kernel
end
section
theorem d_La_label_0 : decode b_La_label 0 = .ok (.aload 4, 2) := by decide +kernel
theorem d_La_label_2 : decode b_La_label 2 = .ok (.iconst 0, 1) := by decide +kernel
theorem d_La_label_3 : decode b_La_label 3 = .ok (.aload_n 0, 1) := by decide +kernel
theorem d_La_label_4 : decode b_La_label 4 = .ok (.iload_n 1, 1) := by decide +kernel
theorem d_La_label_5 : decode b_La_label 5 = .ok (.iload_n 2, 1) := by decide +kernel
theorem d_La_label_6 : decode b_La_label 6 = .ok (.iload_n 3, 1) := by decide +kernel
theorem d_La_label_7 : decode b_La_label 7 = .ok (.invokevirtual 7, 3) := by decide +kernel
theorem d_La_label_10 : decode b_La_label 10 = .ok (.i2l, 1) := by decide +kernel
theorem d_La_label_11 : decode b_La_label 11 = .ok (.lastore, 1) := by decide +kernel
theorem d_La_label_12 : decode b_La_label 12 = .ok (.goto 19, 3) := by decide +kernel
theorem d_La_label_15 : decode b_La_label 15 = .ok (.astore 5, 2) := by decide +kernel
theorem d_La_label_17 : decode b_La_label 17 = .ok (.iconst 1, 1) := by decide +kernel
theorem d_La_label_18 : decode b_La_label 18 = .ok (.ireturn, 1) := by decide +kernel
theorem d_La_label_19 : decode b_La_label 19 = .ok (.astore 5, 2) := by decide +kernel
theorem d_La_label_21 : decode b_La_label 21 = .ok (.iconst 2, 1) := by decide +kernel
theorem d_La_label_22 : decode b_La_label 22 = .ok (.ireturn, 1) := by decide +kernel
theorem d_La_label_23 : decode b_La_label 23 = .ok (.astore 5, 2) := by decide +kernel
theorem d_La_label_25 : decode b_La_label 25 = .ok (.iconst 3, 1) := by decide +kernel
theorem d_La_label_26 : decode b_La_label 26 = .ok (.ireturn, 1) := by decide +kernel
theorem d_La_label_27 : decode b_La_label 27 = .ok (.astore 5, 2) := by decide +kernel
theorem d_La_label_29 : decode b_La_label 29 = .ok (.iconst 4, 1) := by decide +kernel
theorem d_La_label_30 : decode b_La_label 30 = .ok (.ireturn, 1) := by decide +kernel
theorem d_La_label_31 : decode b_La_label 31 = .ok (.iconst 0, 1) := by decide +kernel
theorem d_La_label_32 : decode b_La_label 32 = .ok (.ireturn, 1) := by decide +kernel
theorem d_La_level_0 : decode b_La_level 0 = .ok (.aload_n 3, 1) := by decide +kernel
theorem d_La_level_1 : decode b_La_level 1 = .ok (.iconst 0, 1) := by decide +kernel
theorem d_La_level_2 : decode b_La_level 2 = .ok (.aload_n 0, 1) := by decide +kernel
theorem d_La_level_3 : decode b_La_level 3 = .ok (.iload_n 1, 1) := by decide +kernel
theorem d_La_level_4 : decode b_La_level 4 = .ok (.iload_n 2, 1) := by decide +kernel
theorem d_La_level_5 : decode b_La_level 5 = .ok (.invokevirtual 21, 3) := by decide +kernel
theorem d_La_level_8 : decode b_La_level 8 = .ok (.i2l, 1) := by decide +kernel
theorem d_La_level_9 : decode b_La_level 9 = .ok (.lastore, 1) := by decide +kernel
theorem d_La_level_10 : decode b_La_level 10 = .ok (.goto 19, 3) := by decide +kernel
theorem d_La_level_13 : decode b_La_level 13 = .ok (.astore 4, 2) := by decide +kernel
theorem d_La_level_15 : decode b_La_level 15 = .ok (.iconst 1, 1) := by decide +kernel
theorem d_La_level_16 : decode b_La_level 16 = .ok (.ireturn, 1) := by decide +kernel
theorem d_La_level_17 : decode b_La_level 17 = .ok (.astore 4, 2) := by decide +kernel
theorem d_La_level_19 : decode b_La_level 19 = .ok (.iconst 2, 1) := by decide +kernel
theorem d_La_level_20 : decode b_La_level 20 = .ok (.ireturn, 1) := by decide +kernel
theorem d_La_level_21 : decode b_La_level 21 = .ok (.astore 4, 2) := by decide +kernel
theorem d_La_level_23 : decode b_La_level 23 = .ok (.iconst 3, 1) := by decide +kernel
theorem d_La_level_24 : decode b_La_level 24 = .ok (.ireturn, 1) := by decide +kernel
theorem d_La_level_25 : decode b_La_level 25 = .ok (.astore 4, 2) := by decide +kernel
theorem d_La_level_27 : decode b_La_level 27 = .ok (.iconst 4, 1) := by decide +kernel
theorem d_La_level_28 : decode b_La_level 28 = .ok (.ireturn, 1) := by decide +kernel
theorem d_La_level_29 : decode b_La_level 29 = .ok (.iconst 0, 1) := by decide +kernel
theorem d_La_level_30 : decode b_La_level 30 = .ok (.ireturn, 1) := by decide +kernel
theorem d_La_fits_0 : decode b_La_fits 0 = .ok (.aload 4, 2) := by decide +kernel
theorem d_La_fits_2 : decode b_La_fits 2 = .ok (.iconst 0, 1) := by decide +kernel
theorem d_La_fits_3 : decode b_La_fits 3 = .ok (.aload_n 0, 1) := by decide +kernel
theorem d_La_fits_4 : decode b_La_fits 4 = .ok (.iload_n 1, 1) := by decide +kernel
theorem d_La_fits_5 : decode b_La_fits 5 = .ok (.iload_n 2, 1) := by decide +kernel
theorem d_La_fits_6 : decode b_La_fits 6 = .ok (.iload_n 3, 1) := by decide +kernel
theorem d_La_fits_7 : decode b_La_fits 7 = .ok (.invokevirtual 25, 3) := by decide +kernel
theorem d_La_fits_10 : decode b_La_fits 10 = .ok (.ifCond .eq 7, 3) := by decide +kernel
theorem d_La_fits_13 : decode b_La_fits 13 = .ok (.lconst 1, 1) := by decide +kernel
theorem d_La_fits_14 : decode b_La_fits 14 = .ok (.goto 4, 3) := by decide +kernel
theorem d_La_fits_17 : decode b_La_fits 17 = .ok (.lconst 0, 1) := by decide +kernel
theorem d_La_fits_18 : decode b_La_fits 18 = .ok (.lastore, 1) := by decide +kernel
theorem d_La_fits_19 : decode b_La_fits 19 = .ok (.goto 19, 3) := by decide +kernel
theorem d_La_fits_22 : decode b_La_fits 22 = .ok (.astore 5, 2) := by decide +kernel
theorem d_La_fits_24 : decode b_La_fits 24 = .ok (.iconst 1, 1) := by decide +kernel
theorem d_La_fits_25 : decode b_La_fits 25 = .ok (.ireturn, 1) := by decide +kernel
theorem d_La_fits_26 : decode b_La_fits 26 = .ok (.astore 5, 2) := by decide +kernel
theorem d_La_fits_28 : decode b_La_fits 28 = .ok (.iconst 2, 1) := by decide +kernel
theorem d_La_fits_29 : decode b_La_fits 29 = .ok (.ireturn, 1) := by decide +kernel
theorem d_La_fits_30 : decode b_La_fits 30 = .ok (.astore 5, 2) := by decide +kernel
theorem d_La_fits_32 : decode b_La_fits 32 = .ok (.iconst 3, 1) := by decide +kernel
theorem d_La_fits_33 : decode b_La_fits 33 = .ok (.ireturn, 1) := by decide +kernel
theorem d_La_fits_34 : decode b_La_fits 34 = .ok (.astore 5, 2) := by decide +kernel
theorem d_La_fits_36 : decode b_La_fits 36 = .ok (.iconst 4, 1) := by decide +kernel
theorem d_La_fits_37 : decode b_La_fits 37 = .ok (.ireturn, 1) := by decide +kernel
theorem d_La_fits_38 : decode b_La_fits 38 = .ok (.iconst 0, 1) := by decide +kernel
theorem d_La_fits_39 : decode b_La_fits 39 = .ok (.ireturn, 1) := by decide +kernel
theorem d_La_category_0 : decode b_La_category 0 = .ok (.aload_n 2, 1) := by decide +kernel
theorem d_La_category_1 : decode b_La_category 1 = .ok (.iconst 0, 1) := by decide +kernel
theorem d_La_category_2 : decode b_La_category 2 = .ok (.aload_n 0, 1) := by decide +kernel
theorem d_La_category_3 : decode b_La_category 3 = .ok (.iload_n 1, 1) := by decide +kernel
theorem d_La_category_4 : decode b_La_category 4 = .ok (.invokevirtual 29, 3) := by decide +kernel
theorem d_La_category_7 : decode b_La_category 7 = .ok (.i2l, 1) := by decide +kernel
theorem d_La_category_8 : decode b_La_category 8 = .ok (.lastore, 1) := by decide +kernel
theorem d_La_category_9 : decode b_La_category 9 = .ok (.goto 15, 3) := by decide +kernel
theorem d_La_category_12 : decode b_La_category 12 = .ok (.astore_n 3, 1) := by decide +kernel
theorem d_La_category_13 : decode b_La_category 13 = .ok (.iconst 1, 1) := by decide +kernel
theorem d_La_category_14 : decode b_La_category 14 = .ok (.ireturn, 1) := by decide +kernel
theorem d_La_category_15 : decode b_La_category 15 = .ok (.astore_n 3, 1) := by decide +kernel
theorem d_La_category_16 : decode b_La_category 16 = .ok (.iconst 2, 1) := by decide +kernel
theorem d_La_category_17 : decode b_La_category 17 = .ok (.ireturn, 1) := by decide +kernel
theorem d_La_category_18 : decode b_La_category 18 = .ok (.astore_n 3, 1) := by decide +kernel
theorem d_La_category_19 : decode b_La_category 19 = .ok (.iconst 3, 1) := by decide +kernel
theorem d_La_category_20 : decode b_La_category 20 = .ok (.ireturn, 1) := by decide +kernel
theorem d_La_category_21 : decode b_La_category 21 = .ok (.astore_n 3, 1) := by decide +kernel
theorem d_La_category_22 : decode b_La_category 22 = .ok (.iconst 4, 1) := by decide +kernel
theorem d_La_category_23 : decode b_La_category 23 = .ok (.ireturn, 1) := by decide +kernel
theorem d_La_category_24 : decode b_La_category 24 = .ok (.iconst 0, 1) := by decide +kernel
theorem d_La_category_25 : decode b_La_category 25 = .ok (.ireturn, 1) := by decide +kernel
theorem d_La_container_0 : decode b_La_container 0 = .ok (.aload 5, 2) := by decide +kernel
theorem d_La_container_2 : decode b_La_container 2 = .ok (.iconst 0, 1) := by decide +kernel
theorem d_La_container_3 : decode b_La_container 3 = .ok (.aload_n 0, 1) := by decide +kernel
theorem d_La_container_4 : decode b_La_container 4 = .ok (.iload_n 1, 1) := by decide +kernel
theorem d_La_container_5 : decode b_La_container 5 = .ok (.iload_n 2, 1) := by decide +kernel
theorem d_La_container_6 : decode b_La_container 6 = .ok (.iload_n 3, 1) := by decide +kernel
theorem d_La_container_7 : decode b_La_container 7 = .ok (.iload 4, 2) := by decide +kernel
theorem d_La_container_9 : decode b_La_container 9 = .ok (.invokevirtual 33, 3) := by decide +kernel
theorem d_La_container_12 : decode b_La_container 12 = .ok (.i2l, 1) := by decide +kernel
theorem d_La_container_13 : decode b_La_container 13 = .ok (.lastore, 1) := by decide +kernel
theorem d_La_container_14 : decode b_La_container 14 = .ok (.goto 19, 3) := by decide +kernel
theorem d_La_container_17 : decode b_La_container 17 = .ok (.astore 6, 2) := by decide +kernel
theorem d_La_container_19 : decode b_La_container 19 = .ok (.iconst 1, 1) := by decide +kernel
theorem d_La_container_20 : decode b_La_container 20 = .ok (.ireturn, 1) := by decide +kernel
theorem d_La_container_21 : decode b_La_container 21 = .ok (.astore 6, 2) := by decide +kernel
theorem d_La_container_23 : decode b_La_container 23 = .ok (.iconst 2, 1) := by decide +kernel
theorem d_La_container_24 : decode b_La_container 24 = .ok (.ireturn, 1) := by decide +kernel
theorem d_La_container_25 : decode b_La_container 25 = .ok (.astore 6, 2) := by decide +kernel
theorem d_La_container_27 : decode b_La_container 27 = .ok (.iconst 3, 1) := by decide +kernel
theorem d_La_container_28 : decode b_La_container 28 = .ok (.ireturn, 1) := by decide +kernel
theorem d_La_container_29 : decode b_La_container 29 = .ok (.astore 6, 2) := by decide +kernel
theorem d_La_container_31 : decode b_La_container 31 = .ok (.iconst 4, 1) := by decide +kernel
theorem d_La_container_32 : decode b_La_container 32 = .ok (.ireturn, 1) := by decide +kernel
theorem d_La_container_33 : decode b_La_container 33 = .ok (.iconst 0, 1) := by decide +kernel
theorem d_La_container_34 : decode b_La_container 34 = .ok (.ireturn, 1) := by decide +kernel
theorem d_La_segment_0 : decode b_La_segment 0 = .ok (.aload 5, 2) := by decide +kernel
theorem d_La_segment_2 : decode b_La_segment 2 = .ok (.iconst 0, 1) := by decide +kernel
theorem d_La_segment_3 : decode b_La_segment 3 = .ok (.aload_n 0, 1) := by decide +kernel
theorem d_La_segment_4 : decode b_La_segment 4 = .ok (.iload_n 1, 1) := by decide +kernel
theorem d_La_segment_5 : decode b_La_segment 5 = .ok (.iload_n 2, 1) := by decide +kernel
theorem d_La_segment_6 : decode b_La_segment 6 = .ok (.iload_n 3, 1) := by decide +kernel
theorem d_La_segment_7 : decode b_La_segment 7 = .ok (.iload 4, 2) := by decide +kernel
theorem d_La_segment_9 : decode b_La_segment 9 = .ok (.invokevirtual 37, 3) := by decide +kernel
theorem d_La_segment_12 : decode b_La_segment 12 = .ok (.i2l, 1) := by decide +kernel
theorem d_La_segment_13 : decode b_La_segment 13 = .ok (.lastore, 1) := by decide +kernel
theorem d_La_segment_14 : decode b_La_segment 14 = .ok (.goto 19, 3) := by decide +kernel
theorem d_La_segment_17 : decode b_La_segment 17 = .ok (.astore 6, 2) := by decide +kernel
theorem d_La_segment_19 : decode b_La_segment 19 = .ok (.iconst 1, 1) := by decide +kernel
theorem d_La_segment_20 : decode b_La_segment 20 = .ok (.ireturn, 1) := by decide +kernel
theorem d_La_segment_21 : decode b_La_segment 21 = .ok (.astore 6, 2) := by decide +kernel
theorem d_La_segment_23 : decode b_La_segment 23 = .ok (.iconst 2, 1) := by decide +kernel
theorem d_La_segment_24 : decode b_La_segment 24 = .ok (.ireturn, 1) := by decide +kernel
theorem d_La_segment_25 : decode b_La_segment 25 = .ok (.astore 6, 2) := by decide +kernel
theorem d_La_segment_27 : decode b_La_segment 27 = .ok (.iconst 3, 1) := by decide +kernel
theorem d_La_segment_28 : decode b_La_segment 28 = .ok (.ireturn, 1) := by decide +kernel
theorem d_La_segment_29 : decode b_La_segment 29 = .ok (.astore 6, 2) := by decide +kernel
theorem d_La_segment_31 : decode b_La_segment 31 = .ok (.iconst 4, 1) := by decide +kernel
theorem d_La_segment_32 : decode b_La_segment 32 = .ok (.ireturn, 1) := by decide +kernel
theorem d_La_segment_33 : decode b_La_segment 33 = .ok (.iconst 0, 1) := by decide +kernel
theorem d_La_segment_34 : decode b_La_segment 34 = .ok (.ireturn, 1) := by decide +kernel
theorem d_La_gate_0 : decode b_La_gate 0 = .ok (.aload 6, 2) := by decide +kernel
theorem d_La_gate_2 : decode b_La_gate 2 = .ok (.iconst 0, 1) := by decide +kernel
theorem d_La_gate_3 : decode b_La_gate 3 = .ok (.aload_n 0, 1) := by decide +kernel
theorem d_La_gate_4 : decode b_La_gate 4 = .ok (.iload_n 1, 1) := by decide +kernel
theorem d_La_gate_5 : decode b_La_gate 5 = .ok (.iload_n 2, 1) := by decide +kernel
theorem d_La_gate_6 : decode b_La_gate 6 = .ok (.iload_n 3, 1) := by decide +kernel
theorem d_La_gate_7 : decode b_La_gate 7 = .ok (.iload 4, 2) := by decide +kernel
theorem d_La_gate_9 : decode b_La_gate 9 = .ok (.iload 5, 2) := by decide +kernel
theorem d_La_gate_11 : decode b_La_gate 11 = .ok (.invokevirtual 40, 3) := by decide +kernel
theorem d_La_gate_14 : decode b_La_gate 14 = .ok (.i2l, 1) := by decide +kernel
theorem d_La_gate_15 : decode b_La_gate 15 = .ok (.lastore, 1) := by decide +kernel
theorem d_La_gate_16 : decode b_La_gate 16 = .ok (.goto 19, 3) := by decide +kernel
theorem d_La_gate_19 : decode b_La_gate 19 = .ok (.astore 7, 2) := by decide +kernel
theorem d_La_gate_21 : decode b_La_gate 21 = .ok (.iconst 1, 1) := by decide +kernel
theorem d_La_gate_22 : decode b_La_gate 22 = .ok (.ireturn, 1) := by decide +kernel
theorem d_La_gate_23 : decode b_La_gate 23 = .ok (.astore 7, 2) := by decide +kernel
theorem d_La_gate_25 : decode b_La_gate 25 = .ok (.iconst 2, 1) := by decide +kernel
theorem d_La_gate_26 : decode b_La_gate 26 = .ok (.ireturn, 1) := by decide +kernel
theorem d_La_gate_27 : decode b_La_gate 27 = .ok (.astore 7, 2) := by decide +kernel
theorem d_La_gate_29 : decode b_La_gate 29 = .ok (.iconst 3, 1) := by decide +kernel
theorem d_La_gate_30 : decode b_La_gate 30 = .ok (.ireturn, 1) := by decide +kernel
theorem d_La_gate_31 : decode b_La_gate 31 = .ok (.astore 7, 2) := by decide +kernel
theorem d_La_gate_33 : decode b_La_gate 33 = .ok (.iconst 4, 1) := by decide +kernel
theorem d_La_gate_34 : decode b_La_gate 34 = .ok (.ireturn, 1) := by decide +kernel
theorem d_La_gate_35 : decode b_La_gate 35 = .ok (.iconst 0, 1) := by decide +kernel
theorem d_La_gate_36 : decode b_La_gate 36 = .ok (.ireturn, 1) := by decide +kernel
theorem d_La_thread_0 : decode b_La_thread 0 = .ok (.aload 5, 2) := by decide +kernel
theorem d_La_thread_2 : decode b_La_thread 2 = .ok (.iconst 0, 1) := by decide +kernel
theorem d_La_thread_3 : decode b_La_thread 3 = .ok (.aload_n 0, 1) := by decide +kernel
theorem d_La_thread_4 : decode b_La_thread 4 = .ok (.iload_n 1, 1) := by decide +kernel
theorem d_La_thread_5 : decode b_La_thread 5 = .ok (.iload_n 2, 1) := by decide +kernel
theorem d_La_thread_6 : decode b_La_thread 6 = .ok (.iload_n 3, 1) := by decide +kernel
theorem d_La_thread_7 : decode b_La_thread 7 = .ok (.iload 4, 2) := by decide +kernel
theorem d_La_thread_9 : decode b_La_thread 9 = .ok (.invokevirtual 44, 3) := by decide +kernel
theorem d_La_thread_12 : decode b_La_thread 12 = .ok (.i2l, 1) := by decide +kernel
theorem d_La_thread_13 : decode b_La_thread 13 = .ok (.lastore, 1) := by decide +kernel
theorem d_La_thread_14 : decode b_La_thread 14 = .ok (.goto 19, 3) := by decide +kernel
theorem d_La_thread_17 : decode b_La_thread 17 = .ok (.astore 6, 2) := by decide +kernel
theorem d_La_thread_19 : decode b_La_thread 19 = .ok (.iconst 1, 1) := by decide +kernel
theorem d_La_thread_20 : decode b_La_thread 20 = .ok (.ireturn, 1) := by decide +kernel
theorem d_La_thread_21 : decode b_La_thread 21 = .ok (.astore 6, 2) := by decide +kernel
theorem d_La_thread_23 : decode b_La_thread 23 = .ok (.iconst 2, 1) := by decide +kernel
theorem d_La_thread_24 : decode b_La_thread 24 = .ok (.ireturn, 1) := by decide +kernel
theorem d_La_thread_25 : decode b_La_thread 25 = .ok (.astore 6, 2) := by decide +kernel
theorem d_La_thread_27 : decode b_La_thread 27 = .ok (.iconst 3, 1) := by decide +kernel
theorem d_La_thread_28 : decode b_La_thread 28 = .ok (.ireturn, 1) := by decide +kernel
theorem d_La_thread_29 : decode b_La_thread 29 = .ok (.astore 6, 2) := by decide +kernel
theorem d_La_thread_31 : decode b_La_thread 31 = .ok (.iconst 4, 1) := by decide +kernel
theorem d_La_thread_32 : decode b_La_thread 32 = .ok (.ireturn, 1) := by decide +kernel
theorem d_La_thread_33 : decode b_La_thread 33 = .ok (.iconst 0, 1) := by decide +kernel
theorem d_La_thread_34 : decode b_La_thread 34 = .ok (.ireturn, 1) := by decide +kernel
theorem d_La_read_0 : decode b_La_read 0 = .ok (.aload 5, 2) := by decide +kernel
theorem d_La_read_2 : decode b_La_read 2 = .ok (.iconst 0, 1) := by decide +kernel
theorem d_La_read_3 : decode b_La_read 3 = .ok (.aload_n 0, 1) := by decide +kernel
theorem d_La_read_4 : decode b_La_read 4 = .ok (.iload_n 1, 1) := by decide +kernel
theorem d_La_read_5 : decode b_La_read 5 = .ok (.iload_n 2, 1) := by decide +kernel
theorem d_La_read_6 : decode b_La_read 6 = .ok (.iload_n 3, 1) := by decide +kernel
theorem d_La_read_7 : decode b_La_read 7 = .ok (.iload 4, 2) := by decide +kernel
theorem d_La_read_9 : decode b_La_read 9 = .ok (.invokevirtual 47, 3) := by decide +kernel
theorem d_La_read_12 : decode b_La_read 12 = .ok (.i2l, 1) := by decide +kernel
theorem d_La_read_13 : decode b_La_read 13 = .ok (.lastore, 1) := by decide +kernel
theorem d_La_read_14 : decode b_La_read 14 = .ok (.goto 19, 3) := by decide +kernel
theorem d_La_read_17 : decode b_La_read 17 = .ok (.astore 6, 2) := by decide +kernel
theorem d_La_read_19 : decode b_La_read 19 = .ok (.iconst 1, 1) := by decide +kernel
theorem d_La_read_20 : decode b_La_read 20 = .ok (.ireturn, 1) := by decide +kernel
theorem d_La_read_21 : decode b_La_read 21 = .ok (.astore 6, 2) := by decide +kernel
theorem d_La_read_23 : decode b_La_read 23 = .ok (.iconst 2, 1) := by decide +kernel
theorem d_La_read_24 : decode b_La_read 24 = .ok (.ireturn, 1) := by decide +kernel
theorem d_La_read_25 : decode b_La_read 25 = .ok (.astore 6, 2) := by decide +kernel
theorem d_La_read_27 : decode b_La_read 27 = .ok (.iconst 3, 1) := by decide +kernel
theorem d_La_read_28 : decode b_La_read 28 = .ok (.ireturn, 1) := by decide +kernel
theorem d_La_read_29 : decode b_La_read 29 = .ok (.astore 6, 2) := by decide +kernel
theorem d_La_read_31 : decode b_La_read 31 = .ok (.iconst 4, 1) := by decide +kernel
theorem d_La_read_32 : decode b_La_read 32 = .ok (.ireturn, 1) := by decide +kernel
theorem d_La_read_33 : decode b_La_read 33 = .ok (.iconst 0, 1) := by decide +kernel
theorem d_La_read_34 : decode b_La_read 34 = .ok (.ireturn, 1) := by decide +kernel
theorem d_La_write_0 : decode b_La_write 0 = .ok (.aload 6, 2) := by decide +kernel
theorem d_La_write_2 : decode b_La_write 2 = .ok (.iconst 0, 1) := by decide +kernel
theorem d_La_write_3 : decode b_La_write 3 = .ok (.aload_n 0, 1) := by decide +kernel
theorem d_La_write_4 : decode b_La_write 4 = .ok (.iload_n 1, 1) := by decide +kernel
theorem d_La_write_5 : decode b_La_write 5 = .ok (.iload_n 2, 1) := by decide +kernel
theorem d_La_write_6 : decode b_La_write 6 = .ok (.iload_n 3, 1) := by decide +kernel
theorem d_La_write_7 : decode b_La_write 7 = .ok (.iload 4, 2) := by decide +kernel
theorem d_La_write_9 : decode b_La_write 9 = .ok (.iload 5, 2) := by decide +kernel
theorem d_La_write_11 : decode b_La_write 11 = .ok (.invokevirtual 50, 3) := by decide +kernel
theorem d_La_write_14 : decode b_La_write 14 = .ok (.i2l, 1) := by decide +kernel
theorem d_La_write_15 : decode b_La_write 15 = .ok (.lastore, 1) := by decide +kernel
theorem d_La_write_16 : decode b_La_write 16 = .ok (.goto 19, 3) := by decide +kernel
theorem d_La_write_19 : decode b_La_write 19 = .ok (.astore 7, 2) := by decide +kernel
theorem d_La_write_21 : decode b_La_write 21 = .ok (.iconst 1, 1) := by decide +kernel
theorem d_La_write_22 : decode b_La_write 22 = .ok (.ireturn, 1) := by decide +kernel
theorem d_La_write_23 : decode b_La_write 23 = .ok (.astore 7, 2) := by decide +kernel
theorem d_La_write_25 : decode b_La_write 25 = .ok (.iconst 2, 1) := by decide +kernel
theorem d_La_write_26 : decode b_La_write 26 = .ok (.ireturn, 1) := by decide +kernel
theorem d_La_write_27 : decode b_La_write 27 = .ok (.astore 7, 2) := by decide +kernel
theorem d_La_write_29 : decode b_La_write 29 = .ok (.iconst 3, 1) := by decide +kernel
theorem d_La_write_30 : decode b_La_write 30 = .ok (.ireturn, 1) := by decide +kernel
theorem d_La_write_31 : decode b_La_write 31 = .ok (.astore 7, 2) := by decide +kernel
theorem d_La_write_33 : decode b_La_write 33 = .ok (.iconst 4, 1) := by decide +kernel
theorem d_La_write_34 : decode b_La_write 34 = .ok (.ireturn, 1) := by decide +kernel
theorem d_La_write_35 : decode b_La_write 35 = .ok (.iconst 0, 1) := by decide +kernel
theorem d_La_write_36 : decode b_La_write 36 = .ok (.ireturn, 1) := by decide +kernel
theorem d_La_move_0 : decode b_La_move 0 = .ok (.aload 5, 2) := by decide +kernel
theorem d_La_move_2 : decode b_La_move 2 = .ok (.iconst 0, 1) := by decide +kernel
theorem d_La_move_3 : decode b_La_move 3 = .ok (.aload_n 0, 1) := by decide +kernel
theorem d_La_move_4 : decode b_La_move 4 = .ok (.iload_n 1, 1) := by decide +kernel
theorem d_La_move_5 : decode b_La_move 5 = .ok (.iload_n 2, 1) := by decide +kernel
theorem d_La_move_6 : decode b_La_move 6 = .ok (.iload_n 3, 1) := by decide +kernel
theorem d_La_move_7 : decode b_La_move 7 = .ok (.iload 4, 2) := by decide +kernel
theorem d_La_move_9 : decode b_La_move 9 = .ok (.invokevirtual 53, 3) := by decide +kernel
theorem d_La_move_12 : decode b_La_move 12 = .ok (.i2l, 1) := by decide +kernel
theorem d_La_move_13 : decode b_La_move 13 = .ok (.lastore, 1) := by decide +kernel
theorem d_La_move_14 : decode b_La_move 14 = .ok (.goto 19, 3) := by decide +kernel
theorem d_La_move_17 : decode b_La_move 17 = .ok (.astore 6, 2) := by decide +kernel
theorem d_La_move_19 : decode b_La_move 19 = .ok (.iconst 1, 1) := by decide +kernel
theorem d_La_move_20 : decode b_La_move 20 = .ok (.ireturn, 1) := by decide +kernel
theorem d_La_move_21 : decode b_La_move 21 = .ok (.astore 6, 2) := by decide +kernel
theorem d_La_move_23 : decode b_La_move 23 = .ok (.iconst 2, 1) := by decide +kernel
theorem d_La_move_24 : decode b_La_move 24 = .ok (.ireturn, 1) := by decide +kernel
theorem d_La_move_25 : decode b_La_move 25 = .ok (.astore 6, 2) := by decide +kernel
theorem d_La_move_27 : decode b_La_move 27 = .ok (.iconst 3, 1) := by decide +kernel
theorem d_La_move_28 : decode b_La_move 28 = .ok (.ireturn, 1) := by decide +kernel
theorem d_La_move_29 : decode b_La_move 29 = .ok (.astore 6, 2) := by decide +kernel
theorem d_La_move_31 : decode b_La_move 31 = .ok (.iconst 4, 1) := by decide +kernel
theorem d_La_move_32 : decode b_La_move 32 = .ok (.ireturn, 1) := by decide +kernel
theorem d_La_move_33 : decode b_La_move 33 = .ok (.iconst 0, 1) := by decide +kernel
theorem d_La_move_34 : decode b_La_move 34 = .ok (.ireturn, 1) := by decide +kernel
theorem d_La_drop_0 : decode b_La_drop 0 = .ok (.aload 4, 2) := by decide +kernel
theorem d_La_drop_2 : decode b_La_drop 2 = .ok (.iconst 0, 1) := by decide +kernel
theorem d_La_drop_3 : decode b_La_drop 3 = .ok (.aload_n 0, 1) := by decide +kernel
theorem d_La_drop_4 : decode b_La_drop 4 = .ok (.iload_n 1, 1) := by decide +kernel
theorem d_La_drop_5 : decode b_La_drop 5 = .ok (.iload_n 2, 1) := by decide +kernel
theorem d_La_drop_6 : decode b_La_drop 6 = .ok (.iload_n 3, 1) := by decide +kernel
theorem d_La_drop_7 : decode b_La_drop 7 = .ok (.invokevirtual 56, 3) := by decide +kernel
theorem d_La_drop_10 : decode b_La_drop 10 = .ok (.i2l, 1) := by decide +kernel
theorem d_La_drop_11 : decode b_La_drop 11 = .ok (.lastore, 1) := by decide +kernel
theorem d_La_drop_12 : decode b_La_drop 12 = .ok (.goto 19, 3) := by decide +kernel
theorem d_La_drop_15 : decode b_La_drop 15 = .ok (.astore 5, 2) := by decide +kernel
theorem d_La_drop_17 : decode b_La_drop 17 = .ok (.iconst 1, 1) := by decide +kernel
theorem d_La_drop_18 : decode b_La_drop 18 = .ok (.ireturn, 1) := by decide +kernel
theorem d_La_drop_19 : decode b_La_drop 19 = .ok (.astore 5, 2) := by decide +kernel
theorem d_La_drop_21 : decode b_La_drop 21 = .ok (.iconst 2, 1) := by decide +kernel
theorem d_La_drop_22 : decode b_La_drop 22 = .ok (.ireturn, 1) := by decide +kernel
theorem d_La_drop_23 : decode b_La_drop 23 = .ok (.astore 5, 2) := by decide +kernel
theorem d_La_drop_25 : decode b_La_drop 25 = .ok (.iconst 3, 1) := by decide +kernel
theorem d_La_drop_26 : decode b_La_drop 26 = .ok (.ireturn, 1) := by decide +kernel
theorem d_La_drop_27 : decode b_La_drop 27 = .ok (.astore 5, 2) := by decide +kernel
theorem d_La_drop_29 : decode b_La_drop 29 = .ok (.iconst 4, 1) := by decide +kernel
theorem d_La_drop_30 : decode b_La_drop 30 = .ok (.ireturn, 1) := by decide +kernel
theorem d_La_drop_31 : decode b_La_drop 31 = .ok (.iconst 0, 1) := by decide +kernel
theorem d_La_drop_32 : decode b_La_drop 32 = .ok (.ireturn, 1) := by decide +kernel
theorem d_La_become_0 : decode b_La_become 0 = .ok (.aload_n 3, 1) := by decide +kernel
theorem d_La_become_1 : decode b_La_become 1 = .ok (.iconst 0, 1) := by decide +kernel
theorem d_La_become_2 : decode b_La_become 2 = .ok (.aload_n 0, 1) := by decide +kernel
theorem d_La_become_3 : decode b_La_become 3 = .ok (.iload_n 1, 1) := by decide +kernel
theorem d_La_become_4 : decode b_La_become 4 = .ok (.iload_n 2, 1) := by decide +kernel
theorem d_La_become_5 : decode b_La_become 5 = .ok (.invokevirtual 59, 3) := by decide +kernel
theorem d_La_become_8 : decode b_La_become 8 = .ok (.i2l, 1) := by decide +kernel
theorem d_La_become_9 : decode b_La_become 9 = .ok (.lastore, 1) := by decide +kernel
theorem d_La_become_10 : decode b_La_become 10 = .ok (.goto 19, 3) := by decide +kernel
theorem d_La_become_13 : decode b_La_become 13 = .ok (.astore 4, 2) := by decide +kernel
theorem d_La_become_15 : decode b_La_become 15 = .ok (.iconst 1, 1) := by decide +kernel
theorem d_La_become_16 : decode b_La_become 16 = .ok (.ireturn, 1) := by decide +kernel
theorem d_La_become_17 : decode b_La_become 17 = .ok (.astore 4, 2) := by decide +kernel
theorem d_La_become_19 : decode b_La_become 19 = .ok (.iconst 2, 1) := by decide +kernel
theorem d_La_become_20 : decode b_La_become 20 = .ok (.ireturn, 1) := by decide +kernel
theorem d_La_become_21 : decode b_La_become 21 = .ok (.astore 4, 2) := by decide +kernel
theorem d_La_become_23 : decode b_La_become 23 = .ok (.iconst 3, 1) := by decide +kernel
theorem d_La_become_24 : decode b_La_become 24 = .ok (.ireturn, 1) := by decide +kernel
theorem d_La_become_25 : decode b_La_become 25 = .ok (.astore 4, 2) := by decide +kernel
theorem d_La_become_27 : decode b_La_become 27 = .ok (.iconst 4, 1) := by decide +kernel
theorem d_La_become_28 : decode b_La_become 28 = .ok (.ireturn, 1) := by decide +kernel
theorem d_La_become_29 : decode b_La_become 29 = .ok (.iconst 0, 1) := by decide +kernel
theorem d_La_become_30 : decode b_La_become 30 = .ok (.ireturn, 1) := by decide +kernel
theorem d_La_lower_0 : decode b_La_lower 0 = .ok (.aload_n 3, 1) := by decide +kernel
theorem d_La_lower_1 : decode b_La_lower 1 = .ok (.iconst 0, 1) := by decide +kernel
theorem d_La_lower_2 : decode b_La_lower 2 = .ok (.aload_n 0, 1) := by decide +kernel
theorem d_La_lower_3 : decode b_La_lower 3 = .ok (.iload_n 1, 1) := by decide +kernel
theorem d_La_lower_4 : decode b_La_lower 4 = .ok (.iload_n 2, 1) := by decide +kernel
theorem d_La_lower_5 : decode b_La_lower 5 = .ok (.invokevirtual 62, 3) := by decide +kernel
theorem d_La_lower_8 : decode b_La_lower 8 = .ok (.i2l, 1) := by decide +kernel
theorem d_La_lower_9 : decode b_La_lower 9 = .ok (.lastore, 1) := by decide +kernel
theorem d_La_lower_10 : decode b_La_lower 10 = .ok (.goto 19, 3) := by decide +kernel
theorem d_La_lower_13 : decode b_La_lower 13 = .ok (.astore 4, 2) := by decide +kernel
theorem d_La_lower_15 : decode b_La_lower 15 = .ok (.iconst 1, 1) := by decide +kernel
theorem d_La_lower_16 : decode b_La_lower 16 = .ok (.ireturn, 1) := by decide +kernel
theorem d_La_lower_17 : decode b_La_lower 17 = .ok (.astore 4, 2) := by decide +kernel
theorem d_La_lower_19 : decode b_La_lower 19 = .ok (.iconst 2, 1) := by decide +kernel
theorem d_La_lower_20 : decode b_La_lower 20 = .ok (.ireturn, 1) := by decide +kernel
theorem d_La_lower_21 : decode b_La_lower 21 = .ok (.astore 4, 2) := by decide +kernel
theorem d_La_lower_23 : decode b_La_lower 23 = .ok (.iconst 3, 1) := by decide +kernel
theorem d_La_lower_24 : decode b_La_lower 24 = .ok (.ireturn, 1) := by decide +kernel
theorem d_La_lower_25 : decode b_La_lower 25 = .ok (.astore 4, 2) := by decide +kernel
theorem d_La_lower_27 : decode b_La_lower 27 = .ok (.iconst 4, 1) := by decide +kernel
theorem d_La_lower_28 : decode b_La_lower 28 = .ok (.ireturn, 1) := by decide +kernel
theorem d_La_lower_29 : decode b_La_lower 29 = .ok (.iconst 0, 1) := by decide +kernel
theorem d_La_lower_30 : decode b_La_lower 30 = .ok (.ireturn, 1) := by decide +kernel
theorem d_La_enter_0 : decode b_La_enter 0 = .ok (.aload 6, 2) := by decide +kernel
theorem d_La_enter_2 : decode b_La_enter 2 = .ok (.iconst 0, 1) := by decide +kernel
theorem d_La_enter_3 : decode b_La_enter 3 = .ok (.aload_n 0, 1) := by decide +kernel
theorem d_La_enter_4 : decode b_La_enter 4 = .ok (.iload_n 1, 1) := by decide +kernel
theorem d_La_enter_5 : decode b_La_enter 5 = .ok (.iload_n 2, 1) := by decide +kernel
theorem d_La_enter_6 : decode b_La_enter 6 = .ok (.iload_n 3, 1) := by decide +kernel
theorem d_La_enter_7 : decode b_La_enter 7 = .ok (.iload 4, 2) := by decide +kernel
theorem d_La_enter_9 : decode b_La_enter 9 = .ok (.iload 5, 2) := by decide +kernel
theorem d_La_enter_11 : decode b_La_enter 11 = .ok (.invokevirtual 65, 3) := by decide +kernel
theorem d_La_enter_14 : decode b_La_enter 14 = .ok (.i2l, 1) := by decide +kernel
theorem d_La_enter_15 : decode b_La_enter 15 = .ok (.lastore, 1) := by decide +kernel
theorem d_La_enter_16 : decode b_La_enter 16 = .ok (.goto 19, 3) := by decide +kernel
theorem d_La_enter_19 : decode b_La_enter 19 = .ok (.astore 7, 2) := by decide +kernel
theorem d_La_enter_21 : decode b_La_enter 21 = .ok (.iconst 1, 1) := by decide +kernel
theorem d_La_enter_22 : decode b_La_enter 22 = .ok (.ireturn, 1) := by decide +kernel
theorem d_La_enter_23 : decode b_La_enter 23 = .ok (.astore 7, 2) := by decide +kernel
theorem d_La_enter_25 : decode b_La_enter 25 = .ok (.iconst 2, 1) := by decide +kernel
theorem d_La_enter_26 : decode b_La_enter 26 = .ok (.ireturn, 1) := by decide +kernel
theorem d_La_enter_27 : decode b_La_enter 27 = .ok (.astore 7, 2) := by decide +kernel
theorem d_La_enter_29 : decode b_La_enter 29 = .ok (.iconst 3, 1) := by decide +kernel
theorem d_La_enter_30 : decode b_La_enter 30 = .ok (.ireturn, 1) := by decide +kernel
theorem d_La_enter_31 : decode b_La_enter 31 = .ok (.astore 7, 2) := by decide +kernel
theorem d_La_enter_33 : decode b_La_enter 33 = .ok (.iconst 4, 1) := by decide +kernel
theorem d_La_enter_34 : decode b_La_enter 34 = .ok (.ireturn, 1) := by decide +kernel
theorem d_La_enter_35 : decode b_La_enter 35 = .ok (.iconst 0, 1) := by decide +kernel
theorem d_La_enter_36 : decode b_La_enter 36 = .ok (.ireturn, 1) := by decide +kernel
theorem d_La_user_0 : decode b_La_user 0 = .ok (.aload 4, 2) := by decide +kernel
theorem d_La_user_2 : decode b_La_user 2 = .ok (.iconst 0, 1) := by decide +kernel
theorem d_La_user_3 : decode b_La_user 3 = .ok (.aload_n 0, 1) := by decide +kernel
theorem d_La_user_4 : decode b_La_user 4 = .ok (.iload_n 1, 1) := by decide +kernel
theorem d_La_user_5 : decode b_La_user 5 = .ok (.iload_n 2, 1) := by decide +kernel
theorem d_La_user_6 : decode b_La_user 6 = .ok (.iload_n 3, 1) := by decide +kernel
theorem d_La_user_7 : decode b_La_user 7 = .ok (.invokevirtual 68, 3) := by decide +kernel
theorem d_La_user_10 : decode b_La_user 10 = .ok (.i2l, 1) := by decide +kernel
theorem d_La_user_11 : decode b_La_user 11 = .ok (.lastore, 1) := by decide +kernel
theorem d_La_user_12 : decode b_La_user 12 = .ok (.goto 19, 3) := by decide +kernel
theorem d_La_user_15 : decode b_La_user 15 = .ok (.astore 5, 2) := by decide +kernel
theorem d_La_user_17 : decode b_La_user 17 = .ok (.iconst 1, 1) := by decide +kernel
theorem d_La_user_18 : decode b_La_user 18 = .ok (.ireturn, 1) := by decide +kernel
theorem d_La_user_19 : decode b_La_user 19 = .ok (.astore 5, 2) := by decide +kernel
theorem d_La_user_21 : decode b_La_user 21 = .ok (.iconst 2, 1) := by decide +kernel
theorem d_La_user_22 : decode b_La_user 22 = .ok (.ireturn, 1) := by decide +kernel
theorem d_La_user_23 : decode b_La_user 23 = .ok (.astore 5, 2) := by decide +kernel
theorem d_La_user_25 : decode b_La_user 25 = .ok (.iconst 3, 1) := by decide +kernel
theorem d_La_user_26 : decode b_La_user 26 = .ok (.ireturn, 1) := by decide +kernel
theorem d_La_user_27 : decode b_La_user 27 = .ok (.astore 5, 2) := by decide +kernel
theorem d_La_user_29 : decode b_La_user 29 = .ok (.iconst 4, 1) := by decide +kernel
theorem d_La_user_30 : decode b_La_user 30 = .ok (.ireturn, 1) := by decide +kernel
theorem d_La_user_31 : decode b_La_user 31 = .ok (.iconst 0, 1) := by decide +kernel
theorem d_La_user_32 : decode b_La_user 32 = .ok (.ireturn, 1) := by decide +kernel
theorem d_La_login_0 : decode b_La_login 0 = .ok (.aload 4, 2) := by decide +kernel
theorem d_La_login_2 : decode b_La_login 2 = .ok (.iconst 0, 1) := by decide +kernel
theorem d_La_login_3 : decode b_La_login 3 = .ok (.aload_n 0, 1) := by decide +kernel
theorem d_La_login_4 : decode b_La_login 4 = .ok (.iload_n 1, 1) := by decide +kernel
theorem d_La_login_5 : decode b_La_login 5 = .ok (.iload_n 2, 1) := by decide +kernel
theorem d_La_login_6 : decode b_La_login 6 = .ok (.iload_n 3, 1) := by decide +kernel
theorem d_La_login_7 : decode b_La_login 7 = .ok (.invokevirtual 71, 3) := by decide +kernel
theorem d_La_login_10 : decode b_La_login 10 = .ok (.i2l, 1) := by decide +kernel
theorem d_La_login_11 : decode b_La_login 11 = .ok (.lastore, 1) := by decide +kernel
theorem d_La_login_12 : decode b_La_login 12 = .ok (.goto 19, 3) := by decide +kernel
theorem d_La_login_15 : decode b_La_login 15 = .ok (.astore 5, 2) := by decide +kernel
theorem d_La_login_17 : decode b_La_login 17 = .ok (.iconst 1, 1) := by decide +kernel
theorem d_La_login_18 : decode b_La_login 18 = .ok (.ireturn, 1) := by decide +kernel
theorem d_La_login_19 : decode b_La_login 19 = .ok (.astore 5, 2) := by decide +kernel
theorem d_La_login_21 : decode b_La_login 21 = .ok (.iconst 2, 1) := by decide +kernel
theorem d_La_login_22 : decode b_La_login 22 = .ok (.ireturn, 1) := by decide +kernel
theorem d_La_login_23 : decode b_La_login 23 = .ok (.astore 5, 2) := by decide +kernel
theorem d_La_login_25 : decode b_La_login 25 = .ok (.iconst 3, 1) := by decide +kernel
theorem d_La_login_26 : decode b_La_login 26 = .ok (.ireturn, 1) := by decide +kernel
theorem d_La_login_27 : decode b_La_login 27 = .ok (.astore 5, 2) := by decide +kernel
theorem d_La_login_29 : decode b_La_login 29 = .ok (.iconst 4, 1) := by decide +kernel
theorem d_La_login_30 : decode b_La_login 30 = .ok (.ireturn, 1) := by decide +kernel
theorem d_La_login_31 : decode b_La_login 31 = .ok (.iconst 0, 1) := by decide +kernel
theorem d_La_login_32 : decode b_La_login 32 = .ok (.ireturn, 1) := by decide +kernel
theorem d_La_file_0 : decode b_La_file 0 = .ok (.aload 5, 2) := by decide +kernel
theorem d_La_file_2 : decode b_La_file 2 = .ok (.iconst 0, 1) := by decide +kernel
theorem d_La_file_3 : decode b_La_file 3 = .ok (.aload_n 0, 1) := by decide +kernel
theorem d_La_file_4 : decode b_La_file 4 = .ok (.iload_n 1, 1) := by decide +kernel
theorem d_La_file_5 : decode b_La_file 5 = .ok (.iload_n 2, 1) := by decide +kernel
theorem d_La_file_6 : decode b_La_file 6 = .ok (.iload_n 3, 1) := by decide +kernel
theorem d_La_file_7 : decode b_La_file 7 = .ok (.iload 4, 2) := by decide +kernel
theorem d_La_file_9 : decode b_La_file 9 = .ok (.invokevirtual 74, 3) := by decide +kernel
theorem d_La_file_12 : decode b_La_file 12 = .ok (.i2l, 1) := by decide +kernel
theorem d_La_file_13 : decode b_La_file 13 = .ok (.lastore, 1) := by decide +kernel
theorem d_La_file_14 : decode b_La_file 14 = .ok (.goto 19, 3) := by decide +kernel
theorem d_La_file_17 : decode b_La_file 17 = .ok (.astore 6, 2) := by decide +kernel
theorem d_La_file_19 : decode b_La_file 19 = .ok (.iconst 1, 1) := by decide +kernel
theorem d_La_file_20 : decode b_La_file 20 = .ok (.ireturn, 1) := by decide +kernel
theorem d_La_file_21 : decode b_La_file 21 = .ok (.astore 6, 2) := by decide +kernel
theorem d_La_file_23 : decode b_La_file 23 = .ok (.iconst 2, 1) := by decide +kernel
theorem d_La_file_24 : decode b_La_file 24 = .ok (.ireturn, 1) := by decide +kernel
theorem d_La_file_25 : decode b_La_file 25 = .ok (.astore 6, 2) := by decide +kernel
theorem d_La_file_27 : decode b_La_file 27 = .ok (.iconst 3, 1) := by decide +kernel
theorem d_La_file_28 : decode b_La_file 28 = .ok (.ireturn, 1) := by decide +kernel
theorem d_La_file_29 : decode b_La_file 29 = .ok (.astore 6, 2) := by decide +kernel
theorem d_La_file_31 : decode b_La_file 31 = .ok (.iconst 4, 1) := by decide +kernel
theorem d_La_file_32 : decode b_La_file 32 = .ok (.ireturn, 1) := by decide +kernel
theorem d_La_file_33 : decode b_La_file 33 = .ok (.iconst 0, 1) := by decide +kernel
theorem d_La_file_34 : decode b_La_file 34 = .ok (.ireturn, 1) := by decide +kernel
theorem d_La_access_0 : decode b_La_access 0 = .ok (.aload 7, 2) := by decide +kernel
theorem d_La_access_2 : decode b_La_access 2 = .ok (.iconst 0, 1) := by decide +kernel
theorem d_La_access_3 : decode b_La_access 3 = .ok (.aload_n 0, 1) := by decide +kernel
theorem d_La_access_4 : decode b_La_access 4 = .ok (.iload_n 1, 1) := by decide +kernel
theorem d_La_access_5 : decode b_La_access 5 = .ok (.iload_n 2, 1) := by decide +kernel
theorem d_La_access_6 : decode b_La_access 6 = .ok (.iload_n 3, 1) := by decide +kernel
theorem d_La_access_7 : decode b_La_access 7 = .ok (.iload 4, 2) := by decide +kernel
theorem d_La_access_9 : decode b_La_access 9 = .ok (.iload 5, 2) := by decide +kernel
theorem d_La_access_11 : decode b_La_access 11 = .ok (.iload 6, 2) := by decide +kernel
theorem d_La_access_13 : decode b_La_access 13 = .ok (.invokevirtual 77, 3) := by decide +kernel
theorem d_La_access_16 : decode b_La_access 16 = .ok (.i2l, 1) := by decide +kernel
theorem d_La_access_17 : decode b_La_access 17 = .ok (.lastore, 1) := by decide +kernel
theorem d_La_access_18 : decode b_La_access 18 = .ok (.goto 19, 3) := by decide +kernel
theorem d_La_access_21 : decode b_La_access 21 = .ok (.astore 8, 2) := by decide +kernel
theorem d_La_access_23 : decode b_La_access 23 = .ok (.iconst 1, 1) := by decide +kernel
theorem d_La_access_24 : decode b_La_access 24 = .ok (.ireturn, 1) := by decide +kernel
theorem d_La_access_25 : decode b_La_access 25 = .ok (.astore 8, 2) := by decide +kernel
theorem d_La_access_27 : decode b_La_access 27 = .ok (.iconst 2, 1) := by decide +kernel
theorem d_La_access_28 : decode b_La_access 28 = .ok (.ireturn, 1) := by decide +kernel
theorem d_La_access_29 : decode b_La_access 29 = .ok (.astore 8, 2) := by decide +kernel
theorem d_La_access_31 : decode b_La_access 31 = .ok (.iconst 3, 1) := by decide +kernel
theorem d_La_access_32 : decode b_La_access 32 = .ok (.ireturn, 1) := by decide +kernel
theorem d_La_access_33 : decode b_La_access 33 = .ok (.astore 8, 2) := by decide +kernel
theorem d_La_access_35 : decode b_La_access 35 = .ok (.iconst 4, 1) := by decide +kernel
theorem d_La_access_36 : decode b_La_access 36 = .ok (.ireturn, 1) := by decide +kernel
theorem d_La_access_37 : decode b_La_access 37 = .ok (.iconst 0, 1) := by decide +kernel
theorem d_La_access_38 : decode b_La_access 38 = .ok (.ireturn, 1) := by decide +kernel
theorem d_La_object_0 : decode b_La_object 0 = .ok (.aload_n 3, 1) := by decide +kernel
theorem d_La_object_1 : decode b_La_object 1 = .ok (.iconst 0, 1) := by decide +kernel
theorem d_La_object_2 : decode b_La_object 2 = .ok (.aload_n 0, 1) := by decide +kernel
theorem d_La_object_3 : decode b_La_object 3 = .ok (.iload_n 1, 1) := by decide +kernel
theorem d_La_object_4 : decode b_La_object 4 = .ok (.iload_n 2, 1) := by decide +kernel
theorem d_La_object_5 : decode b_La_object 5 = .ok (.invokevirtual 81, 3) := by decide +kernel
theorem d_La_object_8 : decode b_La_object 8 = .ok (.i2l, 1) := by decide +kernel
theorem d_La_object_9 : decode b_La_object 9 = .ok (.lastore, 1) := by decide +kernel
theorem d_La_object_10 : decode b_La_object 10 = .ok (.goto 19, 3) := by decide +kernel
theorem d_La_object_13 : decode b_La_object 13 = .ok (.astore 4, 2) := by decide +kernel
theorem d_La_object_15 : decode b_La_object 15 = .ok (.iconst 1, 1) := by decide +kernel
theorem d_La_object_16 : decode b_La_object 16 = .ok (.ireturn, 1) := by decide +kernel
theorem d_La_object_17 : decode b_La_object 17 = .ok (.astore 4, 2) := by decide +kernel
theorem d_La_object_19 : decode b_La_object 19 = .ok (.iconst 2, 1) := by decide +kernel
theorem d_La_object_20 : decode b_La_object 20 = .ok (.ireturn, 1) := by decide +kernel
theorem d_La_object_21 : decode b_La_object 21 = .ok (.astore 4, 2) := by decide +kernel
theorem d_La_object_23 : decode b_La_object 23 = .ok (.iconst 3, 1) := by decide +kernel
theorem d_La_object_24 : decode b_La_object 24 = .ok (.ireturn, 1) := by decide +kernel
theorem d_La_object_25 : decode b_La_object 25 = .ok (.astore 4, 2) := by decide +kernel
theorem d_La_object_27 : decode b_La_object 27 = .ok (.iconst 4, 1) := by decide +kernel
theorem d_La_object_28 : decode b_La_object 28 = .ok (.ireturn, 1) := by decide +kernel
theorem d_La_object_29 : decode b_La_object 29 = .ok (.iconst 0, 1) := by decide +kernel
theorem d_La_object_30 : decode b_La_object 30 = .ok (.ireturn, 1) := by decide +kernel
theorem d_La_in_0 : decode b_La_in 0 = .ok (.aload_n 3, 1) := by decide +kernel
theorem d_La_in_1 : decode b_La_in 1 = .ok (.iconst 0, 1) := by decide +kernel
theorem d_La_in_2 : decode b_La_in 2 = .ok (.aload_n 0, 1) := by decide +kernel
theorem d_La_in_3 : decode b_La_in 3 = .ok (.iload_n 1, 1) := by decide +kernel
theorem d_La_in_4 : decode b_La_in 4 = .ok (.iload_n 2, 1) := by decide +kernel
theorem d_La_in_5 : decode b_La_in 5 = .ok (.invokevirtual 84, 3) := by decide +kernel
theorem d_La_in_8 : decode b_La_in 8 = .ok (.i2l, 1) := by decide +kernel
theorem d_La_in_9 : decode b_La_in 9 = .ok (.lastore, 1) := by decide +kernel
theorem d_La_in_10 : decode b_La_in 10 = .ok (.goto 19, 3) := by decide +kernel
theorem d_La_in_13 : decode b_La_in 13 = .ok (.astore 4, 2) := by decide +kernel
theorem d_La_in_15 : decode b_La_in 15 = .ok (.iconst 1, 1) := by decide +kernel
theorem d_La_in_16 : decode b_La_in 16 = .ok (.ireturn, 1) := by decide +kernel
theorem d_La_in_17 : decode b_La_in 17 = .ok (.astore 4, 2) := by decide +kernel
theorem d_La_in_19 : decode b_La_in 19 = .ok (.iconst 2, 1) := by decide +kernel
theorem d_La_in_20 : decode b_La_in 20 = .ok (.ireturn, 1) := by decide +kernel
theorem d_La_in_21 : decode b_La_in 21 = .ok (.astore 4, 2) := by decide +kernel
theorem d_La_in_23 : decode b_La_in 23 = .ok (.iconst 3, 1) := by decide +kernel
theorem d_La_in_24 : decode b_La_in 24 = .ok (.ireturn, 1) := by decide +kernel
theorem d_La_in_25 : decode b_La_in 25 = .ok (.astore 4, 2) := by decide +kernel
theorem d_La_in_27 : decode b_La_in 27 = .ok (.iconst 4, 1) := by decide +kernel
theorem d_La_in_28 : decode b_La_in 28 = .ok (.ireturn, 1) := by decide +kernel
theorem d_La_in_29 : decode b_La_in 29 = .ok (.iconst 0, 1) := by decide +kernel
theorem d_La_in_30 : decode b_La_in 30 = .ok (.ireturn, 1) := by decide +kernel
end
section
/-- the words that stay: every method of mine asks for its own code and for these -/
def T0 : List Cond := lw_tbl.filter goodWord
theorem T0_good : ∀ w ∈ T0, goodWord w = true := fun w h => (List.mem_filter.mp h).2
theorem T0_in : ∀ w ∈ T0, w ∈ lw_tbl := fun w h => (List.mem_filter.mp h).1
theorem tw_t {w : Cond} (i : Nat) (h : tables_1[i]? = some w) (g : goodWord w = true) : w ∈ T0 := List.mem_filter.mpr ⟨List.mem_append_right _ (List.mem_of_getElem? h), g⟩
theorem tw_1 {w : Cond} (i : Nat) (h : tables_1_1[i]? = some w) (g : goodWord w = true) : w ∈ T0 := List.mem_filter.mpr ⟨List.mem_append_right _ (List.mem_append_left _ (List.mem_of_getElem? h)), g⟩
theorem tw_2 {w : Cond} (i : Nat) (h : tables_1_2[i]? = some w) (g : goodWord w = true) : w ∈ T0 := List.mem_filter.mpr ⟨List.mem_append_right _ (List.mem_append_right _ (List.mem_append_left _ (List.mem_of_getElem? h))), g⟩
theorem tw_3 {w : Cond} (i : Nat) (h : tables_1_3[i]? = some w) (g : goodWord w = true) : w ∈ T0 := List.mem_filter.mpr ⟨List.mem_append_right _ (List.mem_append_right _ (List.mem_append_right _ (List.mem_append_left _ (List.mem_of_getElem? h)))), g⟩
theorem tw_4 {w : Cond} (i : Nat) (h : tables_1_4[i]? = some w) (g : goodWord w = true) : w ∈ T0 := List.mem_filter.mpr ⟨List.mem_append_right _ (List.mem_append_right _ (List.mem_append_right _ (List.mem_append_right _ (List.mem_append_left _ (List.mem_of_getElem? h))))), g⟩
theorem tw_5 {w : Cond} (i : Nat) (h : tables_1_5[i]? = some w) (g : goodWord w = true) : w ∈ T0 := List.mem_filter.mpr ⟨List.mem_append_right _ (List.mem_append_right _ (List.mem_append_right _ (List.mem_append_right _ (List.mem_append_right _ ((List.mem_of_getElem? h)))))), g⟩
theorem tw_s {w : Cond} (i : Nat) (h : (k2_sels lw_privs)[i]? = some w) (g : goodWord w = true) : w ∈ T0 := List.mem_filter.mpr ⟨List.mem_append_left _ (List.mem_of_getElem? h), g⟩
set_option maxRecDepth 20000 in
theorem wi_La : (Cond.initialized R_La) ∈ T0 := tw_1 0 rfl rfl
set_option maxRecDepth 20000 in
theorem wi_Ke : (Cond.initialized R_Ke) ∈ T0 := tw_1 1 rfl rfl
set_option maxRecDepth 20000 in
theorem wi_Sn : (Cond.initialized R_Sn) ∈ T0 := tw_1 2 rfl rfl
set_option maxRecDepth 20000 in
theorem wi_Lb : (Cond.initialized R_Lb) ∈ T0 := tw_1 3 rfl rfl
set_option maxRecDepth 20000 in
theorem wi_Tg : (Cond.initialized R_Tg) ∈ T0 := tw_1 4 rfl rfl
set_option maxRecDepth 20000 in
theorem wi_Us : (Cond.initialized R_Us) ∈ T0 := tw_1 5 rfl rfl
set_option maxRecDepth 20000 in
theorem wi_Mo : (Cond.initialized R_Mo) ∈ T0 := tw_1 6 rfl rfl
set_option maxRecDepth 20000 in
theorem wi_Throwable : (Cond.initialized "java/lang/Throwable") ∈ T0 := tw_1 7 rfl rfl
set_option maxRecDepth 20000 in
theorem wi_Exception : (Cond.initialized "java/lang/Exception") ∈ T0 := tw_1 8 rfl rfl
set_option maxRecDepth 20000 in
theorem wi_RuntimeException : (Cond.initialized "java/lang/RuntimeException") ∈ T0 := tw_1 9 rfl rfl
set_option maxRecDepth 20000 in
theorem wi_IllegalArgumentException : (Cond.initialized "java/lang/IllegalArgumentException") ∈ T0 := tw_1 10 rfl rfl
set_option maxRecDepth 20000 in
theorem wi_IllegalStateException : (Cond.initialized "java/lang/IllegalStateException") ∈ T0 := tw_1 11 rfl rfl
set_option maxRecDepth 20000 in
theorem wi_NoSuchElementException : (Cond.initialized "java/util/NoSuchElementException") ∈ T0 := tw_1 12 rfl rfl
set_option maxRecDepth 20000 in
theorem wi_UnsupportedOperationException : (Cond.initialized "java/lang/UnsupportedOperationException") ∈ T0 := tw_1 13 rfl rfl
set_option maxRecDepth 20000 in
theorem wi_System : (Cond.initialized "java/lang/System") ∈ T0 := tw_1 14 rfl rfl
set_option maxRecDepth 20000 in
theorem wc_La_8 : (Cond.classLink R_La 8 R_Ke) ∈ T0 := tw_1 15 rfl rfl
set_option maxRecDepth 20000 in
theorem wn_Ke : (Cond.instantiable R_Ke 5) ∈ T0 := tw_1 16 rfl rfl
set_option maxRecDepth 20000 in
theorem wl_La_87 : (Cond.methodLink R_La 87 y_Ke_init) ∈ T0 := tw_1 17 rfl rfl
set_option maxRecDepth 20000 in
theorem wm_Ke_init : (Cond.instanceMethod y_Ke_init) ∈ T0 := tw_1 18 rfl rfl
set_option maxRecDepth 20000 in
theorem wo_Ke_init : (Cond.code y_Ke_init b_Ke_init 1 none) ∈ T0 := tw_1 19 rfl rfl
set_option maxRecDepth 20000 in
theorem wl_Ke_1 : (Cond.methodLink R_Ke 1 ⟨"java/lang/Object", "<init>", "()V"⟩) ∈ T0 := tw_1 20 rfl rfl
set_option maxRecDepth 20000 in
theorem wm_obj : (Cond.instanceMethod objectInit) ∈ T0 := tw_1 21 rfl rfl
set_option maxRecDepth 20000 in
theorem wo_obj : (Cond.code objectInit ⟨#[0xb1]⟩ 1 none) ∈ T0 := tw_1 22 rfl rfl
set_option maxRecDepth 20000 in
theorem wc_Ke_7 : (Cond.classLink R_Ke 7 R_Sn) ∈ T0 := tw_1 23 rfl rfl
set_option maxRecDepth 20000 in
theorem wn_Sn : (Cond.instantiable R_Sn 4) ∈ T0 := tw_1 24 rfl rfl
set_option maxRecDepth 20000 in
theorem wm_Sn_init : (Cond.instanceMethod y_Sn_init) ∈ T0 := tw_1 26 rfl rfl
set_option maxRecDepth 20000 in
theorem wo_Sn_init : (Cond.code y_Sn_init b_Sn_init 1 none) ∈ T0 := tw_1 27 rfl rfl
set_option maxRecDepth 20000 in
theorem wl_Sn_1 : (Cond.methodLink R_Sn 1 ⟨"java/lang/Object", "<init>", "()V"⟩) ∈ T0 := tw_1 28 rfl rfl
set_option maxRecDepth 20000 in
theorem wc_Sn_7 : (Cond.classLink R_Sn 7 R_Lb) ∈ T0 := tw_1 29 rfl rfl
set_option maxRecDepth 20000 in
theorem wn_Lb : (Cond.instantiable R_Lb 2) ∈ T0 := tw_1 30 rfl rfl
set_option maxRecDepth 20000 in
theorem wl_Sn_9 : (Cond.methodLink R_Sn 9 y_Lb_init) ∈ T0 := tw_1 31 rfl rfl
set_option maxRecDepth 20000 in
theorem wm_Lb_init : (Cond.instanceMethod y_Lb_init) ∈ T0 := tw_1 32 rfl rfl
set_option maxRecDepth 20000 in
theorem wo_Lb_init : (Cond.code y_Lb_init b_Lb_init 1 none) ∈ T0 := tw_1 33 rfl rfl
set_option maxRecDepth 20000 in
theorem wl_Lb_3 : (Cond.methodLink R_Lb 3 ⟨"java/lang/Object", "<init>", "()V"⟩) ∈ T0 := tw_1 34 rfl rfl
set_option maxRecDepth 20000 in
theorem wk_Lb_15 : (Cond.constant R_Lb 15 286331153) ∈ T0 := tw_1 35 rfl rfl
set_option maxRecDepth 20000 in
theorem wk_Lb_16 : (Cond.constant R_Lb 16 572662306) ∈ T0 := tw_1 36 rfl rfl
set_option maxRecDepth 20000 in
theorem wf_Lb_9 : (Cond.fieldLink R_Lb 9 "LabelKernel$Labels" "packed" "[I") ∈ T0 := tw_1 37 rfl rfl
set_option maxRecDepth 20000 in
theorem wf_Lb_17 : (Cond.fieldLink R_Lb 17 "LabelKernel$Labels" "size" "I") ∈ T0 := tw_1 38 rfl rfl
set_option maxRecDepth 20000 in
theorem wa_int : (Cond.arrayClass .int) ∈ T0 := tw_1 44 rfl rfl
set_option maxRecDepth 20000 in
theorem wc_Sn_16 : (Cond.classLink R_Sn 16 R_Tg) ∈ T0 := tw_1 45 rfl rfl
set_option maxRecDepth 20000 in
theorem wn_Tg : (Cond.instantiable R_Tg 12) ∈ T0 := tw_1 46 rfl rfl
set_option maxRecDepth 20000 in
theorem wl_Sn_18 : (Cond.methodLink R_Sn 18 y_Tg_init) ∈ T0 := tw_1 47 rfl rfl
set_option maxRecDepth 20000 in
theorem wm_Tg_init : (Cond.instanceMethod y_Tg_init) ∈ T0 := tw_1 48 rfl rfl
set_option maxRecDepth 20000 in
theorem wo_Tg_init : (Cond.code y_Tg_init b_Tg_init 2 none) ∈ T0 := tw_1 49 rfl rfl
set_option maxRecDepth 20000 in
theorem wl_Tg_3 : (Cond.methodLink R_Tg 3 ⟨"java/lang/Object", "<init>", "()V"⟩) ∈ T0 := tw_1 50 rfl rfl
set_option maxRecDepth 20000 in
theorem wl_Tg_50 : (Cond.methodLink R_Tg 50 y_Tg_add) ∈ T0 := tw_1 51 rfl rfl
set_option maxRecDepth 20000 in
theorem wm_Tg_add : (Cond.instanceMethod y_Tg_add) ∈ T0 := tw_1 52 rfl rfl
set_option maxRecDepth 20000 in
theorem we_Tg_add : (Cond.selects R_Tg y_Tg_add y_Tg_add) ∈ T0 := tw_1 53 rfl rfl
set_option maxRecDepth 20000 in
theorem wo_Tg_add : (Cond.code y_Tg_add b_Tg_add 6 (some .int)) ∈ T0 := tw_1 54 rfl rfl
set_option maxRecDepth 20000 in
theorem wl_Tg_54 : (Cond.methodLink R_Tg 54 y_Tg_setClearance) ∈ T0 := tw_1 55 rfl rfl
set_option maxRecDepth 20000 in
theorem wm_Tg_setClearance : (Cond.instanceMethod y_Tg_setClearance) ∈ T0 := tw_1 56 rfl rfl
set_option maxRecDepth 20000 in
theorem we_Tg_setClearance : (Cond.selects R_Tg y_Tg_setClearance y_Tg_setClearance) ∈ T0 := tw_1 57 rfl rfl
set_option maxRecDepth 20000 in
theorem wo_Tg_setClearance : (Cond.code y_Tg_setClearance b_Tg_setClearance 3 none) ∈ T0 := tw_1 58 rfl rfl
set_option maxRecDepth 20000 in
theorem wf_Tg_9 : (Cond.fieldLink R_Tg 9 "LabelKernel$Things" "there" "[Z") ∈ T0 := tw_1 59 rfl rfl
set_option maxRecDepth 20000 in
theorem wf_Tg_15 : (Cond.fieldLink R_Tg 15 "LabelKernel$Things" "kind" "[I") ∈ T0 := tw_1 60 rfl rfl
set_option maxRecDepth 20000 in
theorem wf_Tg_19 : (Cond.fieldLink R_Tg 19 "LabelKernel$Things" "label" "[I") ∈ T0 := tw_1 61 rfl rfl
set_option maxRecDepth 20000 in
theorem wf_Tg_22 : (Cond.fieldLink R_Tg 22 "LabelKernel$Things" "quota" "[I") ∈ T0 := tw_1 62 rfl rfl
set_option maxRecDepth 20000 in
theorem wf_Tg_25 : (Cond.fieldLink R_Tg 25 "LabelKernel$Things" "place" "[I") ∈ T0 := tw_1 63 rfl rfl
set_option maxRecDepth 20000 in
theorem wf_Tg_28 : (Cond.fieldLink R_Tg 28 "LabelKernel$Things" "depth" "[I") ∈ T0 := tw_1 64 rfl rfl
set_option maxRecDepth 20000 in
theorem wf_Tg_31 : (Cond.fieldLink R_Tg 31 "LabelKernel$Things" "clearance" "[I") ∈ T0 := tw_1 65 rfl rfl
set_option maxRecDepth 20000 in
theorem wf_Tg_34 : (Cond.fieldLink R_Tg 34 "LabelKernel$Things" "guard" "[I") ∈ T0 := tw_1 66 rfl rfl
set_option maxRecDepth 20000 in
theorem wf_Tg_37 : (Cond.fieldLink R_Tg 37 "LabelKernel$Things" "entry" "[I") ∈ T0 := tw_1 67 rfl rfl
set_option maxRecDepth 20000 in
theorem wf_Tg_40 : (Cond.fieldLink R_Tg 40 "LabelKernel$Things" "cellCount" "[I") ∈ T0 := tw_1 68 rfl rfl
set_option maxRecDepth 20000 in
theorem wf_Tg_43 : (Cond.fieldLink R_Tg 43 "LabelKernel$Things" "cells" "[I") ∈ T0 := tw_1 69 rfl rfl
set_option maxRecDepth 20000 in
theorem wf_Tg_46 : (Cond.fieldLink R_Tg 46 "LabelKernel$Things" "made" "I") ∈ T0 := tw_1 70 rfl rfl
set_option maxRecDepth 20000 in
theorem wa_boolean : (Cond.arrayClass .boolean) ∈ T0 := tw_1 96 rfl rfl
set_option maxRecDepth 20000 in
theorem wc_Sn_23 : (Cond.classLink R_Sn 23 R_Us) ∈ T0 := tw_1 97 rfl rfl
set_option maxRecDepth 20000 in
theorem wn_Us : (Cond.instantiable R_Us 7) ∈ T0 := tw_1 98 rfl rfl
set_option maxRecDepth 20000 in
theorem wm_Us_init : (Cond.instanceMethod y_Us_init) ∈ T0 := tw_1 100 rfl rfl
set_option maxRecDepth 20000 in
theorem wo_Us_init : (Cond.code y_Us_init b_Us_init 1 none) ∈ T0 := tw_1 101 rfl rfl
set_option maxRecDepth 20000 in
theorem wl_Us_3 : (Cond.methodLink R_Us 3 ⟨"java/lang/Object", "<init>", "()V"⟩) ∈ T0 := tw_1 102 rfl rfl
set_option maxRecDepth 20000 in
theorem wf_Us_9 : (Cond.fieldLink R_Us 9 "LabelKernel$Users" "there" "[Z") ∈ T0 := tw_1 103 rfl rfl
set_option maxRecDepth 20000 in
theorem wf_Us_15 : (Cond.fieldLink R_Us 15 "LabelKernel$Users" "password" "[I") ∈ T0 := tw_1 104 rfl rfl
set_option maxRecDepth 20000 in
theorem wf_Us_19 : (Cond.fieldLink R_Us 19 "LabelKernel$Users" "firstCategory" "[I") ∈ T0 := tw_1 105 rfl rfl
set_option maxRecDepth 20000 in
theorem wf_Us_22 : (Cond.fieldLink R_Us 22 "LabelKernel$Users" "secondCategory" "[I") ∈ T0 := tw_1 106 rfl rfl
set_option maxRecDepth 20000 in
theorem wf_Us_25 : (Cond.fieldLink R_Us 25 "LabelKernel$Users" "home" "[I") ∈ T0 := tw_1 107 rfl rfl
set_option maxRecDepth 20000 in
theorem wf_Us_28 : (Cond.fieldLink R_Us 28 "LabelKernel$Users" "directory" "[I") ∈ T0 := tw_1 108 rfl rfl
set_option maxRecDepth 20000 in
theorem wf_Us_31 : (Cond.fieldLink R_Us 31 "LabelKernel$Users" "gate" "[I") ∈ T0 := tw_1 109 rfl rfl
set_option maxRecDepth 20000 in
theorem wf_Sn_10 : (Cond.fieldLink R_Sn 10 "LabelKernel$State" "labels" "LLabelKernel$Labels;") ∈ T0 := tw_1 125 rfl rfl
set_option maxRecDepth 20000 in
theorem wf_Ke_19 : (Cond.fieldLink R_Ke 19 "LabelKernel$State" "labels" "LLabelKernel$Labels;") ∈ T0 := tw_1 126 rfl rfl
set_option maxRecDepth 20000 in
theorem wf_Sn_19 : (Cond.fieldLink R_Sn 19 "LabelKernel$State" "things" "LLabelKernel$Things;") ∈ T0 := tw_1 127 rfl rfl
set_option maxRecDepth 20000 in
theorem wf_Ke_24 : (Cond.fieldLink R_Ke 24 "LabelKernel$State" "things" "LLabelKernel$Things;") ∈ T0 := tw_1 128 rfl rfl
set_option maxRecDepth 20000 in
theorem wf_Sn_26 : (Cond.fieldLink R_Sn 26 "LabelKernel$State" "users" "LLabelKernel$Users;") ∈ T0 := tw_1 129 rfl rfl
set_option maxRecDepth 20000 in
theorem wf_Ke_29 : (Cond.fieldLink R_Ke 29 "LabelKernel$State" "users" "LLabelKernel$Users;") ∈ T0 := tw_1 130 rfl rfl
set_option maxRecDepth 20000 in
theorem wf_Sn_30 : (Cond.fieldLink R_Sn 30 "LabelKernel$State" "categories" "I") ∈ T0 := tw_1 131 rfl rfl
set_option maxRecDepth 20000 in
theorem wf_Ke_81 : (Cond.fieldLink R_Ke 81 "LabelKernel$State" "categories" "I") ∈ T0 := tw_1 132 rfl rfl
set_option maxRecDepth 20000 in
theorem wf_Ke_10 : (Cond.fieldLink R_Ke 10 "LabelKernel" "now" "LLabelKernel$State;") ∈ T0 := tw_1 142 rfl rfl
set_option maxRecDepth 20000 in
theorem wf_Ke_16 : (Cond.fieldLink R_Ke 16 "LabelKernel" "kept" "LLabelKernel$State;") ∈ T0 := tw_1 143 rfl rfl
set_option maxRecDepth 20000 in
theorem wf_Ke_23 : (Cond.fieldLink R_Ke 23 "LabelKernel" "labels" "LLabelKernel$Labels;") ∈ T0 := tw_1 144 rfl rfl
set_option maxRecDepth 20000 in
theorem wf_Ke_28 : (Cond.fieldLink R_Ke 28 "LabelKernel" "things" "LLabelKernel$Things;") ∈ T0 := tw_1 145 rfl rfl
set_option maxRecDepth 20000 in
theorem wf_Ke_33 : (Cond.fieldLink R_Ke 33 "LabelKernel" "users" "LLabelKernel$Users;") ∈ T0 := tw_1 146 rfl rfl
set_option maxRecDepth 20000 in
theorem wl_La_161 : (Cond.methodLink R_La 161 y_Ke_snapshot) ∈ T0 := tw_1 158 rfl rfl
set_option maxRecDepth 20000 in
theorem wm_Ke_snapshot : (Cond.instanceMethod y_Ke_snapshot) ∈ T0 := tw_1 159 rfl rfl
set_option maxRecDepth 20000 in
theorem we_Ke_snapshot : (Cond.selects R_Ke y_Ke_snapshot y_Ke_snapshot) ∈ T0 := tw_1 160 rfl rfl
set_option maxRecDepth 20000 in
theorem wo_Ke_snapshot : (Cond.code y_Ke_snapshot b_Ke_snapshot 1 (some .int)) ∈ T0 := tw_1 161 rfl rfl
set_option maxRecDepth 20000 in
theorem wl_Ke_243 : (Cond.methodLink R_Ke 243 y_Sn_takeFrom) ∈ T0 := tw_1 162 rfl rfl
set_option maxRecDepth 20000 in
theorem wm_Sn_takeFrom : (Cond.instanceMethod y_Sn_takeFrom) ∈ T0 := tw_1 163 rfl rfl
set_option maxRecDepth 20000 in
theorem we_Sn_takeFrom : (Cond.selects R_Sn y_Sn_takeFrom y_Sn_takeFrom) ∈ T0 := tw_1 164 rfl rfl
set_option maxRecDepth 20000 in
theorem wo_Sn_takeFrom : (Cond.code y_Sn_takeFrom b_Sn_takeFrom 2 none) ∈ T0 := tw_1 165 rfl rfl
set_option maxRecDepth 20000 in
theorem wl_Sn_34 : (Cond.methodLink R_Sn 34 y_Lb_takeFrom) ∈ T0 := tw_1 166 rfl rfl
set_option maxRecDepth 20000 in
theorem wm_Lb_takeFrom : (Cond.instanceMethod y_Lb_takeFrom) ∈ T0 := tw_1 167 rfl rfl
set_option maxRecDepth 20000 in
theorem we_Lb_takeFrom : (Cond.selects R_Lb y_Lb_takeFrom y_Lb_takeFrom) ∈ T0 := tw_1 168 rfl rfl
set_option maxRecDepth 20000 in
theorem wo_Lb_takeFrom : (Cond.code y_Lb_takeFrom b_Lb_takeFrom 2 none) ∈ T0 := tw_1 169 rfl rfl
set_option maxRecDepth 20000 in
theorem wl_Lb_21 : (Cond.methodLink R_Lb 21 ⟨"java/lang/System", "arraycopy", "(Ljava/lang/Object;ILjava/lang/Object;II)V"⟩) ∈ T0 := tw_1 170 rfl rfl
set_option maxRecDepth 20000 in
theorem ws_copy : (Cond.static arraycopyName) ∈ T0 := tw_1 171 rfl rfl
set_option maxRecDepth 20000 in
theorem wv_copy : (Cond.native arraycopyName) ∈ T0 := tw_1 172 rfl rfl
set_option maxRecDepth 20000 in
theorem wl_Sn_38 : (Cond.methodLink R_Sn 38 y_Tg_takeFrom) ∈ T0 := tw_1 173 rfl rfl
set_option maxRecDepth 20000 in
theorem wm_Tg_takeFrom : (Cond.instanceMethod y_Tg_takeFrom) ∈ T0 := tw_1 174 rfl rfl
set_option maxRecDepth 20000 in
theorem we_Tg_takeFrom : (Cond.selects R_Tg y_Tg_takeFrom y_Tg_takeFrom) ∈ T0 := tw_1 175 rfl rfl
set_option maxRecDepth 20000 in
theorem wo_Tg_takeFrom : (Cond.code y_Tg_takeFrom b_Tg_takeFrom 2 none) ∈ T0 := tw_1 176 rfl rfl
set_option maxRecDepth 20000 in
theorem wl_Tg_58 : (Cond.methodLink R_Tg 58 ⟨"java/lang/System", "arraycopy", "(Ljava/lang/Object;ILjava/lang/Object;II)V"⟩) ∈ T0 := tw_1 177 rfl rfl
set_option maxRecDepth 20000 in
theorem wl_Sn_41 : (Cond.methodLink R_Sn 41 y_Us_takeFrom) ∈ T0 := tw_1 178 rfl rfl
set_option maxRecDepth 20000 in
theorem wm_Us_takeFrom : (Cond.instanceMethod y_Us_takeFrom) ∈ T0 := tw_1 179 rfl rfl
set_option maxRecDepth 20000 in
theorem we_Us_takeFrom : (Cond.selects R_Us y_Us_takeFrom y_Us_takeFrom) ∈ T0 := tw_1 180 rfl rfl
set_option maxRecDepth 20000 in
theorem wo_Us_takeFrom : (Cond.code y_Us_takeFrom b_Us_takeFrom 2 none) ∈ T0 := tw_1 181 rfl rfl
set_option maxRecDepth 20000 in
theorem wl_Us_34 : (Cond.methodLink R_Us 34 ⟨"java/lang/System", "arraycopy", "(Ljava/lang/Object;ILjava/lang/Object;II)V"⟩) ∈ T0 := tw_1 182 rfl rfl
set_option maxRecDepth 20000 in
theorem wl_Ke_247 : (Cond.methodLink R_Ke 247 y_Tg_howMany) ∈ T0 := tw_1 183 rfl rfl
set_option maxRecDepth 20000 in
theorem wm_Tg_howMany : (Cond.instanceMethod y_Tg_howMany) ∈ T0 := tw_1 184 rfl rfl
set_option maxRecDepth 20000 in
theorem we_Tg_howMany : (Cond.selects R_Tg y_Tg_howMany y_Tg_howMany) ∈ T0 := tw_1 185 rfl rfl
set_option maxRecDepth 20000 in
theorem wo_Tg_howMany : (Cond.code y_Tg_howMany b_Tg_howMany 3 (some .int)) ∈ T0 := tw_1 186 rfl rfl
set_option maxRecDepth 20000 in
theorem wl_La_165 : (Cond.methodLink R_La 165 y_Ke_crash) ∈ T0 := tw_1 187 rfl rfl
set_option maxRecDepth 20000 in
theorem wm_Ke_crash : (Cond.instanceMethod y_Ke_crash) ∈ T0 := tw_1 188 rfl rfl
set_option maxRecDepth 20000 in
theorem we_Ke_crash : (Cond.selects R_Ke y_Ke_crash y_Ke_crash) ∈ T0 := tw_1 189 rfl rfl
set_option maxRecDepth 20000 in
theorem wo_Ke_crash : (Cond.code y_Ke_crash b_Ke_crash 1 (some .int)) ∈ T0 := tw_1 190 rfl rfl
set_option maxRecDepth 20000 in
theorem wl_La_175 : (Cond.methodLink R_La 175 y_Ke_count) ∈ T0 := tw_1 191 rfl rfl
set_option maxRecDepth 20000 in
theorem wm_Ke_count : (Cond.instanceMethod y_Ke_count) ∈ T0 := tw_1 192 rfl rfl
set_option maxRecDepth 20000 in
theorem we_Ke_count : (Cond.selects R_Ke y_Ke_count y_Ke_count) ∈ T0 := tw_1 193 rfl rfl
set_option maxRecDepth 20000 in
theorem wo_Ke_count : (Cond.code y_Ke_count b_Ke_count 2 (some .int)) ∈ T0 := tw_1 194 rfl rfl
set_option maxRecDepth 20000 in
theorem wl_Ke_263 : (Cond.methodLink R_Ke 263 y_Lb_howMany) ∈ T0 := tw_1 195 rfl rfl
set_option maxRecDepth 20000 in
theorem wm_Lb_howMany : (Cond.instanceMethod y_Lb_howMany) ∈ T0 := tw_1 196 rfl rfl
set_option maxRecDepth 20000 in
theorem we_Lb_howMany : (Cond.selects R_Lb y_Lb_howMany y_Lb_howMany) ∈ T0 := tw_1 197 rfl rfl
set_option maxRecDepth 20000 in
theorem wo_Lb_howMany : (Cond.code y_Lb_howMany b_Lb_howMany 1 (some .int)) ∈ T0 := tw_1 198 rfl rfl
set_option maxRecDepth 20000 in
theorem wl_Ke_264 : (Cond.methodLink R_Ke 264 y_Us_howMany) ∈ T0 := tw_1 199 rfl rfl
set_option maxRecDepth 20000 in
theorem wm_Us_howMany : (Cond.instanceMethod y_Us_howMany) ∈ T0 := tw_1 200 rfl rfl
set_option maxRecDepth 20000 in
theorem we_Us_howMany : (Cond.selects R_Us y_Us_howMany y_Us_howMany) ∈ T0 := tw_1 201 rfl rfl
set_option maxRecDepth 20000 in
theorem wo_Us_howMany : (Cond.code y_Us_howMany b_Us_howMany 3 (some .int)) ∈ T0 := tw_1 202 rfl rfl
set_option maxRecDepth 20000 in
theorem wl_La_91 : (Cond.methodLink R_La 91 y_La_label) ∈ T0 := tw_1 203 rfl rfl
set_option maxRecDepth 20000 in
theorem ws_La_label : (Cond.static y_La_label) ∈ T0 := tw_1 204 rfl rfl
set_option maxRecDepth 20000 in
theorem wc_La_13 : (Cond.classLink R_La 13 "java/lang/IllegalArgumentException") ∈ T0 := tw_1 206 rfl rfl
set_option maxRecDepth 20000 in
theorem wc_La_15 : (Cond.classLink R_La 15 "java/util/NoSuchElementException") ∈ T0 := tw_1 207 rfl rfl
set_option maxRecDepth 20000 in
theorem wc_La_17 : (Cond.classLink R_La 17 "java/lang/UnsupportedOperationException") ∈ T0 := tw_1 208 rfl rfl
set_option maxRecDepth 20000 in
theorem wc_La_19 : (Cond.classLink R_La 19 "java/lang/IllegalStateException") ∈ T0 := tw_1 209 rfl rfl
set_option maxRecDepth 20000 in
theorem wl_La_7 : (Cond.methodLink R_La 7 y_Ke_label) ∈ T0 := tw_1 210 rfl rfl
set_option maxRecDepth 20000 in
theorem wm_Ke_label : (Cond.instanceMethod y_Ke_label) ∈ T0 := tw_1 211 rfl rfl
set_option maxRecDepth 20000 in
theorem we_Ke_label : (Cond.selects R_Ke y_Ke_label y_Ke_label) ∈ T0 := tw_1 212 rfl rfl
set_option maxRecDepth 20000 in
theorem wo_Ke_label : (Cond.code y_Ke_label b_Ke_label 5 (some .int)) ∈ T0 := tw_1 213 rfl rfl
set_option maxRecDepth 20000 in
theorem wl_Ke_34 : (Cond.methodLink R_Ke 34 y_Lb_has) ∈ T0 := tw_1 214 rfl rfl
set_option maxRecDepth 20000 in
theorem wm_Lb_has : (Cond.instanceMethod y_Lb_has) ∈ T0 := tw_1 215 rfl rfl
set_option maxRecDepth 20000 in
theorem we_Lb_has : (Cond.selects R_Lb y_Lb_has y_Lb_has) ∈ T0 := tw_1 216 rfl rfl
set_option maxRecDepth 20000 in
theorem wo_Lb_has : (Cond.code y_Lb_has b_Lb_has 2 (some .boolean)) ∈ T0 := tw_1 217 rfl rfl
set_option maxRecDepth 20000 in
theorem wl_Ke_40 : (Cond.methodLink R_Ke 40 y_Ke_isBetween) ∈ T0 := tw_1 218 rfl rfl
set_option maxRecDepth 20000 in
theorem ws_Ke_isBetween : (Cond.static y_Ke_isBetween) ∈ T0 := tw_1 219 rfl rfl
set_option maxRecDepth 20000 in
theorem wo_Ke_isBetween : (Cond.code y_Ke_isBetween b_Ke_isBetween 3 (some .boolean)) ∈ T0 := tw_1 220 rfl rfl
set_option maxRecDepth 20000 in
theorem wl_Ke_44 : (Cond.methodLink R_Ke 44 y_Ke_needNumber) ∈ T0 := tw_1 221 rfl rfl
set_option maxRecDepth 20000 in
theorem ws_Ke_needNumber : (Cond.static y_Ke_needNumber) ∈ T0 := tw_1 222 rfl rfl
set_option maxRecDepth 20000 in
theorem wo_Ke_needNumber : (Cond.code y_Ke_needNumber b_Ke_needNumber 1 none) ∈ T0 := tw_1 223 rfl rfl
set_option maxRecDepth 20000 in
theorem wc_Ke_268 : (Cond.classLink R_Ke 268 "java/lang/IllegalArgumentException") ∈ T0 := tw_1 224 rfl rfl
set_option maxRecDepth 20000 in
theorem wl_Ke_270 : (Cond.methodLink R_Ke 270 ⟨"java/lang/IllegalArgumentException", "<init>", "()V"⟩) ∈ T0 := tw_2 26 rfl rfl
set_option maxRecDepth 20000 in
theorem wl_Ke_48 : (Cond.methodLink R_Ke 48 y_Lb_changed) ∈ T0 := tw_2 48 rfl rfl
set_option maxRecDepth 20000 in
theorem wm_Lb_changed : (Cond.instanceMethod y_Lb_changed) ∈ T0 := tw_2 49 rfl rfl
set_option maxRecDepth 20000 in
theorem we_Lb_changed : (Cond.selects R_Lb y_Lb_changed y_Lb_changed) ∈ T0 := tw_2 50 rfl rfl
set_option maxRecDepth 20000 in
theorem wo_Lb_changed : (Cond.code y_Lb_changed b_Lb_changed 5 (some .int)) ∈ T0 := tw_2 51 rfl rfl
set_option maxRecDepth 20000 in
theorem wl_Ke_52 : (Cond.methodLink R_Ke 52 y_Lb_missing) ∈ T0 := tw_2 52 rfl rfl
set_option maxRecDepth 20000 in
theorem wm_Lb_missing : (Cond.instanceMethod y_Lb_missing) ∈ T0 := tw_2 53 rfl rfl
set_option maxRecDepth 20000 in
theorem we_Lb_missing : (Cond.selects R_Lb y_Lb_missing y_Lb_missing) ∈ T0 := tw_2 54 rfl rfl
set_option maxRecDepth 20000 in
theorem wo_Lb_missing : (Cond.code y_Lb_missing b_Lb_missing 2 (some .int)) ∈ T0 := tw_2 55 rfl rfl
set_option maxRecDepth 20000 in
theorem wl_Lb_44 : (Cond.methodLink R_Lb 44 y_Lb_indexOf) ∈ T0 := tw_2 56 rfl rfl
set_option maxRecDepth 20000 in
theorem wm_Lb_indexOf : (Cond.instanceMethod y_Lb_indexOf) ∈ T0 := tw_2 58 rfl rfl
set_option maxRecDepth 20000 in
theorem wo_Lb_indexOf : (Cond.code y_Lb_indexOf b_Lb_indexOf 3 (some .int)) ∈ T0 := tw_2 59 rfl rfl
set_option maxRecDepth 20000 in
theorem wl_Ke_56 : (Cond.methodLink R_Ke 56 y_Lb_free) ∈ T0 := tw_2 60 rfl rfl
set_option maxRecDepth 20000 in
theorem wm_Lb_free : (Cond.instanceMethod y_Lb_free) ∈ T0 := tw_2 61 rfl rfl
set_option maxRecDepth 20000 in
theorem we_Lb_free : (Cond.selects R_Lb y_Lb_free y_Lb_free) ∈ T0 := tw_2 62 rfl rfl
set_option maxRecDepth 20000 in
theorem wo_Lb_free : (Cond.code y_Lb_free b_Lb_free 1 (some .int)) ∈ T0 := tw_2 63 rfl rfl
set_option maxRecDepth 20000 in
theorem wl_Ke_60 : (Cond.methodLink R_Ke 60 y_Ke_needRoom) ∈ T0 := tw_2 64 rfl rfl
set_option maxRecDepth 20000 in
theorem ws_Ke_needRoom : (Cond.static y_Ke_needRoom) ∈ T0 := tw_2 65 rfl rfl
set_option maxRecDepth 20000 in
theorem wo_Ke_needRoom : (Cond.code y_Ke_needRoom b_Ke_needRoom 1 none) ∈ T0 := tw_2 66 rfl rfl
set_option maxRecDepth 20000 in
theorem wc_Ke_277 : (Cond.classLink R_Ke 277 "java/lang/IllegalStateException") ∈ T0 := tw_2 67 rfl rfl
set_option maxRecDepth 20000 in
theorem wl_Ke_279 : (Cond.methodLink R_Ke 279 ⟨"java/lang/IllegalStateException", "<init>", "()V"⟩) ∈ T0 := tw_2 76 rfl rfl
set_option maxRecDepth 20000 in
theorem wl_Ke_63 : (Cond.methodLink R_Ke 63 y_Lb_numberOf) ∈ T0 := tw_2 82 rfl rfl
set_option maxRecDepth 20000 in
theorem wm_Lb_numberOf : (Cond.instanceMethod y_Lb_numberOf) ∈ T0 := tw_2 83 rfl rfl
set_option maxRecDepth 20000 in
theorem we_Lb_numberOf : (Cond.selects R_Lb y_Lb_numberOf y_Lb_numberOf) ∈ T0 := tw_2 84 rfl rfl
set_option maxRecDepth 20000 in
theorem wo_Lb_numberOf : (Cond.code y_Lb_numberOf b_Lb_numberOf 3 (some .int)) ∈ T0 := tw_2 85 rfl rfl
set_option maxRecDepth 20000 in
theorem wl_La_101 : (Cond.methodLink R_La 101 y_La_level) ∈ T0 := tw_2 86 rfl rfl
set_option maxRecDepth 20000 in
theorem ws_La_level : (Cond.static y_La_level) ∈ T0 := tw_2 87 rfl rfl
set_option maxRecDepth 20000 in
theorem wl_La_21 : (Cond.methodLink R_La 21 y_Ke_level) ∈ T0 := tw_2 89 rfl rfl
set_option maxRecDepth 20000 in
theorem wm_Ke_level : (Cond.instanceMethod y_Ke_level) ∈ T0 := tw_2 90 rfl rfl
set_option maxRecDepth 20000 in
theorem we_Ke_level : (Cond.selects R_Ke y_Ke_level y_Ke_level) ∈ T0 := tw_2 91 rfl rfl
set_option maxRecDepth 20000 in
theorem wo_Ke_level : (Cond.code y_Ke_level b_Ke_level 3 (some .int)) ∈ T0 := tw_2 92 rfl rfl
set_option maxRecDepth 20000 in
theorem wl_Ke_66 : (Cond.methodLink R_Ke 66 y_Lb_levelAt) ∈ T0 := tw_2 93 rfl rfl
set_option maxRecDepth 20000 in
theorem wm_Lb_levelAt : (Cond.instanceMethod y_Lb_levelAt) ∈ T0 := tw_2 94 rfl rfl
set_option maxRecDepth 20000 in
theorem we_Lb_levelAt : (Cond.selects R_Lb y_Lb_levelAt y_Lb_levelAt) ∈ T0 := tw_2 95 rfl rfl
set_option maxRecDepth 20000 in
theorem wo_Lb_levelAt : (Cond.code y_Lb_levelAt b_Lb_levelAt 3 (some .int)) ∈ T0 := tw_2 96 rfl rfl
set_option maxRecDepth 20000 in
theorem wl_La_105 : (Cond.methodLink R_La 105 y_La_fits) ∈ T0 := tw_2 97 rfl rfl
set_option maxRecDepth 20000 in
theorem ws_La_fits : (Cond.static y_La_fits) ∈ T0 := tw_2 98 rfl rfl
set_option maxRecDepth 20000 in
theorem wl_La_25 : (Cond.methodLink R_La 25 y_Ke_fits) ∈ T0 := tw_2 100 rfl rfl
set_option maxRecDepth 20000 in
theorem wm_Ke_fits : (Cond.instanceMethod y_Ke_fits) ∈ T0 := tw_2 101 rfl rfl
set_option maxRecDepth 20000 in
theorem we_Ke_fits : (Cond.selects R_Ke y_Ke_fits y_Ke_fits) ∈ T0 := tw_2 102 rfl rfl
set_option maxRecDepth 20000 in
theorem wo_Ke_fits : (Cond.code y_Ke_fits b_Ke_fits 4 (some .boolean)) ∈ T0 := tw_2 103 rfl rfl
set_option maxRecDepth 20000 in
theorem wl_Ke_70 : (Cond.methodLink R_Ke 70 y_Lb_fitsHigh) ∈ T0 := tw_2 104 rfl rfl
set_option maxRecDepth 20000 in
theorem wm_Lb_fitsHigh : (Cond.instanceMethod y_Lb_fitsHigh) ∈ T0 := tw_2 105 rfl rfl
set_option maxRecDepth 20000 in
theorem we_Lb_fitsHigh : (Cond.selects R_Lb y_Lb_fitsHigh y_Lb_fitsHigh) ∈ T0 := tw_2 106 rfl rfl
set_option maxRecDepth 20000 in
theorem wo_Lb_fitsHigh : (Cond.code y_Lb_fitsHigh b_Lb_fitsHigh 4 (some .boolean)) ∈ T0 := tw_2 107 rfl rfl
set_option maxRecDepth 20000 in
theorem wl_Lb_32 : (Cond.methodLink R_Lb 32 y_Lb_levelAt) ∈ T0 := tw_2 108 rfl rfl
set_option maxRecDepth 20000 in
theorem wl_Lb_36 : (Cond.methodLink R_Lb 36 y_Lb_low) ∈ T0 := tw_2 109 rfl rfl
set_option maxRecDepth 20000 in
theorem ws_Lb_low : (Cond.static y_Lb_low) ∈ T0 := tw_2 110 rfl rfl
set_option maxRecDepth 20000 in
theorem wo_Lb_low : (Cond.code y_Lb_low b_Lb_low 1 (some .int)) ∈ T0 := tw_2 111 rfl rfl
set_option maxRecDepth 20000 in
theorem wl_Ke_74 : (Cond.methodLink R_Ke 74 y_Lb_fitsUnder) ∈ T0 := tw_2 112 rfl rfl
set_option maxRecDepth 20000 in
theorem wm_Lb_fitsUnder : (Cond.instanceMethod y_Lb_fitsUnder) ∈ T0 := tw_2 113 rfl rfl
set_option maxRecDepth 20000 in
theorem we_Lb_fitsUnder : (Cond.selects R_Lb y_Lb_fitsUnder y_Lb_fitsUnder) ∈ T0 := tw_2 114 rfl rfl
set_option maxRecDepth 20000 in
theorem wo_Lb_fitsUnder : (Cond.code y_Lb_fitsUnder b_Lb_fitsUnder 4 (some .boolean)) ∈ T0 := tw_2 115 rfl rfl
set_option maxRecDepth 20000 in
theorem wl_La_109 : (Cond.methodLink R_La 109 y_La_category) ∈ T0 := tw_2 116 rfl rfl
set_option maxRecDepth 20000 in
theorem ws_La_category : (Cond.static y_La_category) ∈ T0 := tw_2 117 rfl rfl
set_option maxRecDepth 20000 in
theorem wl_La_29 : (Cond.methodLink R_La 29 y_Ke_category) ∈ T0 := tw_2 119 rfl rfl
set_option maxRecDepth 20000 in
theorem wm_Ke_category : (Cond.instanceMethod y_Ke_category) ∈ T0 := tw_2 120 rfl rfl
set_option maxRecDepth 20000 in
theorem we_Ke_category : (Cond.selects R_Ke y_Ke_category y_Ke_category) ∈ T0 := tw_2 121 rfl rfl
set_option maxRecDepth 20000 in
theorem wo_Ke_category : (Cond.code y_Ke_category b_Ke_category 5 (some .int)) ∈ T0 := tw_2 122 rfl rfl
set_option maxRecDepth 20000 in
theorem wl_Ke_77 : (Cond.methodLink R_Ke 77 y_Ke_needThread) ∈ T0 := tw_2 123 rfl rfl
set_option maxRecDepth 20000 in
theorem wm_Ke_needThread : (Cond.instanceMethod y_Ke_needThread) ∈ T0 := tw_2 125 rfl rfl
set_option maxRecDepth 20000 in
theorem wo_Ke_needThread : (Cond.code y_Ke_needThread b_Ke_needThread 2 none) ∈ T0 := tw_2 126 rfl rfl
set_option maxRecDepth 20000 in
theorem wl_Ke_250 : (Cond.methodLink R_Ke 250 y_Tg_isThere) ∈ T0 := tw_2 127 rfl rfl
set_option maxRecDepth 20000 in
theorem wm_Tg_isThere : (Cond.instanceMethod y_Tg_isThere) ∈ T0 := tw_2 128 rfl rfl
set_option maxRecDepth 20000 in
theorem we_Tg_isThere : (Cond.selects R_Tg y_Tg_isThere y_Tg_isThere) ∈ T0 := tw_2 129 rfl rfl
set_option maxRecDepth 20000 in
theorem wo_Tg_isThere : (Cond.code y_Tg_isThere b_Tg_isThere 2 (some .boolean)) ∈ T0 := tw_2 130 rfl rfl
set_option maxRecDepth 20000 in
theorem wl_Ke_169 : (Cond.methodLink R_Ke 169 y_Ke_needFound) ∈ T0 := tw_2 131 rfl rfl
set_option maxRecDepth 20000 in
theorem ws_Ke_needFound : (Cond.static y_Ke_needFound) ∈ T0 := tw_2 132 rfl rfl
set_option maxRecDepth 20000 in
theorem wo_Ke_needFound : (Cond.code y_Ke_needFound b_Ke_needFound 1 none) ∈ T0 := tw_2 133 rfl rfl
set_option maxRecDepth 20000 in
theorem wc_Ke_271 : (Cond.classLink R_Ke 271 "java/util/NoSuchElementException") ∈ T0 := tw_2 134 rfl rfl
set_option maxRecDepth 20000 in
theorem wl_Ke_273 : (Cond.methodLink R_Ke 273 ⟨"java/util/NoSuchElementException", "<init>", "()V"⟩) ∈ T0 := tw_2 143 rfl rfl
set_option maxRecDepth 20000 in
theorem wl_Ke_163 : (Cond.methodLink R_Ke 163 y_Tg_isOfKind) ∈ T0 := tw_2 149 rfl rfl
set_option maxRecDepth 20000 in
theorem wm_Tg_isOfKind : (Cond.instanceMethod y_Tg_isOfKind) ∈ T0 := tw_2 150 rfl rfl
set_option maxRecDepth 20000 in
theorem we_Tg_isOfKind : (Cond.selects R_Tg y_Tg_isOfKind y_Tg_isOfKind) ∈ T0 := tw_2 151 rfl rfl
set_option maxRecDepth 20000 in
theorem wo_Tg_isOfKind : (Cond.code y_Tg_isOfKind b_Tg_isOfKind 3 (some .boolean)) ∈ T0 := tw_2 152 rfl rfl
set_option maxRecDepth 20000 in
theorem wl_Ke_85 : (Cond.methodLink R_Ke 85 y_Tg_labelOf) ∈ T0 := tw_2 153 rfl rfl
set_option maxRecDepth 20000 in
theorem wm_Tg_labelOf : (Cond.instanceMethod y_Tg_labelOf) ∈ T0 := tw_2 154 rfl rfl
set_option maxRecDepth 20000 in
theorem we_Tg_labelOf : (Cond.selects R_Tg y_Tg_labelOf y_Tg_labelOf) ∈ T0 := tw_2 155 rfl rfl
set_option maxRecDepth 20000 in
theorem wo_Tg_labelOf : (Cond.code y_Tg_labelOf b_Tg_labelOf 2 (some .int)) ∈ T0 := tw_2 156 rfl rfl
set_option maxRecDepth 20000 in
theorem wl_Ke_90 : (Cond.methodLink R_Ke 90 y_Tg_clearanceOf) ∈ T0 := tw_2 157 rfl rfl
set_option maxRecDepth 20000 in
theorem wm_Tg_clearanceOf : (Cond.instanceMethod y_Tg_clearanceOf) ∈ T0 := tw_2 158 rfl rfl
set_option maxRecDepth 20000 in
theorem we_Tg_clearanceOf : (Cond.selects R_Tg y_Tg_clearanceOf y_Tg_clearanceOf) ∈ T0 := tw_2 159 rfl rfl
set_option maxRecDepth 20000 in
theorem wo_Tg_clearanceOf : (Cond.code y_Tg_clearanceOf b_Tg_clearanceOf 2 (some .int)) ∈ T0 := tw_2 160 rfl rfl
set_option maxRecDepth 20000 in
theorem wl_Ke_93 : (Cond.methodLink R_Ke 93 y_Tg_setLabel) ∈ T0 := tw_2 161 rfl rfl
set_option maxRecDepth 20000 in
theorem wm_Tg_setLabel : (Cond.instanceMethod y_Tg_setLabel) ∈ T0 := tw_2 162 rfl rfl
set_option maxRecDepth 20000 in
theorem we_Tg_setLabel : (Cond.selects R_Tg y_Tg_setLabel y_Tg_setLabel) ∈ T0 := tw_2 163 rfl rfl
set_option maxRecDepth 20000 in
theorem wo_Tg_setLabel : (Cond.code y_Tg_setLabel b_Tg_setLabel 3 none) ∈ T0 := tw_2 164 rfl rfl
set_option maxRecDepth 20000 in
theorem wl_Ke_97 : (Cond.methodLink R_Ke 97 y_Tg_setClearance) ∈ T0 := tw_2 165 rfl rfl
set_option maxRecDepth 20000 in
theorem wl_La_113 : (Cond.methodLink R_La 113 y_La_container) ∈ T0 := tw_2 166 rfl rfl
set_option maxRecDepth 20000 in
theorem ws_La_container : (Cond.static y_La_container) ∈ T0 := tw_2 167 rfl rfl
set_option maxRecDepth 20000 in
theorem wl_La_33 : (Cond.methodLink R_La 33 y_Ke_container) ∈ T0 := tw_2 169 rfl rfl
set_option maxRecDepth 20000 in
theorem wm_Ke_container : (Cond.instanceMethod y_Ke_container) ∈ T0 := tw_2 170 rfl rfl
set_option maxRecDepth 20000 in
theorem we_Ke_container : (Cond.selects R_Ke y_Ke_container y_Ke_container) ∈ T0 := tw_2 171 rfl rfl
set_option maxRecDepth 20000 in
theorem wo_Ke_container : (Cond.code y_Ke_container b_Ke_container 5 (some .int)) ∈ T0 := tw_2 172 rfl rfl
set_option maxRecDepth 20000 in
theorem wl_Ke_100 : (Cond.methodLink R_Ke 100 y_Lb_isStarless) ∈ T0 := tw_2 173 rfl rfl
set_option maxRecDepth 20000 in
theorem wm_Lb_isStarless : (Cond.instanceMethod y_Lb_isStarless) ∈ T0 := tw_2 174 rfl rfl
set_option maxRecDepth 20000 in
theorem we_Lb_isStarless : (Cond.selects R_Lb y_Lb_isStarless y_Lb_isStarless) ∈ T0 := tw_2 175 rfl rfl
set_option maxRecDepth 20000 in
theorem wo_Lb_isStarless : (Cond.code y_Lb_isStarless b_Lb_isStarless 2 (some .boolean)) ∈ T0 := tw_2 176 rfl rfl
set_option maxRecDepth 20000 in
theorem wl_Lb_27 : (Cond.methodLink R_Lb 27 y_Lb_has) ∈ T0 := tw_2 177 rfl rfl
set_option maxRecDepth 20000 in
theorem wk_Lb_31 : (Cond.constant R_Lb 31 1145324612) ∈ T0 := tw_2 178 rfl rfl
set_option maxRecDepth 20000 in
theorem wl_Ke_103 : (Cond.methodLink R_Ke 103 y_Ke_needThreadAndContainer) ∈ T0 := tw_2 179 rfl rfl
set_option maxRecDepth 20000 in
theorem wm_Ke_needThreadAndContainer : (Cond.instanceMethod y_Ke_needThreadAndContainer) ∈ T0 := tw_2 181 rfl rfl
set_option maxRecDepth 20000 in
theorem wo_Ke_needThreadAndContainer : (Cond.code y_Ke_needThreadAndContainer b_Ke_needThreadAndContainer 3 none) ∈ T0 := tw_2 182 rfl rfl
set_option maxRecDepth 20000 in
theorem wl_Ke_106 : (Cond.methodLink R_Ke 106 y_Ke_needMayMake) ∈ T0 := tw_2 183 rfl rfl
set_option maxRecDepth 20000 in
theorem wm_Ke_needMayMake : (Cond.instanceMethod y_Ke_needMayMake) ∈ T0 := tw_2 185 rfl rfl
set_option maxRecDepth 20000 in
theorem wo_Ke_needMayMake : (Cond.code y_Ke_needMayMake b_Ke_needMayMake 4 none) ∈ T0 := tw_2 186 rfl rfl
set_option maxRecDepth 20000 in
theorem wl_Ke_136 : (Cond.methodLink R_Ke 136 y_Ke_mayChange) ∈ T0 := tw_2 187 rfl rfl
set_option maxRecDepth 20000 in
theorem wm_Ke_mayChange : (Cond.instanceMethod y_Ke_mayChange) ∈ T0 := tw_2 189 rfl rfl
set_option maxRecDepth 20000 in
theorem wo_Ke_mayChange : (Cond.code y_Ke_mayChange b_Ke_mayChange 3 (some .boolean)) ∈ T0 := tw_2 190 rfl rfl
set_option maxRecDepth 20000 in
theorem wl_Ke_130 : (Cond.methodLink R_Ke 130 y_Ke_maySee) ∈ T0 := tw_2 191 rfl rfl
set_option maxRecDepth 20000 in
theorem wm_Ke_maySee : (Cond.instanceMethod y_Ke_maySee) ∈ T0 := tw_2 193 rfl rfl
set_option maxRecDepth 20000 in
theorem wo_Ke_maySee : (Cond.code y_Ke_maySee b_Ke_maySee 3 (some .boolean)) ∈ T0 := tw_2 194 rfl rfl
set_option maxRecDepth 20000 in
theorem wl_Ke_157 : (Cond.methodLink R_Ke 157 y_Ke_mayBear) ∈ T0 := tw_2 195 rfl rfl
set_option maxRecDepth 20000 in
theorem wm_Ke_mayBear : (Cond.instanceMethod y_Ke_mayBear) ∈ T0 := tw_2 197 rfl rfl
set_option maxRecDepth 20000 in
theorem wo_Ke_mayBear : (Cond.code y_Ke_mayBear b_Ke_mayBear 4 (some .boolean)) ∈ T0 := tw_2 198 rfl rfl
set_option maxRecDepth 20000 in
theorem wl_Ke_265 : (Cond.methodLink R_Ke 265 y_Lb_hasStarsOnlyOf) ∈ T0 := tw_2 199 rfl rfl
set_option maxRecDepth 20000 in
theorem wm_Lb_hasStarsOnlyOf : (Cond.instanceMethod y_Lb_hasStarsOnlyOf) ∈ T0 := tw_2 200 rfl rfl
set_option maxRecDepth 20000 in
theorem we_Lb_hasStarsOnlyOf : (Cond.selects R_Lb y_Lb_hasStarsOnlyOf y_Lb_hasStarsOnlyOf) ∈ T0 := tw_2 201 rfl rfl
set_option maxRecDepth 20000 in
theorem wo_Lb_hasStarsOnlyOf : (Cond.code y_Lb_hasStarsOnlyOf b_Lb_hasStarsOnlyOf 3 (some .boolean)) ∈ T0 := tw_2 202 rfl rfl
set_option maxRecDepth 20000 in
theorem wl_Ke_123 : (Cond.methodLink R_Ke 123 y_Ke_needAllowed) ∈ T0 := tw_2 203 rfl rfl
set_option maxRecDepth 20000 in
theorem ws_Ke_needAllowed : (Cond.static y_Ke_needAllowed) ∈ T0 := tw_2 204 rfl rfl
set_option maxRecDepth 20000 in
theorem wo_Ke_needAllowed : (Cond.code y_Ke_needAllowed b_Ke_needAllowed 1 none) ∈ T0 := tw_2 205 rfl rfl
set_option maxRecDepth 20000 in
theorem wc_Ke_274 : (Cond.classLink R_Ke 274 "java/lang/UnsupportedOperationException") ∈ T0 := tw_2 206 rfl rfl
set_option maxRecDepth 20000 in
theorem wl_Ke_276 : (Cond.methodLink R_Ke 276 ⟨"java/lang/UnsupportedOperationException", "<init>", "()V"⟩) ∈ T0 := tw_2 215 rfl rfl
set_option maxRecDepth 20000 in
theorem wl_Ke_110 : (Cond.methodLink R_Ke 110 y_Ke_needRoomIn) ∈ T0 := tw_2 221 rfl rfl
set_option maxRecDepth 20000 in
theorem wm_Ke_needRoomIn : (Cond.instanceMethod y_Ke_needRoomIn) ∈ T0 := tw_2 223 rfl rfl
set_option maxRecDepth 20000 in
theorem wo_Ke_needRoomIn : (Cond.code y_Ke_needRoomIn b_Ke_needRoomIn 3 none) ∈ T0 := tw_2 224 rfl rfl
set_option maxRecDepth 20000 in
theorem wl_Ke_145 : (Cond.methodLink R_Ke 145 y_Tg_quotaOf) ∈ T0 := tw_2 225 rfl rfl
set_option maxRecDepth 20000 in
theorem wm_Tg_quotaOf : (Cond.instanceMethod y_Tg_quotaOf) ∈ T0 := tw_2 226 rfl rfl
set_option maxRecDepth 20000 in
theorem we_Tg_quotaOf : (Cond.selects R_Tg y_Tg_quotaOf y_Tg_quotaOf) ∈ T0 := tw_2 227 rfl rfl
set_option maxRecDepth 20000 in
theorem wo_Tg_quotaOf : (Cond.code y_Tg_quotaOf b_Tg_quotaOf 2 (some .int)) ∈ T0 := tw_2 228 rfl rfl
set_option maxRecDepth 20000 in
theorem wl_Ke_148 : (Cond.methodLink R_Ke 148 y_Tg_useOf) ∈ T0 := tw_2 229 rfl rfl
set_option maxRecDepth 20000 in
theorem wm_Tg_useOf : (Cond.instanceMethod y_Tg_useOf) ∈ T0 := tw_2 230 rfl rfl
set_option maxRecDepth 20000 in
theorem we_Tg_useOf : (Cond.selects R_Tg y_Tg_useOf y_Tg_useOf) ∈ T0 := tw_2 231 rfl rfl
set_option maxRecDepth 20000 in
theorem wo_Tg_useOf : (Cond.code y_Tg_useOf b_Tg_useOf 2 (some .int)) ∈ T0 := tw_2 232 rfl rfl
set_option maxRecDepth 20000 in
theorem wl_Tg_68 : (Cond.methodLink R_Tg 68 y_Tg_quotasIn) ∈ T0 := tw_2 233 rfl rfl
set_option maxRecDepth 20000 in
theorem wm_Tg_quotasIn : (Cond.instanceMethod y_Tg_quotasIn) ∈ T0 := tw_2 235 rfl rfl
set_option maxRecDepth 20000 in
theorem wo_Tg_quotasIn : (Cond.code y_Tg_quotasIn b_Tg_quotasIn 4 (some .int)) ∈ T0 := tw_2 236 rfl rfl
set_option maxRecDepth 20000 in
theorem wl_Tg_64 : (Cond.methodLink R_Tg 64 y_Tg_isIn) ∈ T0 := tw_2 237 rfl rfl
set_option maxRecDepth 20000 in
theorem wm_Tg_isIn : (Cond.instanceMethod y_Tg_isIn) ∈ T0 := tw_2 238 rfl rfl
set_option maxRecDepth 20000 in
theorem we_Tg_isIn : (Cond.selects R_Tg y_Tg_isIn y_Tg_isIn) ∈ T0 := tw_2 239 rfl rfl
set_option maxRecDepth 20000 in
theorem wo_Tg_isIn : (Cond.code y_Tg_isIn b_Tg_isIn 3 (some .boolean)) ∈ T0 := tw_3 0 rfl rfl
set_option maxRecDepth 20000 in
theorem wl_Ke_280 : (Cond.methodLink R_Ke 280 y_Tg_hasNumberLeft) ∈ T0 := tw_3 1 rfl rfl
set_option maxRecDepth 20000 in
theorem wm_Tg_hasNumberLeft : (Cond.instanceMethod y_Tg_hasNumberLeft) ∈ T0 := tw_3 2 rfl rfl
set_option maxRecDepth 20000 in
theorem we_Tg_hasNumberLeft : (Cond.selects R_Tg y_Tg_hasNumberLeft y_Tg_hasNumberLeft) ∈ T0 := tw_3 3 rfl rfl
set_option maxRecDepth 20000 in
theorem wo_Tg_hasNumberLeft : (Cond.code y_Tg_hasNumberLeft b_Tg_hasNumberLeft 1 (some .boolean)) ∈ T0 := tw_3 4 rfl rfl
set_option maxRecDepth 20000 in
theorem wl_Ke_284 : (Cond.methodLink R_Ke 284 y_Tg_depthOf) ∈ T0 := tw_3 5 rfl rfl
set_option maxRecDepth 20000 in
theorem wm_Tg_depthOf : (Cond.instanceMethod y_Tg_depthOf) ∈ T0 := tw_3 6 rfl rfl
set_option maxRecDepth 20000 in
theorem we_Tg_depthOf : (Cond.selects R_Tg y_Tg_depthOf y_Tg_depthOf) ∈ T0 := tw_3 7 rfl rfl
set_option maxRecDepth 20000 in
theorem wo_Tg_depthOf : (Cond.code y_Tg_depthOf b_Tg_depthOf 2 (some .int)) ∈ T0 := tw_3 8 rfl rfl
set_option maxRecDepth 20000 in
theorem wl_Ke_113 : (Cond.methodLink R_Ke 113 y_Tg_add) ∈ T0 := tw_3 9 rfl rfl
set_option maxRecDepth 20000 in
theorem wl_La_117 : (Cond.methodLink R_La 117 y_La_segment) ∈ T0 := tw_3 10 rfl rfl
set_option maxRecDepth 20000 in
theorem ws_La_segment : (Cond.static y_La_segment) ∈ T0 := tw_3 11 rfl rfl
set_option maxRecDepth 20000 in
theorem wl_La_37 : (Cond.methodLink R_La 37 y_Ke_segment) ∈ T0 := tw_3 13 rfl rfl
set_option maxRecDepth 20000 in
theorem wm_Ke_segment : (Cond.instanceMethod y_Ke_segment) ∈ T0 := tw_3 14 rfl rfl
set_option maxRecDepth 20000 in
theorem we_Ke_segment : (Cond.selects R_Ke y_Ke_segment y_Ke_segment) ∈ T0 := tw_3 15 rfl rfl
set_option maxRecDepth 20000 in
theorem wo_Ke_segment : (Cond.code y_Ke_segment b_Ke_segment 6 (some .int)) ∈ T0 := tw_3 16 rfl rfl
set_option maxRecDepth 20000 in
theorem wl_Ke_117 : (Cond.methodLink R_Ke 117 y_Tg_setCellCount) ∈ T0 := tw_3 17 rfl rfl
set_option maxRecDepth 20000 in
theorem wm_Tg_setCellCount : (Cond.instanceMethod y_Tg_setCellCount) ∈ T0 := tw_3 18 rfl rfl
set_option maxRecDepth 20000 in
theorem we_Tg_setCellCount : (Cond.selects R_Tg y_Tg_setCellCount y_Tg_setCellCount) ∈ T0 := tw_3 19 rfl rfl
set_option maxRecDepth 20000 in
theorem wo_Tg_setCellCount : (Cond.code y_Tg_setCellCount b_Tg_setCellCount 3 none) ∈ T0 := tw_3 20 rfl rfl
set_option maxRecDepth 20000 in
theorem wl_La_120 : (Cond.methodLink R_La 120 y_La_gate) ∈ T0 := tw_3 21 rfl rfl
set_option maxRecDepth 20000 in
theorem ws_La_gate : (Cond.static y_La_gate) ∈ T0 := tw_3 22 rfl rfl
set_option maxRecDepth 20000 in
theorem wl_La_40 : (Cond.methodLink R_La 40 y_Ke_gate) ∈ T0 := tw_3 24 rfl rfl
set_option maxRecDepth 20000 in
theorem wm_Ke_gate : (Cond.instanceMethod y_Ke_gate) ∈ T0 := tw_3 25 rfl rfl
set_option maxRecDepth 20000 in
theorem we_Ke_gate : (Cond.selects R_Ke y_Ke_gate y_Ke_gate) ∈ T0 := tw_3 26 rfl rfl
set_option maxRecDepth 20000 in
theorem wo_Ke_gate : (Cond.code y_Ke_gate b_Ke_gate 7 (some .int)) ∈ T0 := tw_3 27 rfl rfl
set_option maxRecDepth 20000 in
theorem wl_Ke_120 : (Cond.methodLink R_Ke 120 y_Tg_setGuardAndEntry) ∈ T0 := tw_3 28 rfl rfl
set_option maxRecDepth 20000 in
theorem wm_Tg_setGuardAndEntry : (Cond.instanceMethod y_Tg_setGuardAndEntry) ∈ T0 := tw_3 29 rfl rfl
set_option maxRecDepth 20000 in
theorem we_Tg_setGuardAndEntry : (Cond.selects R_Tg y_Tg_setGuardAndEntry y_Tg_setGuardAndEntry) ∈ T0 := tw_3 30 rfl rfl
set_option maxRecDepth 20000 in
theorem wo_Tg_setGuardAndEntry : (Cond.code y_Tg_setGuardAndEntry b_Tg_setGuardAndEntry 4 none) ∈ T0 := tw_3 31 rfl rfl
set_option maxRecDepth 20000 in
theorem wl_La_124 : (Cond.methodLink R_La 124 y_La_thread) ∈ T0 := tw_3 32 rfl rfl
set_option maxRecDepth 20000 in
theorem ws_La_thread : (Cond.static y_La_thread) ∈ T0 := tw_3 33 rfl rfl
set_option maxRecDepth 20000 in
theorem wl_La_44 : (Cond.methodLink R_La 44 y_Ke_thread) ∈ T0 := tw_3 35 rfl rfl
set_option maxRecDepth 20000 in
theorem wm_Ke_thread : (Cond.instanceMethod y_Ke_thread) ∈ T0 := tw_3 36 rfl rfl
set_option maxRecDepth 20000 in
theorem we_Ke_thread : (Cond.selects R_Ke y_Ke_thread y_Ke_thread) ∈ T0 := tw_3 37 rfl rfl
set_option maxRecDepth 20000 in
theorem wo_Ke_thread : (Cond.code y_Ke_thread b_Ke_thread 6 (some .int)) ∈ T0 := tw_3 38 rfl rfl
set_option maxRecDepth 20000 in
theorem wl_La_127 : (Cond.methodLink R_La 127 y_La_read) ∈ T0 := tw_3 39 rfl rfl
set_option maxRecDepth 20000 in
theorem ws_La_read : (Cond.static y_La_read) ∈ T0 := tw_3 40 rfl rfl
set_option maxRecDepth 20000 in
theorem wl_La_47 : (Cond.methodLink R_La 47 y_Ke_read) ∈ T0 := tw_3 42 rfl rfl
set_option maxRecDepth 20000 in
theorem wm_Ke_read : (Cond.instanceMethod y_Ke_read) ∈ T0 := tw_3 43 rfl rfl
set_option maxRecDepth 20000 in
theorem we_Ke_read : (Cond.selects R_Ke y_Ke_read y_Ke_read) ∈ T0 := tw_3 44 rfl rfl
set_option maxRecDepth 20000 in
theorem wo_Ke_read : (Cond.code y_Ke_read b_Ke_read 5 (some .int)) ∈ T0 := tw_3 45 rfl rfl
set_option maxRecDepth 20000 in
theorem wl_Ke_126 : (Cond.methodLink R_Ke 126 y_Ke_needCell) ∈ T0 := tw_3 46 rfl rfl
set_option maxRecDepth 20000 in
theorem wm_Ke_needCell : (Cond.instanceMethod y_Ke_needCell) ∈ T0 := tw_3 48 rfl rfl
set_option maxRecDepth 20000 in
theorem wo_Ke_needCell : (Cond.code y_Ke_needCell b_Ke_needCell 5 none) ∈ T0 := tw_3 49 rfl rfl
set_option maxRecDepth 20000 in
theorem wl_Ke_160 : (Cond.methodLink R_Ke 160 y_Ke_needThere) ∈ T0 := tw_3 50 rfl rfl
set_option maxRecDepth 20000 in
theorem wm_Ke_needThere : (Cond.instanceMethod y_Ke_needThere) ∈ T0 := tw_3 52 rfl rfl
set_option maxRecDepth 20000 in
theorem wo_Ke_needThere : (Cond.code y_Ke_needThere b_Ke_needThere 4 none) ∈ T0 := tw_3 53 rfl rfl
set_option maxRecDepth 20000 in
theorem wl_Ke_166 : (Cond.methodLink R_Ke 166 y_Tg_isIn) ∈ T0 := tw_3 54 rfl rfl
set_option maxRecDepth 20000 in
theorem wl_Ke_257 : (Cond.methodLink R_Ke 257 y_Tg_cellCountOf) ∈ T0 := tw_3 55 rfl rfl
set_option maxRecDepth 20000 in
theorem wm_Tg_cellCountOf : (Cond.instanceMethod y_Tg_cellCountOf) ∈ T0 := tw_3 56 rfl rfl
set_option maxRecDepth 20000 in
theorem we_Tg_cellCountOf : (Cond.selects R_Tg y_Tg_cellCountOf y_Tg_cellCountOf) ∈ T0 := tw_3 57 rfl rfl
set_option maxRecDepth 20000 in
theorem wo_Tg_cellCountOf : (Cond.code y_Tg_cellCountOf b_Tg_cellCountOf 2 (some .int)) ∈ T0 := tw_3 58 rfl rfl
set_option maxRecDepth 20000 in
theorem wl_Ke_133 : (Cond.methodLink R_Ke 133 y_Tg_cellOf) ∈ T0 := tw_3 59 rfl rfl
set_option maxRecDepth 20000 in
theorem wm_Tg_cellOf : (Cond.instanceMethod y_Tg_cellOf) ∈ T0 := tw_3 60 rfl rfl
set_option maxRecDepth 20000 in
theorem we_Tg_cellOf : (Cond.selects R_Tg y_Tg_cellOf y_Tg_cellOf) ∈ T0 := tw_3 61 rfl rfl
set_option maxRecDepth 20000 in
theorem wo_Tg_cellOf : (Cond.code y_Tg_cellOf b_Tg_cellOf 3 (some .int)) ∈ T0 := tw_3 62 rfl rfl
set_option maxRecDepth 20000 in
theorem wl_La_130 : (Cond.methodLink R_La 130 y_La_write) ∈ T0 := tw_3 63 rfl rfl
set_option maxRecDepth 20000 in
theorem ws_La_write : (Cond.static y_La_write) ∈ T0 := tw_3 64 rfl rfl
set_option maxRecDepth 20000 in
theorem wl_La_50 : (Cond.methodLink R_La 50 y_Ke_write) ∈ T0 := tw_3 66 rfl rfl
set_option maxRecDepth 20000 in
theorem wm_Ke_write : (Cond.instanceMethod y_Ke_write) ∈ T0 := tw_3 67 rfl rfl
set_option maxRecDepth 20000 in
theorem we_Ke_write : (Cond.selects R_Ke y_Ke_write y_Ke_write) ∈ T0 := tw_3 68 rfl rfl
set_option maxRecDepth 20000 in
theorem wo_Ke_write : (Cond.code y_Ke_write b_Ke_write 7 (some .int)) ∈ T0 := tw_3 69 rfl rfl
set_option maxRecDepth 20000 in
theorem wl_Ke_139 : (Cond.methodLink R_Ke 139 y_Tg_setCell) ∈ T0 := tw_3 70 rfl rfl
set_option maxRecDepth 20000 in
theorem wm_Tg_setCell : (Cond.instanceMethod y_Tg_setCell) ∈ T0 := tw_3 71 rfl rfl
set_option maxRecDepth 20000 in
theorem we_Tg_setCell : (Cond.selects R_Tg y_Tg_setCell y_Tg_setCell) ∈ T0 := tw_3 72 rfl rfl
set_option maxRecDepth 20000 in
theorem wo_Tg_setCell : (Cond.code y_Tg_setCell b_Tg_setCell 4 none) ∈ T0 := tw_3 73 rfl rfl
set_option maxRecDepth 20000 in
theorem wl_La_133 : (Cond.methodLink R_La 133 y_La_move) ∈ T0 := tw_3 74 rfl rfl
set_option maxRecDepth 20000 in
theorem ws_La_move : (Cond.static y_La_move) ∈ T0 := tw_3 75 rfl rfl
set_option maxRecDepth 20000 in
theorem wl_La_53 : (Cond.methodLink R_La 53 y_Ke_move) ∈ T0 := tw_3 77 rfl rfl
set_option maxRecDepth 20000 in
theorem wm_Ke_move : (Cond.instanceMethod y_Ke_move) ∈ T0 := tw_3 78 rfl rfl
set_option maxRecDepth 20000 in
theorem we_Ke_move : (Cond.selects R_Ke y_Ke_move y_Ke_move) ∈ T0 := tw_3 79 rfl rfl
set_option maxRecDepth 20000 in
theorem wo_Ke_move : (Cond.code y_Ke_move b_Ke_move 6 (some .int)) ∈ T0 := tw_3 80 rfl rfl
set_option maxRecDepth 20000 in
theorem wl_Ke_142 : (Cond.methodLink R_Ke 142 y_Ke_needObjectIn) ∈ T0 := tw_3 81 rfl rfl
set_option maxRecDepth 20000 in
theorem wm_Ke_needObjectIn : (Cond.instanceMethod y_Ke_needObjectIn) ∈ T0 := tw_3 83 rfl rfl
set_option maxRecDepth 20000 in
theorem wo_Ke_needObjectIn : (Cond.code y_Ke_needObjectIn b_Ke_needObjectIn 4 none) ∈ T0 := tw_3 84 rfl rfl
set_option maxRecDepth 20000 in
theorem wl_Ke_151 : (Cond.methodLink R_Ke 151 y_Tg_setQuota) ∈ T0 := tw_3 85 rfl rfl
set_option maxRecDepth 20000 in
theorem wm_Tg_setQuota : (Cond.instanceMethod y_Tg_setQuota) ∈ T0 := tw_3 86 rfl rfl
set_option maxRecDepth 20000 in
theorem we_Tg_setQuota : (Cond.selects R_Tg y_Tg_setQuota y_Tg_setQuota) ∈ T0 := tw_3 87 rfl rfl
set_option maxRecDepth 20000 in
theorem wo_Tg_setQuota : (Cond.code y_Tg_setQuota b_Tg_setQuota 3 none) ∈ T0 := tw_3 88 rfl rfl
set_option maxRecDepth 20000 in
theorem wl_La_136 : (Cond.methodLink R_La 136 y_La_drop) ∈ T0 := tw_3 89 rfl rfl
set_option maxRecDepth 20000 in
theorem ws_La_drop : (Cond.static y_La_drop) ∈ T0 := tw_3 90 rfl rfl
set_option maxRecDepth 20000 in
theorem wl_La_56 : (Cond.methodLink R_La 56 y_Ke_drop) ∈ T0 := tw_3 92 rfl rfl
set_option maxRecDepth 20000 in
theorem wm_Ke_drop : (Cond.instanceMethod y_Ke_drop) ∈ T0 := tw_3 93 rfl rfl
set_option maxRecDepth 20000 in
theorem we_Ke_drop : (Cond.selects R_Ke y_Ke_drop y_Ke_drop) ∈ T0 := tw_3 94 rfl rfl
set_option maxRecDepth 20000 in
theorem wo_Ke_drop : (Cond.code y_Ke_drop b_Ke_drop 4 (some .int)) ∈ T0 := tw_3 95 rfl rfl
set_option maxRecDepth 20000 in
theorem wl_Ke_154 : (Cond.methodLink R_Ke 154 y_Tg_removeTree) ∈ T0 := tw_3 96 rfl rfl
set_option maxRecDepth 20000 in
theorem wm_Tg_removeTree : (Cond.instanceMethod y_Tg_removeTree) ∈ T0 := tw_3 97 rfl rfl
set_option maxRecDepth 20000 in
theorem we_Tg_removeTree : (Cond.selects R_Tg y_Tg_removeTree y_Tg_removeTree) ∈ T0 := tw_3 98 rfl rfl
set_option maxRecDepth 20000 in
theorem wo_Tg_removeTree : (Cond.code y_Tg_removeTree b_Tg_removeTree 4 (some .int)) ∈ T0 := tw_3 99 rfl rfl
set_option maxRecDepth 20000 in
theorem wl_La_139 : (Cond.methodLink R_La 139 y_La_become) ∈ T0 := tw_3 100 rfl rfl
set_option maxRecDepth 20000 in
theorem ws_La_become : (Cond.static y_La_become) ∈ T0 := tw_3 101 rfl rfl
set_option maxRecDepth 20000 in
theorem wl_La_59 : (Cond.methodLink R_La 59 y_Ke_become) ∈ T0 := tw_3 103 rfl rfl
set_option maxRecDepth 20000 in
theorem wm_Ke_become : (Cond.instanceMethod y_Ke_become) ∈ T0 := tw_3 104 rfl rfl
set_option maxRecDepth 20000 in
theorem we_Ke_become : (Cond.selects R_Ke y_Ke_become y_Ke_become) ∈ T0 := tw_3 105 rfl rfl
set_option maxRecDepth 20000 in
theorem wo_Ke_become : (Cond.code y_Ke_become b_Ke_become 3 (some .int)) ∈ T0 := tw_3 106 rfl rfl
set_option maxRecDepth 20000 in
theorem wl_La_142 : (Cond.methodLink R_La 142 y_La_lower) ∈ T0 := tw_3 107 rfl rfl
set_option maxRecDepth 20000 in
theorem ws_La_lower : (Cond.static y_La_lower) ∈ T0 := tw_3 108 rfl rfl
set_option maxRecDepth 20000 in
theorem wl_La_62 : (Cond.methodLink R_La 62 y_Ke_lower) ∈ T0 := tw_3 110 rfl rfl
set_option maxRecDepth 20000 in
theorem wm_Ke_lower : (Cond.instanceMethod y_Ke_lower) ∈ T0 := tw_3 111 rfl rfl
set_option maxRecDepth 20000 in
theorem we_Ke_lower : (Cond.selects R_Ke y_Ke_lower y_Ke_lower) ∈ T0 := tw_3 112 rfl rfl
set_option maxRecDepth 20000 in
theorem wo_Ke_lower : (Cond.code y_Ke_lower b_Ke_lower 3 (some .int)) ∈ T0 := tw_3 113 rfl rfl
set_option maxRecDepth 20000 in
theorem wl_La_145 : (Cond.methodLink R_La 145 y_La_enter) ∈ T0 := tw_3 114 rfl rfl
set_option maxRecDepth 20000 in
theorem ws_La_enter : (Cond.static y_La_enter) ∈ T0 := tw_3 115 rfl rfl
set_option maxRecDepth 20000 in
theorem wl_La_65 : (Cond.methodLink R_La 65 y_Ke_enter) ∈ T0 := tw_3 117 rfl rfl
set_option maxRecDepth 20000 in
theorem wm_Ke_enter : (Cond.instanceMethod y_Ke_enter) ∈ T0 := tw_3 118 rfl rfl
set_option maxRecDepth 20000 in
theorem we_Ke_enter : (Cond.selects R_Ke y_Ke_enter y_Ke_enter) ∈ T0 := tw_3 119 rfl rfl
set_option maxRecDepth 20000 in
theorem wo_Ke_enter : (Cond.code y_Ke_enter b_Ke_enter 6 (some .int)) ∈ T0 := tw_3 120 rfl rfl
set_option maxRecDepth 20000 in
theorem wl_Ke_172 : (Cond.methodLink R_Ke 172 y_Tg_guardOf) ∈ T0 := tw_3 121 rfl rfl
set_option maxRecDepth 20000 in
theorem wm_Tg_guardOf : (Cond.instanceMethod y_Tg_guardOf) ∈ T0 := tw_3 122 rfl rfl
set_option maxRecDepth 20000 in
theorem we_Tg_guardOf : (Cond.selects R_Tg y_Tg_guardOf y_Tg_guardOf) ∈ T0 := tw_3 123 rfl rfl
set_option maxRecDepth 20000 in
theorem wo_Tg_guardOf : (Cond.code y_Tg_guardOf b_Tg_guardOf 2 (some .int)) ∈ T0 := tw_3 124 rfl rfl
set_option maxRecDepth 20000 in
theorem wl_Ke_175 : (Cond.methodLink R_Ke 175 y_Lb_isJoinOf) ∈ T0 := tw_3 125 rfl rfl
set_option maxRecDepth 20000 in
theorem wm_Lb_isJoinOf : (Cond.instanceMethod y_Lb_isJoinOf) ∈ T0 := tw_3 126 rfl rfl
set_option maxRecDepth 20000 in
theorem we_Lb_isJoinOf : (Cond.selects R_Lb y_Lb_isJoinOf y_Lb_isJoinOf) ∈ T0 := tw_3 127 rfl rfl
set_option maxRecDepth 20000 in
theorem wo_Lb_isJoinOf : (Cond.code y_Lb_isJoinOf b_Lb_isJoinOf 5 (some .boolean)) ∈ T0 := tw_3 128 rfl rfl
set_option maxRecDepth 20000 in
theorem wl_Lb_40 : (Cond.methodLink R_Lb 40 y_Lb_isJoinAt) ∈ T0 := tw_3 129 rfl rfl
set_option maxRecDepth 20000 in
theorem wm_Lb_isJoinAt : (Cond.instanceMethod y_Lb_isJoinAt) ∈ T0 := tw_3 131 rfl rfl
set_option maxRecDepth 20000 in
theorem wo_Lb_isJoinAt : (Cond.code y_Lb_isJoinAt b_Lb_isJoinAt 8 (some .boolean)) ∈ T0 := tw_3 132 rfl rfl
set_option maxRecDepth 20000 in
theorem wl_Ke_178 : (Cond.methodLink R_Ke 178 y_Lb_isNowhereAboveBoth) ∈ T0 := tw_3 133 rfl rfl
set_option maxRecDepth 20000 in
theorem wm_Lb_isNowhereAboveBoth : (Cond.instanceMethod y_Lb_isNowhereAboveBoth) ∈ T0 := tw_3 134 rfl rfl
set_option maxRecDepth 20000 in
theorem we_Lb_isNowhereAboveBoth : (Cond.selects R_Lb y_Lb_isNowhereAboveBoth y_Lb_isNowhereAboveBoth) ∈ T0 := tw_3 135 rfl rfl
set_option maxRecDepth 20000 in
theorem wo_Lb_isNowhereAboveBoth : (Cond.code y_Lb_isNowhereAboveBoth b_Lb_isNowhereAboveBoth 6 (some .boolean)) ∈ T0 := tw_3 136 rfl rfl
set_option maxRecDepth 20000 in
theorem wl_Ke_181 : (Cond.methodLink R_Ke 181 y_Tg_entryOf) ∈ T0 := tw_3 137 rfl rfl
set_option maxRecDepth 20000 in
theorem wm_Tg_entryOf : (Cond.instanceMethod y_Tg_entryOf) ∈ T0 := tw_3 138 rfl rfl
set_option maxRecDepth 20000 in
theorem we_Tg_entryOf : (Cond.selects R_Tg y_Tg_entryOf y_Tg_entryOf) ∈ T0 := tw_3 139 rfl rfl
set_option maxRecDepth 20000 in
theorem wo_Tg_entryOf : (Cond.code y_Tg_entryOf b_Tg_entryOf 2 (some .int)) ∈ T0 := tw_3 140 rfl rfl
set_option maxRecDepth 20000 in
theorem wl_La_148 : (Cond.methodLink R_La 148 y_La_user) ∈ T0 := tw_3 141 rfl rfl
set_option maxRecDepth 20000 in
theorem ws_La_user : (Cond.static y_La_user) ∈ T0 := tw_3 142 rfl rfl
set_option maxRecDepth 20000 in
theorem wl_La_68 : (Cond.methodLink R_La 68 y_Ke_user) ∈ T0 := tw_3 144 rfl rfl
set_option maxRecDepth 20000 in
theorem wm_Ke_user : (Cond.instanceMethod y_Ke_user) ∈ T0 := tw_3 145 rfl rfl
set_option maxRecDepth 20000 in
theorem we_Ke_user : (Cond.selects R_Ke y_Ke_user y_Ke_user) ∈ T0 := tw_3 146 rfl rfl
set_option maxRecDepth 20000 in
theorem wo_Ke_user : (Cond.code y_Ke_user b_Ke_user 11 (some .int)) ∈ T0 := tw_3 147 rfl rfl
set_option maxRecDepth 20000 in
theorem wl_Ke_184 : (Cond.methodLink R_Ke 184 y_Us_isThere) ∈ T0 := tw_3 148 rfl rfl
set_option maxRecDepth 20000 in
theorem wm_Us_isThere : (Cond.instanceMethod y_Us_isThere) ∈ T0 := tw_3 149 rfl rfl
set_option maxRecDepth 20000 in
theorem we_Us_isThere : (Cond.selects R_Us y_Us_isThere y_Us_isThere) ∈ T0 := tw_3 150 rfl rfl
set_option maxRecDepth 20000 in
theorem wo_Us_isThere : (Cond.code y_Us_isThere b_Us_isThere 2 (some .boolean)) ∈ T0 := tw_3 151 rfl rfl
set_option maxRecDepth 20000 in
theorem wl_Ke_189 : (Cond.methodLink R_Ke 189 y_Ke_category) ∈ T0 := tw_3 152 rfl rfl
set_option maxRecDepth 20000 in
theorem wl_Ke_192 : (Cond.methodLink R_Ke 192 y_Ke_label) ∈ T0 := tw_3 153 rfl rfl
set_option maxRecDepth 20000 in
theorem wl_Ke_195 : (Cond.methodLink R_Ke 195 y_Ke_container) ∈ T0 := tw_3 154 rfl rfl
set_option maxRecDepth 20000 in
theorem wl_Ke_198 : (Cond.methodLink R_Ke 198 y_Ke_segment) ∈ T0 := tw_3 155 rfl rfl
set_option maxRecDepth 20000 in
theorem wl_Ke_201 : (Cond.methodLink R_Ke 201 y_Ke_gate) ∈ T0 := tw_3 156 rfl rfl
set_option maxRecDepth 20000 in
theorem wl_Ke_205 : (Cond.methodLink R_Ke 205 y_Us_setCategories) ∈ T0 := tw_3 157 rfl rfl
set_option maxRecDepth 20000 in
theorem wm_Us_setCategories : (Cond.instanceMethod y_Us_setCategories) ∈ T0 := tw_3 158 rfl rfl
set_option maxRecDepth 20000 in
theorem we_Us_setCategories : (Cond.selects R_Us y_Us_setCategories y_Us_setCategories) ∈ T0 := tw_3 159 rfl rfl
set_option maxRecDepth 20000 in
theorem wo_Us_setCategories : (Cond.code y_Us_setCategories b_Us_setCategories 4 none) ∈ T0 := tw_3 160 rfl rfl
set_option maxRecDepth 20000 in
theorem wl_Ke_208 : (Cond.methodLink R_Ke 208 y_Us_setObjects) ∈ T0 := tw_3 161 rfl rfl
set_option maxRecDepth 20000 in
theorem wm_Us_setObjects : (Cond.instanceMethod y_Us_setObjects) ∈ T0 := tw_3 162 rfl rfl
set_option maxRecDepth 20000 in
theorem we_Us_setObjects : (Cond.selects R_Us y_Us_setObjects y_Us_setObjects) ∈ T0 := tw_3 163 rfl rfl
set_option maxRecDepth 20000 in
theorem wo_Us_setObjects : (Cond.code y_Us_setObjects b_Us_setObjects 5 none) ∈ T0 := tw_3 164 rfl rfl
set_option maxRecDepth 20000 in
theorem wl_Ke_211 : (Cond.methodLink R_Ke 211 y_Us_add) ∈ T0 := tw_3 165 rfl rfl
set_option maxRecDepth 20000 in
theorem wm_Us_add : (Cond.instanceMethod y_Us_add) ∈ T0 := tw_3 166 rfl rfl
set_option maxRecDepth 20000 in
theorem we_Us_add : (Cond.selects R_Us y_Us_add y_Us_add) ∈ T0 := tw_3 167 rfl rfl
set_option maxRecDepth 20000 in
theorem wo_Us_add : (Cond.code y_Us_add b_Us_add 3 none) ∈ T0 := tw_3 168 rfl rfl
set_option maxRecDepth 20000 in
theorem wl_La_151 : (Cond.methodLink R_La 151 y_La_login) ∈ T0 := tw_3 169 rfl rfl
set_option maxRecDepth 20000 in
theorem ws_La_login : (Cond.static y_La_login) ∈ T0 := tw_3 170 rfl rfl
set_option maxRecDepth 20000 in
theorem wl_La_71 : (Cond.methodLink R_La 71 y_Ke_login) ∈ T0 := tw_3 172 rfl rfl
set_option maxRecDepth 20000 in
theorem wm_Ke_login : (Cond.instanceMethod y_Ke_login) ∈ T0 := tw_3 173 rfl rfl
set_option maxRecDepth 20000 in
theorem we_Ke_login : (Cond.selects R_Ke y_Ke_login y_Ke_login) ∈ T0 := tw_3 174 rfl rfl
set_option maxRecDepth 20000 in
theorem wo_Ke_login : (Cond.code y_Ke_login b_Ke_login 8 (some .int)) ∈ T0 := tw_3 175 rfl rfl
set_option maxRecDepth 20000 in
theorem wl_Ke_213 : (Cond.methodLink R_Ke 213 y_Us_passwordOf) ∈ T0 := tw_3 176 rfl rfl
set_option maxRecDepth 20000 in
theorem wm_Us_passwordOf : (Cond.instanceMethod y_Us_passwordOf) ∈ T0 := tw_3 177 rfl rfl
set_option maxRecDepth 20000 in
theorem we_Us_passwordOf : (Cond.selects R_Us y_Us_passwordOf y_Us_passwordOf) ∈ T0 := tw_3 178 rfl rfl
set_option maxRecDepth 20000 in
theorem wo_Us_passwordOf : (Cond.code y_Us_passwordOf b_Us_passwordOf 2 (some .int)) ∈ T0 := tw_3 179 rfl rfl
set_option maxRecDepth 20000 in
theorem wl_Ke_216 : (Cond.methodLink R_Ke 216 y_Us_firstCategoryOf) ∈ T0 := tw_3 180 rfl rfl
set_option maxRecDepth 20000 in
theorem wm_Us_firstCategoryOf : (Cond.instanceMethod y_Us_firstCategoryOf) ∈ T0 := tw_3 181 rfl rfl
set_option maxRecDepth 20000 in
theorem we_Us_firstCategoryOf : (Cond.selects R_Us y_Us_firstCategoryOf y_Us_firstCategoryOf) ∈ T0 := tw_3 182 rfl rfl
set_option maxRecDepth 20000 in
theorem wo_Us_firstCategoryOf : (Cond.code y_Us_firstCategoryOf b_Us_firstCategoryOf 2 (some .int)) ∈ T0 := tw_3 183 rfl rfl
set_option maxRecDepth 20000 in
theorem wl_Ke_219 : (Cond.methodLink R_Ke 219 y_Us_secondCategoryOf) ∈ T0 := tw_3 184 rfl rfl
set_option maxRecDepth 20000 in
theorem wm_Us_secondCategoryOf : (Cond.instanceMethod y_Us_secondCategoryOf) ∈ T0 := tw_3 185 rfl rfl
set_option maxRecDepth 20000 in
theorem we_Us_secondCategoryOf : (Cond.selects R_Us y_Us_secondCategoryOf y_Us_secondCategoryOf) ∈ T0 := tw_3 186 rfl rfl
set_option maxRecDepth 20000 in
theorem wo_Us_secondCategoryOf : (Cond.code y_Us_secondCategoryOf b_Us_secondCategoryOf 2 (some .int)) ∈ T0 := tw_3 187 rfl rfl
set_option maxRecDepth 20000 in
theorem wl_Ke_222 : (Cond.methodLink R_Ke 222 y_Us_gateOf) ∈ T0 := tw_3 188 rfl rfl
set_option maxRecDepth 20000 in
theorem wm_Us_gateOf : (Cond.instanceMethod y_Us_gateOf) ∈ T0 := tw_3 189 rfl rfl
set_option maxRecDepth 20000 in
theorem we_Us_gateOf : (Cond.selects R_Us y_Us_gateOf y_Us_gateOf) ∈ T0 := tw_3 190 rfl rfl
set_option maxRecDepth 20000 in
theorem wo_Us_gateOf : (Cond.code y_Us_gateOf b_Us_gateOf 2 (some .int)) ∈ T0 := tw_3 191 rfl rfl
set_option maxRecDepth 20000 in
theorem wl_Ke_225 : (Cond.methodLink R_Ke 225 y_Ke_enter) ∈ T0 := tw_3 192 rfl rfl
set_option maxRecDepth 20000 in
theorem wl_La_154 : (Cond.methodLink R_La 154 y_La_file) ∈ T0 := tw_3 193 rfl rfl
set_option maxRecDepth 20000 in
theorem ws_La_file : (Cond.static y_La_file) ∈ T0 := tw_3 194 rfl rfl
set_option maxRecDepth 20000 in
theorem wl_La_74 : (Cond.methodLink R_La 74 y_Ke_file) ∈ T0 := tw_3 196 rfl rfl
set_option maxRecDepth 20000 in
theorem wm_Ke_file : (Cond.instanceMethod y_Ke_file) ∈ T0 := tw_3 197 rfl rfl
set_option maxRecDepth 20000 in
theorem we_Ke_file : (Cond.selects R_Ke y_Ke_file y_Ke_file) ∈ T0 := tw_3 198 rfl rfl
set_option maxRecDepth 20000 in
theorem wo_Ke_file : (Cond.code y_Ke_file b_Ke_file 9 (some .int)) ∈ T0 := tw_3 199 rfl rfl
set_option maxRecDepth 20000 in
theorem wl_Ke_228 : (Cond.methodLink R_Ke 228 y_Us_homeOf) ∈ T0 := tw_3 200 rfl rfl
set_option maxRecDepth 20000 in
theorem wm_Us_homeOf : (Cond.instanceMethod y_Us_homeOf) ∈ T0 := tw_3 201 rfl rfl
set_option maxRecDepth 20000 in
theorem we_Us_homeOf : (Cond.selects R_Us y_Us_homeOf y_Us_homeOf) ∈ T0 := tw_3 202 rfl rfl
set_option maxRecDepth 20000 in
theorem wo_Us_homeOf : (Cond.code y_Us_homeOf b_Us_homeOf 2 (some .int)) ∈ T0 := tw_3 203 rfl rfl
set_option maxRecDepth 20000 in
theorem wl_Ke_231 : (Cond.methodLink R_Ke 231 y_Us_directoryOf) ∈ T0 := tw_3 204 rfl rfl
set_option maxRecDepth 20000 in
theorem wm_Us_directoryOf : (Cond.instanceMethod y_Us_directoryOf) ∈ T0 := tw_3 205 rfl rfl
set_option maxRecDepth 20000 in
theorem we_Us_directoryOf : (Cond.selects R_Us y_Us_directoryOf y_Us_directoryOf) ∈ T0 := tw_3 206 rfl rfl
set_option maxRecDepth 20000 in
theorem wo_Us_directoryOf : (Cond.code y_Us_directoryOf b_Us_directoryOf 2 (some .int)) ∈ T0 := tw_3 207 rfl rfl
set_option maxRecDepth 20000 in
theorem wl_Ke_234 : (Cond.methodLink R_Ke 234 y_Ke_read) ∈ T0 := tw_3 208 rfl rfl
set_option maxRecDepth 20000 in
theorem wl_Ke_237 : (Cond.methodLink R_Ke 237 y_Ke_drop) ∈ T0 := tw_3 209 rfl rfl
set_option maxRecDepth 20000 in
theorem wl_Ke_240 : (Cond.methodLink R_Ke 240 y_Ke_write) ∈ T0 := tw_3 210 rfl rfl
set_option maxRecDepth 20000 in
theorem wl_La_157 : (Cond.methodLink R_La 157 y_La_access) ∈ T0 := tw_3 211 rfl rfl
set_option maxRecDepth 20000 in
theorem ws_La_access : (Cond.static y_La_access) ∈ T0 := tw_3 212 rfl rfl
set_option maxRecDepth 20000 in
theorem wl_La_77 : (Cond.methodLink R_La 77 y_Ke_access) ∈ T0 := tw_3 214 rfl rfl
set_option maxRecDepth 20000 in
theorem wm_Ke_access : (Cond.instanceMethod y_Ke_access) ∈ T0 := tw_3 215 rfl rfl
set_option maxRecDepth 20000 in
theorem we_Ke_access : (Cond.selects R_Ke y_Ke_access y_Ke_access) ∈ T0 := tw_3 216 rfl rfl
set_option maxRecDepth 20000 in
theorem wo_Ke_access : (Cond.code y_Ke_access b_Ke_access 9 (some .int)) ∈ T0 := tw_3 217 rfl rfl
set_option maxRecDepth 20000 in
theorem wl_La_169 : (Cond.methodLink R_La 169 y_La_object) ∈ T0 := tw_3 218 rfl rfl
set_option maxRecDepth 20000 in
theorem ws_La_object : (Cond.static y_La_object) ∈ T0 := tw_3 219 rfl rfl
set_option maxRecDepth 20000 in
theorem wl_La_81 : (Cond.methodLink R_La 81 y_Ke_object) ∈ T0 := tw_3 221 rfl rfl
set_option maxRecDepth 20000 in
theorem wm_Ke_object : (Cond.instanceMethod y_Ke_object) ∈ T0 := tw_3 222 rfl rfl
set_option maxRecDepth 20000 in
theorem we_Ke_object : (Cond.selects R_Ke y_Ke_object y_Ke_object) ∈ T0 := tw_3 223 rfl rfl
set_option maxRecDepth 20000 in
theorem wo_Ke_object : (Cond.code y_Ke_object b_Ke_object 3 (some .int)) ∈ T0 := tw_3 224 rfl rfl
set_option maxRecDepth 20000 in
theorem wl_Ke_251 : (Cond.methodLink R_Ke 251 y_Tg_kindOf) ∈ T0 := tw_3 225 rfl rfl
set_option maxRecDepth 20000 in
theorem wm_Tg_kindOf : (Cond.instanceMethod y_Tg_kindOf) ∈ T0 := tw_3 226 rfl rfl
set_option maxRecDepth 20000 in
theorem we_Tg_kindOf : (Cond.selects R_Tg y_Tg_kindOf y_Tg_kindOf) ∈ T0 := tw_3 227 rfl rfl
set_option maxRecDepth 20000 in
theorem wo_Tg_kindOf : (Cond.code y_Tg_kindOf b_Tg_kindOf 2 (some .int)) ∈ T0 := tw_3 228 rfl rfl
set_option maxRecDepth 20000 in
theorem wl_Ke_254 : (Cond.methodLink R_Ke 254 y_Tg_placeOf) ∈ T0 := tw_3 229 rfl rfl
set_option maxRecDepth 20000 in
theorem wm_Tg_placeOf : (Cond.instanceMethod y_Tg_placeOf) ∈ T0 := tw_3 230 rfl rfl
set_option maxRecDepth 20000 in
theorem we_Tg_placeOf : (Cond.selects R_Tg y_Tg_placeOf y_Tg_placeOf) ∈ T0 := tw_3 231 rfl rfl
set_option maxRecDepth 20000 in
theorem wo_Tg_placeOf : (Cond.code y_Tg_placeOf b_Tg_placeOf 2 (some .int)) ∈ T0 := tw_3 232 rfl rfl
set_option maxRecDepth 20000 in
theorem wl_La_172 : (Cond.methodLink R_La 172 y_La_in) ∈ T0 := tw_3 233 rfl rfl
set_option maxRecDepth 20000 in
theorem ws_La_in : (Cond.static y_La_in) ∈ T0 := tw_3 234 rfl rfl
set_option maxRecDepth 20000 in
theorem wl_La_84 : (Cond.methodLink R_La 84 y_Ke_in) ∈ T0 := tw_3 236 rfl rfl
set_option maxRecDepth 20000 in
theorem wm_Ke_in : (Cond.instanceMethod y_Ke_in) ∈ T0 := tw_3 237 rfl rfl
set_option maxRecDepth 20000 in
theorem we_Ke_in : (Cond.selects R_Ke y_Ke_in y_Ke_in) ∈ T0 := tw_3 238 rfl rfl
set_option maxRecDepth 20000 in
theorem wo_Ke_in : (Cond.code y_Ke_in b_Ke_in 4 (some .int)) ∈ T0 := tw_3 239 rfl rfl
set_option maxRecDepth 20000 in
theorem wl_Ke_260 : (Cond.methodLink R_Ke 260 y_Tg_nthIn) ∈ T0 := tw_4 0 rfl rfl
set_option maxRecDepth 20000 in
theorem wm_Tg_nthIn : (Cond.instanceMethod y_Tg_nthIn) ∈ T0 := tw_4 1 rfl rfl
set_option maxRecDepth 20000 in
theorem we_Tg_nthIn : (Cond.selects R_Tg y_Tg_nthIn y_Tg_nthIn) ∈ T0 := tw_4 2 rfl rfl
set_option maxRecDepth 20000 in
theorem wo_Tg_nthIn : (Cond.code y_Tg_nthIn b_Tg_nthIn 5 (some .int)) ∈ T0 := tw_4 3 rfl rfl
set_option maxRecDepth 20000 in
theorem wc_La_88 : (Cond.classLink R_La 88 R_Mo) ∈ T0 := tw_4 4 rfl rfl
set_option maxRecDepth 20000 in
theorem wn_Mo : (Cond.instantiable R_Mo 3) ∈ T0 := tw_4 5 rfl rfl
set_option maxRecDepth 20000 in
theorem wl_La_90 : (Cond.methodLink R_La 90 y_Mo_init) ∈ T0 := tw_4 6 rfl rfl
set_option maxRecDepth 20000 in
theorem wm_Mo_init : (Cond.instanceMethod y_Mo_init) ∈ T0 := tw_4 7 rfl rfl
set_option maxRecDepth 20000 in
theorem wo_Mo_init : (Cond.code y_Mo_init b_Mo_init 2 none) ∈ T0 := tw_4 8 rfl rfl
set_option maxRecDepth 20000 in
theorem wl_Mo_1 : (Cond.methodLink R_Mo 1 ⟨"java/lang/Object", "<init>", "()V"⟩) ∈ T0 := tw_4 9 rfl rfl
set_option maxRecDepth 20000 in
theorem wf_Mo_7 : (Cond.fieldLink R_Mo 7 "LabelKernelModel" "row" "[I") ∈ T0 := tw_4 10 rfl rfl
set_option maxRecDepth 20000 in
theorem wf_Mo_13 : (Cond.fieldLink R_Mo 13 "LabelKernelModel" "kept" "[I") ∈ T0 := tw_4 11 rfl rfl
set_option maxRecDepth 20000 in
theorem wf_Mo_16 : (Cond.fieldLink R_Mo 16 "LabelKernelModel" "code" "I") ∈ T0 := tw_4 12 rfl rfl
set_option maxRecDepth 20000 in
theorem wl_La_97 : (Cond.methodLink R_La 97 y_Mo_thrown) ∈ T0 := tw_4 20 rfl rfl
set_option maxRecDepth 20000 in
theorem wm_Mo_thrown : (Cond.instanceMethod y_Mo_thrown) ∈ T0 := tw_4 21 rfl rfl
set_option maxRecDepth 20000 in
theorem we_Mo_thrown : (Cond.selects R_Mo y_Mo_thrown y_Mo_thrown) ∈ T0 := tw_4 22 rfl rfl
set_option maxRecDepth 20000 in
theorem wo_Mo_thrown : (Cond.code y_Mo_thrown b_Mo_thrown 1 (some .int)) ∈ T0 := tw_4 23 rfl rfl
set_option maxRecDepth 20000 in
theorem wl_La_96 : (Cond.methodLink R_La 96 y_Mo_label) ∈ T0 := tw_4 24 rfl rfl
set_option maxRecDepth 20000 in
theorem wm_Mo_label : (Cond.instanceMethod y_Mo_label) ∈ T0 := tw_4 25 rfl rfl
set_option maxRecDepth 20000 in
theorem we_Mo_label : (Cond.selects R_Mo y_Mo_label y_Mo_label) ∈ T0 := tw_4 26 rfl rfl
set_option maxRecDepth 20000 in
theorem wo_Mo_label : (Cond.code y_Mo_label b_Mo_label 4 (some .int)) ∈ T0 := tw_4 27 rfl rfl
set_option maxRecDepth 20000 in
theorem wl_Mo_54 : (Cond.methodLink R_Mo 54 y_Mo_isLabel) ∈ T0 := tw_4 28 rfl rfl
set_option maxRecDepth 20000 in
theorem wm_Mo_isLabel : (Cond.instanceMethod y_Mo_isLabel) ∈ T0 := tw_4 30 rfl rfl
set_option maxRecDepth 20000 in
theorem wo_Mo_isLabel : (Cond.code y_Mo_isLabel b_Mo_isLabel 2 (some .boolean)) ∈ T0 := tw_4 31 rfl rfl
set_option maxRecDepth 20000 in
theorem wl_Mo_28 : (Cond.methodLink R_Mo 28 y_Mo_within) ∈ T0 := tw_4 32 rfl rfl
set_option maxRecDepth 20000 in
theorem ws_Mo_within : (Cond.static y_Mo_within) ∈ T0 := tw_4 33 rfl rfl
set_option maxRecDepth 20000 in
theorem wo_Mo_within : (Cond.code y_Mo_within b_Mo_within 3 (some .boolean)) ∈ T0 := tw_4 34 rfl rfl
set_option maxRecDepth 20000 in
theorem wl_Mo_51 : (Cond.methodLink R_Mo 51 y_Mo_fail) ∈ T0 := tw_4 35 rfl rfl
set_option maxRecDepth 20000 in
theorem wm_Mo_fail : (Cond.instanceMethod y_Mo_fail) ∈ T0 := tw_4 37 rfl rfl
set_option maxRecDepth 20000 in
theorem wo_Mo_fail : (Cond.code y_Mo_fail b_Mo_fail 2 (some .int)) ∈ T0 := tw_4 38 rfl rfl
set_option maxRecDepth 20000 in
theorem wl_Mo_57 : (Cond.methodLink R_Mo 57 y_Mo_made) ∈ T0 := tw_4 39 rfl rfl
set_option maxRecDepth 20000 in
theorem wm_Mo_made : (Cond.instanceMethod y_Mo_made) ∈ T0 := tw_4 41 rfl rfl
set_option maxRecDepth 20000 in
theorem wo_Mo_made : (Cond.code y_Mo_made b_Mo_made 6 (some .int)) ∈ T0 := tw_4 42 rfl rfl
set_option maxRecDepth 20000 in
theorem wl_Mo_47 : (Cond.methodLink R_Mo 47 y_Mo_like) ∈ T0 := tw_4 43 rfl rfl
set_option maxRecDepth 20000 in
theorem wm_Mo_like : (Cond.instanceMethod y_Mo_like) ∈ T0 := tw_4 45 rfl rfl
set_option maxRecDepth 20000 in
theorem wo_Mo_like : (Cond.code y_Mo_like b_Mo_like 7 (some .int)) ∈ T0 := tw_4 46 rfl rfl
set_option maxRecDepth 20000 in
theorem wl_Mo_20 : (Cond.methodLink R_Mo 20 y_Mo_lev) ∈ T0 := tw_4 47 rfl rfl
set_option maxRecDepth 20000 in
theorem wm_Mo_lev : (Cond.instanceMethod y_Mo_lev) ∈ T0 := tw_4 49 rfl rfl
set_option maxRecDepth 20000 in
theorem wo_Mo_lev : (Cond.code y_Mo_lev b_Mo_lev 3 (some .int)) ∈ T0 := tw_4 50 rfl rfl
set_option maxRecDepth 20000 in
theorem wl_La_104 : (Cond.methodLink R_La 104 y_Mo_level) ∈ T0 := tw_4 51 rfl rfl
set_option maxRecDepth 20000 in
theorem wm_Mo_level : (Cond.instanceMethod y_Mo_level) ∈ T0 := tw_4 52 rfl rfl
set_option maxRecDepth 20000 in
theorem we_Mo_level : (Cond.selects R_Mo y_Mo_level y_Mo_level) ∈ T0 := tw_4 53 rfl rfl
set_option maxRecDepth 20000 in
theorem wo_Mo_level : (Cond.code y_Mo_level b_Mo_level 3 (some .int)) ∈ T0 := tw_4 54 rfl rfl
set_option maxRecDepth 20000 in
theorem wl_La_108 : (Cond.methodLink R_La 108 y_Mo_fits) ∈ T0 := tw_4 55 rfl rfl
set_option maxRecDepth 20000 in
theorem wm_Mo_fits : (Cond.instanceMethod y_Mo_fits) ∈ T0 := tw_4 56 rfl rfl
set_option maxRecDepth 20000 in
theorem we_Mo_fits : (Cond.selects R_Mo y_Mo_fits y_Mo_fits) ∈ T0 := tw_4 57 rfl rfl
set_option maxRecDepth 20000 in
theorem wo_Mo_fits : (Cond.code y_Mo_fits b_Mo_fits 4 (some .boolean)) ∈ T0 := tw_4 58 rfl rfl
set_option maxRecDepth 20000 in
theorem wl_Mo_35 : (Cond.methodLink R_Mo 35 y_Mo_under) ∈ T0 := tw_4 59 rfl rfl
set_option maxRecDepth 20000 in
theorem wm_Mo_under : (Cond.instanceMethod y_Mo_under) ∈ T0 := tw_4 61 rfl rfl
set_option maxRecDepth 20000 in
theorem wo_Mo_under : (Cond.code y_Mo_under b_Mo_under 6 (some .boolean)) ∈ T0 := tw_4 62 rfl rfl
set_option maxRecDepth 20000 in
theorem wl_Mo_24 : (Cond.methodLink R_Mo 24 y_Mo_low) ∈ T0 := tw_4 63 rfl rfl
set_option maxRecDepth 20000 in
theorem ws_Mo_low : (Cond.static y_Mo_low) ∈ T0 := tw_4 64 rfl rfl
set_option maxRecDepth 20000 in
theorem wo_Mo_low : (Cond.code y_Mo_low b_Mo_low 1 (some .int)) ∈ T0 := tw_4 65 rfl rfl
set_option maxRecDepth 20000 in
theorem wl_La_112 : (Cond.methodLink R_La 112 y_Mo_category) ∈ T0 := tw_4 66 rfl rfl
set_option maxRecDepth 20000 in
theorem wm_Mo_category : (Cond.instanceMethod y_Mo_category) ∈ T0 := tw_4 67 rfl rfl
set_option maxRecDepth 20000 in
theorem we_Mo_category : (Cond.selects R_Mo y_Mo_category y_Mo_category) ∈ T0 := tw_4 68 rfl rfl
set_option maxRecDepth 20000 in
theorem wo_Mo_category : (Cond.code y_Mo_category b_Mo_category 2 (some .int)) ∈ T0 := tw_4 69 rfl rfl
set_option maxRecDepth 20000 in
theorem wl_Mo_63 : (Cond.methodLink R_Mo 63 y_Mo_giveCategory) ∈ T0 := tw_4 70 rfl rfl
set_option maxRecDepth 20000 in
theorem wm_Mo_giveCategory : (Cond.instanceMethod y_Mo_giveCategory) ∈ T0 := tw_4 72 rfl rfl
set_option maxRecDepth 20000 in
theorem wo_Mo_giveCategory : (Cond.code y_Mo_giveCategory b_Mo_giveCategory 4 (some .int)) ∈ T0 := tw_4 73 rfl rfl
set_option maxRecDepth 20000 in
theorem wl_Mo_60 : (Cond.methodLink R_Mo 60 y_Mo_threadOnly) ∈ T0 := tw_4 74 rfl rfl
set_option maxRecDepth 20000 in
theorem wm_Mo_threadOnly : (Cond.instanceMethod y_Mo_threadOnly) ∈ T0 := tw_4 76 rfl rfl
set_option maxRecDepth 20000 in
theorem wo_Mo_threadOnly : (Cond.code y_Mo_threadOnly b_Mo_threadOnly 2 (some .boolean)) ∈ T0 := tw_4 77 rfl rfl
set_option maxRecDepth 20000 in
theorem wl_Mo_43 : (Cond.methodLink R_Mo 43 y_Mo_there) ∈ T0 := tw_4 78 rfl rfl
set_option maxRecDepth 20000 in
theorem wm_Mo_there : (Cond.instanceMethod y_Mo_there) ∈ T0 := tw_4 80 rfl rfl
set_option maxRecDepth 20000 in
theorem wo_Mo_there : (Cond.code y_Mo_there b_Mo_there 2 (some .boolean)) ∈ T0 := tw_4 81 rfl rfl
set_option maxRecDepth 20000 in
theorem wl_Mo_32 : (Cond.methodLink R_Mo 32 y_Mo_at) ∈ T0 := tw_4 82 rfl rfl
set_option maxRecDepth 20000 in
theorem wm_Mo_at : (Cond.instanceMethod y_Mo_at) ∈ T0 := tw_4 84 rfl rfl
set_option maxRecDepth 20000 in
theorem wo_Mo_at : (Cond.code y_Mo_at b_Mo_at 3 (some .int)) ∈ T0 := tw_4 85 rfl rfl
set_option maxRecDepth 20000 in
theorem wl_La_116 : (Cond.methodLink R_La 116 y_Mo_container) ∈ T0 := tw_4 86 rfl rfl
set_option maxRecDepth 20000 in
theorem wm_Mo_container : (Cond.instanceMethod y_Mo_container) ∈ T0 := tw_4 87 rfl rfl
set_option maxRecDepth 20000 in
theorem we_Mo_container : (Cond.selects R_Mo y_Mo_container y_Mo_container) ∈ T0 := tw_4 88 rfl rfl
set_option maxRecDepth 20000 in
theorem wo_Mo_container : (Cond.code y_Mo_container b_Mo_container 5 (some .int)) ∈ T0 := tw_4 89 rfl rfl
set_option maxRecDepth 20000 in
theorem wl_Mo_88 : (Cond.methodLink R_Mo 88 y_Mo_makeContainer) ∈ T0 := tw_4 90 rfl rfl
set_option maxRecDepth 20000 in
theorem wm_Mo_makeContainer : (Cond.instanceMethod y_Mo_makeContainer) ∈ T0 := tw_4 92 rfl rfl
set_option maxRecDepth 20000 in
theorem wo_Mo_makeContainer : (Cond.code y_Mo_makeContainer b_Mo_makeContainer 5 (some .int)) ∈ T0 := tw_4 93 rfl rfl
set_option maxRecDepth 20000 in
theorem wl_Mo_81 : (Cond.methodLink R_Mo 81 y_Mo_starless) ∈ T0 := tw_4 94 rfl rfl
set_option maxRecDepth 20000 in
theorem wm_Mo_starless : (Cond.instanceMethod y_Mo_starless) ∈ T0 := tw_4 96 rfl rfl
set_option maxRecDepth 20000 in
theorem wo_Mo_starless : (Cond.code y_Mo_starless b_Mo_starless 3 (some .boolean)) ∈ T0 := tw_4 97 rfl rfl
set_option maxRecDepth 20000 in
theorem wl_Mo_84 : (Cond.methodLink R_Mo 84 y_Mo_make) ∈ T0 := tw_4 98 rfl rfl
set_option maxRecDepth 20000 in
theorem wm_Mo_make : (Cond.instanceMethod y_Mo_make) ∈ T0 := tw_4 100 rfl rfl
set_option maxRecDepth 20000 in
theorem wo_Mo_make : (Cond.code y_Mo_make b_Mo_make 10 (some .int)) ∈ T0 := tw_4 101 rfl rfl
set_option maxRecDepth 20000 in
theorem wl_Mo_69 : (Cond.methodLink R_Mo 69 y_Mo_changes) ∈ T0 := tw_4 102 rfl rfl
set_option maxRecDepth 20000 in
theorem wm_Mo_changes : (Cond.instanceMethod y_Mo_changes) ∈ T0 := tw_4 104 rfl rfl
set_option maxRecDepth 20000 in
theorem wo_Mo_changes : (Cond.code y_Mo_changes b_Mo_changes 3 (some .boolean)) ∈ T0 := tw_4 105 rfl rfl
set_option maxRecDepth 20000 in
theorem wl_Mo_39 : (Cond.methodLink R_Mo 39 y_Mo_sees) ∈ T0 := tw_4 106 rfl rfl
set_option maxRecDepth 20000 in
theorem wm_Mo_sees : (Cond.instanceMethod y_Mo_sees) ∈ T0 := tw_4 108 rfl rfl
set_option maxRecDepth 20000 in
theorem wo_Mo_sees : (Cond.code y_Mo_sees b_Mo_sees 3 (some .boolean)) ∈ T0 := tw_4 109 rfl rfl
set_option maxRecDepth 20000 in
theorem wl_Mo_72 : (Cond.methodLink R_Mo 72 y_Mo_starsOf) ∈ T0 := tw_4 110 rfl rfl
set_option maxRecDepth 20000 in
theorem wm_Mo_starsOf : (Cond.instanceMethod y_Mo_starsOf) ∈ T0 := tw_4 112 rfl rfl
set_option maxRecDepth 20000 in
theorem wo_Mo_starsOf : (Cond.code y_Mo_starsOf b_Mo_starsOf 4 (some .boolean)) ∈ T0 := tw_4 113 rfl rfl
set_option maxRecDepth 20000 in
theorem wl_Mo_66 : (Cond.methodLink R_Mo 66 y_Mo_starsWithin) ∈ T0 := tw_4 114 rfl rfl
set_option maxRecDepth 20000 in
theorem ws_Mo_starsWithin : (Cond.static y_Mo_starsWithin) ∈ T0 := tw_4 115 rfl rfl
set_option maxRecDepth 20000 in
theorem wo_Mo_starsWithin : (Cond.code y_Mo_starsWithin b_Mo_starsWithin 2 (some .boolean)) ∈ T0 := tw_4 116 rfl rfl
set_option maxRecDepth 20000 in
theorem wl_Mo_75 : (Cond.methodLink R_Mo 75 y_Mo_use) ∈ T0 := tw_4 117 rfl rfl
set_option maxRecDepth 20000 in
theorem wm_Mo_use : (Cond.instanceMethod y_Mo_use) ∈ T0 := tw_4 119 rfl rfl
set_option maxRecDepth 20000 in
theorem wo_Mo_use : (Cond.code y_Mo_use b_Mo_use 4 (some .int)) ∈ T0 := tw_4 120 rfl rfl
set_option maxRecDepth 20000 in
theorem wl_Mo_78 : (Cond.methodLink R_Mo 78 y_Mo_deep) ∈ T0 := tw_4 121 rfl rfl
set_option maxRecDepth 20000 in
theorem wm_Mo_deep : (Cond.instanceMethod y_Mo_deep) ∈ T0 := tw_4 123 rfl rfl
set_option maxRecDepth 20000 in
theorem wo_Mo_deep : (Cond.code y_Mo_deep b_Mo_deep 4 (some .int)) ∈ T0 := tw_4 124 rfl rfl
set_option maxRecDepth 20000 in
theorem wl_La_119 : (Cond.methodLink R_La 119 y_Mo_segment) ∈ T0 := tw_4 125 rfl rfl
set_option maxRecDepth 20000 in
theorem wm_Mo_segment : (Cond.instanceMethod y_Mo_segment) ∈ T0 := tw_4 126 rfl rfl
set_option maxRecDepth 20000 in
theorem we_Mo_segment : (Cond.selects R_Mo y_Mo_segment y_Mo_segment) ∈ T0 := tw_4 127 rfl rfl
set_option maxRecDepth 20000 in
theorem wo_Mo_segment : (Cond.code y_Mo_segment b_Mo_segment 5 (some .int)) ∈ T0 := tw_4 128 rfl rfl
set_option maxRecDepth 20000 in
theorem wl_Mo_92 : (Cond.methodLink R_Mo 92 y_Mo_makeSegment) ∈ T0 := tw_4 129 rfl rfl
set_option maxRecDepth 20000 in
theorem wm_Mo_makeSegment : (Cond.instanceMethod y_Mo_makeSegment) ∈ T0 := tw_4 131 rfl rfl
set_option maxRecDepth 20000 in
theorem wo_Mo_makeSegment : (Cond.code y_Mo_makeSegment b_Mo_makeSegment 6 (some .int)) ∈ T0 := tw_4 132 rfl rfl
set_option maxRecDepth 20000 in
theorem wl_La_123 : (Cond.methodLink R_La 123 y_Mo_gate) ∈ T0 := tw_4 133 rfl rfl
set_option maxRecDepth 20000 in
theorem wm_Mo_gate : (Cond.instanceMethod y_Mo_gate) ∈ T0 := tw_4 134 rfl rfl
set_option maxRecDepth 20000 in
theorem we_Mo_gate : (Cond.selects R_Mo y_Mo_gate y_Mo_gate) ∈ T0 := tw_4 135 rfl rfl
set_option maxRecDepth 20000 in
theorem wo_Mo_gate : (Cond.code y_Mo_gate b_Mo_gate 6 (some .int)) ∈ T0 := tw_4 136 rfl rfl
set_option maxRecDepth 20000 in
theorem wl_Mo_95 : (Cond.methodLink R_Mo 95 y_Mo_makeGate) ∈ T0 := tw_4 137 rfl rfl
set_option maxRecDepth 20000 in
theorem wm_Mo_makeGate : (Cond.instanceMethod y_Mo_makeGate) ∈ T0 := tw_4 139 rfl rfl
set_option maxRecDepth 20000 in
theorem wo_Mo_makeGate : (Cond.code y_Mo_makeGate b_Mo_makeGate 7 (some .int)) ∈ T0 := tw_4 140 rfl rfl
set_option maxRecDepth 20000 in
theorem wl_La_126 : (Cond.methodLink R_La 126 y_Mo_thread) ∈ T0 := tw_4 141 rfl rfl
set_option maxRecDepth 20000 in
theorem wm_Mo_thread : (Cond.instanceMethod y_Mo_thread) ∈ T0 := tw_4 142 rfl rfl
set_option maxRecDepth 20000 in
theorem we_Mo_thread : (Cond.selects R_Mo y_Mo_thread y_Mo_thread) ∈ T0 := tw_4 143 rfl rfl
set_option maxRecDepth 20000 in
theorem wo_Mo_thread : (Cond.code y_Mo_thread b_Mo_thread 5 (some .int)) ∈ T0 := tw_4 144 rfl rfl
set_option maxRecDepth 20000 in
theorem wl_La_129 : (Cond.methodLink R_La 129 y_Mo_read) ∈ T0 := tw_4 145 rfl rfl
set_option maxRecDepth 20000 in
theorem wm_Mo_read : (Cond.instanceMethod y_Mo_read) ∈ T0 := tw_4 146 rfl rfl
set_option maxRecDepth 20000 in
theorem we_Mo_read : (Cond.selects R_Mo y_Mo_read y_Mo_read) ∈ T0 := tw_4 147 rfl rfl
set_option maxRecDepth 20000 in
theorem wo_Mo_read : (Cond.code y_Mo_read b_Mo_read 5 (some .int)) ∈ T0 := tw_4 148 rfl rfl
set_option maxRecDepth 20000 in
theorem wl_Mo_103 : (Cond.methodLink R_Mo 103 y_Mo_cell) ∈ T0 := tw_4 149 rfl rfl
set_option maxRecDepth 20000 in
theorem wm_Mo_cell : (Cond.instanceMethod y_Mo_cell) ∈ T0 := tw_4 151 rfl rfl
set_option maxRecDepth 20000 in
theorem wo_Mo_cell : (Cond.code y_Mo_cell b_Mo_cell 9 (some .int)) ∈ T0 := tw_4 152 rfl rfl
set_option maxRecDepth 20000 in
theorem wl_Mo_99 : (Cond.methodLink R_Mo 99 y_Mo_named) ∈ T0 := tw_4 153 rfl rfl
set_option maxRecDepth 20000 in
theorem wm_Mo_named : (Cond.instanceMethod y_Mo_named) ∈ T0 := tw_4 155 rfl rfl
set_option maxRecDepth 20000 in
theorem wo_Mo_named : (Cond.code y_Mo_named b_Mo_named 5 (some .boolean)) ∈ T0 := tw_4 156 rfl rfl
set_option maxRecDepth 20000 in
theorem wl_La_132 : (Cond.methodLink R_La 132 y_Mo_write) ∈ T0 := tw_4 157 rfl rfl
set_option maxRecDepth 20000 in
theorem wm_Mo_write : (Cond.instanceMethod y_Mo_write) ∈ T0 := tw_4 158 rfl rfl
set_option maxRecDepth 20000 in
theorem we_Mo_write : (Cond.selects R_Mo y_Mo_write y_Mo_write) ∈ T0 := tw_4 159 rfl rfl
set_option maxRecDepth 20000 in
theorem wo_Mo_write : (Cond.code y_Mo_write b_Mo_write 6 (some .int)) ∈ T0 := tw_4 160 rfl rfl
set_option maxRecDepth 20000 in
theorem wl_La_135 : (Cond.methodLink R_La 135 y_Mo_move) ∈ T0 := tw_4 161 rfl rfl
set_option maxRecDepth 20000 in
theorem wm_Mo_move : (Cond.instanceMethod y_Mo_move) ∈ T0 := tw_4 162 rfl rfl
set_option maxRecDepth 20000 in
theorem we_Mo_move : (Cond.selects R_Mo y_Mo_move y_Mo_move) ∈ T0 := tw_4 163 rfl rfl
set_option maxRecDepth 20000 in
theorem wo_Mo_move : (Cond.code y_Mo_move b_Mo_move 5 (some .int)) ∈ T0 := tw_4 164 rfl rfl
set_option maxRecDepth 20000 in
theorem wl_La_138 : (Cond.methodLink R_La 138 y_Mo_drop) ∈ T0 := tw_4 165 rfl rfl
set_option maxRecDepth 20000 in
theorem wm_Mo_drop : (Cond.instanceMethod y_Mo_drop) ∈ T0 := tw_4 166 rfl rfl
set_option maxRecDepth 20000 in
theorem we_Mo_drop : (Cond.selects R_Mo y_Mo_drop y_Mo_drop) ∈ T0 := tw_4 167 rfl rfl
set_option maxRecDepth 20000 in
theorem wo_Mo_drop : (Cond.code y_Mo_drop b_Mo_drop 4 (some .int)) ∈ T0 := tw_4 168 rfl rfl
set_option maxRecDepth 20000 in
theorem wl_Mo_107 : (Cond.methodLink R_Mo 107 y_Mo_remove) ∈ T0 := tw_4 169 rfl rfl
set_option maxRecDepth 20000 in
theorem wm_Mo_remove : (Cond.instanceMethod y_Mo_remove) ∈ T0 := tw_4 171 rfl rfl
set_option maxRecDepth 20000 in
theorem wo_Mo_remove : (Cond.code y_Mo_remove b_Mo_remove 6 (some .int)) ∈ T0 := tw_4 172 rfl rfl
set_option maxRecDepth 20000 in
theorem wl_La_141 : (Cond.methodLink R_La 141 y_Mo_become) ∈ T0 := tw_4 173 rfl rfl
set_option maxRecDepth 20000 in
theorem wm_Mo_become : (Cond.instanceMethod y_Mo_become) ∈ T0 := tw_4 174 rfl rfl
set_option maxRecDepth 20000 in
theorem we_Mo_become : (Cond.selects R_Mo y_Mo_become y_Mo_become) ∈ T0 := tw_4 175 rfl rfl
set_option maxRecDepth 20000 in
theorem wo_Mo_become : (Cond.code y_Mo_become b_Mo_become 3 (some .int)) ∈ T0 := tw_4 176 rfl rfl
set_option maxRecDepth 20000 in
theorem wl_La_144 : (Cond.methodLink R_La 144 y_Mo_lower) ∈ T0 := tw_4 177 rfl rfl
set_option maxRecDepth 20000 in
theorem wm_Mo_lower : (Cond.instanceMethod y_Mo_lower) ∈ T0 := tw_4 178 rfl rfl
set_option maxRecDepth 20000 in
theorem we_Mo_lower : (Cond.selects R_Mo y_Mo_lower y_Mo_lower) ∈ T0 := tw_4 179 rfl rfl
set_option maxRecDepth 20000 in
theorem wo_Mo_lower : (Cond.code y_Mo_lower b_Mo_lower 3 (some .int)) ∈ T0 := tw_4 180 rfl rfl
set_option maxRecDepth 20000 in
theorem wl_La_147 : (Cond.methodLink R_La 147 y_Mo_enter) ∈ T0 := tw_4 181 rfl rfl
set_option maxRecDepth 20000 in
theorem wm_Mo_enter : (Cond.instanceMethod y_Mo_enter) ∈ T0 := tw_4 182 rfl rfl
set_option maxRecDepth 20000 in
theorem we_Mo_enter : (Cond.selects R_Mo y_Mo_enter y_Mo_enter) ∈ T0 := tw_4 183 rfl rfl
set_option maxRecDepth 20000 in
theorem wo_Mo_enter : (Cond.code y_Mo_enter b_Mo_enter 6 (some .int)) ∈ T0 := tw_4 184 rfl rfl
set_option maxRecDepth 20000 in
theorem wl_Mo_113 : (Cond.methodLink R_Mo 113 y_Mo_go) ∈ T0 := tw_4 185 rfl rfl
set_option maxRecDepth 20000 in
theorem wm_Mo_go : (Cond.instanceMethod y_Mo_go) ∈ T0 := tw_4 187 rfl rfl
set_option maxRecDepth 20000 in
theorem wo_Mo_go : (Cond.code y_Mo_go b_Mo_go 6 (some .int)) ∈ T0 := tw_4 188 rfl rfl
set_option maxRecDepth 20000 in
theorem wl_Mo_110 : (Cond.methodLink R_Mo 110 y_Mo_passes) ∈ T0 := tw_4 189 rfl rfl
set_option maxRecDepth 20000 in
theorem wm_Mo_passes : (Cond.instanceMethod y_Mo_passes) ∈ T0 := tw_4 191 rfl rfl
set_option maxRecDepth 20000 in
theorem wo_Mo_passes : (Cond.code y_Mo_passes b_Mo_passes 10 (some .boolean)) ∈ T0 := tw_4 192 rfl rfl
set_option maxRecDepth 20000 in
theorem wl_La_150 : (Cond.methodLink R_La 150 y_Mo_user) ∈ T0 := tw_4 193 rfl rfl
set_option maxRecDepth 20000 in
theorem wm_Mo_user : (Cond.instanceMethod y_Mo_user) ∈ T0 := tw_4 194 rfl rfl
set_option maxRecDepth 20000 in
theorem we_Mo_user : (Cond.selects R_Mo y_Mo_user y_Mo_user) ∈ T0 := tw_4 195 rfl rfl
set_option maxRecDepth 20000 in
theorem wo_Mo_user : (Cond.code y_Mo_user b_Mo_user 12 (some .int)) ∈ T0 := tw_4 196 rfl rfl
set_option maxRecDepth 20000 in
theorem wl_Mo_116 : (Cond.methodLink R_Mo 116 y_Mo_of) ∈ T0 := tw_4 197 rfl rfl
set_option maxRecDepth 20000 in
theorem wm_Mo_of : (Cond.instanceMethod y_Mo_of) ∈ T0 := tw_4 199 rfl rfl
set_option maxRecDepth 20000 in
theorem wo_Mo_of : (Cond.code y_Mo_of b_Mo_of 3 (some .int)) ∈ T0 := tw_4 200 rfl rfl
set_option maxRecDepth 20000 in
theorem wl_Mo_119 : (Cond.methodLink R_Mo 119 y_Mo_both) ∈ T0 := tw_4 201 rfl rfl
set_option maxRecDepth 20000 in
theorem wm_Mo_both : (Cond.instanceMethod y_Mo_both) ∈ T0 := tw_4 203 rfl rfl
set_option maxRecDepth 20000 in
theorem wo_Mo_both : (Cond.code y_Mo_both b_Mo_both 7 (some .int)) ∈ T0 := tw_4 204 rfl rfl
set_option maxRecDepth 20000 in
theorem wl_La_153 : (Cond.methodLink R_La 153 y_Mo_login) ∈ T0 := tw_4 205 rfl rfl
set_option maxRecDepth 20000 in
theorem wm_Mo_login : (Cond.instanceMethod y_Mo_login) ∈ T0 := tw_4 206 rfl rfl
set_option maxRecDepth 20000 in
theorem we_Mo_login : (Cond.selects R_Mo y_Mo_login y_Mo_login) ∈ T0 := tw_4 207 rfl rfl
set_option maxRecDepth 20000 in
theorem wo_Mo_login : (Cond.code y_Mo_login b_Mo_login 8 (some .int)) ∈ T0 := tw_4 208 rfl rfl
set_option maxRecDepth 20000 in
theorem wl_La_156 : (Cond.methodLink R_La 156 y_Mo_file) ∈ T0 := tw_4 209 rfl rfl
set_option maxRecDepth 20000 in
theorem wm_Mo_file : (Cond.instanceMethod y_Mo_file) ∈ T0 := tw_4 210 rfl rfl
set_option maxRecDepth 20000 in
theorem we_Mo_file : (Cond.selects R_Mo y_Mo_file y_Mo_file) ∈ T0 := tw_4 211 rfl rfl
set_option maxRecDepth 20000 in
theorem wo_Mo_file : (Cond.code y_Mo_file b_Mo_file 8 (some .int)) ∈ T0 := tw_4 212 rfl rfl
set_option maxRecDepth 20000 in
theorem wl_La_160 : (Cond.methodLink R_La 160 y_Mo_access) ∈ T0 := tw_4 213 rfl rfl
set_option maxRecDepth 20000 in
theorem wm_Mo_access : (Cond.instanceMethod y_Mo_access) ∈ T0 := tw_4 214 rfl rfl
set_option maxRecDepth 20000 in
theorem we_Mo_access : (Cond.selects R_Mo y_Mo_access y_Mo_access) ∈ T0 := tw_4 215 rfl rfl
set_option maxRecDepth 20000 in
theorem wo_Mo_access : (Cond.code y_Mo_access b_Mo_access 9 (some .int)) ∈ T0 := tw_4 216 rfl rfl
set_option maxRecDepth 20000 in
theorem wl_La_164 : (Cond.methodLink R_La 164 y_Mo_snapshot) ∈ T0 := tw_4 217 rfl rfl
set_option maxRecDepth 20000 in
theorem wm_Mo_snapshot : (Cond.instanceMethod y_Mo_snapshot) ∈ T0 := tw_4 218 rfl rfl
set_option maxRecDepth 20000 in
theorem we_Mo_snapshot : (Cond.selects R_Mo y_Mo_snapshot y_Mo_snapshot) ∈ T0 := tw_4 219 rfl rfl
set_option maxRecDepth 20000 in
theorem wo_Mo_snapshot : (Cond.code y_Mo_snapshot b_Mo_snapshot 2 (some .int)) ∈ T0 := tw_4 220 rfl rfl
set_option maxRecDepth 20000 in
theorem wl_Mo_122 : (Cond.methodLink R_Mo 122 y_Mo_objects) ∈ T0 := tw_4 221 rfl rfl
set_option maxRecDepth 20000 in
theorem wm_Mo_objects : (Cond.instanceMethod y_Mo_objects) ∈ T0 := tw_4 223 rfl rfl
set_option maxRecDepth 20000 in
theorem wo_Mo_objects : (Cond.code y_Mo_objects b_Mo_objects 3 (some .int)) ∈ T0 := tw_4 224 rfl rfl
set_option maxRecDepth 20000 in
theorem wl_La_168 : (Cond.methodLink R_La 168 y_Mo_crash) ∈ T0 := tw_4 225 rfl rfl
set_option maxRecDepth 20000 in
theorem wm_Mo_crash : (Cond.instanceMethod y_Mo_crash) ∈ T0 := tw_4 226 rfl rfl
set_option maxRecDepth 20000 in
theorem we_Mo_crash : (Cond.selects R_Mo y_Mo_crash y_Mo_crash) ∈ T0 := tw_4 227 rfl rfl
set_option maxRecDepth 20000 in
theorem wo_Mo_crash : (Cond.code y_Mo_crash b_Mo_crash 2 (some .int)) ∈ T0 := tw_4 228 rfl rfl
set_option maxRecDepth 20000 in
theorem wl_La_171 : (Cond.methodLink R_La 171 y_Mo_object) ∈ T0 := tw_4 229 rfl rfl
set_option maxRecDepth 20000 in
theorem wm_Mo_object : (Cond.instanceMethod y_Mo_object) ∈ T0 := tw_4 230 rfl rfl
set_option maxRecDepth 20000 in
theorem we_Mo_object : (Cond.selects R_Mo y_Mo_object y_Mo_object) ∈ T0 := tw_4 231 rfl rfl
set_option maxRecDepth 20000 in
theorem wo_Mo_object : (Cond.code y_Mo_object b_Mo_object 3 (some .int)) ∈ T0 := tw_4 232 rfl rfl
set_option maxRecDepth 20000 in
theorem wl_La_174 : (Cond.methodLink R_La 174 y_Mo_in) ∈ T0 := tw_4 233 rfl rfl
set_option maxRecDepth 20000 in
theorem wm_Mo_in : (Cond.instanceMethod y_Mo_in) ∈ T0 := tw_4 234 rfl rfl
set_option maxRecDepth 20000 in
theorem we_Mo_in : (Cond.selects R_Mo y_Mo_in y_Mo_in) ∈ T0 := tw_4 235 rfl rfl
set_option maxRecDepth 20000 in
theorem wo_Mo_in : (Cond.code y_Mo_in b_Mo_in 5 (some .int)) ∈ T0 := tw_4 236 rfl rfl
set_option maxRecDepth 20000 in
theorem wl_La_178 : (Cond.methodLink R_La 178 y_Mo_count) ∈ T0 := tw_4 237 rfl rfl
set_option maxRecDepth 20000 in
theorem wm_Mo_count : (Cond.instanceMethod y_Mo_count) ∈ T0 := tw_4 238 rfl rfl
set_option maxRecDepth 20000 in
theorem we_Mo_count : (Cond.selects R_Mo y_Mo_count y_Mo_count) ∈ T0 := tw_4 239 rfl rfl
set_option maxRecDepth 20000 in
theorem wo_Mo_count : (Cond.code y_Mo_count b_Mo_count 4 (some .int)) ∈ T0 := tw_5 0 rfl rfl
set_option maxRecDepth 20000 in
theorem wa_long : (Cond.arrayClass .long) ∈ T0 := tw_5 1 rfl rfl
theorem we_Lb_indexOf : (Cond.selects R_Lb y_Lb_indexOf y_Lb_indexOf) ∈ T0 := tw_s 1 rfl rfl
theorem we_Ke_needThread : (Cond.selects R_Ke y_Ke_needThread y_Ke_needThread) ∈ T0 := tw_s 2 rfl rfl
theorem we_Ke_needThreadAndContainer : (Cond.selects R_Ke y_Ke_needThreadAndContainer y_Ke_needThreadAndContainer) ∈ T0 := tw_s 3 rfl rfl
theorem we_Ke_needMayMake : (Cond.selects R_Ke y_Ke_needMayMake y_Ke_needMayMake) ∈ T0 := tw_s 4 rfl rfl
theorem we_Ke_mayChange : (Cond.selects R_Ke y_Ke_mayChange y_Ke_mayChange) ∈ T0 := tw_s 5 rfl rfl
theorem we_Ke_maySee : (Cond.selects R_Ke y_Ke_maySee y_Ke_maySee) ∈ T0 := tw_s 6 rfl rfl
theorem we_Ke_mayBear : (Cond.selects R_Ke y_Ke_mayBear y_Ke_mayBear) ∈ T0 := tw_s 7 rfl rfl
theorem we_Ke_needRoomIn : (Cond.selects R_Ke y_Ke_needRoomIn y_Ke_needRoomIn) ∈ T0 := tw_s 8 rfl rfl
theorem we_Tg_quotasIn : (Cond.selects R_Tg y_Tg_quotasIn y_Tg_quotasIn) ∈ T0 := tw_s 9 rfl rfl
theorem we_Ke_needCell : (Cond.selects R_Ke y_Ke_needCell y_Ke_needCell) ∈ T0 := tw_s 10 rfl rfl
theorem we_Ke_needThere : (Cond.selects R_Ke y_Ke_needThere y_Ke_needThere) ∈ T0 := tw_s 11 rfl rfl
theorem we_Ke_needObjectIn : (Cond.selects R_Ke y_Ke_needObjectIn y_Ke_needObjectIn) ∈ T0 := tw_s 12 rfl rfl
theorem we_Lb_isJoinAt : (Cond.selects R_Lb y_Lb_isJoinAt y_Lb_isJoinAt) ∈ T0 := tw_s 13 rfl rfl
theorem we_Mo_isLabel : (Cond.selects R_Mo y_Mo_isLabel y_Mo_isLabel) ∈ T0 := tw_s 14 rfl rfl
theorem we_Mo_fail : (Cond.selects R_Mo y_Mo_fail y_Mo_fail) ∈ T0 := tw_s 15 rfl rfl
theorem we_Mo_made : (Cond.selects R_Mo y_Mo_made y_Mo_made) ∈ T0 := tw_s 16 rfl rfl
theorem we_Mo_like : (Cond.selects R_Mo y_Mo_like y_Mo_like) ∈ T0 := tw_s 17 rfl rfl
theorem we_Mo_lev : (Cond.selects R_Mo y_Mo_lev y_Mo_lev) ∈ T0 := tw_s 18 rfl rfl
theorem we_Mo_under : (Cond.selects R_Mo y_Mo_under y_Mo_under) ∈ T0 := tw_s 19 rfl rfl
theorem we_Mo_giveCategory : (Cond.selects R_Mo y_Mo_giveCategory y_Mo_giveCategory) ∈ T0 := tw_s 20 rfl rfl
theorem we_Mo_threadOnly : (Cond.selects R_Mo y_Mo_threadOnly y_Mo_threadOnly) ∈ T0 := tw_s 21 rfl rfl
theorem we_Mo_there : (Cond.selects R_Mo y_Mo_there y_Mo_there) ∈ T0 := tw_s 22 rfl rfl
theorem we_Mo_at : (Cond.selects R_Mo y_Mo_at y_Mo_at) ∈ T0 := tw_s 23 rfl rfl
theorem we_Mo_makeContainer : (Cond.selects R_Mo y_Mo_makeContainer y_Mo_makeContainer) ∈ T0 := tw_s 24 rfl rfl
theorem we_Mo_starless : (Cond.selects R_Mo y_Mo_starless y_Mo_starless) ∈ T0 := tw_s 25 rfl rfl
theorem we_Mo_make : (Cond.selects R_Mo y_Mo_make y_Mo_make) ∈ T0 := tw_s 26 rfl rfl
theorem we_Mo_changes : (Cond.selects R_Mo y_Mo_changes y_Mo_changes) ∈ T0 := tw_s 27 rfl rfl
theorem we_Mo_sees : (Cond.selects R_Mo y_Mo_sees y_Mo_sees) ∈ T0 := tw_s 28 rfl rfl
theorem we_Mo_starsOf : (Cond.selects R_Mo y_Mo_starsOf y_Mo_starsOf) ∈ T0 := tw_s 29 rfl rfl
theorem we_Mo_use : (Cond.selects R_Mo y_Mo_use y_Mo_use) ∈ T0 := tw_s 30 rfl rfl
theorem we_Mo_deep : (Cond.selects R_Mo y_Mo_deep y_Mo_deep) ∈ T0 := tw_s 31 rfl rfl
theorem we_Mo_makeSegment : (Cond.selects R_Mo y_Mo_makeSegment y_Mo_makeSegment) ∈ T0 := tw_s 32 rfl rfl
theorem we_Mo_makeGate : (Cond.selects R_Mo y_Mo_makeGate y_Mo_makeGate) ∈ T0 := tw_s 33 rfl rfl
theorem we_Mo_cell : (Cond.selects R_Mo y_Mo_cell y_Mo_cell) ∈ T0 := tw_s 34 rfl rfl
theorem we_Mo_named : (Cond.selects R_Mo y_Mo_named y_Mo_named) ∈ T0 := tw_s 35 rfl rfl
theorem we_Mo_remove : (Cond.selects R_Mo y_Mo_remove y_Mo_remove) ∈ T0 := tw_s 36 rfl rfl
theorem we_Mo_go : (Cond.selects R_Mo y_Mo_go y_Mo_go) ∈ T0 := tw_s 37 rfl rfl
theorem we_Mo_passes : (Cond.selects R_Mo y_Mo_passes y_Mo_passes) ∈ T0 := tw_s 38 rfl rfl
theorem we_Mo_of : (Cond.selects R_Mo y_Mo_of y_Mo_of) ∈ T0 := tw_s 39 rfl rfl
theorem we_Mo_both : (Cond.selects R_Mo y_Mo_both y_Mo_both) ∈ T0 := tw_s 40 rfl rfl
theorem we_Mo_objects : (Cond.selects R_Mo y_Mo_objects y_Mo_objects) ∈ T0 := tw_s 41 rfl rfl
theorem wu_Lb : ∀ w ∈ u_ws R_Lb T_Lb 2, w ∈ T0 := by decide +kernel
theorem wu_Sn : ∀ w ∈ u_ws R_Sn T_Sn 4, w ∈ T0 := by decide +kernel
theorem wu_Tg : ∀ w ∈ u_ws R_Tg T_Tg 12, w ∈ T0 := by decide +kernel
theorem wu_Us : ∀ w ∈ u_ws R_Us T_Us 7, w ∈ T0 := by decide +kernel
theorem wu_Ke : ∀ w ∈ u_ws R_Ke T_Ke 5, w ∈ T0 := by decide +kernel
theorem wu_Mo : ∀ w ∈ u_ws R_Mo T_Mo 3, w ∈ T0 := by decide +kernel
theorem wq_Lb_takeFrom : y_Lb_takeFrom.cls = R_Lb ∧ y_Lb_takeFrom.cls ≠ "java/lang/invoke/MethodHandle" ∧ y_Lb_takeFrom.cls ≠ "java/lang/invoke/VarHandle" ∧ (parseMethodDescriptor y_Lb_takeFrom.desc).map (fun d => d.parameters.length) = some 1 := by decide +kernel
theorem wq_Lb_howMany : y_Lb_howMany.cls = R_Lb ∧ y_Lb_howMany.cls ≠ "java/lang/invoke/MethodHandle" ∧ y_Lb_howMany.cls ≠ "java/lang/invoke/VarHandle" ∧ (parseMethodDescriptor y_Lb_howMany.desc).map (fun d => d.parameters.length) = some 0 := by decide +kernel
theorem wq_Lb_free : y_Lb_free.cls = R_Lb ∧ y_Lb_free.cls ≠ "java/lang/invoke/MethodHandle" ∧ y_Lb_free.cls ≠ "java/lang/invoke/VarHandle" ∧ (parseMethodDescriptor y_Lb_free.desc).map (fun d => d.parameters.length) = some 0 := by decide +kernel
theorem wq_Lb_has : y_Lb_has.cls = R_Lb ∧ y_Lb_has.cls ≠ "java/lang/invoke/MethodHandle" ∧ y_Lb_has.cls ≠ "java/lang/invoke/VarHandle" ∧ (parseMethodDescriptor y_Lb_has.desc).map (fun d => d.parameters.length) = some 1 := by decide +kernel
theorem wq_Lb_isStarless : y_Lb_isStarless.cls = R_Lb ∧ y_Lb_isStarless.cls ≠ "java/lang/invoke/MethodHandle" ∧ y_Lb_isStarless.cls ≠ "java/lang/invoke/VarHandle" ∧ (parseMethodDescriptor y_Lb_isStarless.desc).map (fun d => d.parameters.length) = some 1 := by decide +kernel
theorem wq_Lb_hasStarsOnlyOf : y_Lb_hasStarsOnlyOf.cls = R_Lb ∧ y_Lb_hasStarsOnlyOf.cls ≠ "java/lang/invoke/MethodHandle" ∧ y_Lb_hasStarsOnlyOf.cls ≠ "java/lang/invoke/VarHandle" ∧ (parseMethodDescriptor y_Lb_hasStarsOnlyOf.desc).map (fun d => d.parameters.length) = some 2 := by decide +kernel
theorem wq_Lb_levelAt : y_Lb_levelAt.cls = R_Lb ∧ y_Lb_levelAt.cls ≠ "java/lang/invoke/MethodHandle" ∧ y_Lb_levelAt.cls ≠ "java/lang/invoke/VarHandle" ∧ (parseMethodDescriptor y_Lb_levelAt.desc).map (fun d => d.parameters.length) = some 2 := by decide +kernel
theorem wq_Lb_low : y_Lb_low.cls = R_Lb ∧ y_Lb_low.cls ≠ "java/lang/invoke/MethodHandle" ∧ y_Lb_low.cls ≠ "java/lang/invoke/VarHandle" ∧ (parseMethodDescriptor y_Lb_low.desc).map (fun d => d.parameters.length) = some 1 := by decide +kernel
theorem wq_Lb_fitsUnder : y_Lb_fitsUnder.cls = R_Lb ∧ y_Lb_fitsUnder.cls ≠ "java/lang/invoke/MethodHandle" ∧ y_Lb_fitsUnder.cls ≠ "java/lang/invoke/VarHandle" ∧ (parseMethodDescriptor y_Lb_fitsUnder.desc).map (fun d => d.parameters.length) = some 2 := by decide +kernel
theorem wq_Lb_fitsHigh : y_Lb_fitsHigh.cls = R_Lb ∧ y_Lb_fitsHigh.cls ≠ "java/lang/invoke/MethodHandle" ∧ y_Lb_fitsHigh.cls ≠ "java/lang/invoke/VarHandle" ∧ (parseMethodDescriptor y_Lb_fitsHigh.desc).map (fun d => d.parameters.length) = some 2 := by decide +kernel
theorem wq_Lb_isJoinOf : y_Lb_isJoinOf.cls = R_Lb ∧ y_Lb_isJoinOf.cls ≠ "java/lang/invoke/MethodHandle" ∧ y_Lb_isJoinOf.cls ≠ "java/lang/invoke/VarHandle" ∧ (parseMethodDescriptor y_Lb_isJoinOf.desc).map (fun d => d.parameters.length) = some 3 := by decide +kernel
theorem wq_Lb_isJoinAt : y_Lb_isJoinAt.cls = R_Lb ∧ y_Lb_isJoinAt.cls ≠ "java/lang/invoke/MethodHandle" ∧ y_Lb_isJoinAt.cls ≠ "java/lang/invoke/VarHandle" ∧ (parseMethodDescriptor y_Lb_isJoinAt.desc).map (fun d => d.parameters.length) = some 4 := by decide +kernel
theorem wq_Lb_isNowhereAboveBoth : y_Lb_isNowhereAboveBoth.cls = R_Lb ∧ y_Lb_isNowhereAboveBoth.cls ≠ "java/lang/invoke/MethodHandle" ∧ y_Lb_isNowhereAboveBoth.cls ≠ "java/lang/invoke/VarHandle" ∧ (parseMethodDescriptor y_Lb_isNowhereAboveBoth.desc).map (fun d => d.parameters.length) = some 3 := by decide +kernel
theorem wq_Lb_changed : y_Lb_changed.cls = R_Lb ∧ y_Lb_changed.cls ≠ "java/lang/invoke/MethodHandle" ∧ y_Lb_changed.cls ≠ "java/lang/invoke/VarHandle" ∧ (parseMethodDescriptor y_Lb_changed.desc).map (fun d => d.parameters.length) = some 3 := by decide +kernel
theorem wq_Lb_indexOf : y_Lb_indexOf.cls = R_Lb ∧ y_Lb_indexOf.cls ≠ "java/lang/invoke/MethodHandle" ∧ y_Lb_indexOf.cls ≠ "java/lang/invoke/VarHandle" ∧ (parseMethodDescriptor y_Lb_indexOf.desc).map (fun d => d.parameters.length) = some 1 := by decide +kernel
theorem wq_Lb_missing : y_Lb_missing.cls = R_Lb ∧ y_Lb_missing.cls ≠ "java/lang/invoke/MethodHandle" ∧ y_Lb_missing.cls ≠ "java/lang/invoke/VarHandle" ∧ (parseMethodDescriptor y_Lb_missing.desc).map (fun d => d.parameters.length) = some 1 := by decide +kernel
theorem wq_Lb_numberOf : y_Lb_numberOf.cls = R_Lb ∧ y_Lb_numberOf.cls ≠ "java/lang/invoke/MethodHandle" ∧ y_Lb_numberOf.cls ≠ "java/lang/invoke/VarHandle" ∧ (parseMethodDescriptor y_Lb_numberOf.desc).map (fun d => d.parameters.length) = some 1 := by decide +kernel
theorem wq_Sn_takeFrom : y_Sn_takeFrom.cls = R_Sn ∧ y_Sn_takeFrom.cls ≠ "java/lang/invoke/MethodHandle" ∧ y_Sn_takeFrom.cls ≠ "java/lang/invoke/VarHandle" ∧ (parseMethodDescriptor y_Sn_takeFrom.desc).map (fun d => d.parameters.length) = some 1 := by decide +kernel
theorem wq_Tg_takeFrom : y_Tg_takeFrom.cls = R_Tg ∧ y_Tg_takeFrom.cls ≠ "java/lang/invoke/MethodHandle" ∧ y_Tg_takeFrom.cls ≠ "java/lang/invoke/VarHandle" ∧ (parseMethodDescriptor y_Tg_takeFrom.desc).map (fun d => d.parameters.length) = some 1 := by decide +kernel
theorem wq_Tg_hasNumberLeft : y_Tg_hasNumberLeft.cls = R_Tg ∧ y_Tg_hasNumberLeft.cls ≠ "java/lang/invoke/MethodHandle" ∧ y_Tg_hasNumberLeft.cls ≠ "java/lang/invoke/VarHandle" ∧ (parseMethodDescriptor y_Tg_hasNumberLeft.desc).map (fun d => d.parameters.length) = some 0 := by decide +kernel
theorem wq_Tg_add : y_Tg_add.cls = R_Tg ∧ y_Tg_add.cls ≠ "java/lang/invoke/MethodHandle" ∧ y_Tg_add.cls ≠ "java/lang/invoke/VarHandle" ∧ (parseMethodDescriptor y_Tg_add.desc).map (fun d => d.parameters.length) = some 4 := by decide +kernel
theorem wq_Tg_isThere : y_Tg_isThere.cls = R_Tg ∧ y_Tg_isThere.cls ≠ "java/lang/invoke/MethodHandle" ∧ y_Tg_isThere.cls ≠ "java/lang/invoke/VarHandle" ∧ (parseMethodDescriptor y_Tg_isThere.desc).map (fun d => d.parameters.length) = some 1 := by decide +kernel
theorem wq_Tg_isOfKind : y_Tg_isOfKind.cls = R_Tg ∧ y_Tg_isOfKind.cls ≠ "java/lang/invoke/MethodHandle" ∧ y_Tg_isOfKind.cls ≠ "java/lang/invoke/VarHandle" ∧ (parseMethodDescriptor y_Tg_isOfKind.desc).map (fun d => d.parameters.length) = some 2 := by decide +kernel
theorem wq_Tg_isIn : y_Tg_isIn.cls = R_Tg ∧ y_Tg_isIn.cls ≠ "java/lang/invoke/MethodHandle" ∧ y_Tg_isIn.cls ≠ "java/lang/invoke/VarHandle" ∧ (parseMethodDescriptor y_Tg_isIn.desc).map (fun d => d.parameters.length) = some 2 := by decide +kernel
theorem wq_Tg_howMany : y_Tg_howMany.cls = R_Tg ∧ y_Tg_howMany.cls ≠ "java/lang/invoke/MethodHandle" ∧ y_Tg_howMany.cls ≠ "java/lang/invoke/VarHandle" ∧ (parseMethodDescriptor y_Tg_howMany.desc).map (fun d => d.parameters.length) = some 0 := by decide +kernel
theorem wq_Tg_nthIn : y_Tg_nthIn.cls = R_Tg ∧ y_Tg_nthIn.cls ≠ "java/lang/invoke/MethodHandle" ∧ y_Tg_nthIn.cls ≠ "java/lang/invoke/VarHandle" ∧ (parseMethodDescriptor y_Tg_nthIn.desc).map (fun d => d.parameters.length) = some 2 := by decide +kernel
theorem wq_Tg_useOf : y_Tg_useOf.cls = R_Tg ∧ y_Tg_useOf.cls ≠ "java/lang/invoke/MethodHandle" ∧ y_Tg_useOf.cls ≠ "java/lang/invoke/VarHandle" ∧ (parseMethodDescriptor y_Tg_useOf.desc).map (fun d => d.parameters.length) = some 1 := by decide +kernel
theorem wq_Tg_quotasIn : y_Tg_quotasIn.cls = R_Tg ∧ y_Tg_quotasIn.cls ≠ "java/lang/invoke/MethodHandle" ∧ y_Tg_quotasIn.cls ≠ "java/lang/invoke/VarHandle" ∧ (parseMethodDescriptor y_Tg_quotasIn.desc).map (fun d => d.parameters.length) = some 1 := by decide +kernel
theorem wq_Tg_removeTree : y_Tg_removeTree.cls = R_Tg ∧ y_Tg_removeTree.cls ≠ "java/lang/invoke/MethodHandle" ∧ y_Tg_removeTree.cls ≠ "java/lang/invoke/VarHandle" ∧ (parseMethodDescriptor y_Tg_removeTree.desc).map (fun d => d.parameters.length) = some 1 := by decide +kernel
theorem wq_Tg_kindOf : y_Tg_kindOf.cls = R_Tg ∧ y_Tg_kindOf.cls ≠ "java/lang/invoke/MethodHandle" ∧ y_Tg_kindOf.cls ≠ "java/lang/invoke/VarHandle" ∧ (parseMethodDescriptor y_Tg_kindOf.desc).map (fun d => d.parameters.length) = some 1 := by decide +kernel
theorem wq_Tg_labelOf : y_Tg_labelOf.cls = R_Tg ∧ y_Tg_labelOf.cls ≠ "java/lang/invoke/MethodHandle" ∧ y_Tg_labelOf.cls ≠ "java/lang/invoke/VarHandle" ∧ (parseMethodDescriptor y_Tg_labelOf.desc).map (fun d => d.parameters.length) = some 1 := by decide +kernel
theorem wq_Tg_setLabel : y_Tg_setLabel.cls = R_Tg ∧ y_Tg_setLabel.cls ≠ "java/lang/invoke/MethodHandle" ∧ y_Tg_setLabel.cls ≠ "java/lang/invoke/VarHandle" ∧ (parseMethodDescriptor y_Tg_setLabel.desc).map (fun d => d.parameters.length) = some 2 := by decide +kernel
theorem wq_Tg_quotaOf : y_Tg_quotaOf.cls = R_Tg ∧ y_Tg_quotaOf.cls ≠ "java/lang/invoke/MethodHandle" ∧ y_Tg_quotaOf.cls ≠ "java/lang/invoke/VarHandle" ∧ (parseMethodDescriptor y_Tg_quotaOf.desc).map (fun d => d.parameters.length) = some 1 := by decide +kernel
theorem wq_Tg_setQuota : y_Tg_setQuota.cls = R_Tg ∧ y_Tg_setQuota.cls ≠ "java/lang/invoke/MethodHandle" ∧ y_Tg_setQuota.cls ≠ "java/lang/invoke/VarHandle" ∧ (parseMethodDescriptor y_Tg_setQuota.desc).map (fun d => d.parameters.length) = some 2 := by decide +kernel
theorem wq_Tg_placeOf : y_Tg_placeOf.cls = R_Tg ∧ y_Tg_placeOf.cls ≠ "java/lang/invoke/MethodHandle" ∧ y_Tg_placeOf.cls ≠ "java/lang/invoke/VarHandle" ∧ (parseMethodDescriptor y_Tg_placeOf.desc).map (fun d => d.parameters.length) = some 1 := by decide +kernel
theorem wq_Tg_depthOf : y_Tg_depthOf.cls = R_Tg ∧ y_Tg_depthOf.cls ≠ "java/lang/invoke/MethodHandle" ∧ y_Tg_depthOf.cls ≠ "java/lang/invoke/VarHandle" ∧ (parseMethodDescriptor y_Tg_depthOf.desc).map (fun d => d.parameters.length) = some 1 := by decide +kernel
theorem wq_Tg_clearanceOf : y_Tg_clearanceOf.cls = R_Tg ∧ y_Tg_clearanceOf.cls ≠ "java/lang/invoke/MethodHandle" ∧ y_Tg_clearanceOf.cls ≠ "java/lang/invoke/VarHandle" ∧ (parseMethodDescriptor y_Tg_clearanceOf.desc).map (fun d => d.parameters.length) = some 1 := by decide +kernel
theorem wq_Tg_setClearance : y_Tg_setClearance.cls = R_Tg ∧ y_Tg_setClearance.cls ≠ "java/lang/invoke/MethodHandle" ∧ y_Tg_setClearance.cls ≠ "java/lang/invoke/VarHandle" ∧ (parseMethodDescriptor y_Tg_setClearance.desc).map (fun d => d.parameters.length) = some 2 := by decide +kernel
theorem wq_Tg_guardOf : y_Tg_guardOf.cls = R_Tg ∧ y_Tg_guardOf.cls ≠ "java/lang/invoke/MethodHandle" ∧ y_Tg_guardOf.cls ≠ "java/lang/invoke/VarHandle" ∧ (parseMethodDescriptor y_Tg_guardOf.desc).map (fun d => d.parameters.length) = some 1 := by decide +kernel
theorem wq_Tg_entryOf : y_Tg_entryOf.cls = R_Tg ∧ y_Tg_entryOf.cls ≠ "java/lang/invoke/MethodHandle" ∧ y_Tg_entryOf.cls ≠ "java/lang/invoke/VarHandle" ∧ (parseMethodDescriptor y_Tg_entryOf.desc).map (fun d => d.parameters.length) = some 1 := by decide +kernel
theorem wq_Tg_setGuardAndEntry : y_Tg_setGuardAndEntry.cls = R_Tg ∧ y_Tg_setGuardAndEntry.cls ≠ "java/lang/invoke/MethodHandle" ∧ y_Tg_setGuardAndEntry.cls ≠ "java/lang/invoke/VarHandle" ∧ (parseMethodDescriptor y_Tg_setGuardAndEntry.desc).map (fun d => d.parameters.length) = some 3 := by decide +kernel
theorem wq_Tg_cellCountOf : y_Tg_cellCountOf.cls = R_Tg ∧ y_Tg_cellCountOf.cls ≠ "java/lang/invoke/MethodHandle" ∧ y_Tg_cellCountOf.cls ≠ "java/lang/invoke/VarHandle" ∧ (parseMethodDescriptor y_Tg_cellCountOf.desc).map (fun d => d.parameters.length) = some 1 := by decide +kernel
theorem wq_Tg_setCellCount : y_Tg_setCellCount.cls = R_Tg ∧ y_Tg_setCellCount.cls ≠ "java/lang/invoke/MethodHandle" ∧ y_Tg_setCellCount.cls ≠ "java/lang/invoke/VarHandle" ∧ (parseMethodDescriptor y_Tg_setCellCount.desc).map (fun d => d.parameters.length) = some 2 := by decide +kernel
theorem wq_Tg_cellOf : y_Tg_cellOf.cls = R_Tg ∧ y_Tg_cellOf.cls ≠ "java/lang/invoke/MethodHandle" ∧ y_Tg_cellOf.cls ≠ "java/lang/invoke/VarHandle" ∧ (parseMethodDescriptor y_Tg_cellOf.desc).map (fun d => d.parameters.length) = some 2 := by decide +kernel
theorem wq_Tg_setCell : y_Tg_setCell.cls = R_Tg ∧ y_Tg_setCell.cls ≠ "java/lang/invoke/MethodHandle" ∧ y_Tg_setCell.cls ≠ "java/lang/invoke/VarHandle" ∧ (parseMethodDescriptor y_Tg_setCell.desc).map (fun d => d.parameters.length) = some 3 := by decide +kernel
theorem wq_Us_takeFrom : y_Us_takeFrom.cls = R_Us ∧ y_Us_takeFrom.cls ≠ "java/lang/invoke/MethodHandle" ∧ y_Us_takeFrom.cls ≠ "java/lang/invoke/VarHandle" ∧ (parseMethodDescriptor y_Us_takeFrom.desc).map (fun d => d.parameters.length) = some 1 := by decide +kernel
theorem wq_Us_howMany : y_Us_howMany.cls = R_Us ∧ y_Us_howMany.cls ≠ "java/lang/invoke/MethodHandle" ∧ y_Us_howMany.cls ≠ "java/lang/invoke/VarHandle" ∧ (parseMethodDescriptor y_Us_howMany.desc).map (fun d => d.parameters.length) = some 0 := by decide +kernel
theorem wq_Us_isThere : y_Us_isThere.cls = R_Us ∧ y_Us_isThere.cls ≠ "java/lang/invoke/MethodHandle" ∧ y_Us_isThere.cls ≠ "java/lang/invoke/VarHandle" ∧ (parseMethodDescriptor y_Us_isThere.desc).map (fun d => d.parameters.length) = some 1 := by decide +kernel
theorem wq_Us_add : y_Us_add.cls = R_Us ∧ y_Us_add.cls ≠ "java/lang/invoke/MethodHandle" ∧ y_Us_add.cls ≠ "java/lang/invoke/VarHandle" ∧ (parseMethodDescriptor y_Us_add.desc).map (fun d => d.parameters.length) = some 2 := by decide +kernel
theorem wq_Us_setCategories : y_Us_setCategories.cls = R_Us ∧ y_Us_setCategories.cls ≠ "java/lang/invoke/MethodHandle" ∧ y_Us_setCategories.cls ≠ "java/lang/invoke/VarHandle" ∧ (parseMethodDescriptor y_Us_setCategories.desc).map (fun d => d.parameters.length) = some 3 := by decide +kernel
theorem wq_Us_setObjects : y_Us_setObjects.cls = R_Us ∧ y_Us_setObjects.cls ≠ "java/lang/invoke/MethodHandle" ∧ y_Us_setObjects.cls ≠ "java/lang/invoke/VarHandle" ∧ (parseMethodDescriptor y_Us_setObjects.desc).map (fun d => d.parameters.length) = some 4 := by decide +kernel
theorem wq_Us_passwordOf : y_Us_passwordOf.cls = R_Us ∧ y_Us_passwordOf.cls ≠ "java/lang/invoke/MethodHandle" ∧ y_Us_passwordOf.cls ≠ "java/lang/invoke/VarHandle" ∧ (parseMethodDescriptor y_Us_passwordOf.desc).map (fun d => d.parameters.length) = some 1 := by decide +kernel
theorem wq_Us_firstCategoryOf : y_Us_firstCategoryOf.cls = R_Us ∧ y_Us_firstCategoryOf.cls ≠ "java/lang/invoke/MethodHandle" ∧ y_Us_firstCategoryOf.cls ≠ "java/lang/invoke/VarHandle" ∧ (parseMethodDescriptor y_Us_firstCategoryOf.desc).map (fun d => d.parameters.length) = some 1 := by decide +kernel
theorem wq_Us_secondCategoryOf : y_Us_secondCategoryOf.cls = R_Us ∧ y_Us_secondCategoryOf.cls ≠ "java/lang/invoke/MethodHandle" ∧ y_Us_secondCategoryOf.cls ≠ "java/lang/invoke/VarHandle" ∧ (parseMethodDescriptor y_Us_secondCategoryOf.desc).map (fun d => d.parameters.length) = some 1 := by decide +kernel
theorem wq_Us_homeOf : y_Us_homeOf.cls = R_Us ∧ y_Us_homeOf.cls ≠ "java/lang/invoke/MethodHandle" ∧ y_Us_homeOf.cls ≠ "java/lang/invoke/VarHandle" ∧ (parseMethodDescriptor y_Us_homeOf.desc).map (fun d => d.parameters.length) = some 1 := by decide +kernel
theorem wq_Us_directoryOf : y_Us_directoryOf.cls = R_Us ∧ y_Us_directoryOf.cls ≠ "java/lang/invoke/MethodHandle" ∧ y_Us_directoryOf.cls ≠ "java/lang/invoke/VarHandle" ∧ (parseMethodDescriptor y_Us_directoryOf.desc).map (fun d => d.parameters.length) = some 1 := by decide +kernel
theorem wq_Us_gateOf : y_Us_gateOf.cls = R_Us ∧ y_Us_gateOf.cls ≠ "java/lang/invoke/MethodHandle" ∧ y_Us_gateOf.cls ≠ "java/lang/invoke/VarHandle" ∧ (parseMethodDescriptor y_Us_gateOf.desc).map (fun d => d.parameters.length) = some 1 := by decide +kernel
theorem wq_Ke_label : y_Ke_label.cls = R_Ke ∧ y_Ke_label.cls ≠ "java/lang/invoke/MethodHandle" ∧ y_Ke_label.cls ≠ "java/lang/invoke/VarHandle" ∧ (parseMethodDescriptor y_Ke_label.desc).map (fun d => d.parameters.length) = some 3 := by decide +kernel
theorem wq_Ke_level : y_Ke_level.cls = R_Ke ∧ y_Ke_level.cls ≠ "java/lang/invoke/MethodHandle" ∧ y_Ke_level.cls ≠ "java/lang/invoke/VarHandle" ∧ (parseMethodDescriptor y_Ke_level.desc).map (fun d => d.parameters.length) = some 2 := by decide +kernel
theorem wq_Ke_fits : y_Ke_fits.cls = R_Ke ∧ y_Ke_fits.cls ≠ "java/lang/invoke/MethodHandle" ∧ y_Ke_fits.cls ≠ "java/lang/invoke/VarHandle" ∧ (parseMethodDescriptor y_Ke_fits.desc).map (fun d => d.parameters.length) = some 3 := by decide +kernel
theorem wq_Ke_category : y_Ke_category.cls = R_Ke ∧ y_Ke_category.cls ≠ "java/lang/invoke/MethodHandle" ∧ y_Ke_category.cls ≠ "java/lang/invoke/VarHandle" ∧ (parseMethodDescriptor y_Ke_category.desc).map (fun d => d.parameters.length) = some 1 := by decide +kernel
theorem wq_Ke_container : y_Ke_container.cls = R_Ke ∧ y_Ke_container.cls ≠ "java/lang/invoke/MethodHandle" ∧ y_Ke_container.cls ≠ "java/lang/invoke/VarHandle" ∧ (parseMethodDescriptor y_Ke_container.desc).map (fun d => d.parameters.length) = some 4 := by decide +kernel
theorem wq_Ke_segment : y_Ke_segment.cls = R_Ke ∧ y_Ke_segment.cls ≠ "java/lang/invoke/MethodHandle" ∧ y_Ke_segment.cls ≠ "java/lang/invoke/VarHandle" ∧ (parseMethodDescriptor y_Ke_segment.desc).map (fun d => d.parameters.length) = some 4 := by decide +kernel
theorem wq_Ke_gate : y_Ke_gate.cls = R_Ke ∧ y_Ke_gate.cls ≠ "java/lang/invoke/MethodHandle" ∧ y_Ke_gate.cls ≠ "java/lang/invoke/VarHandle" ∧ (parseMethodDescriptor y_Ke_gate.desc).map (fun d => d.parameters.length) = some 5 := by decide +kernel
theorem wq_Ke_thread : y_Ke_thread.cls = R_Ke ∧ y_Ke_thread.cls ≠ "java/lang/invoke/MethodHandle" ∧ y_Ke_thread.cls ≠ "java/lang/invoke/VarHandle" ∧ (parseMethodDescriptor y_Ke_thread.desc).map (fun d => d.parameters.length) = some 4 := by decide +kernel
theorem wq_Ke_read : y_Ke_read.cls = R_Ke ∧ y_Ke_read.cls ≠ "java/lang/invoke/MethodHandle" ∧ y_Ke_read.cls ≠ "java/lang/invoke/VarHandle" ∧ (parseMethodDescriptor y_Ke_read.desc).map (fun d => d.parameters.length) = some 4 := by decide +kernel
theorem wq_Ke_write : y_Ke_write.cls = R_Ke ∧ y_Ke_write.cls ≠ "java/lang/invoke/MethodHandle" ∧ y_Ke_write.cls ≠ "java/lang/invoke/VarHandle" ∧ (parseMethodDescriptor y_Ke_write.desc).map (fun d => d.parameters.length) = some 5 := by decide +kernel
theorem wq_Ke_move : y_Ke_move.cls = R_Ke ∧ y_Ke_move.cls ≠ "java/lang/invoke/MethodHandle" ∧ y_Ke_move.cls ≠ "java/lang/invoke/VarHandle" ∧ (parseMethodDescriptor y_Ke_move.desc).map (fun d => d.parameters.length) = some 4 := by decide +kernel
theorem wq_Ke_drop : y_Ke_drop.cls = R_Ke ∧ y_Ke_drop.cls ≠ "java/lang/invoke/MethodHandle" ∧ y_Ke_drop.cls ≠ "java/lang/invoke/VarHandle" ∧ (parseMethodDescriptor y_Ke_drop.desc).map (fun d => d.parameters.length) = some 3 := by decide +kernel
theorem wq_Ke_become : y_Ke_become.cls = R_Ke ∧ y_Ke_become.cls ≠ "java/lang/invoke/MethodHandle" ∧ y_Ke_become.cls ≠ "java/lang/invoke/VarHandle" ∧ (parseMethodDescriptor y_Ke_become.desc).map (fun d => d.parameters.length) = some 2 := by decide +kernel
theorem wq_Ke_lower : y_Ke_lower.cls = R_Ke ∧ y_Ke_lower.cls ≠ "java/lang/invoke/MethodHandle" ∧ y_Ke_lower.cls ≠ "java/lang/invoke/VarHandle" ∧ (parseMethodDescriptor y_Ke_lower.desc).map (fun d => d.parameters.length) = some 2 := by decide +kernel
theorem wq_Ke_enter : y_Ke_enter.cls = R_Ke ∧ y_Ke_enter.cls ≠ "java/lang/invoke/MethodHandle" ∧ y_Ke_enter.cls ≠ "java/lang/invoke/VarHandle" ∧ (parseMethodDescriptor y_Ke_enter.desc).map (fun d => d.parameters.length) = some 5 := by decide +kernel
theorem wq_Ke_user : y_Ke_user.cls = R_Ke ∧ y_Ke_user.cls ≠ "java/lang/invoke/MethodHandle" ∧ y_Ke_user.cls ≠ "java/lang/invoke/VarHandle" ∧ (parseMethodDescriptor y_Ke_user.desc).map (fun d => d.parameters.length) = some 3 := by decide +kernel
theorem wq_Ke_login : y_Ke_login.cls = R_Ke ∧ y_Ke_login.cls ≠ "java/lang/invoke/MethodHandle" ∧ y_Ke_login.cls ≠ "java/lang/invoke/VarHandle" ∧ (parseMethodDescriptor y_Ke_login.desc).map (fun d => d.parameters.length) = some 3 := by decide +kernel
theorem wq_Ke_file : y_Ke_file.cls = R_Ke ∧ y_Ke_file.cls ≠ "java/lang/invoke/MethodHandle" ∧ y_Ke_file.cls ≠ "java/lang/invoke/VarHandle" ∧ (parseMethodDescriptor y_Ke_file.desc).map (fun d => d.parameters.length) = some 4 := by decide +kernel
theorem wq_Ke_access : y_Ke_access.cls = R_Ke ∧ y_Ke_access.cls ≠ "java/lang/invoke/MethodHandle" ∧ y_Ke_access.cls ≠ "java/lang/invoke/VarHandle" ∧ (parseMethodDescriptor y_Ke_access.desc).map (fun d => d.parameters.length) = some 6 := by decide +kernel
theorem wq_Ke_snapshot : y_Ke_snapshot.cls = R_Ke ∧ y_Ke_snapshot.cls ≠ "java/lang/invoke/MethodHandle" ∧ y_Ke_snapshot.cls ≠ "java/lang/invoke/VarHandle" ∧ (parseMethodDescriptor y_Ke_snapshot.desc).map (fun d => d.parameters.length) = some 0 := by decide +kernel
theorem wq_Ke_crash : y_Ke_crash.cls = R_Ke ∧ y_Ke_crash.cls ≠ "java/lang/invoke/MethodHandle" ∧ y_Ke_crash.cls ≠ "java/lang/invoke/VarHandle" ∧ (parseMethodDescriptor y_Ke_crash.desc).map (fun d => d.parameters.length) = some 0 := by decide +kernel
theorem wq_Ke_object : y_Ke_object.cls = R_Ke ∧ y_Ke_object.cls ≠ "java/lang/invoke/MethodHandle" ∧ y_Ke_object.cls ≠ "java/lang/invoke/VarHandle" ∧ (parseMethodDescriptor y_Ke_object.desc).map (fun d => d.parameters.length) = some 2 := by decide +kernel
theorem wq_Ke_in : y_Ke_in.cls = R_Ke ∧ y_Ke_in.cls ≠ "java/lang/invoke/MethodHandle" ∧ y_Ke_in.cls ≠ "java/lang/invoke/VarHandle" ∧ (parseMethodDescriptor y_Ke_in.desc).map (fun d => d.parameters.length) = some 2 := by decide +kernel
theorem wq_Ke_count : y_Ke_count.cls = R_Ke ∧ y_Ke_count.cls ≠ "java/lang/invoke/MethodHandle" ∧ y_Ke_count.cls ≠ "java/lang/invoke/VarHandle" ∧ (parseMethodDescriptor y_Ke_count.desc).map (fun d => d.parameters.length) = some 1 := by decide +kernel
theorem wq_Ke_maySee : y_Ke_maySee.cls = R_Ke ∧ y_Ke_maySee.cls ≠ "java/lang/invoke/MethodHandle" ∧ y_Ke_maySee.cls ≠ "java/lang/invoke/VarHandle" ∧ (parseMethodDescriptor y_Ke_maySee.desc).map (fun d => d.parameters.length) = some 2 := by decide +kernel
theorem wq_Ke_mayChange : y_Ke_mayChange.cls = R_Ke ∧ y_Ke_mayChange.cls ≠ "java/lang/invoke/MethodHandle" ∧ y_Ke_mayChange.cls ≠ "java/lang/invoke/VarHandle" ∧ (parseMethodDescriptor y_Ke_mayChange.desc).map (fun d => d.parameters.length) = some 2 := by decide +kernel
theorem wq_Ke_mayBear : y_Ke_mayBear.cls = R_Ke ∧ y_Ke_mayBear.cls ≠ "java/lang/invoke/MethodHandle" ∧ y_Ke_mayBear.cls ≠ "java/lang/invoke/VarHandle" ∧ (parseMethodDescriptor y_Ke_mayBear.desc).map (fun d => d.parameters.length) = some 2 := by decide +kernel
theorem wq_Ke_isBetween : y_Ke_isBetween.cls = R_Ke ∧ y_Ke_isBetween.cls ≠ "java/lang/invoke/MethodHandle" ∧ y_Ke_isBetween.cls ≠ "java/lang/invoke/VarHandle" ∧ (parseMethodDescriptor y_Ke_isBetween.desc).map (fun d => d.parameters.length) = some 3 := by decide +kernel
theorem wq_Ke_needNumber : y_Ke_needNumber.cls = R_Ke ∧ y_Ke_needNumber.cls ≠ "java/lang/invoke/MethodHandle" ∧ y_Ke_needNumber.cls ≠ "java/lang/invoke/VarHandle" ∧ (parseMethodDescriptor y_Ke_needNumber.desc).map (fun d => d.parameters.length) = some 1 := by decide +kernel
theorem wq_Ke_needFound : y_Ke_needFound.cls = R_Ke ∧ y_Ke_needFound.cls ≠ "java/lang/invoke/MethodHandle" ∧ y_Ke_needFound.cls ≠ "java/lang/invoke/VarHandle" ∧ (parseMethodDescriptor y_Ke_needFound.desc).map (fun d => d.parameters.length) = some 1 := by decide +kernel
theorem wq_Ke_needAllowed : y_Ke_needAllowed.cls = R_Ke ∧ y_Ke_needAllowed.cls ≠ "java/lang/invoke/MethodHandle" ∧ y_Ke_needAllowed.cls ≠ "java/lang/invoke/VarHandle" ∧ (parseMethodDescriptor y_Ke_needAllowed.desc).map (fun d => d.parameters.length) = some 1 := by decide +kernel
theorem wq_Ke_needRoom : y_Ke_needRoom.cls = R_Ke ∧ y_Ke_needRoom.cls ≠ "java/lang/invoke/MethodHandle" ∧ y_Ke_needRoom.cls ≠ "java/lang/invoke/VarHandle" ∧ (parseMethodDescriptor y_Ke_needRoom.desc).map (fun d => d.parameters.length) = some 1 := by decide +kernel
theorem wq_Ke_needThread : y_Ke_needThread.cls = R_Ke ∧ y_Ke_needThread.cls ≠ "java/lang/invoke/MethodHandle" ∧ y_Ke_needThread.cls ≠ "java/lang/invoke/VarHandle" ∧ (parseMethodDescriptor y_Ke_needThread.desc).map (fun d => d.parameters.length) = some 1 := by decide +kernel
theorem wq_Ke_needThreadAndContainer : y_Ke_needThreadAndContainer.cls = R_Ke ∧ y_Ke_needThreadAndContainer.cls ≠ "java/lang/invoke/MethodHandle" ∧ y_Ke_needThreadAndContainer.cls ≠ "java/lang/invoke/VarHandle" ∧ (parseMethodDescriptor y_Ke_needThreadAndContainer.desc).map (fun d => d.parameters.length) = some 2 := by decide +kernel
theorem wq_Ke_needThere : y_Ke_needThere.cls = R_Ke ∧ y_Ke_needThere.cls ≠ "java/lang/invoke/MethodHandle" ∧ y_Ke_needThere.cls ≠ "java/lang/invoke/VarHandle" ∧ (parseMethodDescriptor y_Ke_needThere.desc).map (fun d => d.parameters.length) = some 3 := by decide +kernel
theorem wq_Ke_needObjectIn : y_Ke_needObjectIn.cls = R_Ke ∧ y_Ke_needObjectIn.cls ≠ "java/lang/invoke/MethodHandle" ∧ y_Ke_needObjectIn.cls ≠ "java/lang/invoke/VarHandle" ∧ (parseMethodDescriptor y_Ke_needObjectIn.desc).map (fun d => d.parameters.length) = some 3 := by decide +kernel
theorem wq_Ke_needCell : y_Ke_needCell.cls = R_Ke ∧ y_Ke_needCell.cls ≠ "java/lang/invoke/MethodHandle" ∧ y_Ke_needCell.cls ≠ "java/lang/invoke/VarHandle" ∧ (parseMethodDescriptor y_Ke_needCell.desc).map (fun d => d.parameters.length) = some 4 := by decide +kernel
theorem wq_Ke_needMayMake : y_Ke_needMayMake.cls = R_Ke ∧ y_Ke_needMayMake.cls ≠ "java/lang/invoke/MethodHandle" ∧ y_Ke_needMayMake.cls ≠ "java/lang/invoke/VarHandle" ∧ (parseMethodDescriptor y_Ke_needMayMake.desc).map (fun d => d.parameters.length) = some 3 := by decide +kernel
theorem wq_Ke_needRoomIn : y_Ke_needRoomIn.cls = R_Ke ∧ y_Ke_needRoomIn.cls ≠ "java/lang/invoke/MethodHandle" ∧ y_Ke_needRoomIn.cls ≠ "java/lang/invoke/VarHandle" ∧ (parseMethodDescriptor y_Ke_needRoomIn.desc).map (fun d => d.parameters.length) = some 2 := by decide +kernel
theorem wq_Mo_within : y_Mo_within.cls = R_Mo ∧ y_Mo_within.cls ≠ "java/lang/invoke/MethodHandle" ∧ y_Mo_within.cls ≠ "java/lang/invoke/VarHandle" ∧ (parseMethodDescriptor y_Mo_within.desc).map (fun d => d.parameters.length) = some 3 := by decide +kernel
theorem wq_Mo_fail : y_Mo_fail.cls = R_Mo ∧ y_Mo_fail.cls ≠ "java/lang/invoke/MethodHandle" ∧ y_Mo_fail.cls ≠ "java/lang/invoke/VarHandle" ∧ (parseMethodDescriptor y_Mo_fail.desc).map (fun d => d.parameters.length) = some 1 := by decide +kernel
theorem wq_Mo_thrown : y_Mo_thrown.cls = R_Mo ∧ y_Mo_thrown.cls ≠ "java/lang/invoke/MethodHandle" ∧ y_Mo_thrown.cls ≠ "java/lang/invoke/VarHandle" ∧ (parseMethodDescriptor y_Mo_thrown.desc).map (fun d => d.parameters.length) = some 0 := by decide +kernel
theorem wq_Mo_at : y_Mo_at.cls = R_Mo ∧ y_Mo_at.cls ≠ "java/lang/invoke/MethodHandle" ∧ y_Mo_at.cls ≠ "java/lang/invoke/VarHandle" ∧ (parseMethodDescriptor y_Mo_at.desc).map (fun d => d.parameters.length) = some 2 := by decide +kernel
theorem wq_Mo_lev : y_Mo_lev.cls = R_Mo ∧ y_Mo_lev.cls ≠ "java/lang/invoke/MethodHandle" ∧ y_Mo_lev.cls ≠ "java/lang/invoke/VarHandle" ∧ (parseMethodDescriptor y_Mo_lev.desc).map (fun d => d.parameters.length) = some 2 := by decide +kernel
theorem wq_Mo_low : y_Mo_low.cls = R_Mo ∧ y_Mo_low.cls ≠ "java/lang/invoke/MethodHandle" ∧ y_Mo_low.cls ≠ "java/lang/invoke/VarHandle" ∧ (parseMethodDescriptor y_Mo_low.desc).map (fun d => d.parameters.length) = some 1 := by decide +kernel
theorem wq_Mo_under : y_Mo_under.cls = R_Mo ∧ y_Mo_under.cls ≠ "java/lang/invoke/MethodHandle" ∧ y_Mo_under.cls ≠ "java/lang/invoke/VarHandle" ∧ (parseMethodDescriptor y_Mo_under.desc).map (fun d => d.parameters.length) = some 3 := by decide +kernel
theorem wq_Mo_isLabel : y_Mo_isLabel.cls = R_Mo ∧ y_Mo_isLabel.cls ≠ "java/lang/invoke/MethodHandle" ∧ y_Mo_isLabel.cls ≠ "java/lang/invoke/VarHandle" ∧ (parseMethodDescriptor y_Mo_isLabel.desc).map (fun d => d.parameters.length) = some 1 := by decide +kernel
theorem wq_Mo_starless : y_Mo_starless.cls = R_Mo ∧ y_Mo_starless.cls ≠ "java/lang/invoke/MethodHandle" ∧ y_Mo_starless.cls ≠ "java/lang/invoke/VarHandle" ∧ (parseMethodDescriptor y_Mo_starless.desc).map (fun d => d.parameters.length) = some 1 := by decide +kernel
theorem wq_Mo_there : y_Mo_there.cls = R_Mo ∧ y_Mo_there.cls ≠ "java/lang/invoke/MethodHandle" ∧ y_Mo_there.cls ≠ "java/lang/invoke/VarHandle" ∧ (parseMethodDescriptor y_Mo_there.desc).map (fun d => d.parameters.length) = some 1 := by decide +kernel
theorem wq_Mo_sees : y_Mo_sees.cls = R_Mo ∧ y_Mo_sees.cls ≠ "java/lang/invoke/MethodHandle" ∧ y_Mo_sees.cls ≠ "java/lang/invoke/VarHandle" ∧ (parseMethodDescriptor y_Mo_sees.desc).map (fun d => d.parameters.length) = some 2 := by decide +kernel
theorem wq_Mo_changes : y_Mo_changes.cls = R_Mo ∧ y_Mo_changes.cls ≠ "java/lang/invoke/MethodHandle" ∧ y_Mo_changes.cls ≠ "java/lang/invoke/VarHandle" ∧ (parseMethodDescriptor y_Mo_changes.desc).map (fun d => d.parameters.length) = some 2 := by decide +kernel
theorem wq_Mo_use : y_Mo_use.cls = R_Mo ∧ y_Mo_use.cls ≠ "java/lang/invoke/MethodHandle" ∧ y_Mo_use.cls ≠ "java/lang/invoke/VarHandle" ∧ (parseMethodDescriptor y_Mo_use.desc).map (fun d => d.parameters.length) = some 1 := by decide +kernel
theorem wq_Mo_like : y_Mo_like.cls = R_Mo ∧ y_Mo_like.cls ≠ "java/lang/invoke/MethodHandle" ∧ y_Mo_like.cls ≠ "java/lang/invoke/VarHandle" ∧ (parseMethodDescriptor y_Mo_like.desc).map (fun d => d.parameters.length) = some 3 := by decide +kernel
theorem wq_Mo_made : y_Mo_made.cls = R_Mo ∧ y_Mo_made.cls ≠ "java/lang/invoke/MethodHandle" ∧ y_Mo_made.cls ≠ "java/lang/invoke/VarHandle" ∧ (parseMethodDescriptor y_Mo_made.desc).map (fun d => d.parameters.length) = some 3 := by decide +kernel
theorem wq_Mo_label : y_Mo_label.cls = R_Mo ∧ y_Mo_label.cls ≠ "java/lang/invoke/MethodHandle" ∧ y_Mo_label.cls ≠ "java/lang/invoke/VarHandle" ∧ (parseMethodDescriptor y_Mo_label.desc).map (fun d => d.parameters.length) = some 3 := by decide +kernel
theorem wq_Mo_level : y_Mo_level.cls = R_Mo ∧ y_Mo_level.cls ≠ "java/lang/invoke/MethodHandle" ∧ y_Mo_level.cls ≠ "java/lang/invoke/VarHandle" ∧ (parseMethodDescriptor y_Mo_level.desc).map (fun d => d.parameters.length) = some 2 := by decide +kernel
theorem wq_Mo_fits : y_Mo_fits.cls = R_Mo ∧ y_Mo_fits.cls ≠ "java/lang/invoke/MethodHandle" ∧ y_Mo_fits.cls ≠ "java/lang/invoke/VarHandle" ∧ (parseMethodDescriptor y_Mo_fits.desc).map (fun d => d.parameters.length) = some 3 := by decide +kernel
theorem wq_Mo_threadOnly : y_Mo_threadOnly.cls = R_Mo ∧ y_Mo_threadOnly.cls ≠ "java/lang/invoke/MethodHandle" ∧ y_Mo_threadOnly.cls ≠ "java/lang/invoke/VarHandle" ∧ (parseMethodDescriptor y_Mo_threadOnly.desc).map (fun d => d.parameters.length) = some 1 := by decide +kernel
theorem wq_Mo_giveCategory : y_Mo_giveCategory.cls = R_Mo ∧ y_Mo_giveCategory.cls ≠ "java/lang/invoke/MethodHandle" ∧ y_Mo_giveCategory.cls ≠ "java/lang/invoke/VarHandle" ∧ (parseMethodDescriptor y_Mo_giveCategory.desc).map (fun d => d.parameters.length) = some 1 := by decide +kernel
theorem wq_Mo_category : y_Mo_category.cls = R_Mo ∧ y_Mo_category.cls ≠ "java/lang/invoke/MethodHandle" ∧ y_Mo_category.cls ≠ "java/lang/invoke/VarHandle" ∧ (parseMethodDescriptor y_Mo_category.desc).map (fun d => d.parameters.length) = some 1 := by decide +kernel
theorem wq_Mo_deep : y_Mo_deep.cls = R_Mo ∧ y_Mo_deep.cls ≠ "java/lang/invoke/MethodHandle" ∧ y_Mo_deep.cls ≠ "java/lang/invoke/VarHandle" ∧ (parseMethodDescriptor y_Mo_deep.desc).map (fun d => d.parameters.length) = some 1 := by decide +kernel
theorem wq_Mo_starsWithin : y_Mo_starsWithin.cls = R_Mo ∧ y_Mo_starsWithin.cls ≠ "java/lang/invoke/MethodHandle" ∧ y_Mo_starsWithin.cls ≠ "java/lang/invoke/VarHandle" ∧ (parseMethodDescriptor y_Mo_starsWithin.desc).map (fun d => d.parameters.length) = some 2 := by decide +kernel
theorem wq_Mo_starsOf : y_Mo_starsOf.cls = R_Mo ∧ y_Mo_starsOf.cls ≠ "java/lang/invoke/MethodHandle" ∧ y_Mo_starsOf.cls ≠ "java/lang/invoke/VarHandle" ∧ (parseMethodDescriptor y_Mo_starsOf.desc).map (fun d => d.parameters.length) = some 2 := by decide +kernel
theorem wq_Mo_make : y_Mo_make.cls = R_Mo ∧ y_Mo_make.cls ≠ "java/lang/invoke/MethodHandle" ∧ y_Mo_make.cls ≠ "java/lang/invoke/VarHandle" ∧ (parseMethodDescriptor y_Mo_make.desc).map (fun d => d.parameters.length) = some 6 := by decide +kernel
theorem wq_Mo_makeContainer : y_Mo_makeContainer.cls = R_Mo ∧ y_Mo_makeContainer.cls ≠ "java/lang/invoke/MethodHandle" ∧ y_Mo_makeContainer.cls ≠ "java/lang/invoke/VarHandle" ∧ (parseMethodDescriptor y_Mo_makeContainer.desc).map (fun d => d.parameters.length) = some 4 := by decide +kernel
theorem wq_Mo_container : y_Mo_container.cls = R_Mo ∧ y_Mo_container.cls ≠ "java/lang/invoke/MethodHandle" ∧ y_Mo_container.cls ≠ "java/lang/invoke/VarHandle" ∧ (parseMethodDescriptor y_Mo_container.desc).map (fun d => d.parameters.length) = some 4 := by decide +kernel
theorem wq_Mo_makeSegment : y_Mo_makeSegment.cls = R_Mo ∧ y_Mo_makeSegment.cls ≠ "java/lang/invoke/MethodHandle" ∧ y_Mo_makeSegment.cls ≠ "java/lang/invoke/VarHandle" ∧ (parseMethodDescriptor y_Mo_makeSegment.desc).map (fun d => d.parameters.length) = some 4 := by decide +kernel
theorem wq_Mo_segment : y_Mo_segment.cls = R_Mo ∧ y_Mo_segment.cls ≠ "java/lang/invoke/MethodHandle" ∧ y_Mo_segment.cls ≠ "java/lang/invoke/VarHandle" ∧ (parseMethodDescriptor y_Mo_segment.desc).map (fun d => d.parameters.length) = some 4 := by decide +kernel
theorem wq_Mo_makeGate : y_Mo_makeGate.cls = R_Mo ∧ y_Mo_makeGate.cls ≠ "java/lang/invoke/MethodHandle" ∧ y_Mo_makeGate.cls ≠ "java/lang/invoke/VarHandle" ∧ (parseMethodDescriptor y_Mo_makeGate.desc).map (fun d => d.parameters.length) = some 5 := by decide +kernel
theorem wq_Mo_gate : y_Mo_gate.cls = R_Mo ∧ y_Mo_gate.cls ≠ "java/lang/invoke/MethodHandle" ∧ y_Mo_gate.cls ≠ "java/lang/invoke/VarHandle" ∧ (parseMethodDescriptor y_Mo_gate.desc).map (fun d => d.parameters.length) = some 5 := by decide +kernel
theorem wq_Mo_thread : y_Mo_thread.cls = R_Mo ∧ y_Mo_thread.cls ≠ "java/lang/invoke/MethodHandle" ∧ y_Mo_thread.cls ≠ "java/lang/invoke/VarHandle" ∧ (parseMethodDescriptor y_Mo_thread.desc).map (fun d => d.parameters.length) = some 4 := by decide +kernel
theorem wq_Mo_named : y_Mo_named.cls = R_Mo ∧ y_Mo_named.cls ≠ "java/lang/invoke/MethodHandle" ∧ y_Mo_named.cls ≠ "java/lang/invoke/VarHandle" ∧ (parseMethodDescriptor y_Mo_named.desc).map (fun d => d.parameters.length) = some 4 := by decide +kernel
theorem wq_Mo_cell : y_Mo_cell.cls = R_Mo ∧ y_Mo_cell.cls ≠ "java/lang/invoke/MethodHandle" ∧ y_Mo_cell.cls ≠ "java/lang/invoke/VarHandle" ∧ (parseMethodDescriptor y_Mo_cell.desc).map (fun d => d.parameters.length) = some 6 := by decide +kernel
theorem wq_Mo_read : y_Mo_read.cls = R_Mo ∧ y_Mo_read.cls ≠ "java/lang/invoke/MethodHandle" ∧ y_Mo_read.cls ≠ "java/lang/invoke/VarHandle" ∧ (parseMethodDescriptor y_Mo_read.desc).map (fun d => d.parameters.length) = some 4 := by decide +kernel
theorem wq_Mo_write : y_Mo_write.cls = R_Mo ∧ y_Mo_write.cls ≠ "java/lang/invoke/MethodHandle" ∧ y_Mo_write.cls ≠ "java/lang/invoke/VarHandle" ∧ (parseMethodDescriptor y_Mo_write.desc).map (fun d => d.parameters.length) = some 5 := by decide +kernel
theorem wq_Mo_move : y_Mo_move.cls = R_Mo ∧ y_Mo_move.cls ≠ "java/lang/invoke/MethodHandle" ∧ y_Mo_move.cls ≠ "java/lang/invoke/VarHandle" ∧ (parseMethodDescriptor y_Mo_move.desc).map (fun d => d.parameters.length) = some 4 := by decide +kernel
theorem wq_Mo_remove : y_Mo_remove.cls = R_Mo ∧ y_Mo_remove.cls ≠ "java/lang/invoke/MethodHandle" ∧ y_Mo_remove.cls ≠ "java/lang/invoke/VarHandle" ∧ (parseMethodDescriptor y_Mo_remove.desc).map (fun d => d.parameters.length) = some 3 := by decide +kernel
theorem wq_Mo_drop : y_Mo_drop.cls = R_Mo ∧ y_Mo_drop.cls ≠ "java/lang/invoke/MethodHandle" ∧ y_Mo_drop.cls ≠ "java/lang/invoke/VarHandle" ∧ (parseMethodDescriptor y_Mo_drop.desc).map (fun d => d.parameters.length) = some 3 := by decide +kernel
theorem wq_Mo_become : y_Mo_become.cls = R_Mo ∧ y_Mo_become.cls ≠ "java/lang/invoke/MethodHandle" ∧ y_Mo_become.cls ≠ "java/lang/invoke/VarHandle" ∧ (parseMethodDescriptor y_Mo_become.desc).map (fun d => d.parameters.length) = some 2 := by decide +kernel
theorem wq_Mo_lower : y_Mo_lower.cls = R_Mo ∧ y_Mo_lower.cls ≠ "java/lang/invoke/MethodHandle" ∧ y_Mo_lower.cls ≠ "java/lang/invoke/VarHandle" ∧ (parseMethodDescriptor y_Mo_lower.desc).map (fun d => d.parameters.length) = some 2 := by decide +kernel
theorem wq_Mo_passes : y_Mo_passes.cls = R_Mo ∧ y_Mo_passes.cls ≠ "java/lang/invoke/MethodHandle" ∧ y_Mo_passes.cls ≠ "java/lang/invoke/VarHandle" ∧ (parseMethodDescriptor y_Mo_passes.desc).map (fun d => d.parameters.length) = some 4 := by decide +kernel
theorem wq_Mo_go : y_Mo_go.cls = R_Mo ∧ y_Mo_go.cls ≠ "java/lang/invoke/MethodHandle" ∧ y_Mo_go.cls ≠ "java/lang/invoke/VarHandle" ∧ (parseMethodDescriptor y_Mo_go.desc).map (fun d => d.parameters.length) = some 5 := by decide +kernel
theorem wq_Mo_enter : y_Mo_enter.cls = R_Mo ∧ y_Mo_enter.cls ≠ "java/lang/invoke/MethodHandle" ∧ y_Mo_enter.cls ≠ "java/lang/invoke/VarHandle" ∧ (parseMethodDescriptor y_Mo_enter.desc).map (fun d => d.parameters.length) = some 5 := by decide +kernel
theorem wq_Mo_of : y_Mo_of.cls = R_Mo ∧ y_Mo_of.cls ≠ "java/lang/invoke/MethodHandle" ∧ y_Mo_of.cls ≠ "java/lang/invoke/VarHandle" ∧ (parseMethodDescriptor y_Mo_of.desc).map (fun d => d.parameters.length) = some 2 := by decide +kernel
theorem wq_Mo_both : y_Mo_both.cls = R_Mo ∧ y_Mo_both.cls ≠ "java/lang/invoke/MethodHandle" ∧ y_Mo_both.cls ≠ "java/lang/invoke/VarHandle" ∧ (parseMethodDescriptor y_Mo_both.desc).map (fun d => d.parameters.length) = some 5 := by decide +kernel
theorem wq_Mo_user : y_Mo_user.cls = R_Mo ∧ y_Mo_user.cls ≠ "java/lang/invoke/MethodHandle" ∧ y_Mo_user.cls ≠ "java/lang/invoke/VarHandle" ∧ (parseMethodDescriptor y_Mo_user.desc).map (fun d => d.parameters.length) = some 3 := by decide +kernel
theorem wq_Mo_login : y_Mo_login.cls = R_Mo ∧ y_Mo_login.cls ≠ "java/lang/invoke/MethodHandle" ∧ y_Mo_login.cls ≠ "java/lang/invoke/VarHandle" ∧ (parseMethodDescriptor y_Mo_login.desc).map (fun d => d.parameters.length) = some 3 := by decide +kernel
theorem wq_Mo_file : y_Mo_file.cls = R_Mo ∧ y_Mo_file.cls ≠ "java/lang/invoke/MethodHandle" ∧ y_Mo_file.cls ≠ "java/lang/invoke/VarHandle" ∧ (parseMethodDescriptor y_Mo_file.desc).map (fun d => d.parameters.length) = some 4 := by decide +kernel
theorem wq_Mo_access : y_Mo_access.cls = R_Mo ∧ y_Mo_access.cls ≠ "java/lang/invoke/MethodHandle" ∧ y_Mo_access.cls ≠ "java/lang/invoke/VarHandle" ∧ (parseMethodDescriptor y_Mo_access.desc).map (fun d => d.parameters.length) = some 6 := by decide +kernel
theorem wq_Mo_objects : y_Mo_objects.cls = R_Mo ∧ y_Mo_objects.cls ≠ "java/lang/invoke/MethodHandle" ∧ y_Mo_objects.cls ≠ "java/lang/invoke/VarHandle" ∧ (parseMethodDescriptor y_Mo_objects.desc).map (fun d => d.parameters.length) = some 0 := by decide +kernel
theorem wq_Mo_snapshot : y_Mo_snapshot.cls = R_Mo ∧ y_Mo_snapshot.cls ≠ "java/lang/invoke/MethodHandle" ∧ y_Mo_snapshot.cls ≠ "java/lang/invoke/VarHandle" ∧ (parseMethodDescriptor y_Mo_snapshot.desc).map (fun d => d.parameters.length) = some 0 := by decide +kernel
theorem wq_Mo_crash : y_Mo_crash.cls = R_Mo ∧ y_Mo_crash.cls ≠ "java/lang/invoke/MethodHandle" ∧ y_Mo_crash.cls ≠ "java/lang/invoke/VarHandle" ∧ (parseMethodDescriptor y_Mo_crash.desc).map (fun d => d.parameters.length) = some 0 := by decide +kernel
theorem wq_Mo_object : y_Mo_object.cls = R_Mo ∧ y_Mo_object.cls ≠ "java/lang/invoke/MethodHandle" ∧ y_Mo_object.cls ≠ "java/lang/invoke/VarHandle" ∧ (parseMethodDescriptor y_Mo_object.desc).map (fun d => d.parameters.length) = some 2 := by decide +kernel
theorem wq_Mo_in : y_Mo_in.cls = R_Mo ∧ y_Mo_in.cls ≠ "java/lang/invoke/MethodHandle" ∧ y_Mo_in.cls ≠ "java/lang/invoke/VarHandle" ∧ (parseMethodDescriptor y_Mo_in.desc).map (fun d => d.parameters.length) = some 2 := by decide +kernel
theorem wq_Mo_count : y_Mo_count.cls = R_Mo ∧ y_Mo_count.cls ≠ "java/lang/invoke/MethodHandle" ∧ y_Mo_count.cls ≠ "java/lang/invoke/VarHandle" ∧ (parseMethodDescriptor y_Mo_count.desc).map (fun d => d.parameters.length) = some 1 := by decide +kernel
theorem tg_in {l : List Cond} (h : ∀ w ∈ l, w ∈ T0) : GoodIn T0 l := fun w hw => ⟨h w hw, good_of_word (T0_good w (h w hw))⟩
theorem tg_V {own C : String} {i : Nat} {y : MethodName} {b : ByteArray} {n : Nat} {r : Option FieldType} (h1 : Cond.methodLink own i y ∈ T0) (h2 : Cond.instanceMethod y ∈ T0) (h3 : Cond.selects C y y ∈ T0) (h4 : Cond.initialized C ∈ T0) (h5 : Cond.code y b n r ∈ T0) : GoodIn T0 (wsV own i C y (Cond.code y b n r :: T0)) := by
  refine tg_in (fun w hw => ?_)
  unfold wsV at hw
  simp only [List.cons_append, List.nil_append, List.mem_cons] at hw
  rcases hw with rfl | rfl | rfl | rfl | rfl | hw
  · exact h1
  · exact h2
  · exact h3
  · exact h4
  · exact h5
  · exact hw
theorem tg_S {own : String} {i : Nat} {y : MethodName} {b : ByteArray} {n : Nat} {r : Option FieldType} (h1 : Cond.methodLink own i y ∈ T0) (h2 : Cond.static y ∈ T0) (h4 : Cond.initialized own ∈ T0) (h5 : Cond.code y b n r ∈ T0) : GoodIn T0 (wsS own i y (Cond.code y b n r :: T0)) := by
  refine tg_in (fun w hw => ?_)
  unfold wsS at hw
  simp only [List.cons_append, List.nil_append, List.mem_cons] at hw
  rcases hw with rfl | rfl | rfl | rfl | hw
  · exact h1
  · exact h2
  · exact h4
  · exact h5
  · exact hw
theorem tg_I {y : MethodName} {b : ByteArray} {n : Nat} {r : Option FieldType} (h5 : Cond.code y b n r ∈ T0) : GoodIn T0 (Cond.code y b n r :: T0) := by
  refine tg_in (fun w hw => ?_)
  rcases List.mem_cons.mp hw with rfl | hw
  · exact h5
  · exact hw
end
section
/-! MY ROWS: a class's methods as pure functions of a state; the machine does what they say -/
-- ===== pure helpers: f_ functions answer none where an index is out of range, a loop beyond its fuel
def zo_ushr (x y : Int32) : Int32 := (x.toUInt32 >>> (y.toUInt32 &&& Int32.toUInt32 31)).toInt32
theorem zo_i {α : Type} {c : Prop} [Decidable c] {a : Option α} {z : α} (h : (if c then none else a) = some z) : ¬ c ∧ a = some z := by
  by_cases hc : c
  · rw [if_pos hc] at h; cases h
  · rw [if_neg hc] at h; exact ⟨hc, h⟩
theorem zo_g {α : Type} {c : Prop} [Decidable c] {a : Option α} {z : α} (h : (if c then a else none) = some z) : c ∧ a = some z := by
  by_cases hc : c
  · rw [if_pos hc] at h; exact ⟨hc, h⟩
  · rw [if_neg hc] at h; cases h
theorem zo_t {α : Type} {c : Prop} [Decidable c] {a b r : α} (hc : c) (h : (if c then a else b) = r) : a = r := by
  rw [if_pos hc] at h; exact h
theorem zo_f {α : Type} {c : Prop} [Decidable c] {a b r : α} (hc : ¬ c) (h : (if c then a else b) = r) : b = r := by
  rw [if_neg hc] at h; exact h
theorem zo_n {α : Type} {c : Prop} [Decidable c] {a b r : α} (h : (if c then a else b) = r) : (c ∧ a = r) ∨ (¬ c ∧ b = r) := by
  by_cases hc : c
  · exact Or.inl ⟨hc, zo_t hc h⟩
  · exact Or.inr ⟨hc, zo_f hc h⟩
theorem zo_b {α β : Type} {x : Option β} {f : β → Option α} {z : α} (h : x.bind f = some z) : ∃ y, x = some y ∧ f y = some z := by
  cases x with
  | none => cases h
  | some y => exact ⟨y, rfl, h⟩
/-- after a method that may throw -/
def zx {α β κ : Type} (x : Option (Except Nat β × κ)) (f : β → κ → Option (Except Nat α × κ)) : Option (Except Nat α × κ) := match x with
  | none => none
  | some (.ok v, u) => f v u
  | some (.error k, u) => some (.error k, u)
theorem zo_x {α β κ : Type} {x : Option (Except Nat β × κ)} {f : β → κ → Option (Except Nat α × κ)} {z : Except Nat α × κ} (h : zx x f = some z) : (∃ k u, x = some (.error k, u) ∧ z = (.error k, u)) ∨ (∃ v u, x = some (.ok v, u) ∧ f v u = some z) := by
  match x, h with
  | none, h => cases h
  | some (.ok v, u), h => exact Or.inr ⟨v, u, rfl, h⟩
  | some (.error k, u), h => exact Or.inl ⟨k, u, rfl, (Option.some.inj h).symm⟩
theorem zo_nar {v : Int32} (h : vp_nar .boolean v = v) : narrow .boolean (.int v) = .int v := by
  have e : narrow .boolean (.int v) = .int (vp_nar .boolean v) := rfl
  rw [e, h]
-- ===== the world of a method
/-- the words of a throw that a warming keeps, though they aren't 'good' -/
def ka_NB : List Cond := [.castable "java/lang/IllegalArgumentException" "java/lang/IllegalArgumentException", .castable "java/util/NoSuchElementException" "java/util/NoSuchElementException", .castable "java/lang/UnsupportedOperationException" "java/lang/UnsupportedOperationException", .castable "java/lang/IllegalStateException" "java/lang/IllegalStateException",
  .declares ⟨"java/lang/RuntimeException", "<init>", "()V"⟩, .declares ⟨"java/lang/Exception", "<init>", "()V"⟩, .declares ⟨"java/lang/Throwable", "<init>", "()V"⟩]
def ka_N (U : State) : Prop := ∀ w ∈ ka_NB, va_Nw w U
theorem ka_N.moved {s U : State} (hW : s.WarmedH U.vm) (h : ka_N s) : ka_N U := by
  intro w hw
  have h0 := h w hw
  simp only [ka_NB, List.mem_cons, List.not_mem_nil, or_false] at hw
  rcases hw with rfl | rfl | rfl | rfl | rfl | rfl | rfl
  · exact va_Nw.warmC hW h0
  · exact va_Nw.warmC hW h0
  · exact va_Nw.warmC hW h0
  · exact va_Nw.warmC hW h0
  · exact va_Nw.warmD hW h0
  · exact va_Nw.warmD hW h0
  · exact va_Nw.warmD hW h0
theorem ka_N.same {s U : State} (h9 : s.vm = U.vm) (h : ka_N s) : ka_N U := by
  intro w hw
  have h0 := h w hw
  simp only [ka_NB, List.mem_cons, List.not_mem_nil, or_false] at hw
  rcases hw with rfl | rfl | rfl | rfl | rfl | rfl | rfl <;> exact va_Nw.same rfl h9 h0
theorem ka_N.use {U : State} {args : Array Value} (h : ka_N U) : ∀ w ∈ ka_NB, w.before args U = true := by
  intro w hw
  have h0 := h w hw
  simp only [ka_NB, List.mem_cons, List.not_mem_nil, or_false] at hw
  rcases hw with rfl | rfl | rfl | rfl | rfl | rfl | rfl <;> exact va_Nw.use rfl h0
abbrev ka_ty (A : Nat → Nat) : List (ClassId × FieldType) := [(A 900, .int), (A 901, .boolean), (A 902, .long)]
def ka_Wd (D : va_G) (A : Nat → Nat) (w : va_W) (sz : Nat) (U : State) : Prop :=
  U.heap.size = sz ∧ va_P D vwCl w U.heap ∧ va_K D vwCl (ka_ty A) U ∧ va_D (fun _ => True) w ∧ vx_Zq Bundle.tN "UNASSIGNED_STACK" Bundle.steD (va_A w sz) U U.heap ∧ vx_Zq Bundle.tN "SUPPRESSED_SENTINEL" Bundle.listD (va_A w sz) U U.heap ∧ ka_N U
theorem ka_blind {av : List Value} {D : va_G} {A : Nat → Nat} {w : va_W} {sz : Nat} : FrameBlind (va_Pc av (ka_Wd D A w sz)) := by
  intro a U g mk h
  obtain ⟨h0, h1, h2, h3, h4, h5, h6, h7⟩ := h
  exact ⟨h0, h1, h2, va_K.moved (u := U) (U := U.calling g mk a) (Vm.Alike.refl U.vm) h3, h4, vx_Zq.moved (u := U) (U := U.calling g mk a) (Vm.Alike.refl U.vm) h5, vx_Zq.moved (u := U) (U := U.calling g mk a) (Vm.Alike.refl U.vm) h6, ka_N.same (s := U) rfl h7⟩
/-- what stays as it is while a method runs -/
def ka_X (D : va_G) (A : Nat → Nat) (A9 : Nat → Prop) (s : State) : Prop := (∀ q, s.heap.size ≤ q → A9 q) ∧ va_K D vwCl (ka_ty A) s ∧ vx_Zq Bundle.tN "UNASSIGNED_STACK" Bundle.steD A9 s s.heap ∧ vx_Zq Bundle.tN "SUPPRESSED_SENTINEL" Bundle.listD A9 s s.heap ∧ ka_N s
theorem ka_free {D : va_G} {A : Nat → Nat} {A9 : Nat → Prop} {s : State} {w : va_W} {H : Heap} {locs : List Loc} (X : ka_X D A A9 s) (hD : va_D A9 w) (hS : va_S A9 s.heap H locs) : ∀ q, va_A w H.size q → A9 q := by
  intro q h
  rcases h with ⟨k, e, h⟩ | h
  · exact hD.2 k (q, e) h
  · exact X.1 q (Nat.le_trans hS.1 h)
theorem ka_Wd_of {D : va_G} {A : Nat → Nat} {A9 : Nat → Prop} {s : State} {w : va_W} {H : Heap} {locs : List Loc} (X : ka_X D A A9 s) (hP : va_P D vwCl w H) (hD : va_D A9 w) (hS : va_S A9 s.heap H locs) : ∀ U : State, U.heap = H → s.WarmedH U.vm → ka_Wd D A w H.size U := fun U hU hW =>
  ⟨by rw [hU], by rw [hU]; exact hP, va_K.moved hW.alike X.2.1, hD.weaken (fun _ _ _ _ => trivial),
   by rw [hU]; exact vx_Zq.moved hW.alike ((X.2.2.1.kept hS.2.1).narrow (ka_free X hD hS)), by rw [hU]; exact vx_Zq.moved hW.alike ((X.2.2.2.1.kept hS.2.1).narrow (ka_free X hD hS)), X.2.2.2.2.moved hW⟩
theorem ka_Dm {A9 : Nat → Prop} {w w' : va_W} (ha : w'.map Prod.fst = w.map Prod.fst) (hD : va_D A9 w) : va_D A9 w' := by
  have back : ∀ (k : Nat) (q : Nat × va_E), w'[k]? = some q → ∃ e, w[k]? = some (q.1, e) := by
    intro k q hk
    have h1 : (w'.map Prod.fst)[k]? = some q.1 := by rw [List.getElem?_map, hk]; rfl
    rw [ha, List.getElem?_map] at h1
    cases hw : w[k]? with
    | none => rw [hw] at h1; cases h1
    | some x =>
      rw [hw] at h1
      obtain ⟨a, e⟩ := x
      cases h1
      exact ⟨e, rfl⟩
  refine ⟨fun i j p q hi hj hpq => ?_, fun k q hk => ?_⟩
  · obtain ⟨e1, h1⟩ := back i p hi
    obtain ⟨e2, h2⟩ := back j q hj
    exact hD.1 i j _ _ h1 h2 hpq
  · obtain ⟨e1, h1⟩ := back k q hk
    exact hD.2 k (q.1, e1) h1

theorem ka_at {D : va_G} {w : va_W} {t : State} {H : Heap} (ht : t.heap = H) (hP : va_P D vwCl w H) : va_P D vwCl w t.heap := by
  rw [ht]; exact hP
-- ===== ends of a contract
abbrev ka_Ri (D : va_G) (z : Int32) (w' : va_W) (A9 : Nat → Prop) : Array Value → State → Outcome → State → Prop := va_Qi (fun (r : Int32) (_ : Unit) => r = z) (fun _ t => va_P D vwCl w' t.heap) A9
abbrev ka_Rv (D : va_G) (w' : va_W) (A9 : Nat → Prop) : Array Value → State → Outcome → State → Prop := va_Qv (fun (_ : Unit) => True) (fun _ t => va_P D vwCl w' t.heap) A9
def ka_ex (k : Nat) : String := if k = 1 then "java/lang/IllegalArgumentException" else if k = 2 then "java/util/NoSuchElementException" else if k = 3 then "java/lang/UnsupportedOperationException" else "java/lang/IllegalStateException"
abbrev ka_No : Array Value → State → Outcome → State → Prop := va_Qv (fun (_ : Unit) => False) (fun _ _ => True) (fun _ => True)
abbrev ka_Xe (D : va_G) (k : Nat) (w' : va_W) (A9 : Nat → Prop) : String → State → State → Prop := vx_X (fun (_ : Unit) => True) (fun E _ t => E = ka_ex k ∧ va_P D vwCl w' t.heap) A9
/-- a method that returns: its body's walk -/
theorem ka_of {l : Launch} {y : MethodName} {cc : ByteArray} {nL : Nat} {ret : Option FieldType} {rm : Room} {own : String} {av : List Value} {D : va_G} {A : Nat → Nat} {w : va_W} {sz mc ms : Nat} (Q : (Nat → Prop) → Array Value → State → Outcome → State → Prop)
    (hy : plainName y.cls = true) (ho : y.cls = own) (hn : (lg_sl av).length ≤ nL)
    (body : ∀ (p : Program) (e : Env) (s : State) (m : MethodId) (below : List Frame) (meth : Method) (c : Code) (A9 : Nat → Prop) (ls : Array Slot), CallFix p m c cc nL s av.toArray T0 own → meth.sig.returnType = ret → meth.locks = false → (meth.name = y.name) → ka_X D A A9 s → va_P D vwCl w s.heap → va_D A9 w → lv_has ls nL (lv_args 0 av) →
      W p l e rm s m av.toArray below meth c s.heap [] 0 0 (MQ below (Q A9) av.toArray s mc ms A9) (F0 m 0 ls [])) :
    Met l y (Cond.code y cc nL ret :: T0) rm (va_Pc av (ka_Wd D A w sz)) (Q (va_A w sz)) mc ms (va_A w sz) := by
  refine Met.ofW (cc := cc) (maxL := nL) (ret := ret) hy rfl ?_
  intro p e s m args below meth c s₁ B hml hv
  obtain ⟨rfl, hsz, hP, hK, hD0, hU, hN, hB⟩ := hv
  have hts := atoms_spec (ws := Cond.code y cc nL ret :: T0) B.pre
  have hown : s.vm.findClass own = some m.cls := by rw [← ho]; exact findClass_of_methodNamed B.named
  subst hsz
  have hD := hD0.self (sz := s.heap.size)
  have hA : ∀ q : Nat, s.heap.size ≤ q → va_A w s.heap.size q := fun q h => Or.inr h
  rw [lg_entry_eq]
  exact body p e s m below meth c _ _ ⟨B.exec, B.bytes, hml, hown, fun w h => hts w (List.mem_cons_of_mem _ h)⟩ B.returns B.notSynchronized (name_of_methodNamed B.named B.method).1 ⟨hA, hK, hU, hN, hB⟩ hP hD (lv_entry av hn)
/-- a method that throws: its body's walk -/
theorem ka_ofX {l : Launch} {y : MethodName} {cc : ByteArray} {nL : Nat} {ret : Option FieldType} {rm : Room} {own : String} {av : List Value} {D : va_G} {A : Nat → Nat} {w : va_W} {sz mc ms : Nat} (XC : (Nat → Prop) → String → State → State → Prop)
    (hy : plainName y.cls = true) (ho : y.cls = own) (hn : (lg_sl av).length ≤ nL)
    (body : ∀ (p : Program) (e : Env) (s : State) (m : MethodId) (below : List Frame) (meth : Method) (c : Code) (A9 : Nat → Prop) (ls : Array Slot), CallFix p m c cc nL s av.toArray T0 own → meth.sig.returnType = ret → meth.locks = false → (∀ x ∈ c.exceptionTable.toList, False) → ka_X D A A9 s → va_P D vwCl w s.heap → va_D A9 w → lv_has ls nL (lv_args 0 av) →
      W p l e rm s m av.toArray below meth c s.heap [] 0 0 (vx_MQ below ka_No (XC A9) av.toArray s mc ms A9) (F0 m 0 ls [])) :
    vx_Met l y (Cond.code y cc nL ret :: T0) rm (va_Pc av (ka_Wd D A w sz)) ka_No (XC (va_A w sz)) mc ms (va_A w sz) := by
  refine vx_ofW (cc := cc) (maxL := nL) (ret := ret) hy rfl ?_
  intro p e s m args below meth c s₁ B hml hx hv
  obtain ⟨rfl, hsz, hP, hK, hD0, hU, hN, hB⟩ := hv
  have hts := atoms_spec (ws := Cond.code y cc nL ret :: T0) B.pre
  have hown : s.vm.findClass own = some m.cls := by rw [← ho]; exact findClass_of_methodNamed B.named
  subst hsz
  have hD := hD0.self (sz := s.heap.size)
  have hA : ∀ q : Nat, s.heap.size ≤ q → va_A w s.heap.size q := fun q h => Or.inr h
  rw [lg_entry_eq]
  exact body p e s m below meth c _ _ ⟨B.exec, B.bytes, hml, hown, fun w h => hts w (List.mem_cons_of_mem _ h)⟩ B.returns B.notSynchronized hx ⟨hA, hK, hU, hN, hB⟩ hP hD (lv_entry av hn)
-- ===== calls: the whole world goes along
section KC
variable {p : Program} {l : Launch} {e : Env} {R : Room} {s : State} {m : MethodId} {args : Array Value} {below : List Frame} {meth : Method} {c : Code} {H : Heap} {locs : List Loc} {cells slots : Nat} {Q : State → Prop}
variable {pc : Nat} {ls : Array Slot} {rest st0 : List Value} {a : Array Value} {A9 : Nat → Prop} {mc ms : Nat} {D : va_G} {A : Nat → Nat} {w w' : va_W}
theorem ka_preV {C : String} {b ci : Nat} {fs : List Value} {T : u_T} {N : Nat} {As : List Value} (X : ka_X D A A9 s) (hP : va_P D vwCl w H) (hD : va_D A9 w) (hS : va_S A9 s.heap H locs) (q0 : Nat) (he : w[q0]? = some (b, .inr (ci, fs))) (hc : vwCl[ci]? = some (C, T, N)) : PreV s H C b (va_Pc (.ref b :: As) (ka_Wd D A w H.size)) As :=
  ⟨ka_blind, va_recv X.2.1 hP hc he, fun U hU hW => ⟨rfl, ka_Wd_of X hP hD hS U hU hW⟩⟩
theorem ka_preS {As : List Value} (X : ka_X D A A9 s) (hP : va_P D vwCl w H) (hD : va_D A9 w) (hS : va_S A9 s.heap H locs) : PreS s H (va_Pc As (ka_Wd D A w H.size)) As :=
  ⟨ka_blind, fun U hU hW => ⟨rfl, ka_Wd_of X hP hD hS U hU hW⟩⟩
theorem ka_i {z : Int32} (hr : va_Run p l e R s m args below meth c H locs cells slots mc ms (F0 m pc ls st0) rest (ka_Ri D z w' (va_A w H.size) a) (va_A w H.size)) (X : ka_X D A A9 s) (hD : va_D A9 w) (hS : va_S A9 s.heap H locs) (ha : w'.map Prod.fst = w.map Prod.fst)
    (kk : ∀ (H1 : Heap) (locs1 : List Loc), va_P D vwCl w' H1 → va_D A9 w' → va_S A9 s.heap H1 locs1 → W p l e R s m args below meth c H1 locs1 (cells + mc) (slots + ms) Q (F0 m (pc + 3) ls (.int z :: rest))) : W p l e R s m args below meth c H locs cells slots Q (F0 m pc ls st0) :=
  va_calli hr hS (fun q _ h => ka_free X hD hS q h) (ka_free X hD hS) (fun r u t H1 locs1 ht hvm hw hB hz hk hS1 => by
    subst hw
    rw [ht] at hB
    exact kk H1 locs1 hB (ka_Dm ha hD) hS1)
theorem ka_v (hr : va_Run p l e R s m args below meth c H locs cells slots mc ms (F0 m pc ls st0) rest (ka_Rv D w' (va_A w H.size) a) (va_A w H.size)) (X : ka_X D A A9 s) (hD : va_D A9 w) (hS : va_S A9 s.heap H locs) (ha : w'.map Prod.fst = w.map Prod.fst)
    (kk : ∀ (H1 : Heap) (locs1 : List Loc), va_P D vwCl w' H1 → va_D A9 w' → va_S A9 s.heap H1 locs1 → W p l e R s m args below meth c H1 locs1 (cells + mc) (slots + ms) Q (F0 m (pc + 3) ls rest)) : W p l e R s m args below meth c H locs cells slots Q (F0 m pc ls st0) :=
  va_callv hr hS (fun q _ h => ka_free X hD hS q h) (ka_free X hD hS) (fun u t H1 locs1 ht hvm hw hB hz hk hS1 => by
    rw [ht] at hB
    exact kk H1 locs1 hB (ka_Dm ha hD) hS1)
/-- a callee that throws: this method throws it on -/
theorem ka_err {k mc9 ms9 : Nat} (hr : vx_Run p l e R s m args below meth c H locs cells slots mc ms (F0 m pc ls st0) rest (ka_No a) (ka_Xe D k w' (va_A w H.size)) (va_A w H.size)) (hlk : meth.locks = false) (hex : ∀ x ∈ c.exceptionTable.toList, False) (X : ka_X D A A9 s) (hD : va_D A9 w) (hS : va_S A9 s.heap H locs) (h1 : cells + mc ≤ mc9) (h2 : slots + ms ≤ ms9) :
    W p l e R s m args below meth c H locs cells slots (vx_MQ below ka_No (ka_Xe D k w' A9) args s mc9 ms9 A9) (F0 m pc ls st0) := by
  intro T hT XX
  rcases hr T hT XX with ⟨v, st₀, t, T', L, h0, X', hL, e1, e2, ⟨⟨u, hv, hp, hb⟩, hF⟩, st⟩ | ⟨q, st₀, t, T', L, E, ce, h0, X', hL, e1, e2, ⟨u, hp, hb, hF⟩, hce, hcv, hcl, st⟩
  · exact hp.elim
  · obtain ⟨k1, k2, k3⟩ := vx_keep h0 e1 hS (fun q _ h => ka_free X hD hS q h) (ka_free X hD hS) hL hF
    obtain ⟨hE, hPw⟩ := hb
    have K : vx_W p l e R s m args below meth c T'.heap (locs ++ L) (cells + mc) (slots + ms) (vx_MQ below ka_No (ka_Xe D k w' A9) args s mc9 ms9 A9) (F0 m pc ls rest) q :=
      vx_out (E := E) (fun x hx => (hex x hx).elim) hlk (by rw [e1]; exact hce) hcv hcl (fun t9 ht9 _ => ⟨(), trivial, ⟨hE, by rw [ht9, e1]; exact hPw⟩, k3.F ht9⟩) k3.2.2 h1 h2
    obtain ⟨t2, a1, b1⟩ := K T' rfl X'
    exact ⟨t2, st.trans a1, b1⟩
end KC
section KT
variable {p : Program} {l : Launch} {e : Env} {R : Room} {s : State} {m : MethodId} {args : Array Value} {below : List Frame} {meth : Method} {c : Code} {H : Heap} {locs : List Loc} {cells slots : Nat} {Q : State → Prop}
variable {cc : ByteArray} {pc : Nat} {ls : Array Slot} {rest : List Value}
theorem ka_tabIn (hexec : p.tables.exec = Jvm.exec) (hb : c.code = cc) {dflt lo hi : Int} {offs : Array Int} {len : Nat} {x k : Int32} {off : Int} {tgt : Nat} (hdg : decode cc pc = .ok (.tableswitch dflt lo hi offs, len)) (e9 : x = k) (h1 : ¬ k.toInt < lo) (h2 : ¬ hi < k.toInt) (ho : offs[(k.toInt - lo).toNat]? = some off) (ht : (pc : Int) + off = (tgt : Int))
    (kk : W p l e R s m args below meth c H locs cells slots Q (F0 m tgt ls rest)) : W p l e R s m args below meth c H locs cells slots Q (F0 m pc ls (.int x :: rest)) := by
  subst e9
  exact lv_tableIn hexec hb hdg h1 h2 ho ht kk
theorem ka_lookIn (hexec : p.tables.exec = Jvm.exec) (hb : c.code = cc) {dflt : Int} {ps : Array (Int × Int)} {len : Nat} {x k : Int32} {off : Int} {tgt : Nat} (hdg : decode cc pc = .ok (.lookupswitch dflt ps, len)) (e9 : x = k) (hp : (ps.toList.zip (ps.toList.drop 1)).all (fun (a, next) => a.1 < next.1) = true) (ho : Op.lookupswitch.offset ps.toList dflt k.toInt = off) (ht : (pc : Int) + off = (tgt : Int))
    (kk : W p l e R s m args below meth c H locs cells slots Q (F0 m tgt ls rest)) : W p l e R s m args below meth c H locs cells slots Q (F0 m pc ls (.int x :: rest)) := by
  subst e9
  exact lv_lookup hexec hb hdg hp ho ht kk
end KT
end
section
abbrev SS : Type := (Nat → Int32) × Int32 × (Nat → Int32) × (Nat → Int32) × (Nat → Int32) × (Nat → Int32) × (Nat → Int32) × (Nat → Int32) × (Nat → Int32) × (Nat → Int32) × (Nat → Int32) × (Nat → Int32) × (Nat → Int32) × Int32 × (Nat → Int32) × (Nat → Int32) × (Nat → Int32) × (Nat → Int32) × (Nat → Int32) × (Nat → Int32) × (Nat → Int32) × Int32
def p_packed (σ : SS) : Nat → Int32 := σ.1
def q_packed (σ : SS) (x : Nat → Int32) : SS := (x, σ.2.1, σ.2.2.1, σ.2.2.2.1, σ.2.2.2.2.1, σ.2.2.2.2.2.1, σ.2.2.2.2.2.2.1, σ.2.2.2.2.2.2.2.1, σ.2.2.2.2.2.2.2.2.1, σ.2.2.2.2.2.2.2.2.2.1, σ.2.2.2.2.2.2.2.2.2.2.1, σ.2.2.2.2.2.2.2.2.2.2.2.1, σ.2.2.2.2.2.2.2.2.2.2.2.2.1, σ.2.2.2.2.2.2.2.2.2.2.2.2.2.1, σ.2.2.2.2.2.2.2.2.2.2.2.2.2.2.1, σ.2.2.2.2.2.2.2.2.2.2.2.2.2.2.2.1, σ.2.2.2.2.2.2.2.2.2.2.2.2.2.2.2.2.1, σ.2.2.2.2.2.2.2.2.2.2.2.2.2.2.2.2.2.1, σ.2.2.2.2.2.2.2.2.2.2.2.2.2.2.2.2.2.2.1, σ.2.2.2.2.2.2.2.2.2.2.2.2.2.2.2.2.2.2.2.1, σ.2.2.2.2.2.2.2.2.2.2.2.2.2.2.2.2.2.2.2.2.1, σ.2.2.2.2.2.2.2.2.2.2.2.2.2.2.2.2.2.2.2.2.2)
def p_size (σ : SS) : Int32 := σ.2.1
def q_size (σ : SS) (x : Int32) : SS := (σ.1, x, σ.2.2.1, σ.2.2.2.1, σ.2.2.2.2.1, σ.2.2.2.2.2.1, σ.2.2.2.2.2.2.1, σ.2.2.2.2.2.2.2.1, σ.2.2.2.2.2.2.2.2.1, σ.2.2.2.2.2.2.2.2.2.1, σ.2.2.2.2.2.2.2.2.2.2.1, σ.2.2.2.2.2.2.2.2.2.2.2.1, σ.2.2.2.2.2.2.2.2.2.2.2.2.1, σ.2.2.2.2.2.2.2.2.2.2.2.2.2.1, σ.2.2.2.2.2.2.2.2.2.2.2.2.2.2.1, σ.2.2.2.2.2.2.2.2.2.2.2.2.2.2.2.1, σ.2.2.2.2.2.2.2.2.2.2.2.2.2.2.2.2.1, σ.2.2.2.2.2.2.2.2.2.2.2.2.2.2.2.2.2.1, σ.2.2.2.2.2.2.2.2.2.2.2.2.2.2.2.2.2.2.1, σ.2.2.2.2.2.2.2.2.2.2.2.2.2.2.2.2.2.2.2.1, σ.2.2.2.2.2.2.2.2.2.2.2.2.2.2.2.2.2.2.2.2.1, σ.2.2.2.2.2.2.2.2.2.2.2.2.2.2.2.2.2.2.2.2.2)
def p_there (σ : SS) : Nat → Int32 := σ.2.2.1
def q_there (σ : SS) (x : Nat → Int32) : SS := (σ.1, σ.2.1, x, σ.2.2.2.1, σ.2.2.2.2.1, σ.2.2.2.2.2.1, σ.2.2.2.2.2.2.1, σ.2.2.2.2.2.2.2.1, σ.2.2.2.2.2.2.2.2.1, σ.2.2.2.2.2.2.2.2.2.1, σ.2.2.2.2.2.2.2.2.2.2.1, σ.2.2.2.2.2.2.2.2.2.2.2.1, σ.2.2.2.2.2.2.2.2.2.2.2.2.1, σ.2.2.2.2.2.2.2.2.2.2.2.2.2.1, σ.2.2.2.2.2.2.2.2.2.2.2.2.2.2.1, σ.2.2.2.2.2.2.2.2.2.2.2.2.2.2.2.1, σ.2.2.2.2.2.2.2.2.2.2.2.2.2.2.2.2.1, σ.2.2.2.2.2.2.2.2.2.2.2.2.2.2.2.2.2.1, σ.2.2.2.2.2.2.2.2.2.2.2.2.2.2.2.2.2.2.1, σ.2.2.2.2.2.2.2.2.2.2.2.2.2.2.2.2.2.2.2.1, σ.2.2.2.2.2.2.2.2.2.2.2.2.2.2.2.2.2.2.2.2.1, σ.2.2.2.2.2.2.2.2.2.2.2.2.2.2.2.2.2.2.2.2.2)
def p_kind (σ : SS) : Nat → Int32 := σ.2.2.2.1
def q_kind (σ : SS) (x : Nat → Int32) : SS := (σ.1, σ.2.1, σ.2.2.1, x, σ.2.2.2.2.1, σ.2.2.2.2.2.1, σ.2.2.2.2.2.2.1, σ.2.2.2.2.2.2.2.1, σ.2.2.2.2.2.2.2.2.1, σ.2.2.2.2.2.2.2.2.2.1, σ.2.2.2.2.2.2.2.2.2.2.1, σ.2.2.2.2.2.2.2.2.2.2.2.1, σ.2.2.2.2.2.2.2.2.2.2.2.2.1, σ.2.2.2.2.2.2.2.2.2.2.2.2.2.1, σ.2.2.2.2.2.2.2.2.2.2.2.2.2.2.1, σ.2.2.2.2.2.2.2.2.2.2.2.2.2.2.2.1, σ.2.2.2.2.2.2.2.2.2.2.2.2.2.2.2.2.1, σ.2.2.2.2.2.2.2.2.2.2.2.2.2.2.2.2.2.1, σ.2.2.2.2.2.2.2.2.2.2.2.2.2.2.2.2.2.2.1, σ.2.2.2.2.2.2.2.2.2.2.2.2.2.2.2.2.2.2.2.1, σ.2.2.2.2.2.2.2.2.2.2.2.2.2.2.2.2.2.2.2.2.1, σ.2.2.2.2.2.2.2.2.2.2.2.2.2.2.2.2.2.2.2.2.2)
def p_label (σ : SS) : Nat → Int32 := σ.2.2.2.2.1
def q_label (σ : SS) (x : Nat → Int32) : SS := (σ.1, σ.2.1, σ.2.2.1, σ.2.2.2.1, x, σ.2.2.2.2.2.1, σ.2.2.2.2.2.2.1, σ.2.2.2.2.2.2.2.1, σ.2.2.2.2.2.2.2.2.1, σ.2.2.2.2.2.2.2.2.2.1, σ.2.2.2.2.2.2.2.2.2.2.1, σ.2.2.2.2.2.2.2.2.2.2.2.1, σ.2.2.2.2.2.2.2.2.2.2.2.2.1, σ.2.2.2.2.2.2.2.2.2.2.2.2.2.1, σ.2.2.2.2.2.2.2.2.2.2.2.2.2.2.1, σ.2.2.2.2.2.2.2.2.2.2.2.2.2.2.2.1, σ.2.2.2.2.2.2.2.2.2.2.2.2.2.2.2.2.1, σ.2.2.2.2.2.2.2.2.2.2.2.2.2.2.2.2.2.1, σ.2.2.2.2.2.2.2.2.2.2.2.2.2.2.2.2.2.2.1, σ.2.2.2.2.2.2.2.2.2.2.2.2.2.2.2.2.2.2.2.1, σ.2.2.2.2.2.2.2.2.2.2.2.2.2.2.2.2.2.2.2.2.1, σ.2.2.2.2.2.2.2.2.2.2.2.2.2.2.2.2.2.2.2.2.2)
def p_quota (σ : SS) : Nat → Int32 := σ.2.2.2.2.2.1
def q_quota (σ : SS) (x : Nat → Int32) : SS := (σ.1, σ.2.1, σ.2.2.1, σ.2.2.2.1, σ.2.2.2.2.1, x, σ.2.2.2.2.2.2.1, σ.2.2.2.2.2.2.2.1, σ.2.2.2.2.2.2.2.2.1, σ.2.2.2.2.2.2.2.2.2.1, σ.2.2.2.2.2.2.2.2.2.2.1, σ.2.2.2.2.2.2.2.2.2.2.2.1, σ.2.2.2.2.2.2.2.2.2.2.2.2.1, σ.2.2.2.2.2.2.2.2.2.2.2.2.2.1, σ.2.2.2.2.2.2.2.2.2.2.2.2.2.2.1, σ.2.2.2.2.2.2.2.2.2.2.2.2.2.2.2.1, σ.2.2.2.2.2.2.2.2.2.2.2.2.2.2.2.2.1, σ.2.2.2.2.2.2.2.2.2.2.2.2.2.2.2.2.2.1, σ.2.2.2.2.2.2.2.2.2.2.2.2.2.2.2.2.2.2.1, σ.2.2.2.2.2.2.2.2.2.2.2.2.2.2.2.2.2.2.2.1, σ.2.2.2.2.2.2.2.2.2.2.2.2.2.2.2.2.2.2.2.2.1, σ.2.2.2.2.2.2.2.2.2.2.2.2.2.2.2.2.2.2.2.2.2)
def p_place (σ : SS) : Nat → Int32 := σ.2.2.2.2.2.2.1
def q_place (σ : SS) (x : Nat → Int32) : SS := (σ.1, σ.2.1, σ.2.2.1, σ.2.2.2.1, σ.2.2.2.2.1, σ.2.2.2.2.2.1, x, σ.2.2.2.2.2.2.2.1, σ.2.2.2.2.2.2.2.2.1, σ.2.2.2.2.2.2.2.2.2.1, σ.2.2.2.2.2.2.2.2.2.2.1, σ.2.2.2.2.2.2.2.2.2.2.2.1, σ.2.2.2.2.2.2.2.2.2.2.2.2.1, σ.2.2.2.2.2.2.2.2.2.2.2.2.2.1, σ.2.2.2.2.2.2.2.2.2.2.2.2.2.2.1, σ.2.2.2.2.2.2.2.2.2.2.2.2.2.2.2.1, σ.2.2.2.2.2.2.2.2.2.2.2.2.2.2.2.2.1, σ.2.2.2.2.2.2.2.2.2.2.2.2.2.2.2.2.2.1, σ.2.2.2.2.2.2.2.2.2.2.2.2.2.2.2.2.2.2.1, σ.2.2.2.2.2.2.2.2.2.2.2.2.2.2.2.2.2.2.2.1, σ.2.2.2.2.2.2.2.2.2.2.2.2.2.2.2.2.2.2.2.2.1, σ.2.2.2.2.2.2.2.2.2.2.2.2.2.2.2.2.2.2.2.2.2)
def p_depth (σ : SS) : Nat → Int32 := σ.2.2.2.2.2.2.2.1
def q_depth (σ : SS) (x : Nat → Int32) : SS := (σ.1, σ.2.1, σ.2.2.1, σ.2.2.2.1, σ.2.2.2.2.1, σ.2.2.2.2.2.1, σ.2.2.2.2.2.2.1, x, σ.2.2.2.2.2.2.2.2.1, σ.2.2.2.2.2.2.2.2.2.1, σ.2.2.2.2.2.2.2.2.2.2.1, σ.2.2.2.2.2.2.2.2.2.2.2.1, σ.2.2.2.2.2.2.2.2.2.2.2.2.1, σ.2.2.2.2.2.2.2.2.2.2.2.2.2.1, σ.2.2.2.2.2.2.2.2.2.2.2.2.2.2.1, σ.2.2.2.2.2.2.2.2.2.2.2.2.2.2.2.1, σ.2.2.2.2.2.2.2.2.2.2.2.2.2.2.2.2.1, σ.2.2.2.2.2.2.2.2.2.2.2.2.2.2.2.2.2.1, σ.2.2.2.2.2.2.2.2.2.2.2.2.2.2.2.2.2.2.1, σ.2.2.2.2.2.2.2.2.2.2.2.2.2.2.2.2.2.2.2.1, σ.2.2.2.2.2.2.2.2.2.2.2.2.2.2.2.2.2.2.2.2.1, σ.2.2.2.2.2.2.2.2.2.2.2.2.2.2.2.2.2.2.2.2.2)
def p_clearance (σ : SS) : Nat → Int32 := σ.2.2.2.2.2.2.2.2.1
def q_clearance (σ : SS) (x : Nat → Int32) : SS := (σ.1, σ.2.1, σ.2.2.1, σ.2.2.2.1, σ.2.2.2.2.1, σ.2.2.2.2.2.1, σ.2.2.2.2.2.2.1, σ.2.2.2.2.2.2.2.1, x, σ.2.2.2.2.2.2.2.2.2.1, σ.2.2.2.2.2.2.2.2.2.2.1, σ.2.2.2.2.2.2.2.2.2.2.2.1, σ.2.2.2.2.2.2.2.2.2.2.2.2.1, σ.2.2.2.2.2.2.2.2.2.2.2.2.2.1, σ.2.2.2.2.2.2.2.2.2.2.2.2.2.2.1, σ.2.2.2.2.2.2.2.2.2.2.2.2.2.2.2.1, σ.2.2.2.2.2.2.2.2.2.2.2.2.2.2.2.2.1, σ.2.2.2.2.2.2.2.2.2.2.2.2.2.2.2.2.2.1, σ.2.2.2.2.2.2.2.2.2.2.2.2.2.2.2.2.2.2.1, σ.2.2.2.2.2.2.2.2.2.2.2.2.2.2.2.2.2.2.2.1, σ.2.2.2.2.2.2.2.2.2.2.2.2.2.2.2.2.2.2.2.2.1, σ.2.2.2.2.2.2.2.2.2.2.2.2.2.2.2.2.2.2.2.2.2)
def p_guard (σ : SS) : Nat → Int32 := σ.2.2.2.2.2.2.2.2.2.1
def q_guard (σ : SS) (x : Nat → Int32) : SS := (σ.1, σ.2.1, σ.2.2.1, σ.2.2.2.1, σ.2.2.2.2.1, σ.2.2.2.2.2.1, σ.2.2.2.2.2.2.1, σ.2.2.2.2.2.2.2.1, σ.2.2.2.2.2.2.2.2.1, x, σ.2.2.2.2.2.2.2.2.2.2.1, σ.2.2.2.2.2.2.2.2.2.2.2.1, σ.2.2.2.2.2.2.2.2.2.2.2.2.1, σ.2.2.2.2.2.2.2.2.2.2.2.2.2.1, σ.2.2.2.2.2.2.2.2.2.2.2.2.2.2.1, σ.2.2.2.2.2.2.2.2.2.2.2.2.2.2.2.1, σ.2.2.2.2.2.2.2.2.2.2.2.2.2.2.2.2.1, σ.2.2.2.2.2.2.2.2.2.2.2.2.2.2.2.2.2.1, σ.2.2.2.2.2.2.2.2.2.2.2.2.2.2.2.2.2.2.1, σ.2.2.2.2.2.2.2.2.2.2.2.2.2.2.2.2.2.2.2.1, σ.2.2.2.2.2.2.2.2.2.2.2.2.2.2.2.2.2.2.2.2.1, σ.2.2.2.2.2.2.2.2.2.2.2.2.2.2.2.2.2.2.2.2.2)
def p_entry (σ : SS) : Nat → Int32 := σ.2.2.2.2.2.2.2.2.2.2.1
def q_entry (σ : SS) (x : Nat → Int32) : SS := (σ.1, σ.2.1, σ.2.2.1, σ.2.2.2.1, σ.2.2.2.2.1, σ.2.2.2.2.2.1, σ.2.2.2.2.2.2.1, σ.2.2.2.2.2.2.2.1, σ.2.2.2.2.2.2.2.2.1, σ.2.2.2.2.2.2.2.2.2.1, x, σ.2.2.2.2.2.2.2.2.2.2.2.1, σ.2.2.2.2.2.2.2.2.2.2.2.2.1, σ.2.2.2.2.2.2.2.2.2.2.2.2.2.1, σ.2.2.2.2.2.2.2.2.2.2.2.2.2.2.1, σ.2.2.2.2.2.2.2.2.2.2.2.2.2.2.2.1, σ.2.2.2.2.2.2.2.2.2.2.2.2.2.2.2.2.1, σ.2.2.2.2.2.2.2.2.2.2.2.2.2.2.2.2.2.1, σ.2.2.2.2.2.2.2.2.2.2.2.2.2.2.2.2.2.2.1, σ.2.2.2.2.2.2.2.2.2.2.2.2.2.2.2.2.2.2.2.1, σ.2.2.2.2.2.2.2.2.2.2.2.2.2.2.2.2.2.2.2.2.1, σ.2.2.2.2.2.2.2.2.2.2.2.2.2.2.2.2.2.2.2.2.2)
def p_cellCount (σ : SS) : Nat → Int32 := σ.2.2.2.2.2.2.2.2.2.2.2.1
def q_cellCount (σ : SS) (x : Nat → Int32) : SS := (σ.1, σ.2.1, σ.2.2.1, σ.2.2.2.1, σ.2.2.2.2.1, σ.2.2.2.2.2.1, σ.2.2.2.2.2.2.1, σ.2.2.2.2.2.2.2.1, σ.2.2.2.2.2.2.2.2.1, σ.2.2.2.2.2.2.2.2.2.1, σ.2.2.2.2.2.2.2.2.2.2.1, x, σ.2.2.2.2.2.2.2.2.2.2.2.2.1, σ.2.2.2.2.2.2.2.2.2.2.2.2.2.1, σ.2.2.2.2.2.2.2.2.2.2.2.2.2.2.1, σ.2.2.2.2.2.2.2.2.2.2.2.2.2.2.2.1, σ.2.2.2.2.2.2.2.2.2.2.2.2.2.2.2.2.1, σ.2.2.2.2.2.2.2.2.2.2.2.2.2.2.2.2.2.1, σ.2.2.2.2.2.2.2.2.2.2.2.2.2.2.2.2.2.2.1, σ.2.2.2.2.2.2.2.2.2.2.2.2.2.2.2.2.2.2.2.1, σ.2.2.2.2.2.2.2.2.2.2.2.2.2.2.2.2.2.2.2.2.1, σ.2.2.2.2.2.2.2.2.2.2.2.2.2.2.2.2.2.2.2.2.2)
def p_cells (σ : SS) : Nat → Int32 := σ.2.2.2.2.2.2.2.2.2.2.2.2.1
def q_cells (σ : SS) (x : Nat → Int32) : SS := (σ.1, σ.2.1, σ.2.2.1, σ.2.2.2.1, σ.2.2.2.2.1, σ.2.2.2.2.2.1, σ.2.2.2.2.2.2.1, σ.2.2.2.2.2.2.2.1, σ.2.2.2.2.2.2.2.2.1, σ.2.2.2.2.2.2.2.2.2.1, σ.2.2.2.2.2.2.2.2.2.2.1, σ.2.2.2.2.2.2.2.2.2.2.2.1, x, σ.2.2.2.2.2.2.2.2.2.2.2.2.2.1, σ.2.2.2.2.2.2.2.2.2.2.2.2.2.2.1, σ.2.2.2.2.2.2.2.2.2.2.2.2.2.2.2.1, σ.2.2.2.2.2.2.2.2.2.2.2.2.2.2.2.2.1, σ.2.2.2.2.2.2.2.2.2.2.2.2.2.2.2.2.2.1, σ.2.2.2.2.2.2.2.2.2.2.2.2.2.2.2.2.2.2.1, σ.2.2.2.2.2.2.2.2.2.2.2.2.2.2.2.2.2.2.2.1, σ.2.2.2.2.2.2.2.2.2.2.2.2.2.2.2.2.2.2.2.2.1, σ.2.2.2.2.2.2.2.2.2.2.2.2.2.2.2.2.2.2.2.2.2)
def p_made (σ : SS) : Int32 := σ.2.2.2.2.2.2.2.2.2.2.2.2.2.1
def q_made (σ : SS) (x : Int32) : SS := (σ.1, σ.2.1, σ.2.2.1, σ.2.2.2.1, σ.2.2.2.2.1, σ.2.2.2.2.2.1, σ.2.2.2.2.2.2.1, σ.2.2.2.2.2.2.2.1, σ.2.2.2.2.2.2.2.2.1, σ.2.2.2.2.2.2.2.2.2.1, σ.2.2.2.2.2.2.2.2.2.2.1, σ.2.2.2.2.2.2.2.2.2.2.2.1, σ.2.2.2.2.2.2.2.2.2.2.2.2.1, x, σ.2.2.2.2.2.2.2.2.2.2.2.2.2.2.1, σ.2.2.2.2.2.2.2.2.2.2.2.2.2.2.2.1, σ.2.2.2.2.2.2.2.2.2.2.2.2.2.2.2.2.1, σ.2.2.2.2.2.2.2.2.2.2.2.2.2.2.2.2.2.1, σ.2.2.2.2.2.2.2.2.2.2.2.2.2.2.2.2.2.2.1, σ.2.2.2.2.2.2.2.2.2.2.2.2.2.2.2.2.2.2.2.1, σ.2.2.2.2.2.2.2.2.2.2.2.2.2.2.2.2.2.2.2.2.1, σ.2.2.2.2.2.2.2.2.2.2.2.2.2.2.2.2.2.2.2.2.2)
def p_uthere (σ : SS) : Nat → Int32 := σ.2.2.2.2.2.2.2.2.2.2.2.2.2.2.1
def q_uthere (σ : SS) (x : Nat → Int32) : SS := (σ.1, σ.2.1, σ.2.2.1, σ.2.2.2.1, σ.2.2.2.2.1, σ.2.2.2.2.2.1, σ.2.2.2.2.2.2.1, σ.2.2.2.2.2.2.2.1, σ.2.2.2.2.2.2.2.2.1, σ.2.2.2.2.2.2.2.2.2.1, σ.2.2.2.2.2.2.2.2.2.2.1, σ.2.2.2.2.2.2.2.2.2.2.2.1, σ.2.2.2.2.2.2.2.2.2.2.2.2.1, σ.2.2.2.2.2.2.2.2.2.2.2.2.2.1, x, σ.2.2.2.2.2.2.2.2.2.2.2.2.2.2.2.1, σ.2.2.2.2.2.2.2.2.2.2.2.2.2.2.2.2.1, σ.2.2.2.2.2.2.2.2.2.2.2.2.2.2.2.2.2.1, σ.2.2.2.2.2.2.2.2.2.2.2.2.2.2.2.2.2.2.1, σ.2.2.2.2.2.2.2.2.2.2.2.2.2.2.2.2.2.2.2.1, σ.2.2.2.2.2.2.2.2.2.2.2.2.2.2.2.2.2.2.2.2.1, σ.2.2.2.2.2.2.2.2.2.2.2.2.2.2.2.2.2.2.2.2.2)
def p_password (σ : SS) : Nat → Int32 := σ.2.2.2.2.2.2.2.2.2.2.2.2.2.2.2.1
def q_password (σ : SS) (x : Nat → Int32) : SS := (σ.1, σ.2.1, σ.2.2.1, σ.2.2.2.1, σ.2.2.2.2.1, σ.2.2.2.2.2.1, σ.2.2.2.2.2.2.1, σ.2.2.2.2.2.2.2.1, σ.2.2.2.2.2.2.2.2.1, σ.2.2.2.2.2.2.2.2.2.1, σ.2.2.2.2.2.2.2.2.2.2.1, σ.2.2.2.2.2.2.2.2.2.2.2.1, σ.2.2.2.2.2.2.2.2.2.2.2.2.1, σ.2.2.2.2.2.2.2.2.2.2.2.2.2.1, σ.2.2.2.2.2.2.2.2.2.2.2.2.2.2.1, x, σ.2.2.2.2.2.2.2.2.2.2.2.2.2.2.2.2.1, σ.2.2.2.2.2.2.2.2.2.2.2.2.2.2.2.2.2.1, σ.2.2.2.2.2.2.2.2.2.2.2.2.2.2.2.2.2.2.1, σ.2.2.2.2.2.2.2.2.2.2.2.2.2.2.2.2.2.2.2.1, σ.2.2.2.2.2.2.2.2.2.2.2.2.2.2.2.2.2.2.2.2.1, σ.2.2.2.2.2.2.2.2.2.2.2.2.2.2.2.2.2.2.2.2.2)
def p_firstCategory (σ : SS) : Nat → Int32 := σ.2.2.2.2.2.2.2.2.2.2.2.2.2.2.2.2.1
def q_firstCategory (σ : SS) (x : Nat → Int32) : SS := (σ.1, σ.2.1, σ.2.2.1, σ.2.2.2.1, σ.2.2.2.2.1, σ.2.2.2.2.2.1, σ.2.2.2.2.2.2.1, σ.2.2.2.2.2.2.2.1, σ.2.2.2.2.2.2.2.2.1, σ.2.2.2.2.2.2.2.2.2.1, σ.2.2.2.2.2.2.2.2.2.2.1, σ.2.2.2.2.2.2.2.2.2.2.2.1, σ.2.2.2.2.2.2.2.2.2.2.2.2.1, σ.2.2.2.2.2.2.2.2.2.2.2.2.2.1, σ.2.2.2.2.2.2.2.2.2.2.2.2.2.2.1, σ.2.2.2.2.2.2.2.2.2.2.2.2.2.2.2.1, x, σ.2.2.2.2.2.2.2.2.2.2.2.2.2.2.2.2.2.1, σ.2.2.2.2.2.2.2.2.2.2.2.2.2.2.2.2.2.2.1, σ.2.2.2.2.2.2.2.2.2.2.2.2.2.2.2.2.2.2.2.1, σ.2.2.2.2.2.2.2.2.2.2.2.2.2.2.2.2.2.2.2.2.1, σ.2.2.2.2.2.2.2.2.2.2.2.2.2.2.2.2.2.2.2.2.2)
def p_secondCategory (σ : SS) : Nat → Int32 := σ.2.2.2.2.2.2.2.2.2.2.2.2.2.2.2.2.2.1
def q_secondCategory (σ : SS) (x : Nat → Int32) : SS := (σ.1, σ.2.1, σ.2.2.1, σ.2.2.2.1, σ.2.2.2.2.1, σ.2.2.2.2.2.1, σ.2.2.2.2.2.2.1, σ.2.2.2.2.2.2.2.1, σ.2.2.2.2.2.2.2.2.1, σ.2.2.2.2.2.2.2.2.2.1, σ.2.2.2.2.2.2.2.2.2.2.1, σ.2.2.2.2.2.2.2.2.2.2.2.1, σ.2.2.2.2.2.2.2.2.2.2.2.2.1, σ.2.2.2.2.2.2.2.2.2.2.2.2.2.1, σ.2.2.2.2.2.2.2.2.2.2.2.2.2.2.1, σ.2.2.2.2.2.2.2.2.2.2.2.2.2.2.2.1, σ.2.2.2.2.2.2.2.2.2.2.2.2.2.2.2.2.1, x, σ.2.2.2.2.2.2.2.2.2.2.2.2.2.2.2.2.2.2.1, σ.2.2.2.2.2.2.2.2.2.2.2.2.2.2.2.2.2.2.2.1, σ.2.2.2.2.2.2.2.2.2.2.2.2.2.2.2.2.2.2.2.2.1, σ.2.2.2.2.2.2.2.2.2.2.2.2.2.2.2.2.2.2.2.2.2)
def p_home (σ : SS) : Nat → Int32 := σ.2.2.2.2.2.2.2.2.2.2.2.2.2.2.2.2.2.2.1
def q_home (σ : SS) (x : Nat → Int32) : SS := (σ.1, σ.2.1, σ.2.2.1, σ.2.2.2.1, σ.2.2.2.2.1, σ.2.2.2.2.2.1, σ.2.2.2.2.2.2.1, σ.2.2.2.2.2.2.2.1, σ.2.2.2.2.2.2.2.2.1, σ.2.2.2.2.2.2.2.2.2.1, σ.2.2.2.2.2.2.2.2.2.2.1, σ.2.2.2.2.2.2.2.2.2.2.2.1, σ.2.2.2.2.2.2.2.2.2.2.2.2.1, σ.2.2.2.2.2.2.2.2.2.2.2.2.2.1, σ.2.2.2.2.2.2.2.2.2.2.2.2.2.2.1, σ.2.2.2.2.2.2.2.2.2.2.2.2.2.2.2.1, σ.2.2.2.2.2.2.2.2.2.2.2.2.2.2.2.2.1, σ.2.2.2.2.2.2.2.2.2.2.2.2.2.2.2.2.2.1, x, σ.2.2.2.2.2.2.2.2.2.2.2.2.2.2.2.2.2.2.2.1, σ.2.2.2.2.2.2.2.2.2.2.2.2.2.2.2.2.2.2.2.2.1, σ.2.2.2.2.2.2.2.2.2.2.2.2.2.2.2.2.2.2.2.2.2)
def p_directory (σ : SS) : Nat → Int32 := σ.2.2.2.2.2.2.2.2.2.2.2.2.2.2.2.2.2.2.2.1
def q_directory (σ : SS) (x : Nat → Int32) : SS := (σ.1, σ.2.1, σ.2.2.1, σ.2.2.2.1, σ.2.2.2.2.1, σ.2.2.2.2.2.1, σ.2.2.2.2.2.2.1, σ.2.2.2.2.2.2.2.1, σ.2.2.2.2.2.2.2.2.1, σ.2.2.2.2.2.2.2.2.2.1, σ.2.2.2.2.2.2.2.2.2.2.1, σ.2.2.2.2.2.2.2.2.2.2.2.1, σ.2.2.2.2.2.2.2.2.2.2.2.2.1, σ.2.2.2.2.2.2.2.2.2.2.2.2.2.1, σ.2.2.2.2.2.2.2.2.2.2.2.2.2.2.1, σ.2.2.2.2.2.2.2.2.2.2.2.2.2.2.2.1, σ.2.2.2.2.2.2.2.2.2.2.2.2.2.2.2.2.1, σ.2.2.2.2.2.2.2.2.2.2.2.2.2.2.2.2.2.1, σ.2.2.2.2.2.2.2.2.2.2.2.2.2.2.2.2.2.2.1, x, σ.2.2.2.2.2.2.2.2.2.2.2.2.2.2.2.2.2.2.2.2.1, σ.2.2.2.2.2.2.2.2.2.2.2.2.2.2.2.2.2.2.2.2.2)
def p_gate (σ : SS) : Nat → Int32 := σ.2.2.2.2.2.2.2.2.2.2.2.2.2.2.2.2.2.2.2.2.1
def q_gate (σ : SS) (x : Nat → Int32) : SS := (σ.1, σ.2.1, σ.2.2.1, σ.2.2.2.1, σ.2.2.2.2.1, σ.2.2.2.2.2.1, σ.2.2.2.2.2.2.1, σ.2.2.2.2.2.2.2.1, σ.2.2.2.2.2.2.2.2.1, σ.2.2.2.2.2.2.2.2.2.1, σ.2.2.2.2.2.2.2.2.2.2.1, σ.2.2.2.2.2.2.2.2.2.2.2.1, σ.2.2.2.2.2.2.2.2.2.2.2.2.1, σ.2.2.2.2.2.2.2.2.2.2.2.2.2.1, σ.2.2.2.2.2.2.2.2.2.2.2.2.2.2.1, σ.2.2.2.2.2.2.2.2.2.2.2.2.2.2.2.1, σ.2.2.2.2.2.2.2.2.2.2.2.2.2.2.2.2.1, σ.2.2.2.2.2.2.2.2.2.2.2.2.2.2.2.2.2.1, σ.2.2.2.2.2.2.2.2.2.2.2.2.2.2.2.2.2.2.1, σ.2.2.2.2.2.2.2.2.2.2.2.2.2.2.2.2.2.2.2.1, x, σ.2.2.2.2.2.2.2.2.2.2.2.2.2.2.2.2.2.2.2.2.2)
def p_categories (σ : SS) : Int32 := σ.2.2.2.2.2.2.2.2.2.2.2.2.2.2.2.2.2.2.2.2.2
def q_categories (σ : SS) (x : Int32) : SS := (σ.1, σ.2.1, σ.2.2.1, σ.2.2.2.1, σ.2.2.2.2.1, σ.2.2.2.2.2.1, σ.2.2.2.2.2.2.1, σ.2.2.2.2.2.2.2.1, σ.2.2.2.2.2.2.2.2.1, σ.2.2.2.2.2.2.2.2.2.1, σ.2.2.2.2.2.2.2.2.2.2.1, σ.2.2.2.2.2.2.2.2.2.2.2.1, σ.2.2.2.2.2.2.2.2.2.2.2.2.1, σ.2.2.2.2.2.2.2.2.2.2.2.2.2.1, σ.2.2.2.2.2.2.2.2.2.2.2.2.2.2.1, σ.2.2.2.2.2.2.2.2.2.2.2.2.2.2.2.1, σ.2.2.2.2.2.2.2.2.2.2.2.2.2.2.2.2.1, σ.2.2.2.2.2.2.2.2.2.2.2.2.2.2.2.2.2.1, σ.2.2.2.2.2.2.2.2.2.2.2.2.2.2.2.2.2.2.1, σ.2.2.2.2.2.2.2.2.2.2.2.2.2.2.2.2.2.2.2.1, σ.2.2.2.2.2.2.2.2.2.2.2.2.2.2.2.2.2.2.2.2.1, x)
abbrev KS : Type := SS × SS
def gN_packed (σ : KS) : Nat → Int32 := p_packed σ.1
def sN_packed (σ : KS) (x : Nat → Int32) : KS := (q_packed σ.1 x, σ.2)
def gK_packed (σ : KS) : Nat → Int32 := p_packed σ.2
def sK_packed (σ : KS) (x : Nat → Int32) : KS := (σ.1, q_packed σ.2 x)
def gN_size (σ : KS) : Int32 := p_size σ.1
def sN_size (σ : KS) (x : Int32) : KS := (q_size σ.1 x, σ.2)
def gK_size (σ : KS) : Int32 := p_size σ.2
def sK_size (σ : KS) (x : Int32) : KS := (σ.1, q_size σ.2 x)
def gN_there (σ : KS) : Nat → Int32 := p_there σ.1
def sN_there (σ : KS) (x : Nat → Int32) : KS := (q_there σ.1 x, σ.2)
def gK_there (σ : KS) : Nat → Int32 := p_there σ.2
def sK_there (σ : KS) (x : Nat → Int32) : KS := (σ.1, q_there σ.2 x)
def gN_kind (σ : KS) : Nat → Int32 := p_kind σ.1
def sN_kind (σ : KS) (x : Nat → Int32) : KS := (q_kind σ.1 x, σ.2)
def gK_kind (σ : KS) : Nat → Int32 := p_kind σ.2
def sK_kind (σ : KS) (x : Nat → Int32) : KS := (σ.1, q_kind σ.2 x)
def gN_label (σ : KS) : Nat → Int32 := p_label σ.1
def sN_label (σ : KS) (x : Nat → Int32) : KS := (q_label σ.1 x, σ.2)
def gK_label (σ : KS) : Nat → Int32 := p_label σ.2
def sK_label (σ : KS) (x : Nat → Int32) : KS := (σ.1, q_label σ.2 x)
def gN_quota (σ : KS) : Nat → Int32 := p_quota σ.1
def sN_quota (σ : KS) (x : Nat → Int32) : KS := (q_quota σ.1 x, σ.2)
def gK_quota (σ : KS) : Nat → Int32 := p_quota σ.2
def sK_quota (σ : KS) (x : Nat → Int32) : KS := (σ.1, q_quota σ.2 x)
def gN_place (σ : KS) : Nat → Int32 := p_place σ.1
def sN_place (σ : KS) (x : Nat → Int32) : KS := (q_place σ.1 x, σ.2)
def gK_place (σ : KS) : Nat → Int32 := p_place σ.2
def sK_place (σ : KS) (x : Nat → Int32) : KS := (σ.1, q_place σ.2 x)
def gN_depth (σ : KS) : Nat → Int32 := p_depth σ.1
def sN_depth (σ : KS) (x : Nat → Int32) : KS := (q_depth σ.1 x, σ.2)
def gK_depth (σ : KS) : Nat → Int32 := p_depth σ.2
def sK_depth (σ : KS) (x : Nat → Int32) : KS := (σ.1, q_depth σ.2 x)
def gN_clearance (σ : KS) : Nat → Int32 := p_clearance σ.1
def sN_clearance (σ : KS) (x : Nat → Int32) : KS := (q_clearance σ.1 x, σ.2)
def gK_clearance (σ : KS) : Nat → Int32 := p_clearance σ.2
def sK_clearance (σ : KS) (x : Nat → Int32) : KS := (σ.1, q_clearance σ.2 x)
def gN_guard (σ : KS) : Nat → Int32 := p_guard σ.1
def sN_guard (σ : KS) (x : Nat → Int32) : KS := (q_guard σ.1 x, σ.2)
def gK_guard (σ : KS) : Nat → Int32 := p_guard σ.2
def sK_guard (σ : KS) (x : Nat → Int32) : KS := (σ.1, q_guard σ.2 x)
def gN_entry (σ : KS) : Nat → Int32 := p_entry σ.1
def sN_entry (σ : KS) (x : Nat → Int32) : KS := (q_entry σ.1 x, σ.2)
def gK_entry (σ : KS) : Nat → Int32 := p_entry σ.2
def sK_entry (σ : KS) (x : Nat → Int32) : KS := (σ.1, q_entry σ.2 x)
def gN_cellCount (σ : KS) : Nat → Int32 := p_cellCount σ.1
def sN_cellCount (σ : KS) (x : Nat → Int32) : KS := (q_cellCount σ.1 x, σ.2)
def gK_cellCount (σ : KS) : Nat → Int32 := p_cellCount σ.2
def sK_cellCount (σ : KS) (x : Nat → Int32) : KS := (σ.1, q_cellCount σ.2 x)
def gN_cells (σ : KS) : Nat → Int32 := p_cells σ.1
def sN_cells (σ : KS) (x : Nat → Int32) : KS := (q_cells σ.1 x, σ.2)
def gK_cells (σ : KS) : Nat → Int32 := p_cells σ.2
def sK_cells (σ : KS) (x : Nat → Int32) : KS := (σ.1, q_cells σ.2 x)
def gN_made (σ : KS) : Int32 := p_made σ.1
def sN_made (σ : KS) (x : Int32) : KS := (q_made σ.1 x, σ.2)
def gK_made (σ : KS) : Int32 := p_made σ.2
def sK_made (σ : KS) (x : Int32) : KS := (σ.1, q_made σ.2 x)
def gN_uthere (σ : KS) : Nat → Int32 := p_uthere σ.1
def sN_uthere (σ : KS) (x : Nat → Int32) : KS := (q_uthere σ.1 x, σ.2)
def gK_uthere (σ : KS) : Nat → Int32 := p_uthere σ.2
def sK_uthere (σ : KS) (x : Nat → Int32) : KS := (σ.1, q_uthere σ.2 x)
def gN_password (σ : KS) : Nat → Int32 := p_password σ.1
def sN_password (σ : KS) (x : Nat → Int32) : KS := (q_password σ.1 x, σ.2)
def gK_password (σ : KS) : Nat → Int32 := p_password σ.2
def sK_password (σ : KS) (x : Nat → Int32) : KS := (σ.1, q_password σ.2 x)
def gN_firstCategory (σ : KS) : Nat → Int32 := p_firstCategory σ.1
def sN_firstCategory (σ : KS) (x : Nat → Int32) : KS := (q_firstCategory σ.1 x, σ.2)
def gK_firstCategory (σ : KS) : Nat → Int32 := p_firstCategory σ.2
def sK_firstCategory (σ : KS) (x : Nat → Int32) : KS := (σ.1, q_firstCategory σ.2 x)
def gN_secondCategory (σ : KS) : Nat → Int32 := p_secondCategory σ.1
def sN_secondCategory (σ : KS) (x : Nat → Int32) : KS := (q_secondCategory σ.1 x, σ.2)
def gK_secondCategory (σ : KS) : Nat → Int32 := p_secondCategory σ.2
def sK_secondCategory (σ : KS) (x : Nat → Int32) : KS := (σ.1, q_secondCategory σ.2 x)
def gN_home (σ : KS) : Nat → Int32 := p_home σ.1
def sN_home (σ : KS) (x : Nat → Int32) : KS := (q_home σ.1 x, σ.2)
def gK_home (σ : KS) : Nat → Int32 := p_home σ.2
def sK_home (σ : KS) (x : Nat → Int32) : KS := (σ.1, q_home σ.2 x)
def gN_directory (σ : KS) : Nat → Int32 := p_directory σ.1
def sN_directory (σ : KS) (x : Nat → Int32) : KS := (q_directory σ.1 x, σ.2)
def gK_directory (σ : KS) : Nat → Int32 := p_directory σ.2
def sK_directory (σ : KS) (x : Nat → Int32) : KS := (σ.1, q_directory σ.2 x)
def gN_gate (σ : KS) : Nat → Int32 := p_gate σ.1
def sN_gate (σ : KS) (x : Nat → Int32) : KS := (q_gate σ.1 x, σ.2)
def gK_gate (σ : KS) : Nat → Int32 := p_gate σ.2
def sK_gate (σ : KS) (x : Nat → Int32) : KS := (σ.1, q_gate σ.2 x)
def gN_categories (σ : KS) : Int32 := p_categories σ.1
def sN_categories (σ : KS) (x : Int32) : KS := (q_categories σ.1 x, σ.2)
def gK_categories (σ : KS) : Int32 := p_categories σ.2
def sK_categories (σ : KS) (x : Int32) : KS := (σ.1, q_categories σ.2 x)
def GL (A : Nat → Nat) (σ : KS) : va_W := [(A 0, .inr (4, [.ref (A 1), .ref (A 24), .ref (A 2), .ref (A 4), .ref (A 16)])),
  (A 1, .inr (1, [.ref (A 2), .ref (A 4), .ref (A 16), .int (gN_categories σ)])),
  (A 2, .inr (0, [.ref (A 3), .int (gN_size σ)])),
  (A 3, .inl (A 900, 60, .inl (gN_packed σ))),
  (A 4, .inr (2, [.ref (A 5), .ref (A 6), .ref (A 7), .ref (A 8), .ref (A 9), .ref (A 10), .ref (A 11), .ref (A 12), .ref (A 13), .ref (A 14), .ref (A 15), .int (gN_made σ)])),
  (A 5, .inl (A 901, 61, .inl (gN_there σ))),
  (A 6, .inl (A 900, 61, .inl (gN_kind σ))),
  (A 7, .inl (A 900, 61, .inl (gN_label σ))),
  (A 8, .inl (A 900, 61, .inl (gN_quota σ))),
  (A 9, .inl (A 900, 61, .inl (gN_place σ))),
  (A 10, .inl (A 900, 61, .inl (gN_depth σ))),
  (A 11, .inl (A 900, 61, .inl (gN_clearance σ))),
  (A 12, .inl (A 900, 61, .inl (gN_guard σ))),
  (A 13, .inl (A 900, 61, .inl (gN_entry σ))),
  (A 14, .inl (A 900, 61, .inl (gN_cellCount σ))),
  (A 15, .inl (A 900, 488, .inl (gN_cells σ))),
  (A 16, .inr (3, [.ref (A 17), .ref (A 18), .ref (A 19), .ref (A 20), .ref (A 21), .ref (A 22), .ref (A 23)])),
  (A 17, .inl (A 901, 4, .inl (gN_uthere σ))),
  (A 18, .inl (A 900, 4, .inl (gN_password σ))),
  (A 19, .inl (A 900, 4, .inl (gN_firstCategory σ))),
  (A 20, .inl (A 900, 4, .inl (gN_secondCategory σ))),
  (A 21, .inl (A 900, 4, .inl (gN_home σ))),
  (A 22, .inl (A 900, 4, .inl (gN_directory σ))),
  (A 23, .inl (A 900, 4, .inl (gN_gate σ))),
  (A 24, .inr (1, [.ref (A 25), .ref (A 27), .ref (A 39), .int (gK_categories σ)])),
  (A 25, .inr (0, [.ref (A 26), .int (gK_size σ)])),
  (A 26, .inl (A 900, 60, .inl (gK_packed σ))),
  (A 27, .inr (2, [.ref (A 28), .ref (A 29), .ref (A 30), .ref (A 31), .ref (A 32), .ref (A 33), .ref (A 34), .ref (A 35), .ref (A 36), .ref (A 37), .ref (A 38), .int (gK_made σ)])),
  (A 28, .inl (A 901, 61, .inl (gK_there σ))),
  (A 29, .inl (A 900, 61, .inl (gK_kind σ))),
  (A 30, .inl (A 900, 61, .inl (gK_label σ))),
  (A 31, .inl (A 900, 61, .inl (gK_quota σ))),
  (A 32, .inl (A 900, 61, .inl (gK_place σ))),
  (A 33, .inl (A 900, 61, .inl (gK_depth σ))),
  (A 34, .inl (A 900, 61, .inl (gK_clearance σ))),
  (A 35, .inl (A 900, 61, .inl (gK_guard σ))),
  (A 36, .inl (A 900, 61, .inl (gK_entry σ))),
  (A 37, .inl (A 900, 61, .inl (gK_cellCount σ))),
  (A 38, .inl (A 900, 488, .inl (gK_cells σ))),
  (A 39, .inr (3, [.ref (A 40), .ref (A 41), .ref (A 42), .ref (A 43), .ref (A 44), .ref (A 45), .ref (A 46)])),
  (A 40, .inl (A 901, 4, .inl (gK_uthere σ))),
  (A 41, .inl (A 900, 4, .inl (gK_password σ))),
  (A 42, .inl (A 900, 4, .inl (gK_firstCategory σ))),
  (A 43, .inl (A 900, 4, .inl (gK_secondCategory σ))),
  (A 44, .inl (A 900, 4, .inl (gK_home σ))),
  (A 45, .inl (A 900, 4, .inl (gK_directory σ))),
  (A 46, .inl (A 900, 4, .inl (gK_gate σ)))]
def GW (A : Nat → Nat) (σ : KS) (r : va_W) : va_W := GL A σ ++ r
set_option maxRecDepth 100000 in
theorem ka_h1_IllegalArgumentException : ∀ w ∈ (vx_at0 R_Ke 270 "java/lang/IllegalArgumentException" ["java/lang/RuntimeException", "java/lang/Exception"]).filter goodWord, w ∈ T0 := by decide +kernel
set_option maxRecDepth 100000 in
theorem ka_h2_IllegalArgumentException : ∀ w ∈ (vx_at0 R_Ke 270 "java/lang/IllegalArgumentException" ["java/lang/RuntimeException", "java/lang/Exception"]).filter (fun w => !goodWord w), w ∈ ka_NB := by decide +kernel
theorem ka_hat_IllegalArgumentException {args : Array Value} {s : State} (hts : ∀ w ∈ T0, w.before args s = true) (hN : ka_N s) : ∀ w ∈ vx_at0 R_Ke 270 "java/lang/IllegalArgumentException" ["java/lang/RuntimeException", "java/lang/Exception"], w.before args s = true := vx_hat (fun w h => hts w (ka_h1_IllegalArgumentException w h)) ka_h2_IllegalArgumentException hN.use
set_option maxRecDepth 100000 in
theorem ka_hg_IllegalArgumentException : ∀ w ∈ Cond.classLink R_Ke 268 "java/lang/IllegalArgumentException" :: Cond.initialized "java/lang/IllegalArgumentException" :: vx_at0 R_Ke 270 "java/lang/IllegalArgumentException" ["java/lang/RuntimeException", "java/lang/Exception"], vx_ot w = true := by decide +kernel
set_option maxRecDepth 100000 in
theorem ka_h1_NoSuchElementException : ∀ w ∈ (vx_at0 R_Ke 273 "java/util/NoSuchElementException" ["java/lang/RuntimeException", "java/lang/Exception"]).filter goodWord, w ∈ T0 := by decide +kernel
set_option maxRecDepth 100000 in
theorem ka_h2_NoSuchElementException : ∀ w ∈ (vx_at0 R_Ke 273 "java/util/NoSuchElementException" ["java/lang/RuntimeException", "java/lang/Exception"]).filter (fun w => !goodWord w), w ∈ ka_NB := by decide +kernel
theorem ka_hat_NoSuchElementException {args : Array Value} {s : State} (hts : ∀ w ∈ T0, w.before args s = true) (hN : ka_N s) : ∀ w ∈ vx_at0 R_Ke 273 "java/util/NoSuchElementException" ["java/lang/RuntimeException", "java/lang/Exception"], w.before args s = true := vx_hat (fun w h => hts w (ka_h1_NoSuchElementException w h)) ka_h2_NoSuchElementException hN.use
set_option maxRecDepth 100000 in
theorem ka_hg_NoSuchElementException : ∀ w ∈ Cond.classLink R_Ke 271 "java/util/NoSuchElementException" :: Cond.initialized "java/util/NoSuchElementException" :: vx_at0 R_Ke 273 "java/util/NoSuchElementException" ["java/lang/RuntimeException", "java/lang/Exception"], vx_ot w = true := by decide +kernel
set_option maxRecDepth 100000 in
theorem ka_h1_UnsupportedOperationException : ∀ w ∈ (vx_at0 R_Ke 276 "java/lang/UnsupportedOperationException" ["java/lang/RuntimeException", "java/lang/Exception"]).filter goodWord, w ∈ T0 := by decide +kernel
set_option maxRecDepth 100000 in
theorem ka_h2_UnsupportedOperationException : ∀ w ∈ (vx_at0 R_Ke 276 "java/lang/UnsupportedOperationException" ["java/lang/RuntimeException", "java/lang/Exception"]).filter (fun w => !goodWord w), w ∈ ka_NB := by decide +kernel
theorem ka_hat_UnsupportedOperationException {args : Array Value} {s : State} (hts : ∀ w ∈ T0, w.before args s = true) (hN : ka_N s) : ∀ w ∈ vx_at0 R_Ke 276 "java/lang/UnsupportedOperationException" ["java/lang/RuntimeException", "java/lang/Exception"], w.before args s = true := vx_hat (fun w h => hts w (ka_h1_UnsupportedOperationException w h)) ka_h2_UnsupportedOperationException hN.use
set_option maxRecDepth 100000 in
theorem ka_hg_UnsupportedOperationException : ∀ w ∈ Cond.classLink R_Ke 274 "java/lang/UnsupportedOperationException" :: Cond.initialized "java/lang/UnsupportedOperationException" :: vx_at0 R_Ke 276 "java/lang/UnsupportedOperationException" ["java/lang/RuntimeException", "java/lang/Exception"], vx_ot w = true := by decide +kernel
set_option maxRecDepth 100000 in
theorem ka_h1_IllegalStateException : ∀ w ∈ (vx_at0 R_Ke 279 "java/lang/IllegalStateException" ["java/lang/RuntimeException", "java/lang/Exception"]).filter goodWord, w ∈ T0 := by decide +kernel
set_option maxRecDepth 100000 in
theorem ka_h2_IllegalStateException : ∀ w ∈ (vx_at0 R_Ke 279 "java/lang/IllegalStateException" ["java/lang/RuntimeException", "java/lang/Exception"]).filter (fun w => !goodWord w), w ∈ ka_NB := by decide +kernel
theorem ka_hat_IllegalStateException {args : Array Value} {s : State} (hts : ∀ w ∈ T0, w.before args s = true) (hN : ka_N s) : ∀ w ∈ vx_at0 R_Ke 279 "java/lang/IllegalStateException" ["java/lang/RuntimeException", "java/lang/Exception"], w.before args s = true := vx_hat (fun w h => hts w (ka_h1_IllegalStateException w h)) ka_h2_IllegalStateException hN.use
set_option maxRecDepth 100000 in
theorem ka_hg_IllegalStateException : ∀ w ∈ Cond.classLink R_Ke 277 "java/lang/IllegalStateException" :: Cond.initialized "java/lang/IllegalStateException" :: vx_at0 R_Ke 279 "java/lang/IllegalStateException" ["java/lang/RuntimeException", "java/lang/Exception"], vx_ot w = true := by decide +kernel
end
section
def f_Lb_has (σ : KS) (x1 : Int32) : Option (Int32) := if x1 < 0 then (some 0) else (if (gN_size σ) ≤ x1 then (some 0) else (some 1))
set_option maxRecDepth 100000 in
set_option maxHeartbeats 4000000 in
theorem c_Lb_has (l : Launch) (hl9 : l.stackTraces = false) (D : va_G) (A : Nat → Nat) (r : va_W) (sz : Nat) (σ : KS) (x1 : Int32) (z : Int32) (h : f_Lb_has σ x1 = some z) : Met l y_Lb_has (Cond.code y_Lb_has b_Lb_has 2 (some .boolean) :: T0) ({ frames := 0, cells := 0, slots := 0, locals := 0 } : Room) (va_Pc [.ref (A 2), .int x1] (ka_Wd D A (GW A σ r) sz)) (ka_Ri D z (GW A σ r) (va_A (GW A σ r) sz)) 0 0 (va_A (GW A σ r) sz) := by
  unfold f_Lb_has at h
  refine ka_of (own := R_Lb) (fun A9 => ka_Ri D z (GW A σ r) A9) (by decide) rfl (Nat.le_of_ble_eq_true rfl) ?_
  intro p e s m below meth c A9 ls S9 hr hlk hex X9 hP hD hl
  obtain ⟨hx, hb, hml, hown, hts⟩ := id S9
  have hK := X9.2.1
  have hS : va_S A9 s.heap s.heap [] := va_S.rf
  replace hl : lv_has ls 2 [(0, .ref (A 2)), (1, .int x1)] := hl
  refine lv_iload_n hx hb d_Lb_has_0 rfl (lv_at hl 1 rfl) ?_
  refine lv_if_lt (tgt := 16) hx hb d_Lb_has_1 (by decide) (fun c9 => ?_) (fun c9 => ?_)
  · replace h := zo_t c9 h
    refine lv_iconst (v := 0) hx hb d_Lb_has_16 (by decide) ?_
    cases h
    exact W.zret hx hb hr (by decide) (fun t ht hW => ⟨⟨_, (), rfl, rfl, ka_at ht hP⟩, hS.F ht⟩) hS.2.2 d_Lb_has_17 hlk
  replace h := zo_f c9 h
  refine lv_iload_n hx hb d_Lb_has_4 rfl (lv_at hl 1 rfl) ?_
  refine lv_aload_n hx hb d_Lb_has_5 rfl (lv_at hl 0 rfl) ?_
  refine va_get (D := D) (ci := 0) (v := .int (gN_size σ)) (C := R_Lb) (T := T_Lb) (N := 2) hx hb hts wu_Lb hown hK hP 2 rfl rfl 1 (by decide) (hts _ wf_Lb_17) (fun _ h9 => h9) rfl d_Lb_has_6 ?_
  refine lv_icmp_ge (tgt := 16) hx hb d_Lb_has_9 (by decide) (fun c9 => ?_) (fun c9 => ?_)
  · replace h := zo_t c9 h
    refine lv_iconst (v := 0) hx hb d_Lb_has_16 (by decide) ?_
    cases h
    exact W.zret hx hb hr (by decide) (fun t ht hW => ⟨⟨_, (), rfl, rfl, ka_at ht hP⟩, hS.F ht⟩) hS.2.2 d_Lb_has_17 hlk
  replace h := zo_f c9 h
  refine lv_iconst (v := 1) hx hb d_Lb_has_12 (by decide) ?_
  refine lv_goto (tgt := 17) hx hb d_Lb_has_13 (by decide) ?_
  cases h
  exact W.zret hx hb hr (by decide) (fun t ht hW => ⟨⟨_, (), rfl, rfl, ka_at ht hP⟩, hS.F ht⟩) hS.2.2 d_Lb_has_17 hlk
def f_Lb_changed (σ : KS) (x1 x2 x3 : Int32) : Option (Int32) := if x1 < 0 ∨ 60 ≤ (x1).toNatClampNeg then none else some (((gN_packed σ (x1).toNatClampNeg) &&& ((15 <<< ((4 * x2) &&& 31)) ^^^ (-1))) ||| (x3 <<< ((4 * x2) &&& 31)))
set_option maxRecDepth 100000 in
set_option maxHeartbeats 4000000 in
theorem c_Lb_changed (l : Launch) (hl9 : l.stackTraces = false) (D : va_G) (A : Nat → Nat) (r : va_W) (sz : Nat) (σ : KS) (x1 x2 x3 : Int32) (z : Int32) (h : f_Lb_changed σ x1 x2 x3 = some z) : Met l y_Lb_changed (Cond.code y_Lb_changed b_Lb_changed 5 (some .int) :: T0) ({ frames := 0, cells := 0, slots := 0, locals := 0 } : Room) (va_Pc [.ref (A 2), .int x1, .int x2, .int x3] (ka_Wd D A (GW A σ r) sz)) (ka_Ri D z (GW A σ r) (va_A (GW A σ r) sz)) 0 0 (va_A (GW A σ r) sz) := by
  unfold f_Lb_changed at h
  refine ka_of (own := R_Lb) (fun A9 => ka_Ri D z (GW A σ r) A9) (by decide) rfl (Nat.le_of_ble_eq_true rfl) ?_
  intro p e s m below meth c A9 ls S9 hr hlk hex X9 hP hD hl
  obtain ⟨hx, hb, hml, hown, hts⟩ := id S9
  have hK := X9.2.1
  have hS : va_S A9 s.heap s.heap [] := va_S.rf
  replace hl : lv_has ls 5 [(0, .ref (A 2)), (1, .int x1), (2, .int x2), (3, .int x3)] := hl
  refine lv_iconst (v := 4) hx hb d_Lb_changed_0 (by decide) ?_
  refine lv_iload_n hx hb d_Lb_changed_1 rfl (lv_at hl 2 rfl) ?_
  refine lv_imul hx hb d_Lb_changed_2 ?_
  refine lv_istore (lv' := [(4, .int (4 * x2)), (0, .ref (A 2)), (1, .int x1), (2, .int x2), (3, .int x3)]) hx hb d_Lb_changed_3 hl (by decide) rfl (fun ls hl => ?_)
  refine lv_aload_n hx hb d_Lb_changed_5 rfl (lv_at hl 1 rfl) ?_
  refine va_get (D := D) (ci := 0) (v := .ref (A 3)) (C := R_Lb) (T := T_Lb) (N := 2) hx hb hts wu_Lb hown hK hP 2 rfl rfl 0 (by decide) (hts _ wf_Lb_9) (fun _ h9 => h9) rfl d_Lb_changed_6 ?_
  refine lv_iload_n hx hb d_Lb_changed_9 rfl (lv_at hl 2 rfl) ?_
  obtain ⟨i9, h⟩ := zo_i h
  refine va_iald hx hb hK hP 3 0 rfl rfl i9 d_Lb_changed_10 ?_
  refine lv_bipush (v := 15) hx hb d_Lb_changed_11 (by decide) ?_
  refine lv_iload hx hb d_Lb_changed_13 (lv_at hl 0 rfl) ?_
  refine lv_ishl hx hb d_Lb_changed_15 ?_
  refine lv_iconst (v := (-1)) hx hb d_Lb_changed_16 (by decide) ?_
  refine lv_ixor hx hb d_Lb_changed_17 ?_
  refine lv_iand hx hb d_Lb_changed_18 ?_
  refine lv_iload_n hx hb d_Lb_changed_19 rfl (lv_at hl 4 rfl) ?_
  refine lv_iload hx hb d_Lb_changed_20 (lv_at hl 0 rfl) ?_
  refine lv_ishl hx hb d_Lb_changed_22 ?_
  refine lv_ior hx hb d_Lb_changed_23 ?_
  cases h
  exact W.iret hx hb hr (fun t ht hW => ⟨⟨_, (), rfl, rfl, ka_at ht hP⟩, hS.F ht⟩) hS.2.2 d_Lb_changed_24 hlk
def f_Lb_indexOf_L2 (σ : KS) : Nat → Int32 → Int32 → Option (Int32)
  | 0, _, _ => none
  | n + 1, y1, y2 => if (gN_size σ) ≤ y2 then (some (-1)) else (if y2 < 0 ∨ 60 ≤ (y2).toNatClampNeg then none else if (gN_packed σ (y2).toNatClampNeg) = y1 then (some y2) else (f_Lb_indexOf_L2 σ n y1 (y2 + 1)))
def f_Lb_indexOf (σ : KS) (x1 : Int32) : Option (Int32) := f_Lb_indexOf_L2 σ 100 x1 0
set_option maxRecDepth 100000 in
set_option maxHeartbeats 4000000 in
theorem c_Lb_indexOf (l : Launch) (hl9 : l.stackTraces = false) (D : va_G) (A : Nat → Nat) (r : va_W) (sz : Nat) (σ : KS) (x1 : Int32) (z : Int32) (h : f_Lb_indexOf σ x1 = some z) : Met l y_Lb_indexOf (Cond.code y_Lb_indexOf b_Lb_indexOf 3 (some .int) :: T0) ({ frames := 0, cells := 0, slots := 0, locals := 0 } : Room) (va_Pc [.ref (A 2), .int x1] (ka_Wd D A (GW A σ r) sz)) (ka_Ri D z (GW A σ r) (va_A (GW A σ r) sz)) 0 0 (va_A (GW A σ r) sz) := by
  unfold f_Lb_indexOf at h
  refine ka_of (own := R_Lb) (fun A9 => ka_Ri D z (GW A σ r) A9) (by decide) rfl (Nat.le_of_ble_eq_true rfl) ?_
  intro p e s m below meth c A9 ls S9 hr hlk hex X9 hP hD hl
  obtain ⟨hx, hb, hml, hown, hts⟩ := id S9
  have hK := X9.2.1
  have hS : va_S A9 s.heap s.heap [] := va_S.rf
  replace hl : lv_has ls 3 [(0, .ref (A 2)), (1, .int x1)] := hl
  have L2 : ∀ (n : Nat) (y1 y2 : Int32) (H : Heap) (locs : List Loc) (ls : Array Slot), f_Lb_indexOf_L2 σ n y1 y2 = some z → va_P D vwCl (GW A σ r) H → va_D A9 (GW A σ r) → va_S A9 s.heap H locs → lv_has ls 3 [(0, .ref (A 2)), (1, .int y1), (2, .int y2)] → W p l e ({ frames := 0, cells := 0, slots := 0, locals := 0 } : Room) s m [.ref (A 2), .int x1].toArray below meth c H locs 0 0 (MQ below (ka_Ri D z (GW A σ r) A9) [.ref (A 2), .int x1].toArray s 0 0 A9) (F0 m 2 ls []) := by
    intro n
    induction n with
    | zero => intro y1 y2 H locs ls h; cases h
    | succ n ih2 =>
      intro y1 y2 H locs ls h hP hD hS hl
      rw [f_Lb_indexOf_L2] at h
      refine lv_iload_n hx hb d_Lb_indexOf_2 rfl (lv_at hl 2 rfl) ?_
      refine lv_aload_n hx hb d_Lb_indexOf_3 rfl (lv_at hl 0 rfl) ?_
      refine va_get (D := D) (ci := 0) (v := .int (gN_size σ)) (C := R_Lb) (T := T_Lb) (N := 2) hx hb hts wu_Lb hown hK hP 2 rfl rfl 1 (by decide) (hts _ wf_Lb_17) (fun _ h9 => h9) rfl d_Lb_indexOf_4 ?_
      refine lv_icmp_ge (tgt := 28) hx hb d_Lb_indexOf_7 (by decide) (fun c9 => ?_) (fun c9 => ?_)
      · replace h := zo_t c9 h
        refine lv_iconst (v := (-1)) hx hb d_Lb_indexOf_28 (by decide) ?_
        cases h
        exact W.iret hx hb hr (fun t ht hW => ⟨⟨_, (), rfl, rfl, ka_at ht hP⟩, hS.F ht⟩) hS.2.2 d_Lb_indexOf_29 hlk
      replace h := zo_f c9 h
      refine lv_aload_n hx hb d_Lb_indexOf_10 rfl (lv_at hl 0 rfl) ?_
      refine va_get (D := D) (ci := 0) (v := .ref (A 3)) (C := R_Lb) (T := T_Lb) (N := 2) hx hb hts wu_Lb hown hK hP 2 rfl rfl 0 (by decide) (hts _ wf_Lb_9) (fun _ h9 => h9) rfl d_Lb_indexOf_11 ?_
      refine lv_iload_n hx hb d_Lb_indexOf_14 rfl (lv_at hl 2 rfl) ?_
      obtain ⟨i9, h⟩ := zo_i h
      refine va_iald hx hb hK hP 3 0 rfl rfl i9 d_Lb_indexOf_15 ?_
      refine lv_iload_n hx hb d_Lb_indexOf_16 rfl (lv_at hl 1 rfl) ?_
      refine lv_icmp_ne (tgt := 22) hx hb d_Lb_indexOf_17 (by decide) (fun c9 => ?_) (fun c9 => ?_)
      · replace h := zo_f c9 h
        refine lv_iinc (v := y2 + 1) (lv' := [(2, .int (y2 + 1)), (0, .ref (A 2)), (1, .int y1)]) hx hb d_Lb_indexOf_22 hl (k := 2) rfl rfl (by decide) rfl (fun ls hl => ?_)
        refine lv_goto (tgt := 2) hx hb d_Lb_indexOf_25 (by decide) ?_
        exact ih2 y1 (y2 + 1) _ _ _ h hP hD hS (lv_sub hl [1, 2, 0] rfl)
      replace h := zo_t c9 h
      refine lv_iload_n hx hb d_Lb_indexOf_20 rfl (lv_at hl 2 rfl) ?_
      cases h
      exact W.iret hx hb hr (fun t ht hW => ⟨⟨_, (), rfl, rfl, ka_at ht hP⟩, hS.F ht⟩) hS.2.2 d_Lb_indexOf_21 hlk
  refine lv_iconst (v := 0) hx hb d_Lb_indexOf_0 (by decide) ?_
  refine lv_istore_n (lv' := [(2, .int 0), (0, .ref (A 2)), (1, .int x1)]) hx hb d_Lb_indexOf_1 rfl hl (by decide) rfl (fun ls hl => ?_)
  exact L2 100 x1 0 _ _ _ h hP hD hS (lv_sub hl [1, 2, 0] rfl)
def f_Lb_missing (σ : KS) (x1 : Int32) : Option (Int32) := (f_Lb_indexOf σ x1).bind fun v1 => if v1 = (-1) then (some 1) else (some 0)
set_option maxRecDepth 100000 in
set_option maxHeartbeats 4000000 in
theorem c_Lb_missing (l : Launch) (hl9 : l.stackTraces = false) (D : va_G) (A : Nat → Nat) (r : va_W) (sz : Nat) (σ : KS) (x1 : Int32) (z : Int32) (h : f_Lb_missing σ x1 = some z) : Met l y_Lb_missing (Cond.code y_Lb_missing b_Lb_missing 2 (some .int) :: T0) ({ frames := 1, cells := 0, slots := 0, locals := 22 } : Room) (va_Pc [.ref (A 2), .int x1] (ka_Wd D A (GW A σ r) sz)) (ka_Ri D z (GW A σ r) (va_A (GW A σ r) sz)) 0 0 (va_A (GW A σ r) sz) := by
  unfold f_Lb_missing at h
  refine ka_of (own := R_Lb) (fun A9 => ka_Ri D z (GW A σ r) A9) (by decide) rfl (Nat.le_of_ble_eq_true rfl) ?_
  intro p e s m below meth c A9 ls S9 hr hlk hex X9 hP hD hl
  obtain ⟨hx, hb, hml, hown, hts⟩ := id S9
  have hK := X9.2.1
  have hS : va_S A9 s.heap s.heap [] := va_S.rf
  replace hl : lv_has ls 2 [(0, .ref (A 2)), (1, .int x1)] := hl
  refine lv_aload_n hx hb d_Lb_missing_0 rfl (lv_at hl 0 rfl) ?_
  refine lv_iload_n hx hb d_Lb_missing_1 rfl (lv_at hl 1 rfl) ?_
  obtain ⟨v1, e9, h⟩ := zo_b h
  refine ka_i (va_runV (As := [.int x1]) (rest := []) S9 (c_Lb_indexOf l hl9 D A r _ σ x1 _ e9) (cwV 1 hts (tg_V wl_Lb_44 wm_Lb_indexOf we_Lb_indexOf wi_Lb wo_Lb_indexOf) rfl rfl rfl wq_Lb_indexOf ⟨Nat.le_of_ble_eq_true rfl, Nat.le_of_ble_eq_true rfl⟩) (ka_preV X9 hP hD hS 2 rfl rfl) rfl rfl hl.1 rfl (lv_room (Nat.le_of_ble_eq_true rfl)) d_Lb_missing_2 ⟨Nat.le_of_ble_eq_true rfl, Nat.le_of_ble_eq_true rfl⟩) X9 hD hS rfl (fun H locs hP hD hS => ?_)
  refine lv_iconst (v := (-1)) hx hb d_Lb_missing_5 (by decide) ?_
  refine lv_icmp_ne (tgt := 13) hx hb d_Lb_missing_6 (by decide) (fun c9 => ?_) (fun c9 => ?_)
  · replace h := zo_f c9 h
    refine lv_iconst (v := 0) hx hb d_Lb_missing_13 (by decide) ?_
    cases h
    exact W.iret hx hb hr (fun t ht hW => ⟨⟨_, (), rfl, rfl, ka_at ht hP⟩, hS.F ht⟩) hS.2.2 d_Lb_missing_14 hlk
  replace h := zo_t c9 h
  refine lv_iconst (v := 1) hx hb d_Lb_missing_9 (by decide) ?_
  refine lv_goto (tgt := 14) hx hb d_Lb_missing_10 (by decide) ?_
  cases h
  exact W.iret hx hb hr (fun t ht hW => ⟨⟨_, (), rfl, rfl, ka_at ht hP⟩, hS.F ht⟩) hS.2.2 d_Lb_missing_14 hlk
def f_Lb_free (σ : KS) : Option (Int32) := some (60 - (gN_size σ))
set_option maxRecDepth 100000 in
set_option maxHeartbeats 4000000 in
theorem c_Lb_free (l : Launch) (hl9 : l.stackTraces = false) (D : va_G) (A : Nat → Nat) (r : va_W) (sz : Nat) (σ : KS) (z : Int32) (h : f_Lb_free σ = some z) : Met l y_Lb_free (Cond.code y_Lb_free b_Lb_free 1 (some .int) :: T0) ({ frames := 0, cells := 0, slots := 0, locals := 0 } : Room) (va_Pc [.ref (A 2)] (ka_Wd D A (GW A σ r) sz)) (ka_Ri D z (GW A σ r) (va_A (GW A σ r) sz)) 0 0 (va_A (GW A σ r) sz) := by
  unfold f_Lb_free at h
  refine ka_of (own := R_Lb) (fun A9 => ka_Ri D z (GW A σ r) A9) (by decide) rfl (Nat.le_of_ble_eq_true rfl) ?_
  intro p e s m below meth c A9 ls S9 hr hlk hex X9 hP hD hl
  obtain ⟨hx, hb, hml, hown, hts⟩ := id S9
  have hK := X9.2.1
  have hS : va_S A9 s.heap s.heap [] := va_S.rf
  replace hl : lv_has ls 1 [(0, .ref (A 2))] := hl
  refine lv_bipush (v := 60) hx hb d_Lb_free_0 (by decide) ?_
  refine lv_aload_n hx hb d_Lb_free_2 rfl (lv_at hl 0 rfl) ?_
  refine va_get (D := D) (ci := 0) (v := .int (gN_size σ)) (C := R_Lb) (T := T_Lb) (N := 2) hx hb hts wu_Lb hown hK hP 2 rfl rfl 1 (by decide) (hts _ wf_Lb_17) (fun _ h9 => h9) rfl d_Lb_free_3 ?_
  refine lv_isub hx hb d_Lb_free_6 ?_
  cases h
  exact W.iret hx hb hr (fun t ht hW => ⟨⟨_, (), rfl, rfl, ka_at ht hP⟩, hS.F ht⟩) hS.2.2 d_Lb_free_7 hlk
def f_Lb_numberOf (σ : KS) (x1 : Int32) : Option (Int32 × KS) := (f_Lb_indexOf σ x1).bind fun v1 => if v1 = (-1) then (if 60 ≤ (gN_size σ) then (some (v1, σ)) else (if (gN_size σ) < 0 ∨ 60 ≤ (gN_size σ).toNatClampNeg then none else some (gN_size σ, sN_size (sN_packed σ (upd (gN_packed σ) (gN_size σ).toNatClampNeg x1)) ((gN_size (sN_packed σ (upd (gN_packed σ) (gN_size σ).toNatClampNeg x1))) + 1)))) else (some (v1, σ))
set_option maxRecDepth 100000 in
set_option maxHeartbeats 4000000 in
theorem c_Lb_numberOf (l : Launch) (hl9 : l.stackTraces = false) (D : va_G) (A : Nat → Nat) (r : va_W) (sz : Nat) (σ : KS) (x1 : Int32) (z : Int32 × KS) (h : f_Lb_numberOf σ x1 = some z) : Met l y_Lb_numberOf (Cond.code y_Lb_numberOf b_Lb_numberOf 3 (some .int) :: T0) ({ frames := 1, cells := 0, slots := 0, locals := 22 } : Room) (va_Pc [.ref (A 2), .int x1] (ka_Wd D A (GW A σ r) sz)) (ka_Ri D z.1 (GW A z.2 r) (va_A (GW A σ r) sz)) 0 0 (va_A (GW A σ r) sz) := by
  unfold f_Lb_numberOf at h
  refine ka_of (own := R_Lb) (fun A9 => ka_Ri D z.1 (GW A z.2 r) A9) (by decide) rfl (Nat.le_of_ble_eq_true rfl) ?_
  intro p e s m below meth c A9 ls S9 hr hlk hex X9 hP hD hl
  obtain ⟨hx, hb, hml, hown, hts⟩ := id S9
  have hK := X9.2.1
  have hS : va_S A9 s.heap s.heap [] := va_S.rf
  replace hl : lv_has ls 3 [(0, .ref (A 2)), (1, .int x1)] := hl
  refine lv_aload_n hx hb d_Lb_numberOf_0 rfl (lv_at hl 0 rfl) ?_
  refine lv_iload_n hx hb d_Lb_numberOf_1 rfl (lv_at hl 1 rfl) ?_
  obtain ⟨v1, e9, h⟩ := zo_b h
  refine ka_i (va_runV (As := [.int x1]) (rest := []) S9 (c_Lb_indexOf l hl9 D A r _ σ x1 _ e9) (cwV 1 hts (tg_V wl_Lb_44 wm_Lb_indexOf we_Lb_indexOf wi_Lb wo_Lb_indexOf) rfl rfl rfl wq_Lb_indexOf ⟨Nat.le_of_ble_eq_true rfl, Nat.le_of_ble_eq_true rfl⟩) (ka_preV X9 hP hD hS 2 rfl rfl) rfl rfl hl.1 rfl (lv_room (Nat.le_of_ble_eq_true rfl)) d_Lb_numberOf_2 ⟨Nat.le_of_ble_eq_true rfl, Nat.le_of_ble_eq_true rfl⟩) X9 hD hS rfl (fun H locs hP hD hS => ?_)
  refine lv_istore_n (lv' := [(2, .int v1), (0, .ref (A 2)), (1, .int x1)]) hx hb d_Lb_numberOf_5 rfl hl (by decide) rfl (fun ls hl => ?_)
  refine lv_iload_n hx hb d_Lb_numberOf_6 rfl (lv_at hl 0 rfl) ?_
  refine lv_iconst (v := (-1)) hx hb d_Lb_numberOf_7 (by decide) ?_
  refine lv_icmp_ne (tgt := 42) hx hb d_Lb_numberOf_8 (by decide) (fun c9 => ?_) (fun c9 => ?_)
  · replace h := zo_f c9 h
    refine lv_iload_n hx hb d_Lb_numberOf_42 rfl (lv_at hl 0 rfl) ?_
    cases h
    exact W.iret hx hb hr (fun t ht hW => ⟨⟨_, (), rfl, rfl, ka_at ht hP⟩, hS.F ht⟩) hS.2.2 d_Lb_numberOf_43 hlk
  replace h := zo_t c9 h
  refine lv_aload_n hx hb d_Lb_numberOf_11 rfl (lv_at hl 1 rfl) ?_
  refine va_get (D := D) (ci := 0) (v := .int (gN_size σ)) (C := R_Lb) (T := T_Lb) (N := 2) hx hb hts wu_Lb hown hK hP 2 rfl rfl 1 (by decide) (hts _ wf_Lb_17) (fun _ h9 => h9) rfl d_Lb_numberOf_12 ?_
  refine lv_bipush (v := 60) hx hb d_Lb_numberOf_15 (by decide) ?_
  refine lv_icmp_ge (tgt := 42) hx hb d_Lb_numberOf_17 (by decide) (fun c9 => ?_) (fun c9 => ?_)
  · replace h := zo_t c9 h
    refine lv_iload_n hx hb d_Lb_numberOf_42 rfl (lv_at hl 0 rfl) ?_
    cases h
    exact W.iret hx hb hr (fun t ht hW => ⟨⟨_, (), rfl, rfl, ka_at ht hP⟩, hS.F ht⟩) hS.2.2 d_Lb_numberOf_43 hlk
  replace h := zo_f c9 h
  refine lv_aload_n hx hb d_Lb_numberOf_20 rfl (lv_at hl 1 rfl) ?_
  refine va_get (D := D) (ci := 0) (v := .int (gN_size σ)) (C := R_Lb) (T := T_Lb) (N := 2) hx hb hts wu_Lb hown hK hP 2 rfl rfl 1 (by decide) (hts _ wf_Lb_17) (fun _ h9 => h9) rfl d_Lb_numberOf_21 ?_
  refine lv_istore_n (lv' := [(2, .int (gN_size σ)), (0, .ref (A 2)), (1, .int x1)]) hx hb d_Lb_numberOf_24 rfl hl (by decide) rfl (fun ls hl => ?_)
  refine lv_aload_n hx hb d_Lb_numberOf_25 rfl (lv_at hl 1 rfl) ?_
  refine va_get (D := D) (ci := 0) (v := .ref (A 3)) (C := R_Lb) (T := T_Lb) (N := 2) hx hb hts wu_Lb hown hK hP 2 rfl rfl 0 (by decide) (hts _ wf_Lb_9) (fun _ h9 => h9) rfl d_Lb_numberOf_26 ?_
  refine lv_iload_n hx hb d_Lb_numberOf_29 rfl (lv_at hl 0 rfl) ?_
  refine lv_iload_n hx hb d_Lb_numberOf_30 rfl (lv_at hl 2 rfl) ?_
  obtain ⟨i9, h⟩ := zo_i h
  refine va_iast hx hb hK hP hD hS 3 0 rfl rfl i9 d_Lb_numberOf_31 (fun H locs hP hD hS => ?_)
  replace hP : va_P D vwCl (GW A (sN_packed σ (upd (gN_packed σ) (gN_size σ).toNatClampNeg x1)) r) H := hP
  replace hD : va_D A9 (GW A (sN_packed σ (upd (gN_packed σ) (gN_size σ).toNatClampNeg x1)) r) := hD
  refine lv_aload_n hx hb d_Lb_numberOf_32 rfl (lv_at hl 1 rfl) ?_
  refine lv_dup hx hb d_Lb_numberOf_33 rfl ?_
  refine va_get (D := D) (ci := 0) (v := .int (gN_size (sN_packed σ (upd (gN_packed σ) (gN_size σ).toNatClampNeg x1)))) (C := R_Lb) (T := T_Lb) (N := 2) hx hb hts wu_Lb hown hK hP 2 rfl rfl 1 (by decide) (hts _ wf_Lb_17) (fun _ h9 => h9) rfl d_Lb_numberOf_34 ?_
  refine lv_iconst (v := 1) hx hb d_Lb_numberOf_37 (by decide) ?_
  refine lv_iadd hx hb d_Lb_numberOf_38 ?_
  refine va_put (D := D) (ci := 0) (v := .int ((gN_size (sN_packed σ (upd (gN_packed σ) (gN_size σ).toNatClampNeg x1))) + 1)) (ty := .int) (C := R_Lb) (T := T_Lb) (N := 2) hx hb hts wu_Lb ft_Lb fk_Lb nm_Lb hown hK hP hD hS 2 rfl rfl 1 (by decide) (hts _ wf_Lb_17) (fun _ h9 => h9) rfl (by decide +kernel) rfl rfl (Nat.le_of_ble_eq_true rfl) d_Lb_numberOf_39 (fun H locs hP hD hS => ?_)
  replace hP : va_P D vwCl (GW A (sN_size (sN_packed σ (upd (gN_packed σ) (gN_size σ).toNatClampNeg x1)) ((gN_size (sN_packed σ (upd (gN_packed σ) (gN_size σ).toNatClampNeg x1))) + 1)) r) H := hP
  replace hD : va_D A9 (GW A (sN_size (sN_packed σ (upd (gN_packed σ) (gN_size σ).toNatClampNeg x1)) ((gN_size (sN_packed σ (upd (gN_packed σ) (gN_size σ).toNatClampNeg x1))) + 1)) r) := hD
  refine lv_iload_n hx hb d_Lb_numberOf_42 rfl (lv_at hl 0 rfl) ?_
  cases h
  exact W.iret hx hb hr (fun t ht hW => ⟨⟨_, (), rfl, rfl, ka_at ht hP⟩, hS.F ht⟩) hS.2.2 d_Lb_numberOf_43 hlk
end
section
set_option maxRecDepth 100000 in
set_option maxHeartbeats 4000000 in
theorem c_Ke_needNumber_ok (l : Launch) (hl9 : l.stackTraces = false) (D : va_G) (A : Nat → Nat) (w : va_W) (sz : Nat) (x0 : Int32) (h : ¬ x0 = 0) : Met l y_Ke_needNumber (Cond.code y_Ke_needNumber b_Ke_needNumber 1 none :: T0) ({ frames := 0, cells := 0, slots := 0, locals := 0 } : Room) (va_Pc [.int x0] (ka_Wd D A (w) sz)) (ka_Rv D (w) (va_A (w) sz)) 0 0 (va_A (w) sz) := by
  refine ka_of (own := R_Ke) (fun A9 => ka_Rv D (w) A9) (by decide) rfl (Nat.le_of_ble_eq_true rfl) ?_
  intro p e s m below meth c A9 ls S9 hr hlk hex X9 hP hD hl
  obtain ⟨hx, hb, hml, hown, hts⟩ := id S9
  have hK := X9.2.1
  have hS : va_S A9 s.heap s.heap [] := va_S.rf
  replace hl : lv_has ls 1 [(0, .int x0)] := hl
  refine lv_iload_n hx hb d_Ke_needNumber_0 rfl (lv_at hl 0 rfl) ?_
  refine lv_if_ne (tgt := 12) hx hb d_Ke_needNumber_1 (by decide) (fun c9 => ?_) (fun c9 => ?_)
  · exact W.vret hx hb hr (fun t ht hW => ⟨⟨(), rfl, trivial, ka_at ht hP⟩, hS.F ht⟩) hS.2.2 d_Ke_needNumber_12 hlk
  exact absurd c9 h
set_option maxRecDepth 100000 in
set_option maxHeartbeats 4000000 in
theorem c_Ke_needNumber_err (l : Launch) (hl9 : l.stackTraces = false) (D : va_G) (A : Nat → Nat) (w : va_W) (sz : Nat) (x0 : Int32) (h : x0 = 0) : vx_Met l y_Ke_needNumber (Cond.code y_Ke_needNumber b_Ke_needNumber 1 none :: T0) ({ frames := 6, cells := 1, slots := 6, locals := 81 } : Room) (va_Pc [.int x0] (ka_Wd D A (w) sz)) ka_No (ka_Xe D 1 (w) (va_A (w) sz)) 1 6 (va_A (w) sz) := by
  refine ka_ofX (own := R_Ke) (fun A9 => ka_Xe D 1 (w) A9) (by decide) rfl (Nat.le_of_ble_eq_true rfl) ?_
  intro p e s m below meth c A9 ls S9 hr hlk hex X9 hP hD hl
  obtain ⟨hx, hb, hml, hown, hts⟩ := id S9
  have hK := X9.2.1
  have hS : va_S A9 s.heap s.heap [] := va_S.rf
  replace hl : lv_has ls 1 [(0, .int x0)] := hl
  refine lv_iload_n hx hb d_Ke_needNumber_0 rfl (lv_at hl 0 rfl) ?_
  refine lv_if_ne (tgt := 12) hx hb d_Ke_needNumber_1 (by decide) (fun c9 => ?_) (fun c9 => ?_)
  · exact absurd h c9
  exact vx_throw0 hx hb hl9 (own := R_Ke) (cls := "java/lang/IllegalArgumentException") (names := ["java/lang/RuntimeException", "java/lang/Exception"]) (ik := 268) (ic := 270) hown (by decide) (by decide) (hts _ wc_Ke_268) (hts _ wi_IllegalArgumentException) (ka_hat_IllegalArgumentException hts X9.2.2.2.2) ka_hg_IllegalArgumentException X9.2.2.1 X9.2.2.2.1 hS (hml ▸ hl.1) d_Ke_needNumber_4 d_Ke_needNumber_7 d_Ke_needNumber_8 d_Ke_needNumber_11 (fun x hx9 => (hex x hx9).elim) (Nat.le_of_ble_eq_true rfl) (Nat.le_of_ble_eq_true rfl) (Nat.le_of_ble_eq_true rfl) (Nat.le_of_ble_eq_true rfl) hlk (fun t ha hz hk => ⟨(), trivial, ⟨rfl, hP.kept (fun k q hq => hk q.1 (hP k q hq).lt)⟩, hz, fun q h1 _ => hk q h1⟩) (fun z hz => by cases hz) (Nat.le_of_ble_eq_true rfl) (Nat.le_of_ble_eq_true rfl)
def f_Ke_isBetween (x0 x1 x2 : Int32) : Option (Int32) := if x0 < x1 then (some 0) else (if x2 < x0 then (some 0) else (some 1))
set_option maxRecDepth 100000 in
set_option maxHeartbeats 4000000 in
theorem c_Ke_isBetween (l : Launch) (hl9 : l.stackTraces = false) (D : va_G) (A : Nat → Nat) (w : va_W) (sz : Nat) (x0 x1 x2 : Int32) (z : Int32) (h : f_Ke_isBetween x0 x1 x2 = some z) : Met l y_Ke_isBetween (Cond.code y_Ke_isBetween b_Ke_isBetween 3 (some .boolean) :: T0) ({ frames := 0, cells := 0, slots := 0, locals := 0 } : Room) (va_Pc [.int x0, .int x1, .int x2] (ka_Wd D A (w) sz)) (ka_Ri D z (w) (va_A (w) sz)) 0 0 (va_A (w) sz) := by
  unfold f_Ke_isBetween at h
  refine ka_of (own := R_Ke) (fun A9 => ka_Ri D z (w) A9) (by decide) rfl (Nat.le_of_ble_eq_true rfl) ?_
  intro p e s m below meth c A9 ls S9 hr hlk hex X9 hP hD hl
  obtain ⟨hx, hb, hml, hown, hts⟩ := id S9
  have hK := X9.2.1
  have hS : va_S A9 s.heap s.heap [] := va_S.rf
  replace hl : lv_has ls 3 [(0, .int x0), (1, .int x1), (2, .int x2)] := hl
  refine lv_iload_n hx hb d_Ke_isBetween_0 rfl (lv_at hl 0 rfl) ?_
  refine lv_iload_n hx hb d_Ke_isBetween_1 rfl (lv_at hl 1 rfl) ?_
  refine lv_icmp_lt (tgt := 14) hx hb d_Ke_isBetween_2 (by decide) (fun c9 => ?_) (fun c9 => ?_)
  · replace h := zo_t c9 h
    refine lv_iconst (v := 0) hx hb d_Ke_isBetween_14 (by decide) ?_
    cases h
    exact W.zret hx hb hr (by decide) (fun t ht hW => ⟨⟨_, (), rfl, rfl, ka_at ht hP⟩, hS.F ht⟩) hS.2.2 d_Ke_isBetween_15 hlk
  replace h := zo_f c9 h
  refine lv_iload_n hx hb d_Ke_isBetween_5 rfl (lv_at hl 0 rfl) ?_
  refine lv_iload_n hx hb d_Ke_isBetween_6 rfl (lv_at hl 2 rfl) ?_
  refine lv_icmp_gt (tgt := 14) hx hb d_Ke_isBetween_7 (by decide) (fun c9 => ?_) (fun c9 => ?_)
  · replace h := zo_t c9 h
    refine lv_iconst (v := 0) hx hb d_Ke_isBetween_14 (by decide) ?_
    cases h
    exact W.zret hx hb hr (by decide) (fun t ht hW => ⟨⟨_, (), rfl, rfl, ka_at ht hP⟩, hS.F ht⟩) hS.2.2 d_Ke_isBetween_15 hlk
  replace h := zo_f c9 h
  refine lv_iconst (v := 1) hx hb d_Ke_isBetween_10 (by decide) ?_
  refine lv_goto (tgt := 15) hx hb d_Ke_isBetween_11 (by decide) ?_
  cases h
  exact W.zret hx hb hr (by decide) (fun t ht hW => ⟨⟨_, (), rfl, rfl, ka_at ht hP⟩, hS.F ht⟩) hS.2.2 d_Ke_isBetween_15 hlk
set_option maxRecDepth 100000 in
set_option maxHeartbeats 4000000 in
theorem c_Ke_needRoom_ok (l : Launch) (hl9 : l.stackTraces = false) (D : va_G) (A : Nat → Nat) (w : va_W) (sz : Nat) (x0 : Int32) (h : ¬ x0 = 0) : Met l y_Ke_needRoom (Cond.code y_Ke_needRoom b_Ke_needRoom 1 none :: T0) ({ frames := 0, cells := 0, slots := 0, locals := 0 } : Room) (va_Pc [.int x0] (ka_Wd D A (w) sz)) (ka_Rv D (w) (va_A (w) sz)) 0 0 (va_A (w) sz) := by
  refine ka_of (own := R_Ke) (fun A9 => ka_Rv D (w) A9) (by decide) rfl (Nat.le_of_ble_eq_true rfl) ?_
  intro p e s m below meth c A9 ls S9 hr hlk hex X9 hP hD hl
  obtain ⟨hx, hb, hml, hown, hts⟩ := id S9
  have hK := X9.2.1
  have hS : va_S A9 s.heap s.heap [] := va_S.rf
  replace hl : lv_has ls 1 [(0, .int x0)] := hl
  refine lv_iload_n hx hb d_Ke_needRoom_0 rfl (lv_at hl 0 rfl) ?_
  refine lv_if_ne (tgt := 12) hx hb d_Ke_needRoom_1 (by decide) (fun c9 => ?_) (fun c9 => ?_)
  · exact W.vret hx hb hr (fun t ht hW => ⟨⟨(), rfl, trivial, ka_at ht hP⟩, hS.F ht⟩) hS.2.2 d_Ke_needRoom_12 hlk
  exact absurd c9 h
set_option maxRecDepth 100000 in
set_option maxHeartbeats 4000000 in
theorem c_Ke_needRoom_err (l : Launch) (hl9 : l.stackTraces = false) (D : va_G) (A : Nat → Nat) (w : va_W) (sz : Nat) (x0 : Int32) (h : x0 = 0) : vx_Met l y_Ke_needRoom (Cond.code y_Ke_needRoom b_Ke_needRoom 1 none :: T0) ({ frames := 6, cells := 1, slots := 6, locals := 81 } : Room) (va_Pc [.int x0] (ka_Wd D A (w) sz)) ka_No (ka_Xe D 4 (w) (va_A (w) sz)) 1 6 (va_A (w) sz) := by
  refine ka_ofX (own := R_Ke) (fun A9 => ka_Xe D 4 (w) A9) (by decide) rfl (Nat.le_of_ble_eq_true rfl) ?_
  intro p e s m below meth c A9 ls S9 hr hlk hex X9 hP hD hl
  obtain ⟨hx, hb, hml, hown, hts⟩ := id S9
  have hK := X9.2.1
  have hS : va_S A9 s.heap s.heap [] := va_S.rf
  replace hl : lv_has ls 1 [(0, .int x0)] := hl
  refine lv_iload_n hx hb d_Ke_needRoom_0 rfl (lv_at hl 0 rfl) ?_
  refine lv_if_ne (tgt := 12) hx hb d_Ke_needRoom_1 (by decide) (fun c9 => ?_) (fun c9 => ?_)
  · exact absurd h c9
  exact vx_throw0 hx hb hl9 (own := R_Ke) (cls := "java/lang/IllegalStateException") (names := ["java/lang/RuntimeException", "java/lang/Exception"]) (ik := 277) (ic := 279) hown (by decide) (by decide) (hts _ wc_Ke_277) (hts _ wi_IllegalStateException) (ka_hat_IllegalStateException hts X9.2.2.2.2) ka_hg_IllegalStateException X9.2.2.1 X9.2.2.2.1 hS (hml ▸ hl.1) d_Ke_needRoom_4 d_Ke_needRoom_7 d_Ke_needRoom_8 d_Ke_needRoom_11 (fun x hx9 => (hex x hx9).elim) (Nat.le_of_ble_eq_true rfl) (Nat.le_of_ble_eq_true rfl) (Nat.le_of_ble_eq_true rfl) (Nat.le_of_ble_eq_true rfl) hlk (fun t ha hz hk => ⟨(), trivial, ⟨rfl, hP.kept (fun k q hq => hk q.1 (hP k q hq).lt)⟩, hz, fun q h1 _ => hk q h1⟩) (fun z hz => by cases hz) (Nat.le_of_ble_eq_true rfl) (Nat.le_of_ble_eq_true rfl)
def f_Ke_label (σ : KS) (x1 x2 x3 : Int32) : Option (Except Nat Int32 × KS) := (f_Lb_has σ x1).bind fun v1 => if v1 = 0 then (some (.error 1, σ)) else ((f_Ke_isBetween x2 0 7).bind fun v2 => if v2 = 0 then (some (.error 1, σ)) else ((f_Ke_isBetween x3 0 4).bind fun v3 => if v3 = 0 then (some (.error 1, σ)) else ((f_Lb_changed σ x1 x2 x3).bind fun v4 => (f_Lb_missing σ v4).bind fun v5 => (f_Lb_free σ).bind fun v6 => if v6 < v5 then (some (.error 4, σ)) else ((f_Lb_numberOf σ v4).bind fun v7 => some (.ok v7.1, v7.2)))))
set_option maxRecDepth 100000 in
set_option maxHeartbeats 4000000 in
theorem c_Ke_label_ok (l : Launch) (hl9 : l.stackTraces = false) (D : va_G) (A : Nat → Nat) (r : va_W) (sz : Nat) (σ : KS) (x1 x2 x3 : Int32) (z9 : Int32) (z : KS) (h : f_Ke_label σ x1 x2 x3 = some (.ok z9, z)) : Met l y_Ke_label (Cond.code y_Ke_label b_Ke_label 5 (some .int) :: T0) ({ frames := 2, cells := 0, slots := 0, locals := 44 } : Room) (va_Pc [.ref (A 0), .int x1, .int x2, .int x3] (ka_Wd D A (GW A σ r) sz)) (ka_Ri D z9 (GW A z r) (va_A (GW A σ r) sz)) 0 0 (va_A (GW A σ r) sz) := by
  unfold f_Ke_label at h
  refine ka_of (own := R_Ke) (fun A9 => ka_Ri D z9 (GW A z r) A9) (by decide) rfl (Nat.le_of_ble_eq_true rfl) ?_
  intro p e s m below meth c A9 ls S9 hr hlk hex X9 hP hD hl
  obtain ⟨hx, hb, hml, hown, hts⟩ := id S9
  have hK := X9.2.1
  have hS : va_S A9 s.heap s.heap [] := va_S.rf
  replace hl : lv_has ls 5 [(0, .ref (A 0)), (1, .int x1), (2, .int x2), (3, .int x3)] := hl
  refine lv_aload_n hx hb d_Ke_label_0 rfl (lv_at hl 0 rfl) ?_
  refine va_get (D := D) (ci := 4) (v := .ref (A 2)) (C := R_Ke) (T := T_Ke) (N := 5) hx hb hts wu_Ke hown hK hP 0 rfl rfl 2 (by decide) (hts _ wf_Ke_23) (fun _ h9 => h9) rfl d_Ke_label_1 ?_
  refine lv_iload_n hx hb d_Ke_label_4 rfl (lv_at hl 1 rfl) ?_
  obtain ⟨v1, e9, h⟩ := zo_b h
  refine ka_i (va_runV (As := [.int x1]) (rest := []) S9 (c_Lb_has l hl9 D A r _ σ x1 _ e9) (cwV 1 hts (tg_V wl_Ke_34 wm_Lb_has we_Lb_has wi_Lb wo_Lb_has) rfl rfl rfl wq_Lb_has ⟨Nat.le_of_ble_eq_true rfl, Nat.le_of_ble_eq_true rfl⟩) (ka_preV X9 hP hD hS 2 rfl rfl) rfl rfl hl.1 rfl (lv_room (Nat.le_of_ble_eq_true rfl)) d_Ke_label_5 ⟨Nat.le_of_ble_eq_true rfl, Nat.le_of_ble_eq_true rfl⟩) X9 hD hS rfl (fun H locs hP hD hS => ?_)
  refine lv_if_eq (tgt := 34) hx hb d_Ke_label_8 (by decide) (fun c9 => ?_) (fun c9 => ?_)
  · replace h := zo_t c9 h
    refine lv_iconst (v := 0) hx hb d_Ke_label_34 (by decide) ?_
    cases h
  replace h := zo_f c9 h
  refine lv_iload_n hx hb d_Ke_label_11 rfl (lv_at hl 2 rfl) ?_
  refine lv_iconst (v := 0) hx hb d_Ke_label_12 (by decide) ?_
  refine lv_bipush (v := 7) hx hb d_Ke_label_13 (by decide) ?_
  obtain ⟨v2, e9, h⟩ := zo_b h
  refine ka_i (va_runS (As := [.int x2, .int 0, .int 7]) (rest := []) S9 (c_Ke_isBetween l hl9 D A (GW A σ r) _ x2 0 7 _ e9) (cwS 3 hts (tg_S wl_Ke_40 ws_Ke_isBetween wi_Ke wo_Ke_isBetween) rfl rfl rfl wq_Ke_isBetween ⟨Nat.le_of_ble_eq_true rfl, Nat.le_of_ble_eq_true rfl⟩) (ka_preS X9 hP hD hS) rfl rfl hl.1 rfl (lv_room (Nat.le_of_ble_eq_true rfl)) d_Ke_label_15 ⟨Nat.le_of_ble_eq_true rfl, Nat.le_of_ble_eq_true rfl⟩) X9 hD hS rfl (fun H locs hP hD hS => ?_)
  refine lv_if_eq (tgt := 34) hx hb d_Ke_label_18 (by decide) (fun c9 => ?_) (fun c9 => ?_)
  · replace h := zo_t c9 h
    refine lv_iconst (v := 0) hx hb d_Ke_label_34 (by decide) ?_
    cases h
  replace h := zo_f c9 h
  refine lv_iload_n hx hb d_Ke_label_21 rfl (lv_at hl 3 rfl) ?_
  refine lv_iconst (v := 0) hx hb d_Ke_label_22 (by decide) ?_
  refine lv_iconst (v := 4) hx hb d_Ke_label_23 (by decide) ?_
  obtain ⟨v3, e9, h⟩ := zo_b h
  refine ka_i (va_runS (As := [.int x3, .int 0, .int 4]) (rest := []) S9 (c_Ke_isBetween l hl9 D A (GW A σ r) _ x3 0 4 _ e9) (cwS 3 hts (tg_S wl_Ke_40 ws_Ke_isBetween wi_Ke wo_Ke_isBetween) rfl rfl rfl wq_Ke_isBetween ⟨Nat.le_of_ble_eq_true rfl, Nat.le_of_ble_eq_true rfl⟩) (ka_preS X9 hP hD hS) rfl rfl hl.1 rfl (lv_room (Nat.le_of_ble_eq_true rfl)) d_Ke_label_24 ⟨Nat.le_of_ble_eq_true rfl, Nat.le_of_ble_eq_true rfl⟩) X9 hD hS rfl (fun H locs hP hD hS => ?_)
  refine lv_if_eq (tgt := 34) hx hb d_Ke_label_27 (by decide) (fun c9 => ?_) (fun c9 => ?_)
  · replace h := zo_t c9 h
    refine lv_iconst (v := 0) hx hb d_Ke_label_34 (by decide) ?_
    cases h
  replace h := zo_f c9 h
  refine lv_iconst (v := 1) hx hb d_Ke_label_30 (by decide) ?_
  refine lv_goto (tgt := 35) hx hb d_Ke_label_31 (by decide) ?_
  refine ka_v (va_runS (As := [.int 1]) (rest := []) S9 (c_Ke_needNumber_ok l hl9 D A (GW A σ r) _ 1 (by decide)) (cwS 1 hts (tg_S wl_Ke_44 ws_Ke_needNumber wi_Ke wo_Ke_needNumber) rfl rfl rfl wq_Ke_needNumber ⟨Nat.le_of_ble_eq_true rfl, Nat.le_of_ble_eq_true rfl⟩) (ka_preS X9 hP hD hS) rfl rfl hl.1 rfl (lv_room (Nat.le_of_ble_eq_true rfl)) d_Ke_label_35 ⟨Nat.le_of_ble_eq_true rfl, Nat.le_of_ble_eq_true rfl⟩) X9 hD hS rfl (fun H locs hP hD hS => ?_)
  refine lv_aload_n hx hb d_Ke_label_38 rfl (lv_at hl 0 rfl) ?_
  refine va_get (D := D) (ci := 4) (v := .ref (A 2)) (C := R_Ke) (T := T_Ke) (N := 5) hx hb hts wu_Ke hown hK hP 0 rfl rfl 2 (by decide) (hts _ wf_Ke_23) (fun _ h9 => h9) rfl d_Ke_label_39 ?_
  refine lv_iload_n hx hb d_Ke_label_42 rfl (lv_at hl 1 rfl) ?_
  refine lv_iload_n hx hb d_Ke_label_43 rfl (lv_at hl 2 rfl) ?_
  refine lv_iload_n hx hb d_Ke_label_44 rfl (lv_at hl 3 rfl) ?_
  obtain ⟨v4, e9, h⟩ := zo_b h
  refine ka_i (va_runV (As := [.int x1, .int x2, .int x3]) (rest := []) S9 (c_Lb_changed l hl9 D A r _ σ x1 x2 x3 _ e9) (cwV 3 hts (tg_V wl_Ke_48 wm_Lb_changed we_Lb_changed wi_Lb wo_Lb_changed) rfl rfl rfl wq_Lb_changed ⟨Nat.le_of_ble_eq_true rfl, Nat.le_of_ble_eq_true rfl⟩) (ka_preV X9 hP hD hS 2 rfl rfl) rfl rfl hl.1 rfl (lv_room (Nat.le_of_ble_eq_true rfl)) d_Ke_label_45 ⟨Nat.le_of_ble_eq_true rfl, Nat.le_of_ble_eq_true rfl⟩) X9 hD hS rfl (fun H locs hP hD hS => ?_)
  refine lv_istore (lv' := [(4, .int v4), (0, .ref (A 0)), (1, .int x1), (2, .int x2), (3, .int x3)]) hx hb d_Ke_label_48 hl (by decide) rfl (fun ls hl => ?_)
  refine lv_aload_n hx hb d_Ke_label_50 rfl (lv_at hl 1 rfl) ?_
  refine va_get (D := D) (ci := 4) (v := .ref (A 2)) (C := R_Ke) (T := T_Ke) (N := 5) hx hb hts wu_Ke hown hK hP 0 rfl rfl 2 (by decide) (hts _ wf_Ke_23) (fun _ h9 => h9) rfl d_Ke_label_51 ?_
  refine lv_iload hx hb d_Ke_label_54 (lv_at hl 0 rfl) ?_
  obtain ⟨v5, e9, h⟩ := zo_b h
  refine ka_i (va_runV (As := [.int v4]) (rest := []) S9 (c_Lb_missing l hl9 D A r _ σ v4 _ e9) (cwV 1 hts (tg_V wl_Ke_52 wm_Lb_missing we_Lb_missing wi_Lb wo_Lb_missing) rfl rfl rfl wq_Lb_missing ⟨Nat.le_of_ble_eq_true rfl, Nat.le_of_ble_eq_true rfl⟩) (ka_preV X9 hP hD hS 2 rfl rfl) rfl rfl hl.1 rfl (lv_room (Nat.le_of_ble_eq_true rfl)) d_Ke_label_56 ⟨Nat.le_of_ble_eq_true rfl, Nat.le_of_ble_eq_true rfl⟩) X9 hD hS rfl (fun H locs hP hD hS => ?_)
  refine lv_aload_n hx hb d_Ke_label_59 rfl (lv_at hl 1 rfl) ?_
  refine va_get (D := D) (ci := 4) (v := .ref (A 2)) (C := R_Ke) (T := T_Ke) (N := 5) hx hb hts wu_Ke hown hK hP 0 rfl rfl 2 (by decide) (hts _ wf_Ke_23) (fun _ h9 => h9) rfl d_Ke_label_60 ?_
  obtain ⟨v6, e9, h⟩ := zo_b h
  refine ka_i (va_runV (As := []) (rest := [.int v5]) S9 (c_Lb_free l hl9 D A r _ σ _ e9) (cwV 0 hts (tg_V wl_Ke_56 wm_Lb_free we_Lb_free wi_Lb wo_Lb_free) rfl rfl rfl wq_Lb_free ⟨Nat.le_of_ble_eq_true rfl, Nat.le_of_ble_eq_true rfl⟩) (ka_preV X9 hP hD hS 2 rfl rfl) rfl rfl hl.1 rfl (lv_room (Nat.le_of_ble_eq_true rfl)) d_Ke_label_63 ⟨Nat.le_of_ble_eq_true rfl, Nat.le_of_ble_eq_true rfl⟩) X9 hD hS rfl (fun H locs hP hD hS => ?_)
  refine lv_icmp_gt (tgt := 73) hx hb d_Ke_label_66 (by decide) (fun c9 => ?_) (fun c9 => ?_)
  · replace h := zo_t c9 h
    refine lv_iconst (v := 0) hx hb d_Ke_label_73 (by decide) ?_
    cases h
  replace h := zo_f c9 h
  refine lv_iconst (v := 1) hx hb d_Ke_label_69 (by decide) ?_
  refine lv_goto (tgt := 74) hx hb d_Ke_label_70 (by decide) ?_
  refine ka_v (va_runS (As := [.int 1]) (rest := []) S9 (c_Ke_needRoom_ok l hl9 D A (GW A σ r) _ 1 (by decide)) (cwS 1 hts (tg_S wl_Ke_60 ws_Ke_needRoom wi_Ke wo_Ke_needRoom) rfl rfl rfl wq_Ke_needRoom ⟨Nat.le_of_ble_eq_true rfl, Nat.le_of_ble_eq_true rfl⟩) (ka_preS X9 hP hD hS) rfl rfl hl.1 rfl (lv_room (Nat.le_of_ble_eq_true rfl)) d_Ke_label_74 ⟨Nat.le_of_ble_eq_true rfl, Nat.le_of_ble_eq_true rfl⟩) X9 hD hS rfl (fun H locs hP hD hS => ?_)
  refine lv_aload_n hx hb d_Ke_label_77 rfl (lv_at hl 1 rfl) ?_
  refine va_get (D := D) (ci := 4) (v := .ref (A 2)) (C := R_Ke) (T := T_Ke) (N := 5) hx hb hts wu_Ke hown hK hP 0 rfl rfl 2 (by decide) (hts _ wf_Ke_23) (fun _ h9 => h9) rfl d_Ke_label_78 ?_
  refine lv_iload hx hb d_Ke_label_81 (lv_at hl 0 rfl) ?_
  obtain ⟨v7, e9, h⟩ := zo_b h
  refine ka_i (va_runV (As := [.int v4]) (rest := []) S9 (c_Lb_numberOf l hl9 D A r _ σ v4 _ e9) (cwV 1 hts (tg_V wl_Ke_63 wm_Lb_numberOf we_Lb_numberOf wi_Lb wo_Lb_numberOf) rfl rfl rfl wq_Lb_numberOf ⟨Nat.le_of_ble_eq_true rfl, Nat.le_of_ble_eq_true rfl⟩) (ka_preV X9 hP hD hS 2 rfl rfl) rfl rfl hl.1 rfl (lv_room (Nat.le_of_ble_eq_true rfl)) d_Ke_label_83 ⟨Nat.le_of_ble_eq_true rfl, Nat.le_of_ble_eq_true rfl⟩) X9 hD hS rfl (fun H locs hP hD hS => ?_)
  cases h
  exact W.iret hx hb hr (fun t ht hW => ⟨⟨_, (), rfl, rfl, ka_at ht hP⟩, hS.F ht⟩) hS.2.2 d_Ke_label_86 hlk
set_option maxRecDepth 100000 in
set_option maxHeartbeats 4000000 in
theorem c_Ke_label_err (l : Launch) (hl9 : l.stackTraces = false) (D : va_G) (A : Nat → Nat) (r : va_W) (sz : Nat) (σ : KS) (x1 x2 x3 : Int32) (k9 : Nat) (z : KS) (h : f_Ke_label σ x1 x2 x3 = some (.error k9, z)) : vx_Met l y_Ke_label (Cond.code y_Ke_label b_Ke_label 5 (some .int) :: T0) ({ frames := 7, cells := 1, slots := 6, locals := 101 } : Room) (va_Pc [.ref (A 0), .int x1, .int x2, .int x3] (ka_Wd D A (GW A σ r) sz)) ka_No (ka_Xe D k9 (GW A z r) (va_A (GW A σ r) sz)) 1 6 (va_A (GW A σ r) sz) := by
  unfold f_Ke_label at h
  refine ka_ofX (own := R_Ke) (fun A9 => ka_Xe D k9 (GW A z r) A9) (by decide) rfl (Nat.le_of_ble_eq_true rfl) ?_
  intro p e s m below meth c A9 ls S9 hr hlk hex X9 hP hD hl
  obtain ⟨hx, hb, hml, hown, hts⟩ := id S9
  have hK := X9.2.1
  have hS : va_S A9 s.heap s.heap [] := va_S.rf
  replace hl : lv_has ls 5 [(0, .ref (A 0)), (1, .int x1), (2, .int x2), (3, .int x3)] := hl
  refine lv_aload_n hx hb d_Ke_label_0 rfl (lv_at hl 0 rfl) ?_
  refine va_get (D := D) (ci := 4) (v := .ref (A 2)) (C := R_Ke) (T := T_Ke) (N := 5) hx hb hts wu_Ke hown hK hP 0 rfl rfl 2 (by decide) (hts _ wf_Ke_23) (fun _ h9 => h9) rfl d_Ke_label_1 ?_
  refine lv_iload_n hx hb d_Ke_label_4 rfl (lv_at hl 1 rfl) ?_
  obtain ⟨v1, e9, h⟩ := zo_b h
  refine ka_i (va_runV (As := [.int x1]) (rest := []) S9 (c_Lb_has l hl9 D A r _ σ x1 _ e9) (cwV 1 hts (tg_V wl_Ke_34 wm_Lb_has we_Lb_has wi_Lb wo_Lb_has) rfl rfl rfl wq_Lb_has ⟨Nat.le_of_ble_eq_true rfl, Nat.le_of_ble_eq_true rfl⟩) (ka_preV X9 hP hD hS 2 rfl rfl) rfl rfl hl.1 rfl (lv_room (Nat.le_of_ble_eq_true rfl)) d_Ke_label_5 ⟨Nat.le_of_ble_eq_true rfl, Nat.le_of_ble_eq_true rfl⟩) X9 hD hS rfl (fun H locs hP hD hS => ?_)
  refine lv_if_eq (tgt := 34) hx hb d_Ke_label_8 (by decide) (fun c9 => ?_) (fun c9 => ?_)
  · replace h := zo_t c9 h
    refine lv_iconst (v := 0) hx hb d_Ke_label_34 (by decide) ?_
    cases h
    exact ka_err (vx_runS (As := [.int 0]) (rest := []) S9 (c_Ke_needNumber_err l hl9 D A (GW A σ r) _ 0 rfl) (cwS 1 hts (tg_S wl_Ke_44 ws_Ke_needNumber wi_Ke wo_Ke_needNumber) rfl rfl rfl wq_Ke_needNumber ⟨Nat.le_of_ble_eq_true rfl, Nat.le_of_ble_eq_true rfl⟩) (ka_preS X9 hP hD hS) rfl rfl hl.1 rfl (lv_room (Nat.le_of_ble_eq_true rfl)) d_Ke_label_35 ⟨Nat.le_of_ble_eq_true rfl, Nat.le_of_ble_eq_true rfl⟩) hlk hex X9 hD hS (Nat.le_of_ble_eq_true rfl) (Nat.le_of_ble_eq_true rfl)
  replace h := zo_f c9 h
  refine lv_iload_n hx hb d_Ke_label_11 rfl (lv_at hl 2 rfl) ?_
  refine lv_iconst (v := 0) hx hb d_Ke_label_12 (by decide) ?_
  refine lv_bipush (v := 7) hx hb d_Ke_label_13 (by decide) ?_
  obtain ⟨v2, e9, h⟩ := zo_b h
  refine ka_i (va_runS (As := [.int x2, .int 0, .int 7]) (rest := []) S9 (c_Ke_isBetween l hl9 D A (GW A σ r) _ x2 0 7 _ e9) (cwS 3 hts (tg_S wl_Ke_40 ws_Ke_isBetween wi_Ke wo_Ke_isBetween) rfl rfl rfl wq_Ke_isBetween ⟨Nat.le_of_ble_eq_true rfl, Nat.le_of_ble_eq_true rfl⟩) (ka_preS X9 hP hD hS) rfl rfl hl.1 rfl (lv_room (Nat.le_of_ble_eq_true rfl)) d_Ke_label_15 ⟨Nat.le_of_ble_eq_true rfl, Nat.le_of_ble_eq_true rfl⟩) X9 hD hS rfl (fun H locs hP hD hS => ?_)
  refine lv_if_eq (tgt := 34) hx hb d_Ke_label_18 (by decide) (fun c9 => ?_) (fun c9 => ?_)
  · replace h := zo_t c9 h
    refine lv_iconst (v := 0) hx hb d_Ke_label_34 (by decide) ?_
    cases h
    exact ka_err (vx_runS (As := [.int 0]) (rest := []) S9 (c_Ke_needNumber_err l hl9 D A (GW A σ r) _ 0 rfl) (cwS 1 hts (tg_S wl_Ke_44 ws_Ke_needNumber wi_Ke wo_Ke_needNumber) rfl rfl rfl wq_Ke_needNumber ⟨Nat.le_of_ble_eq_true rfl, Nat.le_of_ble_eq_true rfl⟩) (ka_preS X9 hP hD hS) rfl rfl hl.1 rfl (lv_room (Nat.le_of_ble_eq_true rfl)) d_Ke_label_35 ⟨Nat.le_of_ble_eq_true rfl, Nat.le_of_ble_eq_true rfl⟩) hlk hex X9 hD hS (Nat.le_of_ble_eq_true rfl) (Nat.le_of_ble_eq_true rfl)
  replace h := zo_f c9 h
  refine lv_iload_n hx hb d_Ke_label_21 rfl (lv_at hl 3 rfl) ?_
  refine lv_iconst (v := 0) hx hb d_Ke_label_22 (by decide) ?_
  refine lv_iconst (v := 4) hx hb d_Ke_label_23 (by decide) ?_
  obtain ⟨v3, e9, h⟩ := zo_b h
  refine ka_i (va_runS (As := [.int x3, .int 0, .int 4]) (rest := []) S9 (c_Ke_isBetween l hl9 D A (GW A σ r) _ x3 0 4 _ e9) (cwS 3 hts (tg_S wl_Ke_40 ws_Ke_isBetween wi_Ke wo_Ke_isBetween) rfl rfl rfl wq_Ke_isBetween ⟨Nat.le_of_ble_eq_true rfl, Nat.le_of_ble_eq_true rfl⟩) (ka_preS X9 hP hD hS) rfl rfl hl.1 rfl (lv_room (Nat.le_of_ble_eq_true rfl)) d_Ke_label_24 ⟨Nat.le_of_ble_eq_true rfl, Nat.le_of_ble_eq_true rfl⟩) X9 hD hS rfl (fun H locs hP hD hS => ?_)
  refine lv_if_eq (tgt := 34) hx hb d_Ke_label_27 (by decide) (fun c9 => ?_) (fun c9 => ?_)
  · replace h := zo_t c9 h
    refine lv_iconst (v := 0) hx hb d_Ke_label_34 (by decide) ?_
    cases h
    exact ka_err (vx_runS (As := [.int 0]) (rest := []) S9 (c_Ke_needNumber_err l hl9 D A (GW A σ r) _ 0 rfl) (cwS 1 hts (tg_S wl_Ke_44 ws_Ke_needNumber wi_Ke wo_Ke_needNumber) rfl rfl rfl wq_Ke_needNumber ⟨Nat.le_of_ble_eq_true rfl, Nat.le_of_ble_eq_true rfl⟩) (ka_preS X9 hP hD hS) rfl rfl hl.1 rfl (lv_room (Nat.le_of_ble_eq_true rfl)) d_Ke_label_35 ⟨Nat.le_of_ble_eq_true rfl, Nat.le_of_ble_eq_true rfl⟩) hlk hex X9 hD hS (Nat.le_of_ble_eq_true rfl) (Nat.le_of_ble_eq_true rfl)
  replace h := zo_f c9 h
  refine lv_iconst (v := 1) hx hb d_Ke_label_30 (by decide) ?_
  refine lv_goto (tgt := 35) hx hb d_Ke_label_31 (by decide) ?_
  refine ka_v (va_runS (As := [.int 1]) (rest := []) S9 (c_Ke_needNumber_ok l hl9 D A (GW A σ r) _ 1 (by decide)) (cwS 1 hts (tg_S wl_Ke_44 ws_Ke_needNumber wi_Ke wo_Ke_needNumber) rfl rfl rfl wq_Ke_needNumber ⟨Nat.le_of_ble_eq_true rfl, Nat.le_of_ble_eq_true rfl⟩) (ka_preS X9 hP hD hS) rfl rfl hl.1 rfl (lv_room (Nat.le_of_ble_eq_true rfl)) d_Ke_label_35 ⟨Nat.le_of_ble_eq_true rfl, Nat.le_of_ble_eq_true rfl⟩) X9 hD hS rfl (fun H locs hP hD hS => ?_)
  refine lv_aload_n hx hb d_Ke_label_38 rfl (lv_at hl 0 rfl) ?_
  refine va_get (D := D) (ci := 4) (v := .ref (A 2)) (C := R_Ke) (T := T_Ke) (N := 5) hx hb hts wu_Ke hown hK hP 0 rfl rfl 2 (by decide) (hts _ wf_Ke_23) (fun _ h9 => h9) rfl d_Ke_label_39 ?_
  refine lv_iload_n hx hb d_Ke_label_42 rfl (lv_at hl 1 rfl) ?_
  refine lv_iload_n hx hb d_Ke_label_43 rfl (lv_at hl 2 rfl) ?_
  refine lv_iload_n hx hb d_Ke_label_44 rfl (lv_at hl 3 rfl) ?_
  obtain ⟨v4, e9, h⟩ := zo_b h
  refine ka_i (va_runV (As := [.int x1, .int x2, .int x3]) (rest := []) S9 (c_Lb_changed l hl9 D A r _ σ x1 x2 x3 _ e9) (cwV 3 hts (tg_V wl_Ke_48 wm_Lb_changed we_Lb_changed wi_Lb wo_Lb_changed) rfl rfl rfl wq_Lb_changed ⟨Nat.le_of_ble_eq_true rfl, Nat.le_of_ble_eq_true rfl⟩) (ka_preV X9 hP hD hS 2 rfl rfl) rfl rfl hl.1 rfl (lv_room (Nat.le_of_ble_eq_true rfl)) d_Ke_label_45 ⟨Nat.le_of_ble_eq_true rfl, Nat.le_of_ble_eq_true rfl⟩) X9 hD hS rfl (fun H locs hP hD hS => ?_)
  refine lv_istore (lv' := [(4, .int v4), (0, .ref (A 0)), (1, .int x1), (2, .int x2), (3, .int x3)]) hx hb d_Ke_label_48 hl (by decide) rfl (fun ls hl => ?_)
  refine lv_aload_n hx hb d_Ke_label_50 rfl (lv_at hl 1 rfl) ?_
  refine va_get (D := D) (ci := 4) (v := .ref (A 2)) (C := R_Ke) (T := T_Ke) (N := 5) hx hb hts wu_Ke hown hK hP 0 rfl rfl 2 (by decide) (hts _ wf_Ke_23) (fun _ h9 => h9) rfl d_Ke_label_51 ?_
  refine lv_iload hx hb d_Ke_label_54 (lv_at hl 0 rfl) ?_
  obtain ⟨v5, e9, h⟩ := zo_b h
  refine ka_i (va_runV (As := [.int v4]) (rest := []) S9 (c_Lb_missing l hl9 D A r _ σ v4 _ e9) (cwV 1 hts (tg_V wl_Ke_52 wm_Lb_missing we_Lb_missing wi_Lb wo_Lb_missing) rfl rfl rfl wq_Lb_missing ⟨Nat.le_of_ble_eq_true rfl, Nat.le_of_ble_eq_true rfl⟩) (ka_preV X9 hP hD hS 2 rfl rfl) rfl rfl hl.1 rfl (lv_room (Nat.le_of_ble_eq_true rfl)) d_Ke_label_56 ⟨Nat.le_of_ble_eq_true rfl, Nat.le_of_ble_eq_true rfl⟩) X9 hD hS rfl (fun H locs hP hD hS => ?_)
  refine lv_aload_n hx hb d_Ke_label_59 rfl (lv_at hl 1 rfl) ?_
  refine va_get (D := D) (ci := 4) (v := .ref (A 2)) (C := R_Ke) (T := T_Ke) (N := 5) hx hb hts wu_Ke hown hK hP 0 rfl rfl 2 (by decide) (hts _ wf_Ke_23) (fun _ h9 => h9) rfl d_Ke_label_60 ?_
  obtain ⟨v6, e9, h⟩ := zo_b h
  refine ka_i (va_runV (As := []) (rest := [.int v5]) S9 (c_Lb_free l hl9 D A r _ σ _ e9) (cwV 0 hts (tg_V wl_Ke_56 wm_Lb_free we_Lb_free wi_Lb wo_Lb_free) rfl rfl rfl wq_Lb_free ⟨Nat.le_of_ble_eq_true rfl, Nat.le_of_ble_eq_true rfl⟩) (ka_preV X9 hP hD hS 2 rfl rfl) rfl rfl hl.1 rfl (lv_room (Nat.le_of_ble_eq_true rfl)) d_Ke_label_63 ⟨Nat.le_of_ble_eq_true rfl, Nat.le_of_ble_eq_true rfl⟩) X9 hD hS rfl (fun H locs hP hD hS => ?_)
  refine lv_icmp_gt (tgt := 73) hx hb d_Ke_label_66 (by decide) (fun c9 => ?_) (fun c9 => ?_)
  · replace h := zo_t c9 h
    refine lv_iconst (v := 0) hx hb d_Ke_label_73 (by decide) ?_
    cases h
    exact ka_err (vx_runS (As := [.int 0]) (rest := []) S9 (c_Ke_needRoom_err l hl9 D A (GW A σ r) _ 0 rfl) (cwS 1 hts (tg_S wl_Ke_60 ws_Ke_needRoom wi_Ke wo_Ke_needRoom) rfl rfl rfl wq_Ke_needRoom ⟨Nat.le_of_ble_eq_true rfl, Nat.le_of_ble_eq_true rfl⟩) (ka_preS X9 hP hD hS) rfl rfl hl.1 rfl (lv_room (Nat.le_of_ble_eq_true rfl)) d_Ke_label_74 ⟨Nat.le_of_ble_eq_true rfl, Nat.le_of_ble_eq_true rfl⟩) hlk hex X9 hD hS (Nat.le_of_ble_eq_true rfl) (Nat.le_of_ble_eq_true rfl)
  replace h := zo_f c9 h
  refine lv_iconst (v := 1) hx hb d_Ke_label_69 (by decide) ?_
  refine lv_goto (tgt := 74) hx hb d_Ke_label_70 (by decide) ?_
  refine ka_v (va_runS (As := [.int 1]) (rest := []) S9 (c_Ke_needRoom_ok l hl9 D A (GW A σ r) _ 1 (by decide)) (cwS 1 hts (tg_S wl_Ke_60 ws_Ke_needRoom wi_Ke wo_Ke_needRoom) rfl rfl rfl wq_Ke_needRoom ⟨Nat.le_of_ble_eq_true rfl, Nat.le_of_ble_eq_true rfl⟩) (ka_preS X9 hP hD hS) rfl rfl hl.1 rfl (lv_room (Nat.le_of_ble_eq_true rfl)) d_Ke_label_74 ⟨Nat.le_of_ble_eq_true rfl, Nat.le_of_ble_eq_true rfl⟩) X9 hD hS rfl (fun H locs hP hD hS => ?_)
  refine lv_aload_n hx hb d_Ke_label_77 rfl (lv_at hl 1 rfl) ?_
  refine va_get (D := D) (ci := 4) (v := .ref (A 2)) (C := R_Ke) (T := T_Ke) (N := 5) hx hb hts wu_Ke hown hK hP 0 rfl rfl 2 (by decide) (hts _ wf_Ke_23) (fun _ h9 => h9) rfl d_Ke_label_78 ?_
  refine lv_iload hx hb d_Ke_label_81 (lv_at hl 0 rfl) ?_
  obtain ⟨v7, e9, h⟩ := zo_b h
  refine ka_i (va_runV (As := [.int v4]) (rest := []) S9 (c_Lb_numberOf l hl9 D A r _ σ v4 _ e9) (cwV 1 hts (tg_V wl_Ke_63 wm_Lb_numberOf we_Lb_numberOf wi_Lb wo_Lb_numberOf) rfl rfl rfl wq_Lb_numberOf ⟨Nat.le_of_ble_eq_true rfl, Nat.le_of_ble_eq_true rfl⟩) (ka_preV X9 hP hD hS 2 rfl rfl) rfl rfl hl.1 rfl (lv_room (Nat.le_of_ble_eq_true rfl)) d_Ke_label_83 ⟨Nat.le_of_ble_eq_true rfl, Nat.le_of_ble_eq_true rfl⟩) X9 hD hS rfl (fun H locs hP hD hS => ?_)
  cases h
end
