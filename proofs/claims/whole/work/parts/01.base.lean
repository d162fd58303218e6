-- ===== PART A: goes FIRST, ahead of the names: the tables' words, and 'selects' of the private methods out of them =====
/-- a private method of a class that the tables say can be made, by its rows of tables_1 -/
def lw_okq (q : MethodName × Nat) : Prop := (q.1.cls ≠ "java/lang/invoke/MethodHandle" ∧ q.1.cls ≠ "java/lang/invoke/VarHandle") ∧ Cond.instantiable q.1.cls q.2 ∈ tables_1 ∧ Cond.privateMethod q.1 ∈ tables_1 ∧ Cond.instanceMethod q.1 ∈ tables_1
theorem lw_p0 : lw_okq (⟨"FlowKernel", "addGiver", "(IZ)LFlowKernel$Giver;"⟩, 8) := ⟨⟨by decide +kernel, by decide +kernel⟩, List.mem_of_getElem? (i := 12) (by decide +kernel), List.mem_of_getElem? (i := 120) (by decide +kernel), List.mem_of_getElem? (i := 121) (by decide +kernel)⟩
theorem lw_p1 : lw_okq (⟨"FlowKernel", "pullIfNeeded", "(LFlowKernel$Giver;)V"⟩, 8) := ⟨⟨by decide +kernel, by decide +kernel⟩, List.mem_of_getElem? (i := 12) (by decide +kernel), List.mem_of_getElem? (i := 212) (by decide +kernel), List.mem_of_getElem? (i := 213) (by decide +kernel)⟩
theorem lw_p2 : lw_okq (⟨"FlowKernel", "askRoot", "(LFlowKernel$Parting;)Z"⟩, 8) := ⟨⟨by decide +kernel, by decide +kernel⟩, List.mem_of_getElem? (i := 12) (by decide +kernel), List.mem_of_getElem? (i := 228) (by decide +kernel), List.mem_of_getElem? (i := 229) (by decide +kernel)⟩
theorem lw_p3 : lw_okq (⟨"FlowKernel$ChunkRow", "sizeOf", "(I)I"⟩, 4) := ⟨⟨by decide +kernel, by decide +kernel⟩, List.mem_of_getElem? (i := 125) (by decide +kernel), List.mem_of_getElem? (i := 244) (by decide +kernel), List.mem_of_getElem? (i := 245) (by decide +kernel)⟩
theorem lw_p4 : lw_okq (⟨"FlowKernel", "endBranches", "(LFlowKernel$Parting;)V"⟩, 8) := ⟨⟨by decide +kernel, by decide +kernel⟩, List.mem_of_getElem? (i := 12) (by decide +kernel), List.mem_of_getElem? (i := 262) (by decide +kernel), List.mem_of_getElem? (i := 263) (by decide +kernel)⟩
theorem lw_p5 : lw_okq (⟨"FlowKernel", "awaitPumps", "()V"⟩, 8) := ⟨⟨by decide +kernel, by decide +kernel⟩, List.mem_of_getElem? (i := 12) (by decide +kernel), List.mem_of_getElem? (i := 280) (by decide +kernel), List.mem_of_getElem? (i := 281) (by decide +kernel)⟩
theorem lw_p6 : lw_okq (⟨"FlowKernel", "pipeAt", "(I)LFlowKernel$Pipe;"⟩, 8) := ⟨⟨by decide +kernel, by decide +kernel⟩, List.mem_of_getElem? (i := 12) (by decide +kernel), List.mem_of_getElem? (i := 284) (by decide +kernel), List.mem_of_getElem? (i := 285) (by decide +kernel)⟩
theorem lw_p7 : lw_okq (⟨"FlowKernel", "rootAt", "(I)LFlowKernel$Giver;"⟩, 8) := ⟨⟨by decide +kernel, by decide +kernel⟩, List.mem_of_getElem? (i := 12) (by decide +kernel), List.mem_of_getElem? (i := 357) (by decide +kernel), List.mem_of_getElem? (i := 358) (by decide +kernel)⟩
theorem lw_p8 : lw_okq (⟨"FlowKernel", "giverAt", "(I)LFlowKernel$Giver;"⟩, 8) := ⟨⟨by decide +kernel, by decide +kernel⟩, List.mem_of_getElem? (i := 12) (by decide +kernel), List.mem_of_getElem? (i := 361) (by decide +kernel), List.mem_of_getElem? (i := 362) (by decide +kernel)⟩
theorem lw_p9 : lw_okq (⟨"FlowKernel", "takeIn", "(LFlowKernel$Giver;I)V"⟩, 8) := ⟨⟨by decide +kernel, by decide +kernel⟩, List.mem_of_getElem? (i := 12) (by decide +kernel), List.mem_of_getElem? (i := 365) (by decide +kernel), List.mem_of_getElem? (i := 366) (by decide +kernel)⟩
theorem lw_p10 : lw_okq (⟨"FlowKernel", "answerChunk", "(LFlowKernel$Giver;II)V"⟩, 8) := ⟨⟨by decide +kernel, by decide +kernel⟩, List.mem_of_getElem? (i := 12) (by decide +kernel), List.mem_of_getElem? (i := 370) (by decide +kernel), List.mem_of_getElem? (i := 371) (by decide +kernel)⟩
theorem lw_p11 : lw_okq (⟨"FlowKernel$Taker", "startNext", "()V"⟩, 13) := ⟨⟨by decide +kernel, by decide +kernel⟩, List.mem_of_getElem? (i := 296) (by decide +kernel), List.mem_of_getElem? (i := 393) (by decide +kernel), List.mem_of_getElem? (i := 394) (by decide +kernel)⟩
theorem lw_p12 : lw_okq (⟨"FlowKernel", "closeGiver", "(LFlowKernel$Giver;)V"⟩, 8) := ⟨⟨by decide +kernel, by decide +kernel⟩, List.mem_of_getElem? (i := 12) (by decide +kernel), List.mem_of_getElem? (i := 404) (by decide +kernel), List.mem_of_getElem? (i := 405) (by decide +kernel)⟩
theorem lw_p13 : lw_okq (⟨"FlowKernel", "failGiver", "(LFlowKernel$Giver;I)V"⟩, 8) := ⟨⟨by decide +kernel, by decide +kernel⟩, List.mem_of_getElem? (i := 12) (by decide +kernel), List.mem_of_getElem? (i := 415) (by decide +kernel), List.mem_of_getElem? (i := 416) (by decide +kernel)⟩
theorem lw_p14 : lw_okq (⟨"FlowKernel", "failBranches", "(LFlowKernel$Parting;I)V"⟩, 8) := ⟨⟨by decide +kernel, by decide +kernel⟩, List.mem_of_getElem? (i := 12) (by decide +kernel), List.mem_of_getElem? (i := 429) (by decide +kernel), List.mem_of_getElem? (i := 430) (by decide +kernel)⟩
theorem lw_p15 : lw_okq (⟨"FlowKernel", "request", "(LFlowKernel$Giver;I)V"⟩, 8) := ⟨⟨by decide +kernel, by decide +kernel⟩, List.mem_of_getElem? (i := 12) (by decide +kernel), List.mem_of_getElem? (i := 448) (by decide +kernel), List.mem_of_getElem? (i := 449) (by decide +kernel)⟩
def lw_privs_1 : List (MethodName × Nat) := [(⟨"FlowKernel", "addGiver", "(IZ)LFlowKernel$Giver;"⟩, 8), (⟨"FlowKernel", "pullIfNeeded", "(LFlowKernel$Giver;)V"⟩, 8), (⟨"FlowKernel", "askRoot", "(LFlowKernel$Parting;)Z"⟩, 8), (⟨"FlowKernel$ChunkRow", "sizeOf", "(I)I"⟩, 4), (⟨"FlowKernel", "endBranches", "(LFlowKernel$Parting;)V"⟩, 8), (⟨"FlowKernel", "awaitPumps", "()V"⟩, 8), (⟨"FlowKernel", "pipeAt", "(I)LFlowKernel$Pipe;"⟩, 8), (⟨"FlowKernel", "rootAt", "(I)LFlowKernel$Giver;"⟩, 8), (⟨"FlowKernel", "giverAt", "(I)LFlowKernel$Giver;"⟩, 8), (⟨"FlowKernel", "takeIn", "(LFlowKernel$Giver;I)V"⟩, 8), (⟨"FlowKernel", "answerChunk", "(LFlowKernel$Giver;II)V"⟩, 8), (⟨"FlowKernel$Taker", "startNext", "()V"⟩, 13), (⟨"FlowKernel", "closeGiver", "(LFlowKernel$Giver;)V"⟩, 8), (⟨"FlowKernel", "failGiver", "(LFlowKernel$Giver;I)V"⟩, 8), (⟨"FlowKernel", "failBranches", "(LFlowKernel$Parting;I)V"⟩, 8), (⟨"FlowKernel", "request", "(LFlowKernel$Giver;I)V"⟩, 8)]
theorem lw_r1 : ∀ q ∈ lw_privs_1, lw_okq q := List.forall_mem_cons.mpr ⟨lw_p0, List.forall_mem_cons.mpr ⟨lw_p1, List.forall_mem_cons.mpr ⟨lw_p2, List.forall_mem_cons.mpr ⟨lw_p3, List.forall_mem_cons.mpr ⟨lw_p4, List.forall_mem_cons.mpr ⟨lw_p5, List.forall_mem_cons.mpr ⟨lw_p6, List.forall_mem_cons.mpr ⟨lw_p7, List.forall_mem_cons.mpr ⟨lw_p8, List.forall_mem_cons.mpr ⟨lw_p9, List.forall_mem_cons.mpr ⟨lw_p10, List.forall_mem_cons.mpr ⟨lw_p11, List.forall_mem_cons.mpr ⟨lw_p12, List.forall_mem_cons.mpr ⟨lw_p13, List.forall_mem_cons.mpr ⟨lw_p14, List.forall_mem_cons.mpr ⟨lw_p15, fun _ h => absurd h List.not_mem_nil⟩⟩⟩⟩⟩⟩⟩⟩⟩⟩⟩⟩⟩⟩⟩⟩
theorem lw_p16 : lw_okq (⟨"FlowKernel", "cancelGiver", "(LFlowKernel$Giver;I)V"⟩, 8) := ⟨⟨by decide +kernel, by decide +kernel⟩, List.mem_of_getElem? (i := 12) (by decide +kernel), List.mem_of_getElem? (i := 456) (by decide +kernel), List.mem_of_getElem? (i := 457) (by decide +kernel)⟩
theorem lw_p17 : lw_okq (⟨"FlowKernel", "takerAt", "(I)LFlowKernel$Taker;"⟩, 8) := ⟨⟨by decide +kernel, by decide +kernel⟩, List.mem_of_getElem? (i := 12) (by decide +kernel), List.mem_of_getElem? (i := 469) (by decide +kernel), List.mem_of_getElem? (i := 470) (by decide +kernel)⟩
theorem lw_p18 : lw_okq (⟨"FlowKernel$Taker", "goOn", "()V"⟩, 13) := ⟨⟨by decide +kernel, by decide +kernel⟩, List.mem_of_getElem? (i := 296) (by decide +kernel), List.mem_of_getElem? (i := 486) (by decide +kernel), List.mem_of_getElem? (i := 487) (by decide +kernel)⟩
theorem lw_p19 : lw_okq (⟨"FlowKernel$Taker", "breakDown", "()V"⟩, 13) := ⟨⟨by decide +kernel, by decide +kernel⟩, List.mem_of_getElem? (i := 296) (by decide +kernel), List.mem_of_getElem? (i := 490) (by decide +kernel), List.mem_of_getElem? (i := 491) (by decide +kernel)⟩
theorem lw_p20 : lw_okq (⟨"FlowKernel$Taker", "startAbort", "()V"⟩, 13) := ⟨⟨by decide +kernel, by decide +kernel⟩, List.mem_of_getElem? (i := 296) (by decide +kernel), List.mem_of_getElem? (i := 496) (by decide +kernel), List.mem_of_getElem? (i := 497) (by decide +kernel)⟩
theorem lw_p21 : lw_okq (⟨"FlowKernel$Taker", "loseEnd", "()V"⟩, 13) := ⟨⟨by decide +kernel, by decide +kernel⟩, List.mem_of_getElem? (i := 296) (by decide +kernel), List.mem_of_getElem? (i := 500) (by decide +kernel), List.mem_of_getElem? (i := 501) (by decide +kernel)⟩
theorem lw_p22 : lw_okq (⟨"FlowKernel", "doFirstJob", "()I"⟩, 8) := ⟨⟨by decide +kernel, by decide +kernel⟩, List.mem_of_getElem? (i := 12) (by decide +kernel), List.mem_of_getElem? (i := 597) (by decide +kernel), List.mem_of_getElem? (i := 598) (by decide +kernel)⟩
theorem lw_p23 : lw_okq (⟨"FlowKernel", "doPulled", "(LFlowKernel$Giver;I)V"⟩, 8) := ⟨⟨by decide +kernel, by decide +kernel⟩, List.mem_of_getElem? (i := 12) (by decide +kernel), List.mem_of_getElem? (i := 601) (by decide +kernel), List.mem_of_getElem? (i := 602) (by decide +kernel)⟩
theorem lw_p24 : lw_okq (⟨"FlowKernel", "doParted", "(LFlowKernel$Giver;I)V"⟩, 8) := ⟨⟨by decide +kernel, by decide +kernel⟩, List.mem_of_getElem? (i := 12) (by decide +kernel), List.mem_of_getElem? (i := 605) (by decide +kernel), List.mem_of_getElem? (i := 606) (by decide +kernel)⟩
theorem lw_p25 : lw_okq (⟨"FlowKernel", "doPump", "(LFlowKernel$Pipe;)Z"⟩, 8) := ⟨⟨by decide +kernel, by decide +kernel⟩, List.mem_of_getElem? (i := 12) (by decide +kernel), List.mem_of_getElem? (i := 609) (by decide +kernel), List.mem_of_getElem? (i := 610) (by decide +kernel)⟩
theorem lw_p26 : lw_okq (⟨"FlowKernel", "endPipe", "(LFlowKernel$Pipe;II)V"⟩, 8) := ⟨⟨by decide +kernel, by decide +kernel⟩, List.mem_of_getElem? (i := 12) (by decide +kernel), List.mem_of_getElem? (i := 613) (by decide +kernel), List.mem_of_getElem? (i := 614) (by decide +kernel)⟩
theorem lw_p27 : lw_okq (⟨"FlowKernel", "doSettled", "(LFlowKernel$Taker;II)V"⟩, 8) := ⟨⟨by decide +kernel, by decide +kernel⟩, List.mem_of_getElem? (i := 12) (by decide +kernel), List.mem_of_getElem? (i := 629) (by decide +kernel), List.mem_of_getElem? (i := 630) (by decide +kernel)⟩
theorem lw_p28 : lw_okq (⟨"FlowKernel$Taker", "failOrBreak", "(I)V"⟩, 13) := ⟨⟨by decide +kernel, by decide +kernel⟩, List.mem_of_getElem? (i := 296) (by decide +kernel), List.mem_of_getElem? (i := 639) (by decide +kernel), List.mem_of_getElem? (i := 640) (by decide +kernel)⟩
theorem lw_p29 : lw_okq (⟨"FlowKernel$Taker", "endAbort", "(I)V"⟩, 13) := ⟨⟨by decide +kernel, by decide +kernel⟩, List.mem_of_getElem? (i := 296) (by decide +kernel), List.mem_of_getElem? (i := 647) (by decide +kernel), List.mem_of_getElem? (i := 648) (by decide +kernel)⟩
theorem lw_p30 : lw_okq (⟨"FlowKernel$Taker", "noteAborted", "(I)V"⟩, 13) := ⟨⟨by decide +kernel, by decide +kernel⟩, List.mem_of_getElem? (i := 296) (by decide +kernel), List.mem_of_getElem? (i := 651) (by decide +kernel), List.mem_of_getElem? (i := 652) (by decide +kernel)⟩
theorem lw_p31 : lw_okq (⟨"FlowKernelModel", "pulledJob", "(II)V"⟩, 51) := ⟨⟨by decide +kernel, by decide +kernel⟩, List.mem_of_getElem? (i := 713) (by decide +kernel), List.mem_of_getElem? (i := 878) (by decide +kernel), List.mem_of_getElem? (i := 879) (by decide +kernel)⟩
def lw_privs_2 : List (MethodName × Nat) := [(⟨"FlowKernel", "cancelGiver", "(LFlowKernel$Giver;I)V"⟩, 8), (⟨"FlowKernel", "takerAt", "(I)LFlowKernel$Taker;"⟩, 8), (⟨"FlowKernel$Taker", "goOn", "()V"⟩, 13), (⟨"FlowKernel$Taker", "breakDown", "()V"⟩, 13), (⟨"FlowKernel$Taker", "startAbort", "()V"⟩, 13), (⟨"FlowKernel$Taker", "loseEnd", "()V"⟩, 13), (⟨"FlowKernel", "doFirstJob", "()I"⟩, 8), (⟨"FlowKernel", "doPulled", "(LFlowKernel$Giver;I)V"⟩, 8), (⟨"FlowKernel", "doParted", "(LFlowKernel$Giver;I)V"⟩, 8), (⟨"FlowKernel", "doPump", "(LFlowKernel$Pipe;)Z"⟩, 8), (⟨"FlowKernel", "endPipe", "(LFlowKernel$Pipe;II)V"⟩, 8), (⟨"FlowKernel", "doSettled", "(LFlowKernel$Taker;II)V"⟩, 8), (⟨"FlowKernel$Taker", "failOrBreak", "(I)V"⟩, 13), (⟨"FlowKernel$Taker", "endAbort", "(I)V"⟩, 13), (⟨"FlowKernel$Taker", "noteAborted", "(I)V"⟩, 13), (⟨"FlowKernelModel", "pulledJob", "(II)V"⟩, 51)]
theorem lw_r2 : ∀ q ∈ lw_privs_2, lw_okq q := List.forall_mem_cons.mpr ⟨lw_p16, List.forall_mem_cons.mpr ⟨lw_p17, List.forall_mem_cons.mpr ⟨lw_p18, List.forall_mem_cons.mpr ⟨lw_p19, List.forall_mem_cons.mpr ⟨lw_p20, List.forall_mem_cons.mpr ⟨lw_p21, List.forall_mem_cons.mpr ⟨lw_p22, List.forall_mem_cons.mpr ⟨lw_p23, List.forall_mem_cons.mpr ⟨lw_p24, List.forall_mem_cons.mpr ⟨lw_p25, List.forall_mem_cons.mpr ⟨lw_p26, List.forall_mem_cons.mpr ⟨lw_p27, List.forall_mem_cons.mpr ⟨lw_p28, List.forall_mem_cons.mpr ⟨lw_p29, List.forall_mem_cons.mpr ⟨lw_p30, List.forall_mem_cons.mpr ⟨lw_p31, fun _ h => absurd h List.not_mem_nil⟩⟩⟩⟩⟩⟩⟩⟩⟩⟩⟩⟩⟩⟩⟩⟩
theorem lw_p32 : lw_okq (⟨"FlowKernelModel", "failRoot", "(II)V"⟩, 51) := ⟨⟨by decide +kernel, by decide +kernel⟩, List.mem_of_getElem? (i := 713) (by decide +kernel), List.mem_of_getElem? (i := 882) (by decide +kernel), List.mem_of_getElem? (i := 883) (by decide +kernel)⟩
theorem lw_p33 : lw_okq (⟨"FlowKernelModel", "failPlain", "(II)V"⟩, 51) := ⟨⟨by decide +kernel, by decide +kernel⟩, List.mem_of_getElem? (i := 713) (by decide +kernel), List.mem_of_getElem? (i := 886) (by decide +kernel), List.mem_of_getElem? (i := 887) (by decide +kernel)⟩
theorem lw_p34 : lw_okq (⟨"FlowKernelModel", "happen", "(IIII)V"⟩, 51) := ⟨⟨by decide +kernel, by decide +kernel⟩, List.mem_of_getElem? (i := 713) (by decide +kernel), List.mem_of_getElem? (i := 890) (by decide +kernel), List.mem_of_getElem? (i := 891) (by decide +kernel)⟩
theorem lw_p35 : lw_okq (⟨"FlowKernelModel", "pull", "(I)V"⟩, 51) := ⟨⟨by decide +kernel, by decide +kernel⟩, List.mem_of_getElem? (i := 713) (by decide +kernel), List.mem_of_getElem? (i := 894) (by decide +kernel), List.mem_of_getElem? (i := 895) (by decide +kernel)⟩
theorem lw_p36 : lw_okq (⟨"FlowKernelModel", "isBranch", "(I)Z"⟩, 51) := ⟨⟨by decide +kernel, by decide +kernel⟩, List.mem_of_getElem? (i := 713) (by decide +kernel), List.mem_of_getElem? (i := 898) (by decide +kernel), List.mem_of_getElem? (i := 899) (by decide +kernel)⟩
theorem lw_p37 : lw_okq (⟨"FlowKernelModel", "pullRoot", "(I)V"⟩, 51) := ⟨⟨by decide +kernel, by decide +kernel⟩, List.mem_of_getElem? (i := 713) (by decide +kernel), List.mem_of_getElem? (i := 902) (by decide +kernel), List.mem_of_getElem? (i := 903) (by decide +kernel)⟩
theorem lw_p38 : lw_okq (⟨"FlowKernelModel", "pulls", "(I)Z"⟩, 51) := ⟨⟨by decide +kernel, by decide +kernel⟩, List.mem_of_getElem? (i := 713) (by decide +kernel), List.mem_of_getElem? (i := 906) (by decide +kernel), List.mem_of_getElem? (i := 907) (by decide +kernel)⟩
theorem lw_p39 : lw_okq (⟨"FlowKernelModel", "room", "(I)I"⟩, 51) := ⟨⟨by decide +kernel, by decide +kernel⟩, List.mem_of_getElem? (i := 713) (by decide +kernel), List.mem_of_getElem? (i := 910) (by decide +kernel), List.mem_of_getElem? (i := 911) (by decide +kernel)⟩
theorem lw_p40 : lw_okq (⟨"FlowKernelModel", "sizeOf", "(IZ)I"⟩, 51) := ⟨⟨by decide +kernel, by decide +kernel⟩, List.mem_of_getElem? (i := 713) (by decide +kernel), List.mem_of_getElem? (i := 914) (by decide +kernel), List.mem_of_getElem? (i := 915) (by decide +kernel)⟩
theorem lw_p41 : lw_okq (⟨"FlowKernelModel", "readOn", "(I)V"⟩, 51) := ⟨⟨by decide +kernel, by decide +kernel⟩, List.mem_of_getElem? (i := 713) (by decide +kernel), List.mem_of_getElem? (i := 918) (by decide +kernel), List.mem_of_getElem? (i := 919) (by decide +kernel)⟩
theorem lw_p42 : lw_okq (⟨"FlowKernelModel", "endBranches", "(I)V"⟩, 51) := ⟨⟨by decide +kernel, by decide +kernel⟩, List.mem_of_getElem? (i := 713) (by decide +kernel), List.mem_of_getElem? (i := 922) (by decide +kernel), List.mem_of_getElem? (i := 923) (by decide +kernel)⟩
theorem lw_p43 : lw_okq (⟨"FlowKernelModel", "closePlain", "(I)V"⟩, 51) := ⟨⟨by decide +kernel, by decide +kernel⟩, List.mem_of_getElem? (i := 713) (by decide +kernel), List.mem_of_getElem? (i := 926) (by decide +kernel), List.mem_of_getElem? (i := 927) (by decide +kernel)⟩
theorem lw_p44 : lw_okq (⟨"FlowKernelModel", "takeChunk", "(I)I"⟩, 51) := ⟨⟨by decide +kernel, by decide +kernel⟩, List.mem_of_getElem? (i := 713) (by decide +kernel), List.mem_of_getElem? (i := 930) (by decide +kernel), List.mem_of_getElem? (i := 931) (by decide +kernel)⟩
theorem lw_p45 : lw_okq (⟨"FlowKernelModel", "close", "(I)V"⟩, 51) := ⟨⟨by decide +kernel, by decide +kernel⟩, List.mem_of_getElem? (i := 713) (by decide +kernel), List.mem_of_getElem? (i := 934) (by decide +kernel), List.mem_of_getElem? (i := 935) (by decide +kernel)⟩
theorem lw_p46 : lw_okq (⟨"FlowKernelModel", "job", "(III)V"⟩, 51) := ⟨⟨by decide +kernel, by decide +kernel⟩, List.mem_of_getElem? (i := 713) (by decide +kernel), List.mem_of_getElem? (i := 938) (by decide +kernel), List.mem_of_getElem? (i := 939) (by decide +kernel)⟩
theorem lw_p47 : lw_okq (⟨"FlowKernelModel", "partedJob", "(II)V"⟩, 51) := ⟨⟨by decide +kernel, by decide +kernel⟩, List.mem_of_getElem? (i := 713) (by decide +kernel), List.mem_of_getElem? (i := 942) (by decide +kernel), List.mem_of_getElem? (i := 943) (by decide +kernel)⟩
def lw_privs_3 : List (MethodName × Nat) := [(⟨"FlowKernelModel", "failRoot", "(II)V"⟩, 51), (⟨"FlowKernelModel", "failPlain", "(II)V"⟩, 51), (⟨"FlowKernelModel", "happen", "(IIII)V"⟩, 51), (⟨"FlowKernelModel", "pull", "(I)V"⟩, 51), (⟨"FlowKernelModel", "isBranch", "(I)Z"⟩, 51), (⟨"FlowKernelModel", "pullRoot", "(I)V"⟩, 51), (⟨"FlowKernelModel", "pulls", "(I)Z"⟩, 51), (⟨"FlowKernelModel", "room", "(I)I"⟩, 51), (⟨"FlowKernelModel", "sizeOf", "(IZ)I"⟩, 51), (⟨"FlowKernelModel", "readOn", "(I)V"⟩, 51), (⟨"FlowKernelModel", "endBranches", "(I)V"⟩, 51), (⟨"FlowKernelModel", "closePlain", "(I)V"⟩, 51), (⟨"FlowKernelModel", "takeChunk", "(I)I"⟩, 51), (⟨"FlowKernelModel", "close", "(I)V"⟩, 51), (⟨"FlowKernelModel", "job", "(III)V"⟩, 51), (⟨"FlowKernelModel", "partedJob", "(II)V"⟩, 51)]
theorem lw_r3 : ∀ q ∈ lw_privs_3, lw_okq q := List.forall_mem_cons.mpr ⟨lw_p32, List.forall_mem_cons.mpr ⟨lw_p33, List.forall_mem_cons.mpr ⟨lw_p34, List.forall_mem_cons.mpr ⟨lw_p35, List.forall_mem_cons.mpr ⟨lw_p36, List.forall_mem_cons.mpr ⟨lw_p37, List.forall_mem_cons.mpr ⟨lw_p38, List.forall_mem_cons.mpr ⟨lw_p39, List.forall_mem_cons.mpr ⟨lw_p40, List.forall_mem_cons.mpr ⟨lw_p41, List.forall_mem_cons.mpr ⟨lw_p42, List.forall_mem_cons.mpr ⟨lw_p43, List.forall_mem_cons.mpr ⟨lw_p44, List.forall_mem_cons.mpr ⟨lw_p45, List.forall_mem_cons.mpr ⟨lw_p46, List.forall_mem_cons.mpr ⟨lw_p47, fun _ h => absurd h List.not_mem_nil⟩⟩⟩⟩⟩⟩⟩⟩⟩⟩⟩⟩⟩⟩⟩⟩
theorem lw_p48 : lw_okq (⟨"FlowKernelModel", "takeIn", "(II)V"⟩, 51) := ⟨⟨by decide +kernel, by decide +kernel⟩, List.mem_of_getElem? (i := 713) (by decide +kernel), List.mem_of_getElem? (i := 946) (by decide +kernel), List.mem_of_getElem? (i := 947) (by decide +kernel)⟩
theorem lw_p49 : lw_okq (⟨"FlowKernelModel", "takeRequest", "(I)I"⟩, 51) := ⟨⟨by decide +kernel, by decide +kernel⟩, List.mem_of_getElem? (i := 713) (by decide +kernel), List.mem_of_getElem? (i := 950) (by decide +kernel), List.mem_of_getElem? (i := 951) (by decide +kernel)⟩
theorem lw_p50 : lw_okq (⟨"FlowKernelModel", "answer", "(III)V"⟩, 51) := ⟨⟨by decide +kernel, by decide +kernel⟩, List.mem_of_getElem? (i := 713) (by decide +kernel), List.mem_of_getElem? (i := 954) (by decide +kernel), List.mem_of_getElem? (i := 955) (by decide +kernel)⟩
theorem lw_p51 : lw_okq (⟨"FlowKernelModel", "writeTo", "(II)I"⟩, 51) := ⟨⟨by decide +kernel, by decide +kernel⟩, List.mem_of_getElem? (i := 713) (by decide +kernel), List.mem_of_getElem? (i := 958) (by decide +kernel), List.mem_of_getElem? (i := 959) (by decide +kernel)⟩
theorem lw_p52 : lw_okq (⟨"FlowKernelModel", "goesOn", "(I)V"⟩, 51) := ⟨⟨by decide +kernel, by decide +kernel⟩, List.mem_of_getElem? (i := 713) (by decide +kernel), List.mem_of_getElem? (i := 962) (by decide +kernel), List.mem_of_getElem? (i := 963) (by decide +kernel)⟩
theorem lw_p53 : lw_okq (⟨"FlowKernelModel", "breaks", "(I)V"⟩, 51) := ⟨⟨by decide +kernel, by decide +kernel⟩, List.mem_of_getElem? (i := 713) (by decide +kernel), List.mem_of_getElem? (i := 966) (by decide +kernel), List.mem_of_getElem? (i := 967) (by decide +kernel)⟩
theorem lw_p54 : lw_okq (⟨"FlowKernelModel", "pump", "(I)Z"⟩, 51) := ⟨⟨by decide +kernel, by decide +kernel⟩, List.mem_of_getElem? (i := 713) (by decide +kernel), List.mem_of_getElem? (i := 970) (by decide +kernel), List.mem_of_getElem? (i := 971) (by decide +kernel)⟩
theorem lw_p55 : lw_okq (⟨"FlowKernelModel", "abortTaker", "(II)V"⟩, 51) := ⟨⟨by decide +kernel, by decide +kernel⟩, List.mem_of_getElem? (i := 713) (by decide +kernel), List.mem_of_getElem? (i := 974) (by decide +kernel), List.mem_of_getElem? (i := 975) (by decide +kernel)⟩
theorem lw_p56 : lw_okq (⟨"FlowKernelModel", "startFailing", "(II)V"⟩, 51) := ⟨⟨by decide +kernel, by decide +kernel⟩, List.mem_of_getElem? (i := 713) (by decide +kernel), List.mem_of_getElem? (i := 978) (by decide +kernel), List.mem_of_getElem? (i := 979) (by decide +kernel)⟩
theorem lw_p57 : lw_okq (⟨"FlowKernelModel", "finish", "(III)V"⟩, 51) := ⟨⟨by decide +kernel, by decide +kernel⟩, List.mem_of_getElem? (i := 713) (by decide +kernel), List.mem_of_getElem? (i := 982) (by decide +kernel), List.mem_of_getElem? (i := 983) (by decide +kernel)⟩
theorem lw_p58 : lw_okq (⟨"FlowKernelModel", "cancelGiver", "(II)V"⟩, 51) := ⟨⟨by decide +kernel, by decide +kernel⟩, List.mem_of_getElem? (i := 713) (by decide +kernel), List.mem_of_getElem? (i := 986) (by decide +kernel), List.mem_of_getElem? (i := 987) (by decide +kernel)⟩
theorem lw_p59 : lw_okq (⟨"FlowKernelModel", "cancelRoot", "(II)V"⟩, 51) := ⟨⟨by decide +kernel, by decide +kernel⟩, List.mem_of_getElem? (i := 713) (by decide +kernel), List.mem_of_getElem? (i := 990) (by decide +kernel), List.mem_of_getElem? (i := 991) (by decide +kernel)⟩
theorem lw_p60 : lw_okq (⟨"FlowKernelModel", "shutDown", "(I)V"⟩, 51) := ⟨⟨by decide +kernel, by decide +kernel⟩, List.mem_of_getElem? (i := 713) (by decide +kernel), List.mem_of_getElem? (i := 994) (by decide +kernel), List.mem_of_getElem? (i := 995) (by decide +kernel)⟩
theorem lw_p61 : lw_okq (⟨"FlowKernelModel", "asks", "(I)Z"⟩, 51) := ⟨⟨by decide +kernel, by decide +kernel⟩, List.mem_of_getElem? (i := 713) (by decide +kernel), List.mem_of_getElem? (i := 998) (by decide +kernel), List.mem_of_getElem? (i := 999) (by decide +kernel)⟩
theorem lw_p62 : lw_okq (⟨"FlowKernelModel", "space", "(I)I"⟩, 51) := ⟨⟨by decide +kernel, by decide +kernel⟩, List.mem_of_getElem? (i := 713) (by decide +kernel), List.mem_of_getElem? (i := 1002) (by decide +kernel), List.mem_of_getElem? (i := 1003) (by decide +kernel)⟩
theorem lw_p63 : lw_okq (⟨"FlowKernelModel", "request", "(II)V"⟩, 51) := ⟨⟨by decide +kernel, by decide +kernel⟩, List.mem_of_getElem? (i := 713) (by decide +kernel), List.mem_of_getElem? (i := 1006) (by decide +kernel), List.mem_of_getElem? (i := 1007) (by decide +kernel)⟩
def lw_privs_4 : List (MethodName × Nat) := [(⟨"FlowKernelModel", "takeIn", "(II)V"⟩, 51), (⟨"FlowKernelModel", "takeRequest", "(I)I"⟩, 51), (⟨"FlowKernelModel", "answer", "(III)V"⟩, 51), (⟨"FlowKernelModel", "writeTo", "(II)I"⟩, 51), (⟨"FlowKernelModel", "goesOn", "(I)V"⟩, 51), (⟨"FlowKernelModel", "breaks", "(I)V"⟩, 51), (⟨"FlowKernelModel", "pump", "(I)Z"⟩, 51), (⟨"FlowKernelModel", "abortTaker", "(II)V"⟩, 51), (⟨"FlowKernelModel", "startFailing", "(II)V"⟩, 51), (⟨"FlowKernelModel", "finish", "(III)V"⟩, 51), (⟨"FlowKernelModel", "cancelGiver", "(II)V"⟩, 51), (⟨"FlowKernelModel", "cancelRoot", "(II)V"⟩, 51), (⟨"FlowKernelModel", "shutDown", "(I)V"⟩, 51), (⟨"FlowKernelModel", "asks", "(I)Z"⟩, 51), (⟨"FlowKernelModel", "space", "(I)I"⟩, 51), (⟨"FlowKernelModel", "request", "(II)V"⟩, 51)]
theorem lw_r4 : ∀ q ∈ lw_privs_4, lw_okq q := List.forall_mem_cons.mpr ⟨lw_p48, List.forall_mem_cons.mpr ⟨lw_p49, List.forall_mem_cons.mpr ⟨lw_p50, List.forall_mem_cons.mpr ⟨lw_p51, List.forall_mem_cons.mpr ⟨lw_p52, List.forall_mem_cons.mpr ⟨lw_p53, List.forall_mem_cons.mpr ⟨lw_p54, List.forall_mem_cons.mpr ⟨lw_p55, List.forall_mem_cons.mpr ⟨lw_p56, List.forall_mem_cons.mpr ⟨lw_p57, List.forall_mem_cons.mpr ⟨lw_p58, List.forall_mem_cons.mpr ⟨lw_p59, List.forall_mem_cons.mpr ⟨lw_p60, List.forall_mem_cons.mpr ⟨lw_p61, List.forall_mem_cons.mpr ⟨lw_p62, List.forall_mem_cons.mpr ⟨lw_p63, fun _ h => absurd h List.not_mem_nil⟩⟩⟩⟩⟩⟩⟩⟩⟩⟩⟩⟩⟩⟩⟩⟩
theorem lw_p64 : lw_okq (⟨"FlowKernelModel", "written", "(II)V"⟩, 51) := ⟨⟨by decide +kernel, by decide +kernel⟩, List.mem_of_getElem? (i := 713) (by decide +kernel), List.mem_of_getElem? (i := 1010) (by decide +kernel), List.mem_of_getElem? (i := 1011) (by decide +kernel)⟩
theorem lw_p65 : lw_okq (⟨"FlowKernelModel", "failsOrBreaks", "(II)V"⟩, 51) := ⟨⟨by decide +kernel, by decide +kernel⟩, List.mem_of_getElem? (i := 713) (by decide +kernel), List.mem_of_getElem? (i := 1014) (by decide +kernel), List.mem_of_getElem? (i := 1015) (by decide +kernel)⟩
theorem lw_p66 : lw_okq (⟨"FlowKernelModel", "shutDone", "(II)V"⟩, 51) := ⟨⟨by decide +kernel, by decide +kernel⟩, List.mem_of_getElem? (i := 713) (by decide +kernel), List.mem_of_getElem? (i := 1018) (by decide +kernel), List.mem_of_getElem? (i := 1019) (by decide +kernel)⟩
theorem lw_p67 : lw_okq (⟨"FlowKernelModel", "abortDone", "(II)V"⟩, 51) := ⟨⟨by decide +kernel, by decide +kernel⟩, List.mem_of_getElem? (i := 713) (by decide +kernel), List.mem_of_getElem? (i := 1022) (by decide +kernel), List.mem_of_getElem? (i := 1023) (by decide +kernel)⟩
theorem lw_p68 : lw_okq (⟨"FlowKernelModel", "wake", "()V"⟩, 51) := ⟨⟨by decide +kernel, by decide +kernel⟩, List.mem_of_getElem? (i := 713) (by decide +kernel), List.mem_of_getElem? (i := 1026) (by decide +kernel), List.mem_of_getElem? (i := 1027) (by decide +kernel)⟩
theorem lw_p69 : lw_okq (⟨"FlowKernelModel", "addGiver", "(IZI)I"⟩, 51) := ⟨⟨by decide +kernel, by decide +kernel⟩, List.mem_of_getElem? (i := 713) (by decide +kernel), List.mem_of_getElem? (i := 1043) (by decide +kernel), List.mem_of_getElem? (i := 1044) (by decide +kernel)⟩
theorem lw_p70 : lw_okq (⟨"FlowKernelModel", "noRoot", "(I)Z"⟩, 51) := ⟨⟨by decide +kernel, by decide +kernel⟩, List.mem_of_getElem? (i := 713) (by decide +kernel), List.mem_of_getElem? (i := 1055) (by decide +kernel), List.mem_of_getElem? (i := 1056) (by decide +kernel)⟩
theorem lw_p71 : lw_okq (⟨"FlowKernelModel", "noGiver", "(I)Z"⟩, 51) := ⟨⟨by decide +kernel, by decide +kernel⟩, List.mem_of_getElem? (i := 713) (by decide +kernel), List.mem_of_getElem? (i := 1059) (by decide +kernel), List.mem_of_getElem? (i := 1060) (by decide +kernel)⟩
theorem lw_p72 : lw_okq (⟨"FlowKernelModel", "ends", "(I)V"⟩, 51) := ⟨⟨by decide +kernel, by decide +kernel⟩, List.mem_of_getElem? (i := 713) (by decide +kernel), List.mem_of_getElem? (i := 1067) (by decide +kernel), List.mem_of_getElem? (i := 1068) (by decide +kernel)⟩
theorem lw_p73 : lw_okq (⟨"FlowKernelModel", "badError", "(II)Z"⟩, 51) := ⟨⟨by decide +kernel, by decide +kernel⟩, List.mem_of_getElem? (i := 713) (by decide +kernel), List.mem_of_getElem? (i := 1075) (by decide +kernel), List.mem_of_getElem? (i := 1076) (by decide +kernel)⟩
theorem lw_p74 : lw_okq (⟨"FlowKernelModel", "noTaker", "(I)Z"⟩, 51) := ⟨⟨by decide +kernel, by decide +kernel⟩, List.mem_of_getElem? (i := 713) (by decide +kernel), List.mem_of_getElem? (i := 1095) (by decide +kernel), List.mem_of_getElem? (i := 1096) (by decide +kernel)⟩
def lw_privs_5 : List (MethodName × Nat) := [(⟨"FlowKernelModel", "written", "(II)V"⟩, 51), (⟨"FlowKernelModel", "failsOrBreaks", "(II)V"⟩, 51), (⟨"FlowKernelModel", "shutDone", "(II)V"⟩, 51), (⟨"FlowKernelModel", "abortDone", "(II)V"⟩, 51), (⟨"FlowKernelModel", "wake", "()V"⟩, 51), (⟨"FlowKernelModel", "addGiver", "(IZI)I"⟩, 51), (⟨"FlowKernelModel", "noRoot", "(I)Z"⟩, 51), (⟨"FlowKernelModel", "noGiver", "(I)Z"⟩, 51), (⟨"FlowKernelModel", "ends", "(I)V"⟩, 51), (⟨"FlowKernelModel", "badError", "(II)Z"⟩, 51), (⟨"FlowKernelModel", "noTaker", "(I)Z"⟩, 51)]
theorem lw_r5 : ∀ q ∈ lw_privs_5, lw_okq q := List.forall_mem_cons.mpr ⟨lw_p64, List.forall_mem_cons.mpr ⟨lw_p65, List.forall_mem_cons.mpr ⟨lw_p66, List.forall_mem_cons.mpr ⟨lw_p67, List.forall_mem_cons.mpr ⟨lw_p68, List.forall_mem_cons.mpr ⟨lw_p69, List.forall_mem_cons.mpr ⟨lw_p70, List.forall_mem_cons.mpr ⟨lw_p71, List.forall_mem_cons.mpr ⟨lw_p72, List.forall_mem_cons.mpr ⟨lw_p73, List.forall_mem_cons.mpr ⟨lw_p74, fun _ h => absurd h List.not_mem_nil⟩⟩⟩⟩⟩⟩⟩⟩⟩⟩⟩
def lw_privs : List (MethodName × Nat) := lw_privs_1 ++ (lw_privs_2 ++ (lw_privs_3 ++ (lw_privs_4 ++ (lw_privs_5))))
def lw_tbl : List Cond := k2_sels lw_privs ++ tables_1
theorem lw_privs_ok : ∀ q ∈ lw_privs, lw_okq q := by
  show ∀ q ∈ lw_privs_1 ++ (lw_privs_2 ++ (lw_privs_3 ++ (lw_privs_4 ++ (lw_privs_5)))), lw_okq q
  exact List.forall_mem_append.mpr ⟨lw_r1, List.forall_mem_append.mpr ⟨lw_r2, List.forall_mem_append.mpr ⟨lw_r3, List.forall_mem_append.mpr ⟨lw_r4, lw_r5⟩⟩⟩⟩

/-! names: a kind and a number; classes by their places in xo_cls -/
abbrev xo_N : Type := Nat × Nat
def xo_kd (n : xo_N) : Nat ⊕ (Nat × Nat) := match n.1 with
  | 0 => .inl 0
  | 1 => .inl 1
  | 2 => .inr (0, 64)
  | 3 => .inr (0, 64)
  | 4 => .inr (0, 64)
  | 5 => .inl 2
  | 6 => .inl 3
  | 7 => .inr (0, 16)
  | 8 => .inl 3
  | 9 => .inr (0, 16)
  | 10 => .inl 3
  | 11 => .inr (0, 16)
  | 12 => .inr (2, 6)
  | 13 => .inr (3, 2)
  | 14 => .inr (4, 2)
  | 20 => .inl 5
  | 21 => .inl 4
  | 22 => .inl 3
  | 23 => .inr (0, 16)
  | 24 => .inl 3
  | 25 => .inr (0, 8)
  | 30 => .inl 7
  | 31 => .inl 4
  | 32 => .inl 3
  | 33 => .inr (0, 16)
  | 34 => .inl 3
  | 35 => .inr (0, 16)
  | 40 => .inl 8
  | 41 => .inl 6
  | 42 => .inr (2, 2)
  | 50 => .inl 9
  | 51 => .inr (0, 6)
  | 52 => .inr (0, 6)
  | 53 => .inr (0, 6)
  | 54 => .inr (1, 6)
  | 55 => .inr (1, 6)
  | 56 => .inr (1, 6)
  | 57 => .inr (1, 6)
  | 58 => .inr (0, 6)
  | 59 => .inr (0, 96)
  | 60 => .inr (0, 6)
  | 61 => .inr (0, 48)
  | 62 => .inr (0, 6)
  | 63 => .inr (0, 6)
  | 64 => .inr (1, 6)
  | 65 => .inr (0, 6)
  | 66 => .inr (0, 6)
  | 67 => .inr (1, 6)
  | 68 => .inr (1, 6)
  | 69 => .inr (1, 6)
  | 70 => .inr (0, 2)
  | 71 => .inr (0, 2)
  | 72 => .inr (0, 2)
  | 73 => .inr (1, 2)
  | 74 => .inr (0, 32)
  | 75 => .inr (0, 32)
  | 76 => .inr (0, 2)
  | 77 => .inr (0, 2)
  | 78 => .inr (1, 2)
  | 79 => .inr (0, 2)
  | 80 => .inr (1, 2)
  | 81 => .inr (0, 2)
  | 82 => .inr (1, 2)
  | 83 => .inr (1, 2)
  | 84 => .inr (1, 2)
  | 85 => .inr (0, 2)
  | 86 => .inr (0, 2)
  | 87 => .inr (0, 2)
  | 88 => .inr (1, 2)
  | 89 => .inr (1, 2)
  | 90 => .inr (0, 64)
  | 91 => .inr (0, 64)
  | 92 => .inr (0, 64)
  | 93 => .inr (0, 64)
  | 94 => .inr (0, 64)
  | 95 => .inr (0, 64)
  | _ => .inl 99
def TF_K : u_T := fun k => match k with
  | 0 => ("FlowKernel", "log", "LFlowKernel$EventLog;", true)
  | 1 => ("FlowKernel", "waiting", "LFlowKernel$JobRow;", true)
  | 2 => ("FlowKernel", "givers", "[LFlowKernel$Giver;", true)
  | 3 => ("FlowKernel", "takers", "[LFlowKernel$Taker;", true)
  | 4 => ("FlowKernel", "pipes", "[LFlowKernel$Pipe;", true)
  | 5 => ("FlowKernel", "giverCount", "I", false)
  | 6 => ("FlowKernel", "takerCount", "I", false)
  | _ => ("FlowKernel", "pipeCount", "I", false)
def ty_K : Nat → FieldType := fun k => match k with
  | 0 => (.object "FlowKernel$EventLog")
  | 1 => (.object "FlowKernel$JobRow")
  | 2 => (.array (.object "FlowKernel$Giver"))
  | 3 => (.array (.object "FlowKernel$Taker"))
  | 4 => (.array (.object "FlowKernel$Pipe"))
  | 5 => .int
  | 6 => .int
  | _ => .int
def TF_L : u_T := fun k => match k with
  | 0 => ("FlowKernel$EventLog", "heads", "[I", true)
  | 1 => ("FlowKernel$EventLog", "firsts", "[I", true)
  | 2 => ("FlowKernel$EventLog", "seconds", "[I", true)
  | _ => ("FlowKernel$EventLog", "count", "I", false)
def ty_L : Nat → FieldType := fun k => match k with
  | 0 => (.array .int)
  | 1 => (.array .int)
  | 2 => (.array .int)
  | _ => .int
def TF_J : u_T := fun k => match k with
  | 0 => ("FlowKernel$JobRow", "kinds", "LFlowKernel$Row;", true)
  | 1 => ("FlowKernel$JobRow", "numbers", "LFlowKernel$Row;", true)
  | _ => ("FlowKernel$JobRow", "values", "LFlowKernel$Row;", true)
def ty_J : Nat → FieldType := fun k => match k with
  | 0 => (.object "FlowKernel$Row")
  | 1 => (.object "FlowKernel$Row")
  | _ => (.object "FlowKernel$Row")
def TF_R : u_T := fun k => match k with
  | 0 => ("FlowKernel$Row", "items", "[I", true)
  | 1 => ("FlowKernel$Row", "head", "I", false)
  | _ => ("FlowKernel$Row", "count", "I", false)
def ty_R : Nat → FieldType := fun k => match k with
  | 0 => (.array .int)
  | 1 => .int
  | _ => .int
def TF_C : u_T := fun k => match k with
  | 0 => ("FlowKernel$ChunkRow", "chunks", "LFlowKernel$Row;", true)
  | 1 => ("FlowKernel$ChunkRow", "mark", "I", true)
  | 2 => ("FlowKernel$ChunkRow", "byValue", "Z", true)
  | _ => ("FlowKernel$ChunkRow", "room", "I", false)
def ty_C : Nat → FieldType := fun k => match k with
  | 0 => (.object "FlowKernel$Row")
  | 1 => .int
  | 2 => .boolean
  | _ => .int
def TF_G : u_T := fun k => match k with
  | 0 => ("FlowKernel$Giver", "number", "I", true)
  | 1 => ("FlowKernel$Giver", "queue", "LFlowKernel$ChunkRow;", true)
  | 2 => ("FlowKernel$Giver", "log", "LFlowKernel$EventLog;", true)
  | 3 => ("FlowKernel$Giver", "requests", "LFlowKernel$Row;", true)
  | 4 => ("FlowKernel$Giver", "state", "I", false)
  | 5 => ("FlowKernel$Giver", "error", "I", false)
  | 6 => ("FlowKernel$Giver", "reads", "I", false)
  | 7 => ("FlowKernel$Giver", "ending", "Z", false)
  | 8 => ("FlowKernel$Giver", "pulling", "Z", false)
  | 9 => ("FlowKernel$Giver", "again", "Z", false)
  | 10 => ("FlowKernel$Giver", "givenUp", "Z", false)
  | 11 => ("FlowKernel$Giver", "origin", "LFlowKernel$Parting;", false)
  | 12 => ("FlowKernel$Giver", "parting", "LFlowKernel$Parting;", false)
  | _ => ("FlowKernel$Giver", "pipe", "LFlowKernel$Pipe;", false)
def ty_G : Nat → FieldType := fun k => match k with
  | 0 => .int
  | 1 => (.object "FlowKernel$ChunkRow")
  | 2 => (.object "FlowKernel$EventLog")
  | 3 => (.object "FlowKernel$Row")
  | 4 => .int
  | 5 => .int
  | 6 => .int
  | 7 => .boolean
  | 8 => .boolean
  | 9 => .boolean
  | 10 => .boolean
  | 11 => (.object "FlowKernel$Parting")
  | 12 => (.object "FlowKernel$Parting")
  | _ => (.object "FlowKernel$Pipe")
def TF_A : u_T := fun k => match k with
  | 0 => ("FlowKernel$Parting", "root", "LFlowKernel$Giver;", true)
  | 1 => ("FlowKernel$Parting", "branches", "[LFlowKernel$Giver;", true)
  | 2 => ("FlowKernel$Parting", "reading", "Z", false)
  | _ => ("FlowKernel$Parting", "again", "Z", false)
def ty_A : Nat → FieldType := fun k => match k with
  | 0 => (.object "FlowKernel$Giver")
  | 1 => (.array (.object "FlowKernel$Giver"))
  | 2 => .boolean
  | _ => .boolean
def TF_T : u_T := fun k => match k with
  | 0 => ("FlowKernel$Taker", "number", "I", true)
  | 1 => ("FlowKernel$Taker", "queue", "LFlowKernel$ChunkRow;", true)
  | 2 => ("FlowKernel$Taker", "log", "LFlowKernel$EventLog;", true)
  | 3 => ("FlowKernel$Taker", "writesWaiting", "LFlowKernel$Row;", true)
  | 4 => ("FlowKernel$Taker", "state", "I", false)
  | 5 => ("FlowKernel$Taker", "error", "I", false)
  | 6 => ("FlowKernel$Taker", "writes", "I", false)
  | 7 => ("FlowKernel$Taker", "doing", "I", false)
  | 8 => ("FlowKernel$Taker", "abortError", "I", false)
  | 9 => ("FlowKernel$Taker", "abortPending", "Z", false)
  | 10 => ("FlowKernel$Taker", "abortLate", "Z", false)
  | 11 => ("FlowKernel$Taker", "endWaits", "Z", false)
  | _ => ("FlowKernel$Taker", "held", "Z", false)
def ty_T : Nat → FieldType := fun k => match k with
  | 0 => .int
  | 1 => (.object "FlowKernel$ChunkRow")
  | 2 => (.object "FlowKernel$EventLog")
  | 3 => (.object "FlowKernel$Row")
  | 4 => .int
  | 5 => .int
  | 6 => .int
  | 7 => .int
  | 8 => .int
  | 9 => .boolean
  | 10 => .boolean
  | 11 => .boolean
  | _ => .boolean
def TF_P : u_T := fun k => match k with
  | 0 => ("FlowKernel$Pipe", "number", "I", true)
  | 1 => ("FlowKernel$Pipe", "giver", "LFlowKernel$Giver;", true)
  | 2 => ("FlowKernel$Pipe", "taker", "LFlowKernel$Taker;", true)
  | 3 => ("FlowKernel$Pipe", "keeps", "Z", true)
  | 4 => ("FlowKernel$Pipe", "spares", "Z", true)
  | 5 => ("FlowKernel$Pipe", "leaves", "Z", true)
  | _ => ("FlowKernel$Pipe", "over", "Z", false)
def ty_P : Nat → FieldType := fun k => match k with
  | 0 => .int
  | 1 => (.object "FlowKernel$Giver")
  | 2 => (.object "FlowKernel$Taker")
  | 3 => .boolean
  | 4 => .boolean
  | 5 => .boolean
  | _ => .boolean
def TF_M : u_T := fun k => match k with
  | 0 => ("FlowKernelModel", "givers", "I", false)
  | 1 => ("FlowKernelModel", "state", "[I", false)
  | 2 => ("FlowKernelModel", "failure", "[I", false)
  | 3 => ("FlowKernelModel", "mark", "[I", false)
  | 4 => ("FlowKernelModel", "byValue", "[Z", false)
  | 5 => ("FlowKernelModel", "ending", "[Z", false)
  | 6 => ("FlowKernelModel", "pulling", "[Z", false)
  | 7 => ("FlowKernelModel", "again", "[Z", false)
  | 8 => ("FlowKernelModel", "held", "[I", false)
  | 9 => ("FlowKernelModel", "chunks", "[I", false)
  | 10 => ("FlowKernelModel", "queued", "[I", false)
  | 11 => ("FlowKernelModel", "requests", "[I", false)
  | 12 => ("FlowKernelModel", "waiting", "[I", false)
  | 13 => ("FlowKernelModel", "reads", "[I", false)
  | 14 => ("FlowKernelModel", "pullJob", "[Z", false)
  | 15 => ("FlowKernelModel", "branch", "[I", false)
  | 16 => ("FlowKernelModel", "root", "[I", false)
  | 17 => ("FlowKernelModel", "reading", "[Z", false)
  | 18 => ("FlowKernelModel", "rereading", "[Z", false)
  | 19 => ("FlowKernelModel", "givenUp", "[Z", false)
  | 20 => ("FlowKernelModel", "takers", "I", false)
  | 21 => ("FlowKernelModel", "stage", "[I", false)
  | 22 => ("FlowKernelModel", "fault", "[I", false)
  | 23 => ("FlowKernelModel", "limit", "[I", false)
  | 24 => ("FlowKernelModel", "heavy", "[Z", false)
  | 25 => ("FlowKernelModel", "load", "[I", false)
  | 26 => ("FlowKernelModel", "number", "[I", false)
  | 27 => ("FlowKernelModel", "many", "[I", false)
  | 28 => ("FlowKernelModel", "writes", "[I", false)
  | 29 => ("FlowKernelModel", "endWaits", "[Z", false)
  | 30 => ("FlowKernelModel", "doing", "[I", false)
  | 31 => ("FlowKernelModel", "pending", "[Z", false)
  | 32 => ("FlowKernelModel", "abortError", "[I", false)
  | 33 => ("FlowKernelModel", "late", "[Z", false)
  | 34 => ("FlowKernelModel", "taken", "[Z", false)
  | 35 => ("FlowKernelModel", "settling", "[Z", false)
  | 36 => ("FlowKernelModel", "pipes", "I", false)
  | 37 => ("FlowKernelModel", "source", "[I", false)
  | 38 => ("FlowKernelModel", "target", "[I", false)
  | 39 => ("FlowKernelModel", "flags", "[I", false)
  | 40 => ("FlowKernelModel", "over", "[Z", false)
  | 41 => ("FlowKernelModel", "pumpJob", "[Z", false)
  | 42 => ("FlowKernelModel", "firstJob", "I", false)
  | 43 => ("FlowKernelModel", "jobCount", "I", false)
  | 44 => ("FlowKernelModel", "jobKind", "[I", false)
  | 45 => ("FlowKernelModel", "jobWhom", "[I", false)
  | 46 => ("FlowKernelModel", "jobWhat", "[I", false)
  | 47 => ("FlowKernelModel", "happened", "I", false)
  | 48 => ("FlowKernelModel", "kinds", "[I", false)
  | 49 => ("FlowKernelModel", "firsts", "[I", false)
  | _ => ("FlowKernelModel", "seconds", "[I", false)
def ty_M : Nat → FieldType := fun k => match k with
  | 0 => .int
  | 1 => (.array .int)
  | 2 => (.array .int)
  | 3 => (.array .int)
  | 4 => (.array .boolean)
  | 5 => (.array .boolean)
  | 6 => (.array .boolean)
  | 7 => (.array .boolean)
  | 8 => (.array .int)
  | 9 => (.array .int)
  | 10 => (.array .int)
  | 11 => (.array .int)
  | 12 => (.array .int)
  | 13 => (.array .int)
  | 14 => (.array .boolean)
  | 15 => (.array .int)
  | 16 => (.array .int)
  | 17 => (.array .boolean)
  | 18 => (.array .boolean)
  | 19 => (.array .boolean)
  | 20 => .int
  | 21 => (.array .int)
  | 22 => (.array .int)
  | 23 => (.array .int)
  | 24 => (.array .boolean)
  | 25 => (.array .int)
  | 26 => (.array .int)
  | 27 => (.array .int)
  | 28 => (.array .int)
  | 29 => (.array .boolean)
  | 30 => (.array .int)
  | 31 => (.array .boolean)
  | 32 => (.array .int)
  | 33 => (.array .boolean)
  | 34 => (.array .boolean)
  | 35 => (.array .boolean)
  | 36 => .int
  | 37 => (.array .int)
  | 38 => (.array .int)
  | 39 => (.array .int)
  | 40 => (.array .boolean)
  | 41 => (.array .boolean)
  | 42 => .int
  | 43 => .int
  | 44 => (.array .int)
  | 45 => (.array .int)
  | 46 => (.array .int)
  | 47 => .int
  | 48 => (.array .int)
  | 49 => (.array .int)
  | _ => (.array .int)
abbrev xo_cls : List vw_C := [("FlowKernel", TF_K, 8), ("FlowKernel$EventLog", TF_L, 4), ("FlowKernel$JobRow", TF_J, 3), ("FlowKernel$Row", TF_R, 3), ("FlowKernel$ChunkRow", TF_C, 4), ("FlowKernel$Giver", TF_G, 14), ("FlowKernel$Parting", TF_A, 4), ("FlowKernel$Taker", TF_T, 13), ("FlowKernel$Pipe", TF_P, 7), ("FlowKernelModel", TF_M, 51)]
def xo_tn (t : Nat) : String := match t with
  | 2 => "FlowKernel$Giver"
  | 3 => "FlowKernel$Taker"
  | _ => "FlowKernel$Pipe"
def xo_ta (t : Nat) : FieldType := match t with
  | 0 => .int
  | 1 => .boolean
  | t => .object (xo_tn t)
theorem xo_ta_obj (t : Nat) (h : 2 ≤ t) (h5 : t < 5) : xo_ta t = .object (xo_tn t) := by
  rcases (by omega : t = 2 ∨ t = 3 ∨ t = 4) with rfl | rfl | rfl <;> rfl
