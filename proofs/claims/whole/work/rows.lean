section
-- ===== PART A: goes FIRST, ahead of the names: the tables' words, and 'selects' of the private methods out of them =====
/-- a private method of a class that the tables say can be made, by its rows of tables_1 -/
def lw_okq (q : MethodName × Nat) : Prop := (q.1.cls ≠ "java/lang/invoke/MethodHandle" ∧ q.1.cls ≠ "java/lang/invoke/VarHandle") ∧ Cond.instantiable q.1.cls q.2 ∈ tables_1 ∧ Cond.privateMethod q.1 ∈ tables_1 ∧ Cond.instanceMethod q.1 ∈ tables_1
theorem lw_p0 : lw_okq (⟨"FlowKernel", "addGiver", "(IZ)LFlowKernel$Giver;"⟩, 8) := ⟨⟨by decide +kernel, by decide +kernel⟩, List.mem_of_getElem? (i := 12) (by decide +kernel), List.mem_of_getElem? (i := 120) (by decide +kernel), List.mem_of_getElem? (i := 121) (by decide +kernel)⟩
theorem lw_p1 : lw_okq (⟨"FlowKernel", "pullIfNeeded", "(LFlowKernel$Giver;)V"⟩, 8) := ⟨⟨by decide +kernel, by decide +kernel⟩, List.mem_of_getElem? (i := 12) (by decide +kernel), List.mem_of_getElem? (i := 212) (by decide +kernel), List.mem_of_getElem? (i := 213) (by decide +kernel)⟩
theorem lw_p2 : lw_okq (⟨"FlowKernel", "askRoot", "(LFlowKernel$Parting;)Z"⟩, 8) := ⟨⟨by decide +kernel, by decide +kernel⟩, List.mem_of_getElem? (i := 12) (by decide +kernel), List.mem_of_getElem? (i := 228) (by decide +kernel), List.mem_of_getElem? (i := 229) (by decide +kernel)⟩
theorem lw_p3 : lw_okq (⟨"FlowKernel$ChunkRow", "sizeOf", "(I)I"⟩, 4) := ⟨⟨by decide +kernel, by decide +kernel⟩, List.mem_of_getElem? (i := 125) (by decide +kernel), List.mem_of_getElem? (i := 244) (by decide +kernel), List.mem_of_getElem? (i := 245) (by decide +kernel)⟩
theorem lw_p4 : lw_okq (⟨"FlowKernel", "endBranches", "(LFlowKernel$Parting;)V"⟩, 8) := ⟨⟨by decide +kernel, by decide +kernel⟩, List.mem_of_getElem? (i := 12) (by decide +kernel), List.mem_of_getElem? (i := 262) (by decide +kernel), List.mem_of_getElem? (i := 263) (by decide +kernel)⟩
theorem lw_p5 : lw_okq (⟨"FlowKernel", "awaitPumps", "()V"⟩, 8) := ⟨⟨by decide +kernel, by decide +kernel⟩, List.mem_of_getElem? (i := 12) (by decide +kernel), List.mem_of_getElem? (i := 280) (by decide +kernel), List.mem_of_getElem? (i := 281) (by decide +kernel)⟩
theorem lw_p6 : lw_okq (⟨"FlowKernel", "pipeAt", "(I)LFlowKernel$Pipe;"⟩, 8) := ⟨⟨by decide +kernel, by decide +kernel⟩, List.mem_of_getElem? (i := 12) (by decide +kernel), List.mem_of_getElem? (i := 284) (by decide +kernel), List.mem_of_getElem? (i := 285) (by decide +kernel)⟩
theorem lw_p7 : lw_okq (⟨"FlowKernel", "rootAt", "(I)LFlowKernel$Giver;"⟩, 8) := ⟨⟨by decide +kernel, by decide +kernel⟩, List.mem_of_getElem? (i := 12) (by decide +kernel), List.mem_of_getElem? (i := 357) (by decide +kernel), List.mem_of_getElem? (i := 358) (by decide +kernel)⟩
theorem lw_p8 : lw_okq (⟨"FlowKernel", "giverAt", "(I)LFlowKernel$Giver;"⟩, 8) := ⟨⟨by decide +kernel, by decide +kernel⟩, List.mem_of_getElem? (i := 12) (by decide +kernel), List.mem_of_getElem? (i := 361) (by decide +kernel), List.mem_of_getElem? (i := 362) (by decide +kernel)⟩
theorem lw_p9 : lw_okq (⟨"FlowKernel", "takeIn", "(LFlowKernel$Giver;I)V"⟩, 8) := ⟨⟨by decide +kernel, by decide +kernel⟩, List.mem_of_getElem? (i := 12) (by decide +kernel), List.mem_of_getElem? (i := 365) (by decide +kernel), List.mem_of_getElem? (i := 366) (by decide +kernel)⟩
theorem lw_p10 : lw_okq (⟨"FlowKernel", "answerChunk", "(LFlowKernel$Giver;II)V"⟩, 8) := ⟨⟨by decide +kernel, by decide +kernel⟩, List.mem_of_getElem? (i := 12) (by decide +kernel), List.mem_of_getElem? (i := 370) (by decide +kernel), List.mem_of_getElem? (i := 371) (by decide +kernel)⟩
theorem lw_p11 : lw_okq (⟨"FlowKernel$Taker", "startNext", "()V"⟩, 13) := ⟨⟨by decide +kernel, by decide +kernel⟩, List.mem_of_getElem? (i := 296) (by decide +kernel), List.mem_of_getElem? (i := 393) (by decide +kernel), List.mem_of_getElem? (i := 394) (by decide +kernel)⟩
theorem lw_p12 : lw_okq (⟨"FlowKernel", "closeGiver", "(LFlowKernel$Giver;)V"⟩, 8) := ⟨⟨by decide +kernel, by decide +kernel⟩, List.mem_of_getElem? (i := 12) (by decide +kernel), List.mem_of_getElem? (i := 404) (by decide +kernel), List.mem_of_getElem? (i := 405) (by decide +kernel)⟩
theorem lw_p13 : lw_okq (⟨"FlowKernel", "failGiver", "(LFlowKernel$Giver;I)V"⟩, 8) := ⟨⟨by decide +kernel, by decide +kernel⟩, List.mem_of_getElem? (i := 12) (by decide +kernel), List.mem_of_getElem? (i := 415) (by decide +kernel), List.mem_of_getElem? (i := 416) (by decide +kernel)⟩
theorem lw_p14 : lw_okq (⟨"FlowKernel", "failBranches", "(LFlowKernel$Parting;I)V"⟩, 8) := ⟨⟨by decide +kernel, by decide +kernel⟩, List.mem_of_getElem? (i := 12) (by decide +kernel), List.mem_of_getElem? (i := 429) (by decide +kernel), List.mem_of_getElem? (i := 430) (by decide +kernel)⟩
theorem lw_p15 : lw_okq (⟨"FlowKernel", "request", "(LFlowKernel$Giver;I)V"⟩, 8) := ⟨⟨by decide +kernel, by decide +kernel⟩, List.mem_of_getElem? (i := 12) (by decide +kernel), List.mem_of_getElem? (i := 448) (by decide +kernel), List.mem_of_getElem? (i := 449) (by decide +kernel)⟩
def lw_privs_1 : List (MethodName × Nat) := [(⟨"FlowKernel", "addGiver", "(IZ)LFlowKernel$Giver;"⟩, 8), (⟨"FlowKernel", "pullIfNeeded", "(LFlowKernel$Giver;)V"⟩, 8), (⟨"FlowKernel", "askRoot", "(LFlowKernel$Parting;)Z"⟩, 8), (⟨"FlowKernel$ChunkRow", "sizeOf", "(I)I"⟩, 4), (⟨"FlowKernel", "endBranches", "(LFlowKernel$Parting;)V"⟩, 8), (⟨"FlowKernel", "awaitPumps", "()V"⟩, 8), (⟨"FlowKernel", "pipeAt", "(I)LFlowKernel$Pipe;"⟩, 8), (⟨"FlowKernel", "rootAt", "(I)LFlowKernel$Giver;"⟩, 8), (⟨"FlowKernel", "giverAt", "(I)LFlowKernel$Giver;"⟩, 8), (⟨"FlowKernel", "takeIn", "(LFlowKernel$Giver;I)V"⟩, 8), (⟨"FlowKernel", "answerChunk", "(LFlowKernel$Giver;II)V"⟩, 8), (⟨"FlowKernel$Taker", "startNext", "()V"⟩, 13), (⟨"FlowKernel", "closeGiver", "(LFlowKernel$Giver;)V"⟩, 8), (⟨"FlowKernel", "failGiver", "(LFlowKernel$Giver;I)V"⟩, 8), (⟨"FlowKernel", "failBranches", "(LFlowKernel$Parting;I)V"⟩, 8), (⟨"FlowKernel", "request", "(LFlowKernel$Giver;I)V"⟩, 8)]
theorem lw_r1 : ∀ q ∈ lw_privs_1, lw_okq q := List.forall_mem_cons.mpr ⟨lw_p0, List.forall_mem_cons.mpr ⟨lw_p1, List.forall_mem_cons.mpr ⟨lw_p2, List.forall_mem_cons.mpr ⟨lw_p3, List.forall_mem_cons.mpr ⟨lw_p4, List.forall_mem_cons.mpr ⟨lw_p5, List.forall_mem_cons.mpr ⟨lw_p6, List.forall_mem_cons.mpr ⟨lw_p7, List.forall_mem_cons.mpr ⟨lw_p8, List.forall_mem_cons.mpr ⟨lw_p9, List.forall_mem_cons.mpr ⟨lw_p10, List.forall_mem_cons.mpr ⟨lw_p11, List.forall_mem_cons.mpr ⟨lw_p12, List.forall_mem_cons.mpr ⟨lw_p13, List.forall_mem_cons.mpr ⟨lw_p14, List.forall_mem_cons.mpr ⟨lw_p15, fun _ h => absurd h List.not_mem_nil⟩⟩⟩⟩⟩⟩⟩⟩⟩⟩⟩⟩⟩⟩⟩⟩
theorem lw_p16 : lw_okq (⟨"FlowKernel", "cancelGiver", "(LFlowKernel$Giver;I)V"⟩, 8) := ⟨⟨by decide +kernel, by decide +kernel⟩, List.mem_of_getElem? (i := 12) (by decide +kernel), List.mem_of_getElem? (i := 456) (by decide +kernel), List.mem_of_getElem? (i := 457) (by decide +kernel)⟩
theorem lw_p17 : lw_okq (⟨"FlowKernel", "takerAt", "(I)LFlowKernel$Taker;"⟩, 8) := ⟨⟨by decide +kernel, by decide +kernel⟩, List.mem_of_getElem? (i := 12) (by decide +kernel), List.mem_of_getElem? (i := 469) (by decide +kernel), List.mem_of_getElem? (i := 470) (by decide +kernel)⟩
theorem lw_p18 : lw_okq (⟨"FlowKernel$Taker", "goOn", "()V"⟩, 13) := ⟨⟨by decide +kernel, by decide +kernel⟩, List.mem_of_getElem? (i := 296) (by decide +kernel), List.mem_of_getElem? (i := 486) (by decide +kernel), List.mem_of_getElem? (i := 487) (by decide +kernel)⟩
theorem lw_p19 : lw_okq (⟨"FlowKernel$Taker", "breakDown", "()V"⟩, 13) := ⟨⟨by decide +kernel, by decide +kernel⟩, List.mem_of_getElem? (i := 296) (by decide +kernel), List.mem_of_getElem? (i := 490) (by decide +kernel), List.mem_of_getElem? (i := 491) (by decide +kernel)⟩
theorem lw_p20 : lw_okq (⟨"FlowKernel$Taker", "startAbort", "()V"⟩, 13) := ⟨⟨by decide +kernel, by decide +kernel⟩, List.mem_of_getElem? (i := 296) (by decide +kernel), List.mem_of_getElem? (i := 496) (by decide +kernel), List.mem_of_getElem? (i := 497) (by decide +kernel)⟩
theorem lw_p21 : lw_okq (⟨"FlowKernel$Taker", "loseEnd", "()V"⟩, 13) := ⟨⟨by decide +kernel, by decide +kernel⟩, List.mem_of_getElem? (i := 296) (by decide +kernel), List.mem_of_getElem? (i := 500) (by decide +kernel), List.mem_of_getElem? (i := 501) (by decide +kernel)⟩
theorem lw_p22 : lw_okq (⟨"FlowKernel", "doFirstJob", "()I"⟩, 8) := ⟨⟨by decide +kernel, by decide +kernel⟩, List.mem_of_getElem? (i := 12) (by decide +kernel), List.mem_of_getElem? (i := 597) (by decide +kernel), List.mem_of_getElem? (i := 598) (by decide +kernel)⟩
theorem lw_p23 : lw_okq (⟨"FlowKernel", "doPulled", "(LFlowKernel$Giver;I)V"⟩, 8) := ⟨⟨by decide +kernel, by decide +kernel⟩, List.mem_of_getElem? (i := 12) (by decide +kernel), List.mem_of_getElem? (i := 601) (by decide +kernel), List.mem_of_getElem? (i := 602) (by decide +kernel)⟩
theorem lw_p24 : lw_okq (⟨"FlowKernel", "doParted", "(LFlowKernel$Giver;I)V"⟩, 8) := ⟨⟨by decide +kernel, by decide +kernel⟩, List.mem_of_getElem? (i := 12) (by decide +kernel), List.mem_of_getElem? (i := 605) (by decide +kernel), List.mem_of_getElem? (i := 606) (by decide +kernel)⟩
theorem lw_p25 : lw_okq (⟨"FlowKernel", "doPump", "(LFlowKernel$Pipe;)Z"⟩, 8) := ⟨⟨by decide +kernel, by decide +kernel⟩, List.mem_of_getElem? (i := 12) (by decide +kernel), List.mem_of_getElem? (i := 609) (by decide +kernel), List.mem_of_getElem? (i := 610) (by decide +kernel)⟩
theorem lw_p26 : lw_okq (⟨"FlowKernel", "endPipe", "(LFlowKernel$Pipe;II)V"⟩, 8) := ⟨⟨by decide +kernel, by decide +kernel⟩, List.mem_of_getElem? (i := 12) (by decide +kernel), List.mem_of_getElem? (i := 613) (by decide +kernel), List.mem_of_getElem? (i := 614) (by decide +kernel)⟩
theorem lw_p27 : lw_okq (⟨"FlowKernel", "doSettled", "(LFlowKernel$Taker;II)V"⟩, 8) := ⟨⟨by decide +kernel, by decide +kernel⟩, List.mem_of_getElem? (i := 12) (by decide +kernel), List.mem_of_getElem? (i := 629) (by decide +kernel), List.mem_of_getElem? (i := 630) (by decide +kernel)⟩
theorem lw_p28 : lw_okq (⟨"FlowKernel$Taker", "failOrBreak", "(I)V"⟩, 13) := ⟨⟨by decide +kernel, by decide +kernel⟩, List.mem_of_getElem? (i := 296) (by decide +kernel), List.mem_of_getElem? (i := 639) (by decide +kernel), List.mem_of_getElem? (i := 640) (by decide +kernel)⟩
theorem lw_p29 : lw_okq (⟨"FlowKernel$Taker", "endAbort", "(I)V"⟩, 13) := ⟨⟨by decide +kernel, by decide +kernel⟩, List.mem_of_getElem? (i := 296) (by decide +kernel), List.mem_of_getElem? (i := 647) (by decide +kernel), List.mem_of_getElem? (i := 648) (by decide +kernel)⟩
theorem lw_p30 : lw_okq (⟨"FlowKernel$Taker", "noteAborted", "(I)V"⟩, 13) := ⟨⟨by decide +kernel, by decide +kernel⟩, List.mem_of_getElem? (i := 296) (by decide +kernel), List.mem_of_getElem? (i := 651) (by decide +kernel), List.mem_of_getElem? (i := 652) (by decide +kernel)⟩
theorem lw_p31 : lw_okq (⟨"FlowKernelModel", "pulledJob", "(II)V"⟩, 51) := ⟨⟨by decide +kernel, by decide +kernel⟩, List.mem_of_getElem? (i := 713) (by decide +kernel), List.mem_of_getElem? (i := 878) (by decide +kernel), List.mem_of_getElem? (i := 879) (by decide +kernel)⟩
def lw_privs_2 : List (MethodName × Nat) := [(⟨"FlowKernel", "cancelGiver", "(LFlowKernel$Giver;I)V"⟩, 8), (⟨"FlowKernel", "takerAt", "(I)LFlowKernel$Taker;"⟩, 8), (⟨"FlowKernel$Taker", "goOn", "()V"⟩, 13), (⟨"FlowKernel$Taker", "breakDown", "()V"⟩, 13), (⟨"FlowKernel$Taker", "startAbort", "()V"⟩, 13), (⟨"FlowKernel$Taker", "loseEnd", "()V"⟩, 13), (⟨"FlowKernel", "doFirstJob", "()I"⟩, 8), (⟨"FlowKernel", "doPulled", "(LFlowKernel$Giver;I)V"⟩, 8), (⟨"FlowKernel", "doParted", "(LFlowKernel$Giver;I)V"⟩, 8), (⟨"FlowKernel", "doPump", "(LFlowKernel$Pipe;)Z"⟩, 8), (⟨"FlowKernel", "endPipe", "(LFlowKernel$Pipe;II)V"⟩, 8), (⟨"FlowKernel", "doSettled", "(LFlowKernel$Taker;II)V"⟩, 8), (⟨"FlowKernel$Taker", "failOrBreak", "(I)V"⟩, 13), (⟨"FlowKernel$Taker", "endAbort", "(I)V"⟩, 13), (⟨"FlowKernel$Taker", "noteAborted", "(I)V"⟩, 13), (⟨"FlowKernelModel", "pulledJob", "(II)V"⟩, 51)]
theorem lw_r2 : ∀ q ∈ lw_privs_2, lw_okq q := List.forall_mem_cons.mpr ⟨lw_p16, List.forall_mem_cons.mpr ⟨lw_p17, List.forall_mem_cons.mpr ⟨lw_p18, List.forall_mem_cons.mpr ⟨lw_p19, List.forall_mem_cons.mpr ⟨lw_p20, List.forall_mem_cons.mpr ⟨lw_p21, List.forall_mem_cons.mpr ⟨lw_p22, List.forall_mem_cons.mpr ⟨lw_p23, List.forall_mem_cons.mpr ⟨lw_p24, List.forall_mem_cons.mpr ⟨lw_p25, List.forall_mem_cons.mpr ⟨lw_p26, List.forall_mem_cons.mpr ⟨lw_p27, List.forall_mem_cons.mpr ⟨lw_p28, List.forall_mem_cons.mpr ⟨lw_p29, List.forall_mem_cons.mpr ⟨lw_p30, List.forall_mem_cons.mpr ⟨lw_p31, fun _ h => absurd h List.not_mem_nil⟩⟩⟩⟩⟩⟩⟩⟩⟩⟩⟩⟩⟩⟩⟩⟩
theorem lw_p32 : lw_okq (⟨"FlowKernelModel", "failRoot", "(II)V"⟩, 51) := ⟨⟨by decide +kernel, by decide +kernel⟩, List.mem_of_getElem? (i := 713) (by decide +kernel), List.mem_of_getElem? (i := 882) (by decide +kernel), List.mem_of_getElem? (i := 883) (by decide +kernel)⟩
theorem lw_p33 : lw_okq (⟨"FlowKernelModel", "failPlain", "(II)V"⟩, 51) := ⟨⟨by decide +kernel, by decide +kernel⟩, List.mem_of_getElem? (i := 713) (by decide +kernel), List.mem_of_getElem? (i := 886) (by decide +kernel), List.mem_of_getElem? (i := 887) (by decide +kernel)⟩
theorem lw_p34 : lw_okq (⟨"FlowKernelModel", "happen", "(IIII)V"⟩, 51) := ⟨⟨by decide +kernel, by decide +kernel⟩, List.mem_of_getElem? (i := 713) (by decide +kernel), List.mem_of_getElem? (i := 890) (by decide +kernel), List.mem_of_getElem? (i := 891) (by decide +kernel)⟩
theorem lw_p35 : lw_okq (⟨"FlowKernelModel", "pull", "(I)V"⟩, 51) := ⟨⟨by decide +kernel, by decide +kernel⟩, List.mem_of_getElem? (i := 713) (by decide +kernel), List.mem_of_getElem? (i := 894) (by decide +kernel), List.mem_of_getElem? (i := 895) (by decide +kernel)⟩
theorem lw_p36 : lw_okq (⟨"FlowKernelModel", "isBranch", "(I)Z"⟩, 51) := ⟨⟨by decide +kernel, by decide +kernel⟩, List.mem_of_getElem? (i := 713) (by decide +kernel), List.mem_of_getElem? (i := 898) (by decide +kernel), List.mem_of_getElem? (i := 899) (by decide +kernel)⟩
theorem lw_p37 : lw_okq (⟨"FlowKernelModel", "pullRoot", "(I)V"⟩, 51) := ⟨⟨by decide +kernel, by decide +kernel⟩, List.mem_of_getElem? (i := 713) (by decide +kernel), List.mem_of_getElem? (i := 902) (by decide +kernel), List.mem_of_getElem? (i := 903) (by decide +kernel)⟩
theorem lw_p38 : lw_okq (⟨"FlowKernelModel", "pulls", "(I)Z"⟩, 51) := ⟨⟨by decide +kernel, by decide +kernel⟩, List.mem_of_getElem? (i := 713) (by decide +kernel), List.mem_of_getElem? (i := 906) (by decide +kernel), List.mem_of_getElem? (i := 907) (by decide +kernel)⟩
theorem lw_p39 : lw_okq (⟨"FlowKernelModel", "room", "(I)I"⟩, 51) := ⟨⟨by decide +kernel, by decide +kernel⟩, List.mem_of_getElem? (i := 713) (by decide +kernel), List.mem_of_getElem? (i := 910) (by decide +kernel), List.mem_of_getElem? (i := 911) (by decide +kernel)⟩
theorem lw_p40 : lw_okq (⟨"FlowKernelModel", "sizeOf", "(IZ)I"⟩, 51) := ⟨⟨by decide +kernel, by decide +kernel⟩, List.mem_of_getElem? (i := 713) (by decide +kernel), List.mem_of_getElem? (i := 914) (by decide +kernel), List.mem_of_getElem? (i := 915) (by decide +kernel)⟩
theorem lw_p41 : lw_okq (⟨"FlowKernelModel", "readOn", "(I)V"⟩, 51) := ⟨⟨by decide +kernel, by decide +kernel⟩, List.mem_of_getElem? (i := 713) (by decide +kernel), List.mem_of_getElem? (i := 918) (by decide +kernel), List.mem_of_getElem? (i := 919) (by decide +kernel)⟩
theorem lw_p42 : lw_okq (⟨"FlowKernelModel", "endBranches", "(I)V"⟩, 51) := ⟨⟨by decide +kernel, by decide +kernel⟩, List.mem_of_getElem? (i := 713) (by decide +kernel), List.mem_of_getElem? (i := 922) (by decide +kernel), List.mem_of_getElem? (i := 923) (by decide +kernel)⟩
theorem lw_p43 : lw_okq (⟨"FlowKernelModel", "closePlain", "(I)V"⟩, 51) := ⟨⟨by decide +kernel, by decide +kernel⟩, List.mem_of_getElem? (i := 713) (by decide +kernel), List.mem_of_getElem? (i := 926) (by decide +kernel), List.mem_of_getElem? (i := 927) (by decide +kernel)⟩
theorem lw_p44 : lw_okq (⟨"FlowKernelModel", "takeChunk", "(I)I"⟩, 51) := ⟨⟨by decide +kernel, by decide +kernel⟩, List.mem_of_getElem? (i := 713) (by decide +kernel), List.mem_of_getElem? (i := 930) (by decide +kernel), List.mem_of_getElem? (i := 931) (by decide +kernel)⟩
theorem lw_p45 : lw_okq (⟨"FlowKernelModel", "close", "(I)V"⟩, 51) := ⟨⟨by decide +kernel, by decide +kernel⟩, List.mem_of_getElem? (i := 713) (by decide +kernel), List.mem_of_getElem? (i := 934) (by decide +kernel), List.mem_of_getElem? (i := 935) (by decide +kernel)⟩
theorem lw_p46 : lw_okq (⟨"FlowKernelModel", "job", "(III)V"⟩, 51) := ⟨⟨by decide +kernel, by decide +kernel⟩, List.mem_of_getElem? (i := 713) (by decide +kernel), List.mem_of_getElem? (i := 938) (by decide +kernel), List.mem_of_getElem? (i := 939) (by decide +kernel)⟩
theorem lw_p47 : lw_okq (⟨"FlowKernelModel", "partedJob", "(II)V"⟩, 51) := ⟨⟨by decide +kernel, by decide +kernel⟩, List.mem_of_getElem? (i := 713) (by decide +kernel), List.mem_of_getElem? (i := 942) (by decide +kernel), List.mem_of_getElem? (i := 943) (by decide +kernel)⟩
def lw_privs_3 : List (MethodName × Nat) := [(⟨"FlowKernelModel", "failRoot", "(II)V"⟩, 51), (⟨"FlowKernelModel", "failPlain", "(II)V"⟩, 51), (⟨"FlowKernelModel", "happen", "(IIII)V"⟩, 51), (⟨"FlowKernelModel", "pull", "(I)V"⟩, 51), (⟨"FlowKernelModel", "isBranch", "(I)Z"⟩, 51), (⟨"FlowKernelModel", "pullRoot", "(I)V"⟩, 51), (⟨"FlowKernelModel", "pulls", "(I)Z"⟩, 51), (⟨"FlowKernelModel", "room", "(I)I"⟩, 51), (⟨"FlowKernelModel", "sizeOf", "(IZ)I"⟩, 51), (⟨"FlowKernelModel", "readOn", "(I)V"⟩, 51), (⟨"FlowKernelModel", "endBranches", "(I)V"⟩, 51), (⟨"FlowKernelModel", "closePlain", "(I)V"⟩, 51), (⟨"FlowKernelModel", "takeChunk", "(I)I"⟩, 51), (⟨"FlowKernelModel", "close", "(I)V"⟩, 51), (⟨"FlowKernelModel", "job", "(III)V"⟩, 51), (⟨"FlowKernelModel", "partedJob", "(II)V"⟩, 51)]
theorem lw_r3 : ∀ q ∈ lw_privs_3, lw_okq q := List.forall_mem_cons.mpr ⟨lw_p32, List.forall_mem_cons.mpr ⟨lw_p33, List.forall_mem_cons.mpr ⟨lw_p34, List.forall_mem_cons.mpr ⟨lw_p35, List.forall_mem_cons.mpr ⟨lw_p36, List.forall_mem_cons.mpr ⟨lw_p37, List.forall_mem_cons.mpr ⟨lw_p38, List.forall_mem_cons.mpr ⟨lw_p39, List.forall_mem_cons.mpr ⟨lw_p40, List.forall_mem_cons.mpr ⟨lw_p41, List.forall_mem_cons.mpr ⟨lw_p42, List.forall_mem_cons.mpr ⟨lw_p43, List.forall_mem_cons.mpr ⟨lw_p44, List.forall_mem_cons.mpr ⟨lw_p45, List.forall_mem_cons.mpr ⟨lw_p46, List.forall_mem_cons.mpr ⟨lw_p47, fun _ h => absurd h List.not_mem_nil⟩⟩⟩⟩⟩⟩⟩⟩⟩⟩⟩⟩⟩⟩⟩⟩
theorem lw_p48 : lw_okq (⟨"FlowKernelModel", "takeIn", "(II)V"⟩, 51) := ⟨⟨by decide +kernel, by decide +kernel⟩, List.mem_of_getElem? (i := 713) (by decide +kernel), List.mem_of_getElem? (i := 946) (by decide +kernel), List.mem_of_getElem? (i := 947) (by decide +kernel)⟩
theorem lw_p49 : lw_okq (⟨"FlowKernelModel", "takeRequest", "(I)I"⟩, 51) := ⟨⟨by decide +kernel, by decide +kernel⟩, List.mem_of_getElem? (i := 713) (by decide +kernel), List.mem_of_getElem? (i := 950) (by decide +kernel), List.mem_of_getElem? (i := 951) (by decide +kernel)⟩
theorem lw_p50 : lw_okq (⟨"FlowKernelModel", "answer", "(III)V"⟩, 51) := ⟨⟨by decide +kernel, by decide +kernel⟩, List.mem_of_getElem? (i := 713) (by decide +kernel), List.mem_of_getElem? (i := 954) (by decide +kernel), List.mem_of_getElem? (i := 955) (by decide +kernel)⟩
theorem lw_p51 : lw_okq (⟨"FlowKernelModel", "writeTo", "(II)I"⟩, 51) := ⟨⟨by decide +kernel, by decide +kernel⟩, List.mem_of_getElem? (i := 713) (by decide +kernel), List.mem_of_getElem? (i := 958) (by decide +kernel), List.mem_of_getElem? (i := 959) (by decide +kernel)⟩
theorem lw_p52 : lw_okq (⟨"FlowKernelModel", "goesOn", "(I)V"⟩, 51) := ⟨⟨by decide +kernel, by decide +kernel⟩, List.mem_of_getElem? (i := 713) (by decide +kernel), List.mem_of_getElem? (i := 962) (by decide +kernel), List.mem_of_getElem? (i := 963) (by decide +kernel)⟩
theorem lw_p53 : lw_okq (⟨"FlowKernelModel", "breaks", "(I)V"⟩, 51) := ⟨⟨by decide +kernel, by decide +kernel⟩, List.mem_of_getElem? (i := 713) (by decide +kernel), List.mem_of_getElem? (i := 966) (by decide +kernel), List.mem_of_getElem? (i := 967) (by decide +kernel)⟩
theorem lw_p54 : lw_okq (⟨"FlowKernelModel", "pump", "(I)Z"⟩, 51) := ⟨⟨by decide +kernel, by decide +kernel⟩, List.mem_of_getElem? (i := 713) (by decide +kernel), List.mem_of_getElem? (i := 970) (by decide +kernel), List.mem_of_getElem? (i := 971) (by decide +kernel)⟩
theorem lw_p55 : lw_okq (⟨"FlowKernelModel", "abortTaker", "(II)V"⟩, 51) := ⟨⟨by decide +kernel, by decide +kernel⟩, List.mem_of_getElem? (i := 713) (by decide +kernel), List.mem_of_getElem? (i := 974) (by decide +kernel), List.mem_of_getElem? (i := 975) (by decide +kernel)⟩
theorem lw_p56 : lw_okq (⟨"FlowKernelModel", "startFailing", "(II)V"⟩, 51) := ⟨⟨by decide +kernel, by decide +kernel⟩, List.mem_of_getElem? (i := 713) (by decide +kernel), List.mem_of_getElem? (i := 978) (by decide +kernel), List.mem_of_getElem? (i := 979) (by decide +kernel)⟩
theorem lw_p57 : lw_okq (⟨"FlowKernelModel", "finish", "(III)V"⟩, 51) := ⟨⟨by decide +kernel, by decide +kernel⟩, List.mem_of_getElem? (i := 713) (by decide +kernel), List.mem_of_getElem? (i := 982) (by decide +kernel), List.mem_of_getElem? (i := 983) (by decide +kernel)⟩
theorem lw_p58 : lw_okq (⟨"FlowKernelModel", "cancelGiver", "(II)V"⟩, 51) := ⟨⟨by decide +kernel, by decide +kernel⟩, List.mem_of_getElem? (i := 713) (by decide +kernel), List.mem_of_getElem? (i := 986) (by decide +kernel), List.mem_of_getElem? (i := 987) (by decide +kernel)⟩
theorem lw_p59 : lw_okq (⟨"FlowKernelModel", "cancelRoot", "(II)V"⟩, 51) := ⟨⟨by decide +kernel, by decide +kernel⟩, List.mem_of_getElem? (i := 713) (by decide +kernel), List.mem_of_getElem? (i := 990) (by decide +kernel), List.mem_of_getElem? (i := 991) (by decide +kernel)⟩
theorem lw_p60 : lw_okq (⟨"FlowKernelModel", "shutDown", "(I)V"⟩, 51) := ⟨⟨by decide +kernel, by decide +kernel⟩, List.mem_of_getElem? (i := 713) (by decide +kernel), List.mem_of_getElem? (i := 994) (by decide +kernel), List.mem_of_getElem? (i := 995) (by decide +kernel)⟩
theorem lw_p61 : lw_okq (⟨"FlowKernelModel", "asks", "(I)Z"⟩, 51) := ⟨⟨by decide +kernel, by decide +kernel⟩, List.mem_of_getElem? (i := 713) (by decide +kernel), List.mem_of_getElem? (i := 998) (by decide +kernel), List.mem_of_getElem? (i := 999) (by decide +kernel)⟩
theorem lw_p62 : lw_okq (⟨"FlowKernelModel", "space", "(I)I"⟩, 51) := ⟨⟨by decide +kernel, by decide +kernel⟩, List.mem_of_getElem? (i := 713) (by decide +kernel), List.mem_of_getElem? (i := 1002) (by decide +kernel), List.mem_of_getElem? (i := 1003) (by decide +kernel)⟩
theorem lw_p63 : lw_okq (⟨"FlowKernelModel", "request", "(II)V"⟩, 51) := ⟨⟨by decide +kernel, by decide +kernel⟩, List.mem_of_getElem? (i := 713) (by decide +kernel), List.mem_of_getElem? (i := 1006) (by decide +kernel), List.mem_of_getElem? (i := 1007) (by decide +kernel)⟩
def lw_privs_4 : List (MethodName × Nat) := [(⟨"FlowKernelModel", "takeIn", "(II)V"⟩, 51), (⟨"FlowKernelModel", "takeRequest", "(I)I"⟩, 51), (⟨"FlowKernelModel", "answer", "(III)V"⟩, 51), (⟨"FlowKernelModel", "writeTo", "(II)I"⟩, 51), (⟨"FlowKernelModel", "goesOn", "(I)V"⟩, 51), (⟨"FlowKernelModel", "breaks", "(I)V"⟩, 51), (⟨"FlowKernelModel", "pump", "(I)Z"⟩, 51), (⟨"FlowKernelModel", "abortTaker", "(II)V"⟩, 51), (⟨"FlowKernelModel", "startFailing", "(II)V"⟩, 51), (⟨"FlowKernelModel", "finish", "(III)V"⟩, 51), (⟨"FlowKernelModel", "cancelGiver", "(II)V"⟩, 51), (⟨"FlowKernelModel", "cancelRoot", "(II)V"⟩, 51), (⟨"FlowKernelModel", "shutDown", "(I)V"⟩, 51), (⟨"FlowKernelModel", "asks", "(I)Z"⟩, 51), (⟨"FlowKernelModel", "space", "(I)I"⟩, 51), (⟨"FlowKernelModel", "request", "(II)V"⟩, 51)]
theorem lw_r4 : ∀ q ∈ lw_privs_4, lw_okq q := List.forall_mem_cons.mpr ⟨lw_p48, List.forall_mem_cons.mpr ⟨lw_p49, List.forall_mem_cons.mpr ⟨lw_p50, List.forall_mem_cons.mpr ⟨lw_p51, List.forall_mem_cons.mpr ⟨lw_p52, List.forall_mem_cons.mpr ⟨lw_p53, List.forall_mem_cons.mpr ⟨lw_p54, List.forall_mem_cons.mpr ⟨lw_p55, List.forall_mem_cons.mpr ⟨lw_p56, List.forall_mem_cons.mpr ⟨lw_p57, List.forall_mem_cons.mpr ⟨lw_p58, List.forall_mem_cons.mpr ⟨lw_p59, List.forall_mem_cons.mpr ⟨lw_p60, List.forall_mem_cons.mpr ⟨lw_p61, List.forall_mem_cons.mpr ⟨lw_p62, List.forall_mem_cons.mpr ⟨lw_p63, fun _ h => absurd h List.not_mem_nil⟩⟩⟩⟩⟩⟩⟩⟩⟩⟩⟩⟩⟩⟩⟩⟩
theorem lw_p64 : lw_okq (⟨"FlowKernelModel", "written", "(II)V"⟩, 51) := ⟨⟨by decide +kernel, by decide +kernel⟩, List.mem_of_getElem? (i := 713) (by decide +kernel), List.mem_of_getElem? (i := 1010) (by decide +kernel), List.mem_of_getElem? (i := 1011) (by decide +kernel)⟩
theorem lw_p65 : lw_okq (⟨"FlowKernelModel", "failsOrBreaks", "(II)V"⟩, 51) := ⟨⟨by decide +kernel, by decide +kernel⟩, List.mem_of_getElem? (i := 713) (by decide +kernel), List.mem_of_getElem? (i := 1014) (by decide +kernel), List.mem_of_getElem? (i := 1015) (by decide +kernel)⟩
theorem lw_p66 : lw_okq (⟨"FlowKernelModel", "shutDone", "(II)V"⟩, 51) := ⟨⟨by decide +kernel, by decide +kernel⟩, List.mem_of_getElem? (i := 713) (by decide +kernel), List.mem_of_getElem? (i := 1018) (by decide +kernel), List.mem_of_getElem? (i := 1019) (by decide +kernel)⟩
theorem lw_p67 : lw_okq (⟨"FlowKernelModel", "abortDone", "(II)V"⟩, 51) := ⟨⟨by decide +kernel, by decide +kernel⟩, List.mem_of_getElem? (i := 713) (by decide +kernel), List.mem_of_getElem? (i := 1022) (by decide +kernel), List.mem_of_getElem? (i := 1023) (by decide +kernel)⟩
theorem lw_p68 : lw_okq (⟨"FlowKernelModel", "wake", "()V"⟩, 51) := ⟨⟨by decide +kernel, by decide +kernel⟩, List.mem_of_getElem? (i := 713) (by decide +kernel), List.mem_of_getElem? (i := 1026) (by decide +kernel), List.mem_of_getElem? (i := 1027) (by decide +kernel)⟩
theorem lw_p69 : lw_okq (⟨"FlowKernelModel", "addGiver", "(IZI)I"⟩, 51) := ⟨⟨by decide +kernel, by decide +kernel⟩, List.mem_of_getElem? (i := 713) (by decide +kernel), List.mem_of_getElem? (i := 1043) (by decide +kernel), List.mem_of_getElem? (i := 1044) (by decide +kernel)⟩
theorem lw_p70 : lw_okq (⟨"FlowKernelModel", "noRoot", "(I)Z"⟩, 51) := ⟨⟨by decide +kernel, by decide +kernel⟩, List.mem_of_getElem? (i := 713) (by decide +kernel), List.mem_of_getElem? (i := 1055) (by decide +kernel), List.mem_of_getElem? (i := 1056) (by decide +kernel)⟩
theorem lw_p71 : lw_okq (⟨"FlowKernelModel", "noGiver", "(I)Z"⟩, 51) := ⟨⟨by decide +kernel, by decide +kernel⟩, List.mem_of_getElem? (i := 713) (by decide +kernel), List.mem_of_getElem? (i := 1059) (by decide +kernel), List.mem_of_getElem? (i := 1060) (by decide +kernel)⟩
theorem lw_p72 : lw_okq (⟨"FlowKernelModel", "ends", "(I)V"⟩, 51) := ⟨⟨by decide +kernel, by decide +kernel⟩, List.mem_of_getElem? (i := 713) (by decide +kernel), List.mem_of_getElem? (i := 1067) (by decide +kernel), List.mem_of_getElem? (i := 1068) (by decide +kernel)⟩
theorem lw_p73 : lw_okq (⟨"FlowKernelModel", "badError", "(II)Z"⟩, 51) := ⟨⟨by decide +kernel, by decide +kernel⟩, List.mem_of_getElem? (i := 713) (by decide +kernel), List.mem_of_getElem? (i := 1075) (by decide +kernel), List.mem_of_getElem? (i := 1076) (by decide +kernel)⟩
theorem lw_p74 : lw_okq (⟨"FlowKernelModel", "noTaker", "(I)Z"⟩, 51) := ⟨⟨by decide +kernel, by decide +kernel⟩, List.mem_of_getElem? (i := 713) (by decide +kernel), List.mem_of_getElem? (i := 1095) (by decide +kernel), List.mem_of_getElem? (i := 1096) (by decide +kernel)⟩
def lw_privs_5 : List (MethodName × Nat) := [(⟨"FlowKernelModel", "written", "(II)V"⟩, 51), (⟨"FlowKernelModel", "failsOrBreaks", "(II)V"⟩, 51), (⟨"FlowKernelModel", "shutDone", "(II)V"⟩, 51), (⟨"FlowKernelModel", "abortDone", "(II)V"⟩, 51), (⟨"FlowKernelModel", "wake", "()V"⟩, 51), (⟨"FlowKernelModel", "addGiver", "(IZI)I"⟩, 51), (⟨"FlowKernelModel", "noRoot", "(I)Z"⟩, 51), (⟨"FlowKernelModel", "noGiver", "(I)Z"⟩, 51), (⟨"FlowKernelModel", "ends", "(I)V"⟩, 51), (⟨"FlowKernelModel", "badError", "(II)Z"⟩, 51), (⟨"FlowKernelModel", "noTaker", "(I)Z"⟩, 51)]
theorem lw_r5 : ∀ q ∈ lw_privs_5, lw_okq q := List.forall_mem_cons.mpr ⟨lw_p64, List.forall_mem_cons.mpr ⟨lw_p65, List.forall_mem_cons.mpr ⟨lw_p66, List.forall_mem_cons.mpr ⟨lw_p67, List.forall_mem_cons.mpr ⟨lw_p68, List.forall_mem_cons.mpr ⟨lw_p69, List.forall_mem_cons.mpr ⟨lw_p70, List.forall_mem_cons.mpr ⟨lw_p71, List.forall_mem_cons.mpr ⟨lw_p72, List.forall_mem_cons.mpr ⟨lw_p73, List.forall_mem_cons.mpr ⟨lw_p74, fun _ h => absurd h List.not_mem_nil⟩⟩⟩⟩⟩⟩⟩⟩⟩⟩⟩
def lw_privs : List (MethodName × Nat) := lw_privs_1 ++ (lw_privs_2 ++ (lw_privs_3 ++ (lw_privs_4 ++ (lw_privs_5))))
def lw_tbl : List Cond := k2_sels lw_privs ++ tables_1
theorem lw_privs_ok : ∀ q ∈ lw_privs, lw_okq q := by
  show ∀ q ∈ lw_privs_1 ++ (lw_privs_2 ++ (lw_privs_3 ++ (lw_privs_4 ++ (lw_privs_5)))), lw_okq q
  exact List.forall_mem_append.mpr ⟨lw_r1, List.forall_mem_append.mpr ⟨lw_r2, List.forall_mem_append.mpr ⟨lw_r3, List.forall_mem_append.mpr ⟨lw_r4, lw_r5⟩⟩⟩⟩

/-! names: a kind and a number; classes by their places in xo_cls -/
abbrev xo_N : Type := Nat × Nat
def xo_kd (n : xo_N) : Nat ⊕ (Nat × Nat) := match n.1 with
  | 0 => .inl 0
  | 1 => .inl 1
  | 2 => .inr (0, 64)
  | 3 => .inr (0, 64)
  | 4 => .inr (0, 64)
  | 5 => .inl 2
  | 6 => .inl 3
  | 7 => .inr (0, 16)
  | 8 => .inl 3
  | 9 => .inr (0, 16)
  | 10 => .inl 3
  | 11 => .inr (0, 16)
  | 12 => .inr (2, 6)
  | 13 => .inr (3, 2)
  | 14 => .inr (4, 2)
  | 20 => .inl 5
  | 21 => .inl 4
  | 22 => .inl 3
  | 23 => .inr (0, 16)
  | 24 => .inl 3
  | 25 => .inr (0, 8)
  | 30 => .inl 7
  | 31 => .inl 4
  | 32 => .inl 3
  | 33 => .inr (0, 16)
  | 34 => .inl 3
  | 35 => .inr (0, 16)
  | 40 => .inl 8
  | 41 => .inl 6
  | 42 => .inr (2, 2)
  | 50 => .inl 9
  | 51 => .inr (0, 6)
  | 52 => .inr (0, 6)
  | 53 => .inr (0, 6)
  | 54 => .inr (1, 6)
  | 55 => .inr (1, 6)
  | 56 => .inr (1, 6)
  | 57 => .inr (1, 6)
  | 58 => .inr (0, 6)
  | 59 => .inr (0, 96)
  | 60 => .inr (0, 6)
  | 61 => .inr (0, 48)
  | 62 => .inr (0, 6)
  | 63 => .inr (0, 6)
  | 64 => .inr (1, 6)
  | 65 => .inr (0, 6)
  | 66 => .inr (0, 6)
  | 67 => .inr (1, 6)
  | 68 => .inr (1, 6)
  | 69 => .inr (1, 6)
  | 70 => .inr (0, 2)
  | 71 => .inr (0, 2)
  | 72 => .inr (0, 2)
  | 73 => .inr (1, 2)
  | 74 => .inr (0, 32)
  | 75 => .inr (0, 32)
  | 76 => .inr (0, 2)
  | 77 => .inr (0, 2)
  | 78 => .inr (1, 2)
  | 79 => .inr (0, 2)
  | 80 => .inr (1, 2)
  | 81 => .inr (0, 2)
  | 82 => .inr (1, 2)
  | 83 => .inr (1, 2)
  | 84 => .inr (1, 2)
  | 85 => .inr (0, 2)
  | 86 => .inr (0, 2)
  | 87 => .inr (0, 2)
  | 88 => .inr (1, 2)
  | 89 => .inr (1, 2)
  | 90 => .inr (0, 64)
  | 91 => .inr (0, 64)
  | 92 => .inr (0, 64)
  | 93 => .inr (0, 64)
  | 94 => .inr (0, 64)
  | 95 => .inr (0, 64)
  | _ => .inl 99
def TF_K : u_T := fun k => match k with
  | 0 => ("FlowKernel", "log", "LFlowKernel$EventLog;", true)
  | 1 => ("FlowKernel", "waiting", "LFlowKernel$JobRow;", true)
  | 2 => ("FlowKernel", "givers", "[LFlowKernel$Giver;", true)
  | 3 => ("FlowKernel", "takers", "[LFlowKernel$Taker;", true)
  | 4 => ("FlowKernel", "pipes", "[LFlowKernel$Pipe;", true)
  | 5 => ("FlowKernel", "giverCount", "I", false)
  | 6 => ("FlowKernel", "takerCount", "I", false)
  | _ => ("FlowKernel", "pipeCount", "I", false)
def ty_K : Nat → FieldType := fun k => match k with
  | 0 => (.object "FlowKernel$EventLog")
  | 1 => (.object "FlowKernel$JobRow")
  | 2 => (.array (.object "FlowKernel$Giver"))
  | 3 => (.array (.object "FlowKernel$Taker"))
  | 4 => (.array (.object "FlowKernel$Pipe"))
  | 5 => .int
  | 6 => .int
  | _ => .int
def TF_L : u_T := fun k => match k with
  | 0 => ("FlowKernel$EventLog", "heads", "[I", true)
  | 1 => ("FlowKernel$EventLog", "firsts", "[I", true)
  | 2 => ("FlowKernel$EventLog", "seconds", "[I", true)
  | _ => ("FlowKernel$EventLog", "count", "I", false)
def ty_L : Nat → FieldType := fun k => match k with
  | 0 => (.array .int)
  | 1 => (.array .int)
  | 2 => (.array .int)
  | _ => .int
def TF_J : u_T := fun k => match k with
  | 0 => ("FlowKernel$JobRow", "kinds", "LFlowKernel$Row;", true)
  | 1 => ("FlowKernel$JobRow", "numbers", "LFlowKernel$Row;", true)
  | _ => ("FlowKernel$JobRow", "values", "LFlowKernel$Row;", true)
def ty_J : Nat → FieldType := fun k => match k with
  | 0 => (.object "FlowKernel$Row")
  | 1 => (.object "FlowKernel$Row")
  | _ => (.object "FlowKernel$Row")
def TF_R : u_T := fun k => match k with
  | 0 => ("FlowKernel$Row", "items", "[I", true)
  | 1 => ("FlowKernel$Row", "head", "I", false)
  | _ => ("FlowKernel$Row", "count", "I", false)
def ty_R : Nat → FieldType := fun k => match k with
  | 0 => (.array .int)
  | 1 => .int
  | _ => .int
def TF_C : u_T := fun k => match k with
  | 0 => ("FlowKernel$ChunkRow", "chunks", "LFlowKernel$Row;", true)
  | 1 => ("FlowKernel$ChunkRow", "mark", "I", true)
  | 2 => ("FlowKernel$ChunkRow", "byValue", "Z", true)
  | _ => ("FlowKernel$ChunkRow", "room", "I", false)
def ty_C : Nat → FieldType := fun k => match k with
  | 0 => (.object "FlowKernel$Row")
  | 1 => .int
  | 2 => .boolean
  | _ => .int
def TF_G : u_T := fun k => match k with
  | 0 => ("FlowKernel$Giver", "number", "I", true)
  | 1 => ("FlowKernel$Giver", "queue", "LFlowKernel$ChunkRow;", true)
  | 2 => ("FlowKernel$Giver", "log", "LFlowKernel$EventLog;", true)
  | 3 => ("FlowKernel$Giver", "requests", "LFlowKernel$Row;", true)
  | 4 => ("FlowKernel$Giver", "state", "I", false)
  | 5 => ("FlowKernel$Giver", "error", "I", false)
  | 6 => ("FlowKernel$Giver", "reads", "I", false)
  | 7 => ("FlowKernel$Giver", "ending", "Z", false)
  | 8 => ("FlowKernel$Giver", "pulling", "Z", false)
  | 9 => ("FlowKernel$Giver", "again", "Z", false)
  | 10 => ("FlowKernel$Giver", "givenUp", "Z", false)
  | 11 => ("FlowKernel$Giver", "origin", "LFlowKernel$Parting;", false)
  | 12 => ("FlowKernel$Giver", "parting", "LFlowKernel$Parting;", false)
  | _ => ("FlowKernel$Giver", "pipe", "LFlowKernel$Pipe;", false)
def ty_G : Nat → FieldType := fun k => match k with
  | 0 => .int
  | 1 => (.object "FlowKernel$ChunkRow")
  | 2 => (.object "FlowKernel$EventLog")
  | 3 => (.object "FlowKernel$Row")
  | 4 => .int
  | 5 => .int
  | 6 => .int
  | 7 => .boolean
  | 8 => .boolean
  | 9 => .boolean
  | 10 => .boolean
  | 11 => (.object "FlowKernel$Parting")
  | 12 => (.object "FlowKernel$Parting")
  | _ => (.object "FlowKernel$Pipe")
def TF_A : u_T := fun k => match k with
  | 0 => ("FlowKernel$Parting", "root", "LFlowKernel$Giver;", true)
  | 1 => ("FlowKernel$Parting", "branches", "[LFlowKernel$Giver;", true)
  | 2 => ("FlowKernel$Parting", "reading", "Z", false)
  | _ => ("FlowKernel$Parting", "again", "Z", false)
def ty_A : Nat → FieldType := fun k => match k with
  | 0 => (.object "FlowKernel$Giver")
  | 1 => (.array (.object "FlowKernel$Giver"))
  | 2 => .boolean
  | _ => .boolean
def TF_T : u_T := fun k => match k with
  | 0 => ("FlowKernel$Taker", "number", "I", true)
  | 1 => ("FlowKernel$Taker", "queue", "LFlowKernel$ChunkRow;", true)
  | 2 => ("FlowKernel$Taker", "log", "LFlowKernel$EventLog;", true)
  | 3 => ("FlowKernel$Taker", "writesWaiting", "LFlowKernel$Row;", true)
  | 4 => ("FlowKernel$Taker", "state", "I", false)
  | 5 => ("FlowKernel$Taker", "error", "I", false)
  | 6 => ("FlowKernel$Taker", "writes", "I", false)
  | 7 => ("FlowKernel$Taker", "doing", "I", false)
  | 8 => ("FlowKernel$Taker", "abortError", "I", false)
  | 9 => ("FlowKernel$Taker", "abortPending", "Z", false)
  | 10 => ("FlowKernel$Taker", "abortLate", "Z", false)
  | 11 => ("FlowKernel$Taker", "endWaits", "Z", false)
  | _ => ("FlowKernel$Taker", "held", "Z", false)
def ty_T : Nat → FieldType := fun k => match k with
  | 0 => .int
  | 1 => (.object "FlowKernel$ChunkRow")
  | 2 => (.object "FlowKernel$EventLog")
  | 3 => (.object "FlowKernel$Row")
  | 4 => .int
  | 5 => .int
  | 6 => .int
  | 7 => .int
  | 8 => .int
  | 9 => .boolean
  | 10 => .boolean
  | 11 => .boolean
  | _ => .boolean
def TF_P : u_T := fun k => match k with
  | 0 => ("FlowKernel$Pipe", "number", "I", true)
  | 1 => ("FlowKernel$Pipe", "giver", "LFlowKernel$Giver;", true)
  | 2 => ("FlowKernel$Pipe", "taker", "LFlowKernel$Taker;", true)
  | 3 => ("FlowKernel$Pipe", "keeps", "Z", true)
  | 4 => ("FlowKernel$Pipe", "spares", "Z", true)
  | 5 => ("FlowKernel$Pipe", "leaves", "Z", true)
  | _ => ("FlowKernel$Pipe", "over", "Z", false)
def ty_P : Nat → FieldType := fun k => match k with
  | 0 => .int
  | 1 => (.object "FlowKernel$Giver")
  | 2 => (.object "FlowKernel$Taker")
  | 3 => .boolean
  | 4 => .boolean
  | 5 => .boolean
  | _ => .boolean
def TF_M : u_T := fun k => match k with
  | 0 => ("FlowKernelModel", "givers", "I", false)
  | 1 => ("FlowKernelModel", "state", "[I", false)
  | 2 => ("FlowKernelModel", "failure", "[I", false)
  | 3 => ("FlowKernelModel", "mark", "[I", false)
  | 4 => ("FlowKernelModel", "byValue", "[Z", false)
  | 5 => ("FlowKernelModel", "ending", "[Z", false)
  | 6 => ("FlowKernelModel", "pulling", "[Z", false)
  | 7 => ("FlowKernelModel", "again", "[Z", false)
  | 8 => ("FlowKernelModel", "held", "[I", false)
  | 9 => ("FlowKernelModel", "chunks", "[I", false)
  | 10 => ("FlowKernelModel", "queued", "[I", false)
  | 11 => ("FlowKernelModel", "requests", "[I", false)
  | 12 => ("FlowKernelModel", "waiting", "[I", false)
  | 13 => ("FlowKernelModel", "reads", "[I", false)
  | 14 => ("FlowKernelModel", "pullJob", "[Z", false)
  | 15 => ("FlowKernelModel", "branch", "[I", false)
  | 16 => ("FlowKernelModel", "root", "[I", false)
  | 17 => ("FlowKernelModel", "reading", "[Z", false)
  | 18 => ("FlowKernelModel", "rereading", "[Z", false)
  | 19 => ("FlowKernelModel", "givenUp", "[Z", false)
  | 20 => ("FlowKernelModel", "takers", "I", false)
  | 21 => ("FlowKernelModel", "stage", "[I", false)
  | 22 => ("FlowKernelModel", "fault", "[I", false)
  | 23 => ("FlowKernelModel", "limit", "[I", false)
  | 24 => ("FlowKernelModel", "heavy", "[Z", false)
  | 25 => ("FlowKernelModel", "load", "[I", false)
  | 26 => ("FlowKernelModel", "number", "[I", false)
  | 27 => ("FlowKernelModel", "many", "[I", false)
  | 28 => ("FlowKernelModel", "writes", "[I", false)
  | 29 => ("FlowKernelModel", "endWaits", "[Z", false)
  | 30 => ("FlowKernelModel", "doing", "[I", false)
  | 31 => ("FlowKernelModel", "pending", "[Z", false)
  | 32 => ("FlowKernelModel", "abortError", "[I", false)
  | 33 => ("FlowKernelModel", "late", "[Z", false)
  | 34 => ("FlowKernelModel", "taken", "[Z", false)
  | 35 => ("FlowKernelModel", "settling", "[Z", false)
  | 36 => ("FlowKernelModel", "pipes", "I", false)
  | 37 => ("FlowKernelModel", "source", "[I", false)
  | 38 => ("FlowKernelModel", "target", "[I", false)
  | 39 => ("FlowKernelModel", "flags", "[I", false)
  | 40 => ("FlowKernelModel", "over", "[Z", false)
  | 41 => ("FlowKernelModel", "pumpJob", "[Z", false)
  | 42 => ("FlowKernelModel", "firstJob", "I", false)
  | 43 => ("FlowKernelModel", "jobCount", "I", false)
  | 44 => ("FlowKernelModel", "jobKind", "[I", false)
  | 45 => ("FlowKernelModel", "jobWhom", "[I", false)
  | 46 => ("FlowKernelModel", "jobWhat", "[I", false)
  | 47 => ("FlowKernelModel", "happened", "I", false)
  | 48 => ("FlowKernelModel", "kinds", "[I", false)
  | 49 => ("FlowKernelModel", "firsts", "[I", false)
  | _ => ("FlowKernelModel", "seconds", "[I", false)
def ty_M : Nat → FieldType := fun k => match k with
  | 0 => .int
  | 1 => (.array .int)
  | 2 => (.array .int)
  | 3 => (.array .int)
  | 4 => (.array .boolean)
  | 5 => (.array .boolean)
  | 6 => (.array .boolean)
  | 7 => (.array .boolean)
  | 8 => (.array .int)
  | 9 => (.array .int)
  | 10 => (.array .int)
  | 11 => (.array .int)
  | 12 => (.array .int)
  | 13 => (.array .int)
  | 14 => (.array .boolean)
  | 15 => (.array .int)
  | 16 => (.array .int)
  | 17 => (.array .boolean)
  | 18 => (.array .boolean)
  | 19 => (.array .boolean)
  | 20 => .int
  | 21 => (.array .int)
  | 22 => (.array .int)
  | 23 => (.array .int)
  | 24 => (.array .boolean)
  | 25 => (.array .int)
  | 26 => (.array .int)
  | 27 => (.array .int)
  | 28 => (.array .int)
  | 29 => (.array .boolean)
  | 30 => (.array .int)
  | 31 => (.array .boolean)
  | 32 => (.array .int)
  | 33 => (.array .boolean)
  | 34 => (.array .boolean)
  | 35 => (.array .boolean)
  | 36 => .int
  | 37 => (.array .int)
  | 38 => (.array .int)
  | 39 => (.array .int)
  | 40 => (.array .boolean)
  | 41 => (.array .boolean)
  | 42 => .int
  | 43 => .int
  | 44 => (.array .int)
  | 45 => (.array .int)
  | 46 => (.array .int)
  | 47 => .int
  | 48 => (.array .int)
  | 49 => (.array .int)
  | _ => (.array .int)
abbrev xo_cls : List vw_C := [("FlowKernel", TF_K, 8), ("FlowKernel$EventLog", TF_L, 4), ("FlowKernel$JobRow", TF_J, 3), ("FlowKernel$Row", TF_R, 3), ("FlowKernel$ChunkRow", TF_C, 4), ("FlowKernel$Giver", TF_G, 14), ("FlowKernel$Parting", TF_A, 4), ("FlowKernel$Taker", TF_T, 13), ("FlowKernel$Pipe", TF_P, 7), ("FlowKernelModel", TF_M, 51)]
def xo_tn (t : Nat) : String := match t with
  | 2 => "FlowKernel$Giver"
  | 3 => "FlowKernel$Taker"
  | _ => "FlowKernel$Pipe"
def xo_ta (t : Nat) : FieldType := match t with
  | 0 => .int
  | 1 => .boolean
  | t => .object (xo_tn t)
theorem xo_ta_obj (t : Nat) (h : 2 ≤ t) (h5 : t < 5) : xo_ta t = .object (xo_tn t) := by
  rcases (by omega : t = 2 ∨ t = 3 ∨ t = 4) with rfl | rfl | rfl <;> rfl
end
section
/-! The X layer: values and cells by NAMES (a kind and a number), a method as a function of the named heap (an Option: none where a guard falls), and rows that tie the machine's steps to such functions. -/
abbrev xo_V : Type := Int32 ⊕ Option xo_N
abbrev xo_H : Type := (xo_N → Nat → Int32) × (xo_N → Nat → Option xo_N) × (xo_N → Bool)
abbrev xo_T : Type := MethodName × ByteArray × Nat × Option FieldType × Room
abbrev xo_G : Type := va_G × (Nat → ClassId)
def xo_sE (H : xo_H) (n : xo_N) (f : Nat) (v : Int32) : xo_H := (fun m g => if m = n ∧ g = f then v else H.1 m g, H.2)
def xo_sP (H : xo_H) (n : xo_N) (f : Nat) (v : Option xo_N) : xo_H := (H.1, fun m g => if m = n ∧ g = f then v else H.2.1 m g, H.2.2)
def xo_sN (H : xo_H) (n : xo_N) : xo_H := (fun m g => if m = n then 0 else H.1 m g, fun m g => if m = n then none else H.2.1 m g, fun m => if m = n then true else H.2.2 m)
/-! what an instruction does, as a function -/
def xo_gf {α : Type} (ci k : Nat) (H : xo_H) (o : Option xo_N) (K : Int32 → Option α) : Option α := o.bind fun n => if xo_kd n = .inl ci then K (H.1 n k) else none
def xo_gp {α : Type} (ci k : Nat) (H : xo_H) (o : Option xo_N) (K : Option xo_N → Option α) : Option α := o.bind fun n => if xo_kd n = .inl ci then K (H.2.1 n k) else none
def xo_pf {α : Type} (ci k : Nat) (H : xo_H) (o : Option xo_N) (v : Int32) (K : xo_H → Option α) : Option α := o.bind fun n => if xo_kd n = .inl ci then K (xo_sE H n k v) else none
def xo_pz {α : Type} (ci k : Nat) (H : xo_H) (o : Option xo_N) (v : Int32) (K : xo_H → Option α) : Option α := o.bind fun n => if xo_kd n = .inl ci ∧ (v = 0 ∨ v = 1) then K (xo_sE H n k v) else none
def xo_pp {α : Type} (ci k : Nat) (H : xo_H) (o : Option xo_N) (v : Option xo_N) (K : xo_H → Option α) : Option α := o.bind fun n => if xo_kd n = .inl ci then K (xo_sP H n k v) else none
def xo_ln {α : Type} (o : Option xo_N) (K : Int32 → Option α) : Option α := o.bind fun n => match xo_kd n with
  | .inl _ => none
  | .inr a => if a.1 < 5 then K (Int32.ofNat a.2) else none
/-- is n an array of kind t with a place i -/
def xo_in (t : Nat) (n : xo_N) (i : Int32) : Bool := match xo_kd n with
  | .inl _ => false
  | .inr a => decide (a.1 = t) && decide (¬ (i < 0 ∨ a.2 ≤ i.toNatClampNeg))
def xo_al {α : Type} (t : Nat) (H : xo_H) (o : Option xo_N) (i : Int32) (K : Int32 → Option α) : Option α := o.bind fun n => if xo_in t n i = true then K (H.1 n i.toNatClampNeg) else none
def xo_ap {α : Type} (t : Nat) (H : xo_H) (o : Option xo_N) (i : Int32) (K : Option xo_N → Option α) : Option α := o.bind fun n => if xo_in t n i = true then K (H.2.1 n i.toNatClampNeg) else none
def xo_as {α : Type} (H : xo_H) (o : Option xo_N) (i v : Int32) (K : xo_H → Option α) : Option α := o.bind fun n => if xo_in 0 n i = true then K (xo_sE H n i.toNatClampNeg v) else none
def xo_az {α : Type} (H : xo_H) (o : Option xo_N) (i v : Int32) (K : xo_H → Option α) : Option α := o.bind fun n => if xo_in 1 n i = true ∧ (v = 0 ∨ v = 1) then K (xo_sE H n i.toNatClampNeg v) else none
/-- a reference into an array of references of kind t, to an object of class ci -/
def xo_aq {α : Type} (t ci : Nat) (H : xo_H) (o : Option xo_N) (i : Int32) (v : Option xo_N) (K : xo_H → Option α) : Option α := o.bind fun n => v.bind fun q => if xo_in t n i = true ∧ xo_kd q = .inl ci then K (xo_sP H n i.toNatClampNeg (some q)) else none
def xo_nw {α : Type} (ci : Nat) (H : xo_H) (n : xo_N) (K : xo_H → Option α) : Option α := if H.2.2 n = false ∧ xo_kd n = .inl ci then K (xo_sN H n) else none
def xo_na {α : Type} (t : Nat) (H : xo_H) (n : xo_N) (N : Nat) (v : Int32) (K : xo_H → Option α) : Option α := match xo_kd n with
  | .inl _ => none
  | .inr a => if H.2.2 n = false ∧ a.1 = t ∧ v = Int32.ofNat a.2 ∧ a.2 ≤ N then K (xo_sN H n) else none
def xo_rm {α : Type} (x y : Int32) (K : Int32 → Option α) : Option α := if y = 0 then none else K (x - x / y * y)
def xo_gb {α : Type} (v : Int32) (k : Option α) : Option α := if v = 0 ∨ v = 1 then k else none
def xo_cl {α β : Type} (ci : Nat) (o : Option xo_N) (f : xo_N → Option β) (K : β → Option α) : Option α := o.bind fun n => if xo_kd n = .inl ci then (f n).bind K else none
/-- how a method's answer is read: nothing, an int, a reference -/
def xo_jv (H : xo_H) : Option xo_V × xo_H := (none, H)
def xo_ji (r : Int32 × xo_H) : Option xo_V × xo_H := (some (.inl r.1), r.2)
def xo_jp (r : Option xo_N × xo_H) : Option xo_V × xo_H := (some (.inr r.1), r.2)
/-! the tie to the machine -/
def xo_tr (ad : xo_N → Nat) (v : xo_V) : Value := match v with
  | .inl x => .int x
  | .inr o => va_rf (o.map ad)
def xo_fv (ad : xo_N → Nat) (d : String) (e : Int32) (p : Option xo_N) : Value := if d = "I" ∨ d = "Z" then .int e else va_rf (p.map ad)
def xo_at (G : xo_G) (ad : xo_N → Nat) (Hm : Heap) (H : xo_H) (n : xo_N) : Prop := match xo_kd n with
  | .inl ci => ∃ r : vw_C, xo_cls[ci]? = some r ∧ t_OB (ad n) (G.1.1 ci) r.2.2 (G.1.2 ci) Hm (fun k => xo_fv ad (r.2.1 k).2.2.1 (H.1 n k) (H.2.1 n k))
  | .inr a => Hm[ad n]? = some (arrV (G.2 a.1) a.2 (fun j => if a.1 < 2 then .int (H.1 n j) else va_rf ((H.2.1 n j).map ad)))
def xo_R (G : xo_G) (A : Nat → Prop) (ad : xo_N → Nat) (H : xo_H) (Hm : Heap) : Prop :=
  (∀ n, H.2.2 n = true → xo_at G ad Hm H n ∧ A (ad n)) ∧ (∀ n n', H.2.2 n = true → H.2.2 n' = true → ad n = ad n' → n = n') ∧ ∀ n k q, H.2.2 n = true → H.2.1 n k = some q → H.2.2 q = true
def xo_isN (w : Cond) : Bool := match w with
  | .fieldLinkNest _ _ _ _ _ _ => true
  | .methodLinkNest _ _ _ _ => true
  | _ => false
def xo_ok (w : Cond) : Bool := (w.onTables && w.keeps) || (match w with
  | .arrayClass _ => true
  | _ => false)
def xo_NW : List Cond := lw_tbl.filter xo_isN
def xo_WS : List Cond := lw_tbl.filter xo_ok
def xo_K (G : xo_G) (U : State) : Prop := (∀ (c : Nat) (q : vw_C), xo_cls[c]? = some q → u_Kn U q.1 q.2.1 q.2.2 (G.1.1 c) (G.1.2 c)) ∧ (∀ t, t < 5 → ArrOfT U (G.2 t) (xo_ta t) ∧ va_RA U (G.2 t) (xo_ta t)) ∧ (∀ w ∈ xo_NW, va_Nw w U) ∧ ∀ t, 2 ≤ t → t < 5 → va_AO (xo_tn t) U
def xo_lv (H : xo_H) (v : xo_V) : Prop := ∀ q, v = .inr (some q) → H.2.2 q = true
def xo_ws (mt : xo_T) : List Cond := Cond.code mt.1 mt.2.1 mt.2.2.1 mt.2.2.2.1 :: xo_WS
def xo_C (mt : xo_T) (p : Program) (R : Room) (s : State) (m : MethodId) (args : Array Value) (meth : Method) (c : Code) (G : xo_G) (A : Nat → Prop) : Prop :=
  p.tables.exec = Jvm.exec ∧ c.code = mt.2.1 ∧ c.maxLocals = mt.2.2.1 ∧ s.vm.findClass mt.1.cls = some m.cls ∧ (∀ w ∈ xo_ws mt, w.before args s = true) ∧ xo_K G s ∧ meth.locks = false ∧ meth.sig.returnType = mt.2.2.2.1 ∧ meth.name = mt.1.name ∧ R = mt.2.2.2.2 ∧ ∀ q, s.heap.size ≤ q → A q
def xo_Q (G : xo_G) (A : Nat → Prop) (ad0 : xo_N → Nat) (lv0 : xo_N → Bool) (a : Option xo_V × xo_H) : Array Value → State → Outcome → State → Prop := fun _ st oc t =>
  ∃ ad' : xo_N → Nat, oc = .returned (a.1.map (xo_tr ad')) ∧ xo_R G A ad' a.2 t.heap ∧ (∀ n, lv0 n = true → ad' n = ad0 n ∧ a.2.2.2 n = true) ∧ (∀ v, a.1 = some v → xo_lv a.2 v) ∧ va_F A st t
def xo_P (G : xo_G) (A : Nat → Prop) (ad : xo_N → Nat) (as : List xo_V) (H : xo_H) : Array Value → State → Prop := fun v U =>
  v = (as.map (xo_tr ad)).toArray ∧ xo_R G A ad H U.heap ∧ xo_K G U ∧ (∀ q, U.heap.size ≤ q → A q) ∧ ∀ v ∈ as, xo_lv H v
def xo_M (mt : xo_T) (as : List xo_V) (H : xo_H) (a : Option xo_V × xo_H) : Prop := ∀ (l : Launch) (G : xo_G) (A : Nat → Prop) (ad : xo_N → Nat),
  Met l mt.1 (xo_ws mt) mt.2.2.2.2 (xo_P G A ad as H) (xo_Q G A ad H.2.2 a) mt.2.2.2.2.cells mt.2.2.2.2.slots A
def xo_X {α : Type} (mt : xo_T) (rc rs : Nat) (j : α → Option xo_V × xo_H) (r : α) (pc : Nat) (ls : List (Nat × xo_V)) (st : List xo_V) (H : xo_H) (k : Option α) : Prop :=
  k = some r → ∀ (p : Program) (l : Launch) (e : Env) (R : Room) (s : State) (m : MethodId) (args : Array Value) (below : List Frame) (meth : Method) (c : Code) (G : xo_G) (A : Nat → Prop) (ad0 : xo_N → Nat) (lv0 : xo_N → Bool) (ad : xo_N → Nat) (Hm : Heap) (locs : List Loc) (cells slots : Nat) (lsA : Array Slot),
    xo_C mt p R s m args meth c G A → xo_R G A ad H Hm → va_S A s.heap Hm locs → (∀ n, lv0 n = true → ad n = ad0 n ∧ H.2.2 n = true) → cells + rc ≤ R.cells → slots + rs ≤ R.slots → lv_has lsA mt.2.2.1 (ls.map fun q => (q.1, xo_tr ad q.2)) → (∀ q ∈ ls, xo_lv H q.2) → (∀ v ∈ st, xo_lv H v) →
    W p l e R s m args below meth c Hm locs cells slots (MQ below (xo_Q G A ad0 lv0 (j r)) args s R.cells R.slots A) (F0 m pc lsA (st.map (xo_tr ad)))
/-! small rows -/
theorem xo_cat (ad : xo_N → Nat) (v : xo_V) : (xo_tr ad v).category = 1 := by
  rcases v with x | o
  · rfl
  · cases o <;> rfl
theorem xo_lvI (H : xo_H) (x : Int32) : xo_lv H (.inl x) := fun q h => by cases h
theorem xo_lvN (H : xo_H) : xo_lv H (.inr none) := fun q h => by cases h
theorem xo_lvC {H : xo_H} {v : xo_V} {st : List xo_V} (h : xo_lv H v) (hs : ∀ v ∈ st, xo_lv H v) : ∀ w ∈ v :: st, xo_lv H w := fun w hw => by
  rcases List.mem_cons.mp hw with rfl | hw
  · exact h
  · exact hs w hw
theorem xo_lvT {H : xo_H} {v : xo_V} {st : List xo_V} (hs : ∀ w ∈ v :: st, xo_lv H w) : ∀ w ∈ st, xo_lv H w := fun w hw => hs w (List.mem_cons_of_mem _ hw)
theorem xo_lvH {H : xo_H} {v : xo_V} {st : List xo_V} (hs : ∀ w ∈ v :: st, xo_lv H w) : xo_lv H v := hs v List.mem_cons_self
theorem xo_lsAt {lsA : Array Slot} {nL : Nat} {ls : List (Nat × xo_V)} {ad : xo_N → Nat} (h : lv_has lsA nL (ls.map fun q => (q.1, xo_tr ad q.2))) (t : Nat) {i : Nat} {v : xo_V} (hk : ls[t]? = some (i, v)) : lsA[i]? = some (.val (xo_tr ad v)) :=
  lv_at h t (by rw [List.getElem?_map, hk]; rfl)
theorem xo_lsLv {H : xo_H} {ls : List (Nat × xo_V)} (h : ∀ q ∈ ls, xo_lv H q.2) {t i : Nat} {v : xo_V} (hk : ls[t]? = some (i, v)) : xo_lv H v := h (i, v) (List.mem_of_getElem? hk)
theorem xo_filt (ad : xo_N → Nat) (i : Nat) (ls : List (Nat × xo_V)) : (ls.map fun q => (q.1, xo_tr ad q.2)).filter (fun q => !(q.1 == i) && !(q.1 + 1 == i && q.2.category == 2)) = (ls.filter (fun q => !(q.1 == i))).map fun q => (q.1, xo_tr ad q.2) := by
  induction ls with
  | nil => rfl
  | cons q l ih =>
    have hc : (xo_tr ad q.2).category = 1 := xo_cat ad q.2
    simp only [List.map_cons, List.filter_cons, ih]
    by_cases h : q.1 = i
    · simp [h]
    · simp [h, hc]
theorem xo_trEq {H : xo_H} {lv : xo_N → Bool} {ad ad' : xo_N → Nat} (he : ∀ n, H.2.2 n = true → ad' n = ad n) {v : xo_V} (hv : xo_lv H v) : xo_tr ad' v = xo_tr ad v := by
  rcases v with x | o
  · rfl
  · cases o with
    | none => rfl
    | some n => simp [xo_tr, va_rf, he n (hv n rfl)]
theorem xo_lsEq {H : xo_H} {ad ad' : xo_N → Nat} (he : ∀ n, H.2.2 n = true → ad' n = ad n) : ∀ {ls : List (Nat × xo_V)}, (∀ q ∈ ls, xo_lv H q.2) → (ls.map fun q => (q.1, xo_tr ad' q.2)) = ls.map fun q => (q.1, xo_tr ad q.2)
  | [], _ => rfl
  | q :: l, h => by
    rw [List.map_cons, List.map_cons, xo_lsEq he (fun q hq => h q (List.mem_cons_of_mem _ hq)), xo_trEq (lv := H.2.2) he (h q List.mem_cons_self)]
theorem xo_stEq {H : xo_H} {ad ad' : xo_N → Nat} (he : ∀ n, H.2.2 n = true → ad' n = ad n) : ∀ {st : List xo_V}, (∀ v ∈ st, xo_lv H v) → st.map (xo_tr ad') = st.map (xo_tr ad)
  | [], _ => rfl
  | q :: l, h => by
    rw [List.map_cons, List.map_cons, xo_stEq he (fun q hq => h q (List.mem_cons_of_mem _ hq)), xo_trEq (lv := H.2.2) he (h q List.mem_cons_self)]
theorem xo_lvUp {H H' : xo_H} (he : ∀ n, H.2.2 n = true → H'.2.2 n = true) {v : xo_V} (h : xo_lv H v) : xo_lv H' v := fun q hq => he q (h q hq)
/-! the named heap and the machine's heap -/
theorem xo_at_kept {G : xo_G} {ad : xo_N → Nat} {Hm Hm1 : Heap} {H H' : xo_H} {n : xo_N} (h : xo_at G ad Hm H n) (hq : Hm1[ad n]? = Hm[ad n]?) (h1 : H'.1 n = H.1 n) (h2 : H'.2.1 n = H.2.1 n) : xo_at G ad Hm1 H' n := by
  unfold xo_at at h ⊢
  rw [h1, h2]
  rcases hk : xo_kd n with ci | a
  · simp only [hk] at h
    obtain ⟨r, a, b⟩ := h
    exact ⟨r, a, b.kept hq⟩
  · simp only [hk] at h
    show Hm1[ad n]? = _
    rw [hq]; exact h
theorem xo_at_lt {G : xo_G} {ad : xo_N → Nat} {Hm : Heap} {H : xo_H} {n : xo_N} (h : xo_at G ad Hm H n) : ad n < Hm.size := by
  unfold xo_at at h
  split at h
  next ci hk =>
    obtain ⟨r, a, cell, b, -⟩ := h
    exact (Array.getElem?_eq_some_iff.mp b).1
  next a hk => exact (Array.getElem?_eq_some_iff.mp h).1
theorem xo_fvEq {H : xo_H} {ad ad' : xo_N → Nat} (he : ∀ n, H.2.2 n = true → ad' n = ad n) {o : Option xo_N} (ho : ∀ q, o = some q → H.2.2 q = true) : va_rf (o.map ad') = va_rf (o.map ad) := by
  cases o with
  | none => rfl
  | some n => simp [he n (ho n rfl)]
theorem xo_at_ad {G : xo_G} {ad ad' : xo_N → Nat} {Hm : Heap} {H : xo_H} {n : xo_N} (he : ∀ n, H.2.2 n = true → ad' n = ad n) (hn : H.2.2 n = true) (hc : ∀ k q, H.2.1 n k = some q → H.2.2 q = true) (h : xo_at G ad Hm H n) : xo_at G ad' Hm H n := by
  unfold xo_at at h ⊢
  rcases hk : xo_kd n with ci | a
  · simp only [hk] at h
    obtain ⟨r, a, b⟩ := h
    show ∃ r : vw_C, _
    rw [he n hn]
    refine ⟨r, a, b.to fun k _ => ?_⟩
    unfold xo_fv
    split
    · rfl
    · exact (xo_fvEq he (hc k)).symm
  · simp only [hk] at h
    show Hm[ad' n]? = _
    rw [he n hn, h]
    congr 2
    funext j
    split
    · rfl
    · exact (xo_fvEq he (hc j)).symm
theorem xo_R_put {G : xo_G} {A : Nat → Prop} {ad : xo_N → Nat} {H H' : xo_H} {Hm Hm1 : Heap} {n : xo_N} (h : xo_R G A ad H Hm) (hn : H.2.2 n = true) (hlv : H'.2.2 = H.2.2) (h1 : ∀ m, m ≠ n → H'.1 m = H.1 m) (h2 : ∀ m, m ≠ n → H'.2.1 m = H.2.1 m) (hc : ∀ k q, H'.2.1 n k = some q → H.2.2 q = true) (hat : xo_at G ad Hm1 H' n) (oq : ∀ q, q ≠ ad n → Hm1[q]? = Hm[q]?) : xo_R G A ad H' Hm1 := by
  obtain ⟨ha, hi, hcl⟩ := h
  refine ⟨fun m hm => ?_, fun m m' hm hm' e => hi m m' (by rw [← hlv]; exact hm) (by rw [← hlv]; exact hm') e, fun m k q hm hq => ?_⟩
  · rw [hlv] at hm
    by_cases e : m = n
    · subst e; exact ⟨hat, (ha m hm).2⟩
    · exact ⟨xo_at_kept (ha m hm).1 (oq _ fun z => e (hi m n hm hn z)) (h1 m e) (h2 m e), (ha m hm).2⟩
  · rw [hlv] at hm ⊢
    by_cases e : m = n
    · subst e; exact hc k q hq
    · rw [h2 m e] at hq; exact hcl m k q hm hq
def xo_ua (ad : xo_N → Nat) (n : xo_N) (a : Nat) : xo_N → Nat := fun m => if m = n then a else ad m
theorem xo_ua_s (ad : xo_N → Nat) (n : xo_N) (a : Nat) : xo_ua ad n a n = a := by simp [xo_ua]
theorem xo_ua_n (ad : xo_N → Nat) {n m : xo_N} (a : Nat) (h : m ≠ n) : xo_ua ad n a m = ad m := by simp [xo_ua, h]
theorem xo_R_new {G : xo_G} {A : Nat → Prop} {ad : xo_N → Nat} {H : xo_H} {Hm Hm1 : Heap} {n : xo_N} (h : xo_R G A ad H Hm) (hn : H.2.2 n = false) (hA : A Hm.size) (hat : xo_at G (xo_ua ad n Hm.size) Hm1 (xo_sN H n) n) (oq : ∀ q, q < Hm.size → Hm1[q]? = Hm[q]?) : xo_R G A (xo_ua ad n Hm.size) (xo_sN H n) Hm1 := by
  obtain ⟨ha, hi, hcl⟩ := h
  have hne : ∀ m, H.2.2 m = true → m ≠ n := fun m hm e => by rw [e, hn] at hm; cases hm
  have he : ∀ m, H.2.2 m = true → xo_ua ad n Hm.size m = ad m := fun m hm => xo_ua_n ad _ (hne m hm)
  have live : ∀ m, (xo_sN H n).2.2 m = true → m = n ∨ H.2.2 m = true := fun m hm => by
    by_cases e : m = n
    · exact Or.inl e
    · simp [xo_sN, e] at hm; exact Or.inr hm
  refine ⟨fun m hm => ?_, fun m m' hm hm' e => ?_, fun m k q hm hq => ?_⟩
  · rcases live m hm with rfl | hm
    · exact ⟨hat, by rw [xo_ua_s]; exact hA⟩
    · have hx := ha m hm
      have hy := xo_at_ad he hm (hcl m · · hm) hx.1
      refine ⟨xo_at_kept hy (oq _ ?_) ?_ ?_, by rw [he m hm]; exact hx.2⟩
      · rw [he m hm]; exact xo_at_lt hx.1
      · funext g; simp [xo_sN, hne m hm]
      · funext g; simp [xo_sN, hne m hm]
  · rcases live m hm with e1 | h1 <;> rcases live m' hm' with e2 | h2
    · exact e1.trans e2.symm
    · exfalso
      rw [e1, xo_ua_s, he m' h2] at e
      have := xo_at_lt (ha m' h2).1
      omega
    · exfalso
      rw [e2, xo_ua_s, he m h1] at e
      have := xo_at_lt (ha m h1).1
      omega
    · rw [he m h1, he m' h2] at e
      exact hi m m' h1 h2 e
  · by_cases e : m = n
    · subst e; simp [xo_sN] at hq
    · rcases live m hm with h1 | h1
      · exact absurd h1 e
      · simp [xo_sN, e] at hq
        have := hcl m k q h1 hq
        by_cases e2 : q = n
        · simp [xo_sN, e2]
        · simp [xo_sN, e2, this]
theorem xo_K_warm {G : xo_G} {s U : State} (hW : s.WarmedH U.vm) (h : xo_K G s) : xo_K G U := by
  obtain ⟨h1, h2, h3, h4⟩ := h
  refine ⟨fun c q hq => u_Kn_moved hW.alike (h1 c q hq), fun t ht => ⟨arrOfT_moved hW.alike (h2 t ht).1, (h2 t ht).2.moved hW.alike⟩, fun w hw => ?_, fun t a b => va_AO.moved hW.alike (h4 t a b)⟩
  have hi : xo_isN w = true := (List.mem_filter.mp hw).2
  have hz := h3 w hw
  unfold xo_isN at hi
  split at hi
  · exact va_Nw.warmF hW hz
  · exact va_Nw.warmM hW hz
  · cases hi
theorem xo_good (mt mc : xo_T) (h : Cond.code mc.1 mc.2.1 mc.2.2.1 mc.2.2.2.1 ∈ xo_WS) : GoodIn (xo_ws mt) (xo_ws mc) := by
  have key : ∀ w ∈ xo_WS, w ∈ xo_ws mt ∧ ((w.onTables && w.keeps) = true ∨ ∃ ty, w = .arrayClass ty) := fun w hw => by
    refine ⟨List.mem_cons_of_mem _ hw, ?_⟩
    have h2 : xo_ok w = true := (List.mem_filter.mp hw).2
    unfold xo_ok at h2
    rcases Bool.or_eq_true _ _ |>.mp h2 with h3 | h3
    · exact Or.inl h3
    · right
      split at h3
      next ty => exact ⟨ty, rfl⟩
      next => cases h3
  intro w hw
  rcases List.mem_cons.mp hw with rfl | hw
  · exact key _ h
  · exact key w hw
/-! the rows over the machine: fields -/
def xo_cb (ci : Nat) (C : String) (T : u_T) (N : Nat) (ty : Nat → FieldType) : Prop := xo_cls[ci]? = some (C, T, N) ∧ (∀ w ∈ u_ws C T N, w ∈ xo_WS) ∧ (∀ k, k < N → parseFieldDescriptor (T k).2.2.1 = some (ty k)) ∧ ∀ a, a < N → ∀ b, b < N → a ≠ b → (T a).2.1 ≠ (T b).2.1
def xo_lk (own : String) (ix : Nat) (C n d : String) : Prop := Cond.fieldLink own ix C n d ∈ xo_WS ∨ ∃ host, Cond.fieldLinkNest own ix C n d host ∈ xo_NW
section XW
variable {p : Program} {l : Launch} {e : Env} {R : Room} {s : State} {m : MethodId} {args : Array Value} {below : List Frame} {meth : Method} {c : Code} {Hm : Heap} {locs : List Loc} {cells slots : Nat} {Q : State → Prop}
variable {G : xo_G} {A : Nat → Prop} {ad : xo_N → Nat} {mt : xo_T} {H H' : xo_H} {n : xo_N} {ci k ix N pc : Nat} {C : String} {T : u_T} {ty : Nat → FieldType} {lsA : Array Slot} {rest : List Value}
theorem xo_Wget (C0 : xo_C mt p R s m args meth c G A) (hcb : xo_cb ci C T N ty) (hlk : xo_lk mt.1.cls ix C (T k).2.1 (T k).2.2.1) (hk : k < N) (hT : (T k).1 = C) (hR : xo_R G A ad H Hm) (hn : H.2.2 n = true) (hkd : xo_kd n = .inl ci) (hd : decode mt.2.1 pc = .ok (.getfield ix, 3))
    (kk : W p l e R s m args below meth c Hm locs cells slots Q (F0 m (pc + 3) lsA (xo_fv ad (T k).2.2.1 (H.1 n k) (H.2.1 n k) :: rest))) : W p l e R s m args below meth c Hm locs cells slots Q (F0 m pc lsA (.ref (ad n) :: rest)) := by
  obtain ⟨hex, hb, hml, hown, hts, hK, -⟩ := C0
  have hts' : ∀ w ∈ xo_WS, w.before args s = true := fun w hw => hts w (List.mem_cons_of_mem _ hw)
  have hat := (hR.1 n hn).1
  unfold xo_at at hat
  simp only [hkd] at hat
  obtain ⟨r, hr, cell, q1, q2, q3, q4⟩ := hat
  have hr2 : r = (C, T, N) := Option.some.inj (hr.symm.trans hcb.1)
  subst hr2
  obtain ⟨hS, hfc, kC, hkC, hkind⟩ := hK.1 ci _ hcb.1
  obtain ⟨cf, kf, fi, f, hi, hsl⟩ := hS k hk
  have hst := (u_facts hfc hkC (u_lays hts' hcb.2.1 hk) hi).1
  simp only [hT] at hi
  rcases hlk with hl | ⟨host, hl⟩
  · refine W.getf hex hb hown (hts' _ hl) hi hst q1 (by rw [q3]; exact fun h => by cases h) ?_ rfl rfl hd kk
    rw [hsl, q4 k hk]
  · refine va_Wgetf hex hb hown (va_Nw.use rfl (hK.2.2.1 _ hl)) hi hst q1 (by rw [q3]; exact fun h => by cases h) ?_ rfl rfl hd kk
    rw [hsl, q4 k hk]
/-- the new picture of an object, one field written -/
theorem xo_at_put (hcb : xo_cb ci C T N ty) (hts' : ∀ w ∈ xo_WS, w.before args s = true) (hK : xo_K G s) (hk : k < N) (hkd : xo_kd n = .inl ci) {cell : Cell} {Hm1 : Heap} {v : Value} (q2 : cell.cls = G.1.1 ci) (q3 : cell.vm = .none) (q4 : ∀ k, k < N → cell.slots[G.1.2 ci k]? = some (xo_fv ad (T k).2.2.1 (H.1 n k) (H.2.1 n k))) (e1 : Hm1[ad n]? = some (cell.setSlot (G.1.2 ci k) v))
    (hE : ∀ g, g ≠ k → H'.1 n g = H.1 n g) (hP : ∀ g, g ≠ k → H'.2.1 n g = H.2.1 n g) (hv : xo_fv ad (T k).2.2.1 (H'.1 n k) (H'.2.1 n k) = v) : xo_at G ad Hm1 H' n := by
  have hap : ∀ x y, x < N → y < N → x ≠ y → (G.1.2 ci) x ≠ (G.1.2 ci) y := by
    intro x y hx hy hne
    obtain ⟨hS, -⟩ := hK.1 ci _ hcb.1
    obtain ⟨_, _, _, fa, hia, ea⟩ := hS x hx
    obtain ⟨_, _, _, fb, hib, eb⟩ := hS y hy
    rw [← ea, ← eb]
    refine u_apart (u_lays hts' hcb.2.1 hx) (u_lays hts' hcb.2.1 hy) hia hib ?_
    rw [(State.fieldFound?_type hia (hcb.2.2.1 x hx)).1, (State.fieldFound?_type hib (hcb.2.2.1 y hy)).1]
    exact hcb.2.2.2 x hx y hy hne
  unfold xo_at
  simp only [hkd]
  refine ⟨_, hcb.1, _, e1, q2, q3, fun g hg => ?_⟩
  rw [t_set (V := fun k => xo_fv ad (T k).2.2.1 (H.1 n k) (H.2.1 n k)) q4 hap hk v g hg]
  by_cases e : g = k
  · subst e; simp [updV, hv]
  · simp [updV, e, hE g e, hP g e]
theorem xo_Wput (C0 : xo_C mt p R s m args meth c G A) (hcb : xo_cb ci C T N ty) (hlk : xo_lk mt.1.cls ix C (T k).2.1 (T k).2.2.1) (hk : k < N) (hT : (T k).1 = C) (hfin : (T k).2.2.2 = false) (hR : xo_R G A ad H Hm) (hS0 : va_S A s.heap Hm locs) (hn : H.2.2 n = true) (hkd : xo_kd n = .inl ci) (hd : decode mt.2.1 pc = .ok (.putfield ix, 3)) {v : Value} (hnar : narrow (ty k) v = v) (hfit : fits (ty k) v = true)
    (hlv : H'.2.2 = H.2.2) (hE : ∀ m g, ¬ (m = n ∧ g = k) → H'.1 m g = H.1 m g) (hP : ∀ m g, ¬ (m = n ∧ g = k) → H'.2.1 m g = H.2.1 m g) (hv : xo_fv ad (T k).2.2.1 (H'.1 n k) (H'.2.1 n k) = v) (hc : ∀ q, H'.2.1 n k = some q → H.2.2 q = true)
    (kk : ∀ (Hm1 : Heap) (locs1 : List Loc), xo_R G A ad H' Hm1 → va_S A s.heap Hm1 locs1 → W p l e R s m args below meth c Hm1 locs1 cells slots Q (F0 m (pc + 3) lsA rest)) : W p l e R s m args below meth c Hm locs cells slots Q (F0 m pc lsA (v :: .ref (ad n) :: rest)) := by
  obtain ⟨hex, hb, hml, hown, hts, hK, -⟩ := C0
  have hts' : ∀ w ∈ xo_WS, w.before args s = true := fun w hw => hts w (List.mem_cons_of_mem _ hw)
  have hat := (hR.1 n hn).1
  unfold xo_at at hat
  simp only [hkd] at hat
  obtain ⟨r, hr, cell, q1, q2, q3, q4⟩ := hat
  have hr2 : r = (C, T, N) := Option.some.inj (hr.symm.trans hcb.1)
  subst hr2
  obtain ⟨hS, hfc, kC, hkC, hkind⟩ := hK.1 ci _ hcb.1
  obtain ⟨cf, kf, fi, f, hi, hsl⟩ := hS k hk
  have hst := (u_facts hfc hkC (u_lays hts' hcb.2.1 hk) hi).1
  have hlay := hts' _ (hcb.2.1 _ (u_in_lay hk))
  unfold u_lay at hlay
  rw [if_neg (by rw [hfin]; decide)] at hlay
  have h6 := u_store hfc hkC hkind hlay hi (hcb.2.2.1 k hk) hnar hfit
  simp only [hT] at hi
  have fin : ∀ H1 : Heap, H1[ad n]? = some (cell.setSlot f.slot v) → H1.size = Hm.size → (∀ q, q ≠ ad n → H1[q]? = Hm[q]?) → W p l e R s m args below meth c H1 (locs ++ [⟨ad n, f.slot⟩]) cells slots Q (F0 m (pc + 3) lsA rest) := by
    intro H1 e1 e2 e3
    rw [hsl] at e1
    refine kk H1 _ (xo_R_put hR hn hlv (fun m' hm' => funext fun g => hE m' g fun z => hm' z.1) (fun m' hm' => funext fun g => hP m' g fun z => hm' z.1) (fun g q hq => ?_) (xo_at_put hcb hts' hK hk hkd q2 q3 q4 e1 (fun g hg => hE n g fun z => hg z.2) (fun g hg => hP n g fun z => hg z.2) hv) e3) (hS0.put e2 e3 (hR.1 n hn).2)
    by_cases eg : g = k
    · subst eg; exact hc q hq
    · rw [hP n g fun z => eg z.2] at hq; exact hR.2.2 n g q hn hq
  rcases hlk with hl | ⟨host, hl⟩
  · exact W.putK hex hb (f := f) ⟨hown, hts' _ hl, ⟨_, _, _, hi⟩, hst⟩ (by rw [q2]; exact h6) q1 q3 (by rw [hsl]; exact k2_hasslot (q4 k hk)) rfl rfl hd fin
  · exact va_WputK hex hb (f := f) hown (va_Nw.use rfl (hK.2.2.1 _ hl)) hi hst (by rw [q2]; exact h6) q1 q3 (by rw [hsl]; exact k2_hasslot (q4 k hk)) rfl rfl hd fin
theorem xo_WputF (C0 : xo_C mt p R s m args meth c G A) (hcb : xo_cb ci C T N ty) (hlk : Cond.fieldLink mt.1.cls ix C (T k).2.1 (T k).2.2.1 ∈ xo_WS) (hk : k < N) (hT : (T k).1 = C) (hfin : (T k).2.2.2 = true) (hin : mt.1.name = "<init>") (hoc : mt.1.cls = C) (hR : xo_R G A ad H Hm) (hS0 : va_S A s.heap Hm locs) (hn : H.2.2 n = true) (hkd : xo_kd n = .inl ci) (hd : decode mt.2.1 pc = .ok (.putfield ix, 3)) {v : Value} (hnar : narrow (ty k) v = v) (hfit : fits (ty k) v = true)
    (hlv : H'.2.2 = H.2.2) (hE : ∀ m g, ¬ (m = n ∧ g = k) → H'.1 m g = H.1 m g) (hP : ∀ m g, ¬ (m = n ∧ g = k) → H'.2.1 m g = H.2.1 m g) (hv : xo_fv ad (T k).2.2.1 (H'.1 n k) (H'.2.1 n k) = v) (hc : ∀ q, H'.2.1 n k = some q → H.2.2 q = true)
    (kk : ∀ (Hm1 : Heap) (locs1 : List Loc), xo_R G A ad H' Hm1 → va_S A s.heap Hm1 locs1 → W p l e R s m args below meth c Hm1 locs1 cells slots Q (F0 m (pc + 3) lsA rest)) : W p l e R s m args below meth c Hm locs cells slots Q (F0 m pc lsA (v :: .ref (ad n) :: rest)) := by
  obtain ⟨hex, hb, hml, hown, hts, hK, -, -, hname, -⟩ := C0
  have hts' : ∀ w ∈ xo_WS, w.before args s = true := fun w hw => hts w (List.mem_cons_of_mem _ hw)
  have hat := (hR.1 n hn).1
  unfold xo_at at hat
  simp only [hkd] at hat
  obtain ⟨r, hr, cell, q1, q2, q3, q4⟩ := hat
  have hr2 : r = (C, T, N) := Option.some.inj (hr.symm.trans hcb.1)
  subst hr2
  obtain ⟨hS, hfc, kC, hkC, hkind⟩ := hK.1 ci _ hcb.1
  obtain ⟨cf, kf, fi, f, hi, hsl⟩ := hS k hk
  have hst := (u_facts hfc hkC (u_lays hts' hcb.2.1 hk) hi).1
  have hlay := hts' _ (hcb.2.1 _ (u_in_lay hk))
  unfold u_lay at hlay
  rw [if_pos hfin] at hlay
  have hcf : m.cls = cf := by
    obtain ⟨_, _, c', _, _, _, -, -, hf', -, -, -, hown2, -⟩ := Cond.laysFinal_spec hlay
    have e1 : c' = cf := by have := hi.symm.trans hf'; simp at this; exact this.1.symm
    rw [hT, ← hoc] at hown2
    rw [← e1]; exact Option.some.inj (hown.symm.trans hown2)
  have h6 := u_fits hfc hkC hkind (Or.inr hlay) hi (hcb.2.2.1 k hk) hnar hfit
  simp only [hT] at hi
  refine W.putFinK hex hb hown (hts' _ hlk) hi hst hcf (by rw [hname]; exact hin) (by rw [q2]; exact h6) q1 q3 (by rw [hsl]; exact k2_hasslot (q4 k hk)) rfl rfl hd fun H1 e1 e2 e3 => ?_
  rw [hsl] at e1
  refine kk H1 _ (xo_R_put hR hn hlv (fun m' hm' => funext fun g => hE m' g fun z => hm' z.1) (fun m' hm' => funext fun g => hP m' g fun z => hm' z.1) (fun g q hq => ?_) (xo_at_put hcb hts' hK hk hkd q2 q3 q4 e1 (fun g hg => hE n g fun z => hg z.2) (fun g hg => hP n g fun z => hg z.2) hv) e3) (hS0.put e2 e3 (hR.1 n hn).2)
  by_cases eg : g = k
  · subst eg; exact hc q hq
  · rw [hP n g fun z => eg z.2] at hq; exact hR.2.2 n g q hn hq
end XW
/-! arrays -/
theorem xo_in_spec {t : Nat} {n : xo_N} {i : Int32} (h : xo_in t n i = true) : ∃ N, xo_kd n = .inr (t, N) ∧ ¬ (i < 0 ∨ N ≤ i.toNatClampNeg) := by
  unfold xo_in at h
  split at h
  next => cases h
  next a hk =>
    simp only [Bool.and_eq_true, decide_eq_true_eq] at h
    obtain ⟨t', N⟩ := a
    obtain ⟨h1, h2⟩ := h
    simp only at h1 h2
    subst h1
    exact ⟨N, hk, h2⟩
section XA
variable {p : Program} {l : Launch} {e : Env} {R : Room} {s : State} {m : MethodId} {args : Array Value} {below : List Frame} {meth : Method} {c : Code} {Hm : Heap} {locs : List Loc} {cells slots : Nat} {Q : State → Prop}
variable {G : xo_G} {A : Nat → Prop} {ad : xo_N → Nat} {mt : xo_T} {H H' : xo_H} {n q : xo_N} {t ci ix pc N : Nat} {C : String} {T : u_T} {ty : Nat → FieldType} {lsA : Array Slot} {rest : List Value} {i x : Int32}
theorem xo_at_arr (hat : xo_at G ad Hm H n) (hkd : xo_kd n = .inr (t, N)) : Hm[ad n]? = some (arrV (G.2 t) N (fun j => if t < 2 then .int (H.1 n j) else va_rf ((H.2.1 n j).map ad))) := by
  unfold xo_at at hat
  simp only [hkd] at hat
  exact hat
theorem xo_Wiald (C0 : xo_C mt p R s m args meth c G A) (hR : xo_R G A ad H Hm) (hn : H.2.2 n = true) (hin : xo_in 0 n i = true) (hd : decode mt.2.1 pc = .ok (.iaload, 1))
    (kk : W p l e R s m args below meth c Hm locs cells slots Q (F0 m (pc + 1) lsA (.int (H.1 n i.toNatClampNeg) :: rest))) : W p l e R s m args below meth c Hm locs cells slots Q (F0 m pc lsA (.int i :: .ref (ad n) :: rest)) := by
  obtain ⟨hex, hb, hml, hown, hts, hK, -⟩ := C0
  obtain ⟨N, hkd, hi⟩ := xo_in_spec hin
  have hlt : i.toNatClampNeg < N := Nat.not_le.mp fun z => hi (Or.inr z)
  exact W.iald (v := .int (H.1 n i.toNatClampNeg)) hex hb (xo_at_arr (hR.1 n hn).1 hkd) ((hK.2.1 0 (by decide)).1 N _) (fun z => by cases z) (by rw [arrV_size]; exact hi) (by rw [arrV_read _ _ hlt]; simp) rfl rfl hd kk
theorem xo_Wzald (C0 : xo_C mt p R s m args meth c G A) (hR : xo_R G A ad H Hm) (hn : H.2.2 n = true) (hin : xo_in 1 n i = true) (hd : decode mt.2.1 pc = .ok (.baload, 1))
    (kk : W p l e R s m args below meth c Hm locs cells slots Q (F0 m (pc + 1) lsA (.int (H.1 n i.toNatClampNeg) :: rest))) : W p l e R s m args below meth c Hm locs cells slots Q (F0 m pc lsA (.int i :: .ref (ad n) :: rest)) := by
  obtain ⟨hex, hb, hml, hown, hts, hK, -⟩ := C0
  obtain ⟨N, hkd, hi⟩ := xo_in_spec hin
  have hlt : i.toNatClampNeg < N := Nat.not_le.mp fun z => hi (Or.inr z)
  exact W.zald (v := .int (H.1 n i.toNatClampNeg)) hex hb (xo_at_arr (hR.1 n hn).1 hkd) ((hK.2.1 1 (by decide)).1 N _) (fun z => by cases z) (by rw [arrV_size]; exact hi) (by rw [arrV_read _ _ hlt]; simp) rfl rfl hd kk
theorem xo_Waald (C0 : xo_C mt p R s m args meth c G A) (hR : xo_R G A ad H Hm) (hn : H.2.2 n = true) (ht : 2 ≤ t ∧ t < 5) (hin : xo_in t n i = true) (hd : decode mt.2.1 pc = .ok (.aaload, 1))
    (kk : W p l e R s m args below meth c Hm locs cells slots Q (F0 m (pc + 1) lsA (va_rf ((H.2.1 n i.toNatClampNeg).map ad) :: rest))) : W p l e R s m args below meth c Hm locs cells slots Q (F0 m pc lsA (.int i :: .ref (ad n) :: rest)) := by
  obtain ⟨hex, hb, hml, hown, hts, hK, -⟩ := C0
  obtain ⟨N, hkd, hi⟩ := xo_in_spec hin
  have hlt : i.toNatClampNeg < N := Nat.not_le.mp fun z => hi (Or.inr z)
  have hta : xo_ta t = .object (xo_tn t) := xo_ta_obj t ht.1 ht.2
  refine W.aald (ty := .object (xo_tn t)) (v := va_rf ((H.2.1 n i.toNatClampNeg).map ad)) hex hb (xo_at_arr (hR.1 n hn).1 hkd) (hta ▸ (hK.2.1 t ht.2).1 N _) rfl (fun z => by cases z) (by rw [arrV_size]; exact hi) (by rw [arrV_read _ _ hlt, if_neg (by omega)]) rfl rfl hd kk
theorem xo_Walen (C0 : xo_C mt p R s m args meth c G A) (hR : xo_R G A ad H Hm) (hn : H.2.2 n = true) (ht : t < 5) (hkd : xo_kd n = .inr (t, N)) (hd : decode mt.2.1 pc = .ok (.arraylength, 1))
    (kk : W p l e R s m args below meth c Hm locs cells slots Q (F0 m (pc + 1) lsA (.int (Int32.ofNat N) :: rest))) : W p l e R s m args below meth c Hm locs cells slots Q (F0 m pc lsA (.ref (ad n) :: rest)) := by
  obtain ⟨hex, hb, hml, hown, hts, hK, -⟩ := C0
  exact W.alen (n := Int32.ofNat N) hex hb (xo_at_arr (hR.1 n hn).1 hkd) ((hK.2.1 t ht).1 N _) (by rw [arrV_size] <;> rfl) rfl rfl hd kk
theorem xo_R_ast {Hm1 : Heap} {v : Value} {k : Nat} (hR : xo_R G A ad H Hm) (hn : H.2.2 n = true) (hkd : xo_kd n = .inr (t, N)) (e1 : Hm1[ad n]? = some ((arrV (G.2 t) N (fun j => if t < 2 then .int (H.1 n j) else va_rf ((H.2.1 n j).map ad))).setSlot k v)) (e3 : ∀ q, q ≠ ad n → Hm1[q]? = Hm[q]?)
    (hlv : H'.2.2 = H.2.2) (hE : ∀ m g, ¬ (m = n ∧ g = k) → H'.1 m g = H.1 m g) (hP : ∀ m g, ¬ (m = n ∧ g = k) → H'.2.1 m g = H.2.1 m g) (hv : (if t < 2 then .int (H'.1 n k) else va_rf ((H'.2.1 n k).map ad)) = v) (hc : ∀ q, H'.2.1 n k = some q → H.2.2 q = true) : xo_R G A ad H' Hm1 := by
  refine xo_R_put hR hn hlv (fun m' hm' => funext fun g => hE m' g fun z => hm' z.1) (fun m' hm' => funext fun g => hP m' g fun z => hm' z.1) (fun g q hq => ?_) ?_ e3
  · by_cases eg : g = k
    · subst eg; exact hc q hq
    · rw [hP n g fun z => eg z.2] at hq; exact hR.2.2 n g q hn hq
  · unfold xo_at
    simp only [hkd]
    rw [e1, arrV_store]
    congr 2
    funext j
    by_cases ej : j = k
    · subst ej; simp only [updV, if_true]; exact hv.symm
    · simp only [updV, if_neg ej]; rw [hE n j fun z => ej z.2, hP n j fun z => ej z.2]
theorem xo_sE_ne (H : xo_H) (n : xo_N) (f : Nat) (v : Int32) : ∀ m g, ¬ (m = n ∧ g = f) → (xo_sE H n f v).1 m g = H.1 m g := fun m g h => by simp only [xo_sE, if_neg h]
theorem xo_sE_eq (H : xo_H) (n : xo_N) (f : Nat) (v : Int32) : (xo_sE H n f v).1 n f = v := by simp [xo_sE]
theorem xo_sP_ne (H : xo_H) (n : xo_N) (f : Nat) (v : Option xo_N) : ∀ m g, ¬ (m = n ∧ g = f) → (xo_sP H n f v).2.1 m g = H.2.1 m g := fun m g h => by simp only [xo_sP, if_neg h]
theorem xo_sP_eq (H : xo_H) (n : xo_N) (f : Nat) (v : Option xo_N) : (xo_sP H n f v).2.1 n f = v := by simp [xo_sP]
theorem xo_Wiast (C0 : xo_C mt p R s m args meth c G A) (hR : xo_R G A ad H Hm) (hS0 : va_S A s.heap Hm locs) (hn : H.2.2 n = true) (hin : xo_in 0 n i = true) (hd : decode mt.2.1 pc = .ok (.iastore, 1))
    (kk : ∀ (Hm1 : Heap) (locs1 : List Loc), xo_R G A ad (xo_sE H n i.toNatClampNeg x) Hm1 → va_S A s.heap Hm1 locs1 → W p l e R s m args below meth c Hm1 locs1 cells slots Q (F0 m (pc + 1) lsA rest)) : W p l e R s m args below meth c Hm locs cells slots Q (F0 m pc lsA (.int x :: .int i :: .ref (ad n) :: rest)) := by
  obtain ⟨hex, hb, hml, hown, hts, hK, -⟩ := C0
  obtain ⟨N, hkd, hi⟩ := xo_in_spec hin
  refine W.iast hex hb (xo_at_arr (hR.1 n hn).1 hkd) ((hK.2.1 0 (by decide)).1 N _) (fun z => by cases z) (by rw [arrV_size]; exact hi) rfl rfl hd fun H1 e1 e2 e3 => ?_
  exact kk H1 _ (xo_R_ast hR hn hkd e1 e3 rfl (xo_sE_ne H n _ x) (fun _ _ _ => rfl) (by rw [xo_sE_eq]; rfl) (fun q hq => hR.2.2 n _ q hn hq)) (hS0.put e2 e3 (hR.1 n hn).2)
theorem xo_nz {x : Int32} (h : x = 0 ∨ x = 1) : narrow .boolean (.int x) = .int x ∧ fits .boolean (.int x) = true := by
  rcases h with rfl | rfl <;> exact ⟨by decide +kernel, by decide +kernel⟩
theorem xo_Wzast (C0 : xo_C mt p R s m args meth c G A) (hR : xo_R G A ad H Hm) (hS0 : va_S A s.heap Hm locs) (hn : H.2.2 n = true) (hin : xo_in 1 n i = true) (hx : x = 0 ∨ x = 1) (hd : decode mt.2.1 pc = .ok (.bastore, 1))
    (kk : ∀ (Hm1 : Heap) (locs1 : List Loc), xo_R G A ad (xo_sE H n i.toNatClampNeg x) Hm1 → va_S A s.heap Hm1 locs1 → W p l e R s m args below meth c Hm1 locs1 cells slots Q (F0 m (pc + 1) lsA rest)) : W p l e R s m args below meth c Hm locs cells slots Q (F0 m pc lsA (.int x :: .int i :: .ref (ad n) :: rest)) := by
  obtain ⟨hex, hb, hml, hown, hts, hK, -⟩ := C0
  obtain ⟨N, hkd, hi⟩ := xo_in_spec hin
  refine W.zast hex hb (xo_at_arr (hR.1 n hn).1 hkd) ((hK.2.1 1 (by decide)).1 N _) (fun z => by cases z) (by rw [arrV_size]; exact hi) rfl rfl hd fun H1 e1 e2 e3 => ?_
  rw [(xo_nz hx).1] at e1
  exact kk H1 _ (xo_R_ast hR hn hkd e1 e3 rfl (xo_sE_ne H n _ x) (fun _ _ _ => rfl) (by rw [xo_sE_eq]; rfl) (fun q hq => hR.2.2 n _ q hn hq)) (hS0.put e2 e3 (hR.1 n hn).2)
theorem xo_Waast (C0 : xo_C mt p R s m args meth c G A) (hR : xo_R G A ad H Hm) (hS0 : va_S A s.heap Hm locs) (hn : H.2.2 n = true) (hq : H.2.2 q = true) (ht : 2 ≤ t ∧ t < 5) (hin : xo_in t n i = true) (hkq : xo_kd q = .inl ci) (hc : xo_cls[ci]? = some (C, T, N)) (htn : xo_tn t = C) (hd : decode mt.2.1 pc = .ok (.aastore, 1))
    (kk : ∀ (Hm1 : Heap) (locs1 : List Loc), xo_R G A ad (xo_sP H n i.toNatClampNeg (some q)) Hm1 → va_S A s.heap Hm1 locs1 → W p l e R s m args below meth c Hm1 locs1 cells slots Q (F0 m (pc + 1) lsA rest)) : W p l e R s m args below meth c Hm locs cells slots Q (F0 m pc lsA (.ref (ad q) :: .int i :: .ref (ad n) :: rest)) := by
  obtain ⟨hex, hb, hml, hown, hts, hK, -⟩ := C0
  obtain ⟨NN, hkd, hi⟩ := xo_in_spec hin
  have hlt : i.toNatClampNeg < NN := Nat.not_le.mp fun z => hi (Or.inr z)
  have h0 : ¬ i < 0 := fun z => hi (Or.inl z)
  have hta : xo_ta t = .object C := by rw [← htn]; exact xo_ta_obj t ht.1 ht.2
  have hatq := (hR.1 q hq).1
  unfold xo_at at hatq
  simp only [hkq] at hatq
  obtain ⟨r, hr, cellV, g1, g2, g3, -⟩ := hatq
  have hcls := (hK.1 ci _ hc).2
  have hra := (hK.2.1 t ht.2).2
  rw [hta] at hra
  obtain ⟨kA, comp, k1, k2, k3, -⟩ := hra
  have hcomp : comp = G.1.1 ci := Option.some.inj (k3.symm.trans hcls.1)
  subst hcomp
  obtain ⟨kC, hkC, -⟩ := hcls.2
  refine W.aast hex hb (xo_at_arr (hR.1 n hn).1 hkd) (fun z h => by cases h) (fun h => by cases h) k1 k2 rfl hkC ⟨h0, by rw [arrV_size]; exact hlt⟩ g1 (fun z h => by rw [g3] at h; cases h) (by rw [g2]; exact hkC) (by rw [g2]; exact va_assign hcls) rfl rfl hd fun H1 e1 e2 e3 => ?_
  exact kk H1 _ (xo_R_ast hR hn hkd e1 e3 rfl (fun _ _ _ => rfl) (xo_sP_ne H n _ _) (by rw [xo_sP_eq, if_neg (by omega)]; rfl) (fun q' hq' => by rw [xo_sP_eq] at hq'; cases hq'; exact hq)) (hS0.put e2 e3 (hR.1 n hn).2)
/-! new cells -/
theorem xo_fv0 (ad ad' : xo_N → Nat) (d : String) : xo_fv ad d 0 none = xo_fv ad' d 0 none := rfl
theorem xo_Wnew (C0 : xo_C mt p R s m args meth c G A) (hcb : xo_cb ci C T N ty) (hdef : ∀ k, k < N → xo_fv (fun _ => 0) (T k).2.2.1 0 none = defaultValue (ty k)) (hw1 : Cond.classLink mt.1.cls ix C ∈ xo_WS) (hw2 : Cond.instantiable C N ∈ xo_WS) (hw3 : Cond.initialized C ∈ xo_WS) (hR : xo_R G A ad H Hm) (hS0 : va_S A s.heap Hm locs) (hn : H.2.2 n = false) (hkd : xo_kd n = .inl ci) (hc : cells + 1 ≤ R.cells) (hs : slots + N ≤ R.slots) (hd : decode mt.2.1 pc = .ok (.new ix, 3))
    (kk : ∀ (Hm1 : Heap), xo_R G A (xo_ua ad n Hm.size) (xo_sN H n) Hm1 → va_S A s.heap Hm1 locs → W p l e R s m args below meth c Hm1 locs (cells + 1) (slots + N) Q (F0 m (pc + 3) lsA (.ref (xo_ua ad n Hm.size n) :: rest))) : W p l e R s m args below meth c Hm locs cells slots Q (F0 m pc lsA rest) := by
  obtain ⟨hex, hb, hml, hown, hts, hK, -, -, -, -, hA⟩ := C0
  have hts' : ∀ w ∈ xo_WS, w.before args s = true := fun w hw => hts w (List.mem_cons_of_mem _ hw)
  have hKn := hK.1 ci _ hcb.1
  refine W.newcK hex hb hown (hts' _ hw1) (hts' _ hw2) (hts' _ hw3) rfl hd hc hs hKn.2.1 rfl fun H1 kC hkC e1 z1 o1 => ?_
  rw [xo_ua_s] at kk
  refine kk H1 (xo_R_new hR hn (hA _ hS0.1) ?_ o1) ⟨Nat.le_trans hS0.1 (by omega), fun x h1 h2 => (o1 x (Nat.lt_of_lt_of_le h1 hS0.1)).trans (hS0.2.1 x h1 h2), hS0.2.2⟩
  unfold xo_at
  simp only [hkd]
  rw [xo_ua_s]
  refine ⟨_, hcb.1, (u_born ty hts' hcb.2.1 hKn hkC e1 hcb.2.2.1).to fun k hk => ?_⟩
  rw [← hdef k hk]
  simp [xo_sN, xo_fv]
theorem xo_Wnewa (C0 : xo_C mt p R s m args meth c G A) {atype : ArrayType} (hty : newarray.typeOf atype = xo_ta t) (ht : t < 2) (hw : Cond.arrayClass (xo_ta t) ∈ xo_WS) (hR : xo_R G A ad H Hm) (hS0 : va_S A s.heap Hm locs) (hn : H.2.2 n = false) (hkd : xo_kd n = .inr (t, N)) (hN : N < 65536) (hc : cells + 1 ≤ R.cells) (hs : slots + N ≤ R.slots) (hd : decode mt.2.1 pc = .ok (.newarray atype, 2))
    (kk : ∀ (Hm1 : Heap), xo_R G A (xo_ua ad n Hm.size) (xo_sN H n) Hm1 → va_S A s.heap Hm1 locs → W p l e R s m args below meth c Hm1 locs (cells + 1) (slots + N) Q (F0 m (pc + 2) lsA (.ref (xo_ua ad n Hm.size n) :: rest))) : W p l e R s m args below meth c Hm locs cells slots Q (F0 m pc lsA (.int (Int32.ofNat N) :: rest)) := by
  obtain ⟨hex, hb, hml, hown, hts, hK, -, -, -, -, hA⟩ := C0
  have hts' : ∀ w ∈ xo_WS, w.before args s = true := fun w hw => hts w (List.mem_cons_of_mem _ hw)
  have hcl : (Int32.ofNat N).toNatClampNeg = N := nI_clamp (n := N) (by omega)
  have hng : ¬ Int32.ofNat N < 0 := nI_pos (n := N) (by omega)
  have hdv : defaultValue (xo_ta t) = .int 0 := by
    rcases (by omega : t = 0 ∨ t = 1) with rfl | rfl <;> rfl
  have hbb : N * componentBytes (xo_ta t) ≤ 536870912 := by
    rcases (by omega : t = 0 ∨ t = 1) with rfl | rfl
    · show N * 4 ≤ _; omega
    · show N * 1 ≤ _; omega
  refine va_newaK hex hb (by rw [hty]; exact hts' _ hw) rfl hd rfl hng hcl (by rw [hty]; exact hbb) hc hs rfl fun H1 cA e1 z1 o1 hAr hNm => ?_
  rw [hty] at e1 hNm
  have hcA : cA = G.2 t := by
    have hra := (hK.2.1 t (by omega)).2
    rcases (by omega : t = 0 ∨ t = 1) with rfl | rfl
    · exact Option.some.inj (hNm.symm.trans hra)
    · exact Option.some.inj (hNm.symm.trans hra)
  subst hcA
  rw [xo_ua_s] at kk
  refine kk H1 (xo_R_new hR hn (hA _ hS0.1) ?_ o1) ⟨Nat.le_trans hS0.1 (by omega), fun x h1 h2 => (o1 x (Nat.lt_of_lt_of_le h1 hS0.1)).trans (hS0.2.1 x h1 h2), hS0.2.2⟩
  unfold xo_at
  simp only [hkd]
  rw [xo_ua_s, e1, hdv]
  congr 2
  funext j
  simp [xo_sN, ht]
theorem xo_Wanew (C0 : xo_C mt p R s m args meth c G A) (ht : 2 ≤ t ∧ t < 5) (hw : Cond.classLink mt.1.cls ix (xo_tn t) ∈ xo_WS) (hR : xo_R G A ad H Hm) (hS0 : va_S A s.heap Hm locs) (hn : H.2.2 n = false) (hkd : xo_kd n = .inr (t, N)) (hN : N < 65536) (hc : cells + 1 ≤ R.cells) (hs : slots + N ≤ R.slots) (hd : decode mt.2.1 pc = .ok (.anewarray ix, 3))
    (kk : ∀ (Hm1 : Heap), xo_R G A (xo_ua ad n Hm.size) (xo_sN H n) Hm1 → va_S A s.heap Hm1 locs → W p l e R s m args below meth c Hm1 locs (cells + 1) (slots + N) Q (F0 m (pc + 3) lsA (.ref (xo_ua ad n Hm.size n) :: rest))) : W p l e R s m args below meth c Hm locs cells slots Q (F0 m pc lsA (.int (Int32.ofNat N) :: rest)) := by
  obtain ⟨hex, hb, hml, hown, hts, hK, -, -, -, -, hA⟩ := C0
  have hts' : ∀ w ∈ xo_WS, w.before args s = true := fun w hw => hts w (List.mem_cons_of_mem _ hw)
  have hcl : (Int32.ofNat N).toNatClampNeg = N := nI_clamp (n := N) (by omega)
  have hng : ¬ Int32.ofNat N < 0 := nI_pos (n := N) (by omega)
  have hra := (hK.2.1 t ht.2).2
  rw [xo_ta_obj t ht.1 ht.2] at hra
  obtain ⟨kA0, comp0, k1, k2, k3, k4⟩ := hra
  refine W.anew hex hb hown (hts' _ hw) (va_AO.use (hK.2.2.2 t ht.1 ht.2)) rfl hd rfl hng (by rw [hcl]; omega) hc (by rw [hcl]; exact hs) fun cA kA comp f1 f2 f3 f4 => ?_
  have hcA : cA = G.2 t := Option.some.inj (f1.symm.trans k4)
  subst hcA
  rw [hcl, xo_ua_s] at *
  generalize hH1 : Hm.push ({ cls := G.2 t, slots := Array.replicate N .null, vm := .none } : Cell) = H1
  have z1 : H1.size = Hm.size + 1 := by rw [← hH1, Array.size_push]
  have e1 : H1[Hm.size]? = some (arrV (G.2 t) N (fun _ => .null)) := by rw [← hH1, Array.getElem?_push_size, ← arrV_new]
  have o1 : ∀ q : Nat, q < Hm.size → H1[q]? = Hm[q]? := fun q hq => by rw [← hH1, Array.getElem?_push, if_neg (Nat.ne_of_lt hq)]
  refine kk H1 (xo_R_new hR hn (hA _ hS0.1) ?_ o1) ⟨Nat.le_trans hS0.1 (by omega), fun x h1 h2 => (o1 x (Nat.lt_of_lt_of_le h1 hS0.1)).trans (hS0.2.1 x h1 h2), hS0.2.2⟩
  unfold xo_at
  simp only [hkd]
  rw [xo_ua_s, e1]
  congr 2
  funext j
  rw [if_neg (by omega)]
  simp [xo_sN, va_rf]
end XA
end
section
section XR
variable {α : Type} {mt : xo_T} {rc rs : Nat} {j : α → Option xo_V × xo_H} {r : α} {pc pc' : Nat} {ls : List (Nat × xo_V)} {st : List xo_V} {H : xo_H} {k kt kf : Option α}
theorem xo_iconst {n : Int} {v : Int32} (hd : decode mt.2.1 pc = .ok (.iconst n, 1)) (hv : Int32.ofInt n = v) (hp : pc + 1 = pc') (kk : xo_X mt rc rs j r pc' ls (.inl v :: st) H k) : xo_X mt rc rs j r pc ls st H k := by
  intro hk p l e R s m args below meth c G A ad0 lv0 ad Hm locs cells slots lsA C0 hR hS hE hc hs hl hL hT
  subst hp
  exact lv_iconst C0.1 C0.2.1 hd hv (kk hk p l e R s m args below meth c G A ad0 lv0 ad Hm locs cells slots lsA C0 hR hS hE hc hs hl hL (xo_lvC (xo_lvI H v) hT))
theorem xo_bipush {n : Int} {v : Int32} (hd : decode mt.2.1 pc = .ok (.bipush n, 2)) (hv : (Int8.ofInt n).toInt32 = v) (hp : pc + 2 = pc') (kk : xo_X mt rc rs j r pc' ls (.inl v :: st) H k) : xo_X mt rc rs j r pc ls st H k := by
  intro hk p l e R s m args below meth c G A ad0 lv0 ad Hm locs cells slots lsA C0 hR hS hE hc hs hl hL hT
  subst hp
  exact lv_bipush C0.1 C0.2.1 hd hv (kk hk p l e R s m args below meth c G A ad0 lv0 ad Hm locs cells slots lsA C0 hR hS hE hc hs hl hL (xo_lvC (xo_lvI H v) hT))
theorem xo_sipush {n : Int} {v : Int32} (hd : decode mt.2.1 pc = .ok (.sipush n, 3)) (hv : (Int16.ofInt n).toInt32 = v) (hp : pc + 3 = pc') (kk : xo_X mt rc rs j r pc' ls (.inl v :: st) H k) : xo_X mt rc rs j r pc ls st H k := by
  intro hk p l e R s m args below meth c G A ad0 lv0 ad Hm locs cells slots lsA C0 hR hS hE hc hs hl hL hT
  subst hp
  exact lv_sipush C0.1 C0.2.1 hd hv (kk hk p l e R s m args below meth c G A ad0 lv0 ad Hm locs cells slots lsA C0 hR hS hE hc hs hl hL (xo_lvC (xo_lvI H v) hT))
theorem xo_null (hd : decode mt.2.1 pc = .ok (.aconst_null, 1)) (hp : pc + 1 = pc') (kk : xo_X mt rc rs j r pc' ls (.inr none :: st) H k) : xo_X mt rc rs j r pc ls st H k := by
  intro hk p l e R s m args below meth c G A ad0 lv0 ad Hm locs cells slots lsA C0 hR hS hE hc hs hl hL hT
  subst hp
  exact lv_null C0.1 C0.2.1 hd (kk hk p l e R s m args below meth c G A ad0 lv0 ad Hm locs cells slots lsA C0 hR hS hE hc hs hl hL (xo_lvC (xo_lvN H) hT))
theorem xo_iload_n {q : Fin 4} {i : Nat} {x : Int32} (hd : decode mt.2.1 pc = .ok (.iload_n q, 1)) (hi : (q : Nat) = i) (t : Nat) (ht : ls[t]? = some (i, .inl x)) (hp : pc + 1 = pc') (kk : xo_X mt rc rs j r pc' ls (.inl x :: st) H k) : xo_X mt rc rs j r pc ls st H k := by
  intro hk p l e R s m args below meth c G A ad0 lv0 ad Hm locs cells slots lsA C0 hR hS hE hc hs hl hL hT
  subst hp
  exact lv_iload_n C0.1 C0.2.1 hd hi (xo_lsAt hl t ht) (kk hk p l e R s m args below meth c G A ad0 lv0 ad Hm locs cells slots lsA C0 hR hS hE hc hs hl hL (xo_lvC (xo_lvI H x) hT))
theorem xo_iload {i : Nat} {x : Int32} (hd : decode mt.2.1 pc = .ok (.iload i, 2)) (t : Nat) (ht : ls[t]? = some (i, .inl x)) (hp : pc + 2 = pc') (kk : xo_X mt rc rs j r pc' ls (.inl x :: st) H k) : xo_X mt rc rs j r pc ls st H k := by
  intro hk p l e R s m args below meth c G A ad0 lv0 ad Hm locs cells slots lsA C0 hR hS hE hc hs hl hL hT
  subst hp
  exact lv_iload C0.1 C0.2.1 hd (xo_lsAt hl t ht) (kk hk p l e R s m args below meth c G A ad0 lv0 ad Hm locs cells slots lsA C0 hR hS hE hc hs hl hL (xo_lvC (xo_lvI H x) hT))
theorem xo_aload_n {q : Fin 4} {i : Nat} {x : Option xo_N} (hd : decode mt.2.1 pc = .ok (.aload_n q, 1)) (hi : (q : Nat) = i) (t : Nat) (ht : ls[t]? = some (i, .inr x)) (hp : pc + 1 = pc') (kk : xo_X mt rc rs j r pc' ls (.inr x :: st) H k) : xo_X mt rc rs j r pc ls st H k := by
  intro hk p l e R s m args below meth c G A ad0 lv0 ad Hm locs cells slots lsA C0 hR hS hE hc hs hl hL hT
  subst hp
  have h1 := kk hk p l e R s m args below meth c G A ad0 lv0 ad Hm locs cells slots lsA C0 hR hS hE hc hs hl hL (xo_lvC (xo_lsLv hL ht) hT)
  have h2 := xo_lsAt hl t ht
  cases x with
  | none => exact lv_aload_nN C0.1 C0.2.1 hd hi h2 h1
  | some n => exact lv_aload_n C0.1 C0.2.1 hd hi h2 h1
theorem xo_aload {i : Nat} {x : Option xo_N} (hd : decode mt.2.1 pc = .ok (.aload i, 2)) (t : Nat) (ht : ls[t]? = some (i, .inr x)) (hp : pc + 2 = pc') (kk : xo_X mt rc rs j r pc' ls (.inr x :: st) H k) : xo_X mt rc rs j r pc ls st H k := by
  intro hk p l e R s m args below meth c G A ad0 lv0 ad Hm locs cells slots lsA C0 hR hS hE hc hs hl hL hT
  subst hp
  have h1 := kk hk p l e R s m args below meth c G A ad0 lv0 ad Hm locs cells slots lsA C0 hR hS hE hc hs hl hL (xo_lvC (xo_lsLv hL ht) hT)
  have h2 := xo_lsAt hl t ht
  cases x with
  | none => exact lv_aloadN C0.1 C0.2.1 hd h2 h1
  | some n => exact lv_aload C0.1 C0.2.1 hd h2 h1
theorem xo_lsF {H : xo_H} {i : Nat} {v : xo_V} {ls' : List (Nat × xo_V)} (hv : xo_lv H v) (hL : ∀ q ∈ ls, xo_lv H q.2) (h : (i, v) :: ls.filter (fun q => !(q.1 == i)) = ls') : ∀ q ∈ ls', xo_lv H q.2 := by
  intro q hq
  rw [← h] at hq
  rcases List.mem_cons.mp hq with rfl | hq
  · exact hv
  · exact hL q (List.mem_filter.mp hq).1
theorem xo_lsG {ad : xo_N → Nat} {i : Nat} {v : xo_V} {ls' : List (Nat × xo_V)} (h : (i, v) :: ls.filter (fun q => !(q.1 == i)) = ls') : (i, xo_tr ad v) :: (ls.map fun q => (q.1, xo_tr ad q.2)).filter (fun q => !(q.1 == i) && !(q.1 + 1 == i && q.2.category == 2)) = ls'.map fun q => (q.1, xo_tr ad q.2) := by
  rw [xo_filt, ← h]
  rfl
theorem xo_istore_n {q : Fin 4} {i : Nat} {x : Int32} {ls' : List (Nat × xo_V)} (hd : decode mt.2.1 pc = .ok (.istore_n q, 1)) (hi : (q : Nat) = i) (hi2 : i < mt.2.2.1) (hl2 : (i, (.inl x : xo_V)) :: ls.filter (fun q => !(q.1 == i)) = ls') (hp : pc + 1 = pc') (kk : xo_X mt rc rs j r pc' ls' st H k) : xo_X mt rc rs j r pc ls (.inl x :: st) H k := by
  intro hk p l e R s m args below meth c G A ad0 lv0 ad Hm locs cells slots lsA C0 hR hS hE hc hs hl hL hT
  subst hp
  exact lv_istore_n C0.1 C0.2.1 hd hi hl hi2 (xo_lsG hl2) fun ls2 hl2' => kk hk p l e R s m args below meth c G A ad0 lv0 ad Hm locs cells slots ls2 C0 hR hS hE hc hs hl2' (xo_lsF (xo_lvI H x) hL hl2) (xo_lvT hT)
theorem xo_istore {i : Nat} {x : Int32} {ls' : List (Nat × xo_V)} (hd : decode mt.2.1 pc = .ok (.istore i, 2)) (hi2 : i < mt.2.2.1) (hl2 : (i, (.inl x : xo_V)) :: ls.filter (fun q => !(q.1 == i)) = ls') (hp : pc + 2 = pc') (kk : xo_X mt rc rs j r pc' ls' st H k) : xo_X mt rc rs j r pc ls (.inl x :: st) H k := by
  intro hk p l e R s m args below meth c G A ad0 lv0 ad Hm locs cells slots lsA C0 hR hS hE hc hs hl hL hT
  subst hp
  exact lv_istore C0.1 C0.2.1 hd hl hi2 (xo_lsG hl2) fun ls2 hl2' => kk hk p l e R s m args below meth c G A ad0 lv0 ad Hm locs cells slots ls2 C0 hR hS hE hc hs hl2' (xo_lsF (xo_lvI H x) hL hl2) (xo_lvT hT)
theorem xo_astore_n {q : Fin 4} {i : Nat} {x : Option xo_N} {ls' : List (Nat × xo_V)} (hd : decode mt.2.1 pc = .ok (.astore_n q, 1)) (hi : (q : Nat) = i) (hi2 : i < mt.2.2.1) (hl2 : (i, (.inr x : xo_V)) :: ls.filter (fun q => !(q.1 == i)) = ls') (hp : pc + 1 = pc') (kk : xo_X mt rc rs j r pc' ls' st H k) : xo_X mt rc rs j r pc ls (.inr x :: st) H k := by
  intro hk p l e R s m args below meth c G A ad0 lv0 ad Hm locs cells slots lsA C0 hR hS hE hc hs hl hL hT
  subst hp
  have h1 := xo_lsG (ad := ad) hl2
  cases x with
  | none => exact lv_astore_nN C0.1 C0.2.1 hd hi hl hi2 h1 fun ls2 hl2' => kk hk p l e R s m args below meth c G A ad0 lv0 ad Hm locs cells slots ls2 C0 hR hS hE hc hs hl2' (xo_lsF (xo_lvH hT) hL hl2) (xo_lvT hT)
  | some n => exact lv_astore_n C0.1 C0.2.1 hd hi hl hi2 h1 fun ls2 hl2' => kk hk p l e R s m args below meth c G A ad0 lv0 ad Hm locs cells slots ls2 C0 hR hS hE hc hs hl2' (xo_lsF (xo_lvH hT) hL hl2) (xo_lvT hT)
theorem xo_astore {i : Nat} {x : Option xo_N} {ls' : List (Nat × xo_V)} (hd : decode mt.2.1 pc = .ok (.astore i, 2)) (hi2 : i < mt.2.2.1) (hl2 : (i, (.inr x : xo_V)) :: ls.filter (fun q => !(q.1 == i)) = ls') (hp : pc + 2 = pc') (kk : xo_X mt rc rs j r pc' ls' st H k) : xo_X mt rc rs j r pc ls (.inr x :: st) H k := by
  intro hk p l e R s m args below meth c G A ad0 lv0 ad Hm locs cells slots lsA C0 hR hS hE hc hs hl hL hT
  subst hp
  have h1 := xo_lsG (ad := ad) hl2
  cases x with
  | none => exact lv_astoreN C0.1 C0.2.1 hd hl hi2 h1 fun ls2 hl2' => kk hk p l e R s m args below meth c G A ad0 lv0 ad Hm locs cells slots ls2 C0 hR hS hE hc hs hl2' (xo_lsF (xo_lvH hT) hL hl2) (xo_lvT hT)
  | some n => exact lv_astore C0.1 C0.2.1 hd hl hi2 h1 fun ls2 hl2' => kk hk p l e R s m args below meth c G A ad0 lv0 ad Hm locs cells slots ls2 C0 hR hS hE hc hs hl2' (xo_lsF (xo_lvH hT) hL hl2) (xo_lvT hT)
theorem xo_iinc {i : Nat} {n : Int} {x v : Int32} {ls' : List (Nat × xo_V)} (hd : decode mt.2.1 pc = .ok (.iinc i n, 3)) (t : Nat) (ht : ls[t]? = some (i, .inl x)) (hv : x + Int32.ofInt n = v) (hi2 : i < mt.2.2.1) (hl2 : (i, (.inl v : xo_V)) :: ls.filter (fun q => !(q.1 == i)) = ls') (hp : pc + 3 = pc') (kk : xo_X mt rc rs j r pc' ls' st H k) : xo_X mt rc rs j r pc ls st H k := by
  intro hk p l e R s m args below meth c G A ad0 lv0 ad Hm locs cells slots lsA C0 hR hS hE hc hs hl hL hT
  subst hp
  exact lv_iinc (k := t) C0.1 C0.2.1 hd hl (by rw [List.getElem?_map, ht]; rfl) hv hi2 (xo_lsG hl2) fun ls2 hl2' => kk hk p l e R s m args below meth c G A ad0 lv0 ad Hm locs cells slots ls2 C0 hR hS hE hc hs hl2' (xo_lsF (xo_lvI H v) hL hl2) hT
def xo_pick (l : List (Nat × xo_V)) (ks : List Nat) : List (Nat × xo_V) := ks.filterMap (fun k => l[k]?)
theorem xo_sub {ls' : List (Nat × xo_V)} (ks : List Nat) (h : xo_pick ls ks = ls') (kk : xo_X mt rc rs j r pc ls' st H k) : xo_X mt rc rs j r pc ls st H k := by
  intro hk p l e R s m args below meth c G A ad0 lv0 ad Hm locs cells slots lsA C0 hR hS hE hc hs hl hL hT
  refine kk hk p l e R s m args below meth c G A ad0 lv0 ad Hm locs cells slots lsA C0 hR hS hE hc hs (lv_sub hl ks ?_) (fun q hq => ?_) hT
  · rw [← h]
    unfold lv_pick xo_pick
    rw [List.map_filterMap]
    congr 1
    funext k
    rw [List.getElem?_map]
  · rw [← h] at hq
    obtain ⟨k, -, hk⟩ := List.mem_filterMap.mp hq
    exact hL q (List.mem_of_getElem? hk)
theorem xo_dup {v : xo_V} (hd : decode mt.2.1 pc = .ok (.dup, 1)) (hp : pc + 1 = pc') (kk : xo_X mt rc rs j r pc' ls (v :: v :: st) H k) : xo_X mt rc rs j r pc ls (v :: st) H k := by
  intro hk p l e R s m args below meth c G A ad0 lv0 ad Hm locs cells slots lsA C0 hR hS hE hc hs hl hL hT
  subst hp
  exact lv_dup C0.1 C0.2.1 hd (xo_cat ad v) (kk hk p l e R s m args below meth c G A ad0 lv0 ad Hm locs cells slots lsA C0 hR hS hE hc hs hl hL (xo_lvC (xo_lvH hT) hT))
theorem xo_dup2 {v w : xo_V} (hd : decode mt.2.1 pc = .ok (.dup2, 1)) (hp : pc + 1 = pc') (kk : xo_X mt rc rs j r pc' ls (v :: w :: v :: w :: st) H k) : xo_X mt rc rs j r pc ls (v :: w :: st) H k := by
  intro hk p l e R s m args below meth c G A ad0 lv0 ad Hm locs cells slots lsA C0 hR hS hE hc hs hl hL hT
  subst hp
  exact lv_dup2_11 C0.1 C0.2.1 hd (xo_cat ad v) (xo_cat ad w) (kk hk p l e R s m args below meth c G A ad0 lv0 ad Hm locs cells slots lsA C0 hR hS hE hc hs hl hL (xo_lvC (xo_lvH hT) (xo_lvC (xo_lvH (xo_lvT hT)) hT)))
theorem xo_pop {v : xo_V} (hd : decode mt.2.1 pc = .ok (.pop, 1)) (hp : pc + 1 = pc') (kk : xo_X mt rc rs j r pc' ls st H k) : xo_X mt rc rs j r pc ls (v :: st) H k := by
  intro hk p l e R s m args below meth c G A ad0 lv0 ad Hm locs cells slots lsA C0 hR hS hE hc hs hl hL hT
  subst hp
  exact lv_pop C0.1 C0.2.1 hd (xo_cat ad v) (kk hk p l e R s m args below meth c G A ad0 lv0 ad Hm locs cells slots lsA C0 hR hS hE hc hs hl hL (xo_lvT hT))
theorem xo_iadd {x y : Int32} (hd : decode mt.2.1 pc = .ok (.iadd, 1)) (hp : pc + 1 = pc') (kk : xo_X mt rc rs j r pc' ls (.inl (x + y) :: st) H k) : xo_X mt rc rs j r pc ls (.inl y :: .inl x :: st) H k := by
  intro hk p l e R s m args below meth c G A ad0 lv0 ad Hm locs cells slots lsA C0 hR hS hE hc hs hl hL hT
  subst hp
  exact lv_iadd C0.1 C0.2.1 hd (kk hk p l e R s m args below meth c G A ad0 lv0 ad Hm locs cells slots lsA C0 hR hS hE hc hs hl hL (xo_lvC (xo_lvI H _) (xo_lvT (xo_lvT hT))))
theorem xo_isub {x y : Int32} (hd : decode mt.2.1 pc = .ok (.isub, 1)) (hp : pc + 1 = pc') (kk : xo_X mt rc rs j r pc' ls (.inl (x - y) :: st) H k) : xo_X mt rc rs j r pc ls (.inl y :: .inl x :: st) H k := by
  intro hk p l e R s m args below meth c G A ad0 lv0 ad Hm locs cells slots lsA C0 hR hS hE hc hs hl hL hT
  subst hp
  exact lv_isub C0.1 C0.2.1 hd (kk hk p l e R s m args below meth c G A ad0 lv0 ad Hm locs cells slots lsA C0 hR hS hE hc hs hl hL (xo_lvC (xo_lvI H _) (xo_lvT (xo_lvT hT))))
theorem xo_imul {x y : Int32} (hd : decode mt.2.1 pc = .ok (.imul, 1)) (hp : pc + 1 = pc') (kk : xo_X mt rc rs j r pc' ls (.inl (x * y) :: st) H k) : xo_X mt rc rs j r pc ls (.inl y :: .inl x :: st) H k := by
  intro hk p l e R s m args below meth c G A ad0 lv0 ad Hm locs cells slots lsA C0 hR hS hE hc hs hl hL hT
  subst hp
  exact lv_imul C0.1 C0.2.1 hd (kk hk p l e R s m args below meth c G A ad0 lv0 ad Hm locs cells slots lsA C0 hR hS hE hc hs hl hL (xo_lvC (xo_lvI H _) (xo_lvT (xo_lvT hT))))
theorem xo_iand {x y : Int32} (hd : decode mt.2.1 pc = .ok (.iand, 1)) (hp : pc + 1 = pc') (kk : xo_X mt rc rs j r pc' ls (.inl (x &&& y) :: st) H k) : xo_X mt rc rs j r pc ls (.inl y :: .inl x :: st) H k := by
  intro hk p l e R s m args below meth c G A ad0 lv0 ad Hm locs cells slots lsA C0 hR hS hE hc hs hl hL hT
  subst hp
  exact lv_iand C0.1 C0.2.1 hd (kk hk p l e R s m args below meth c G A ad0 lv0 ad Hm locs cells slots lsA C0 hR hS hE hc hs hl hL (xo_lvC (xo_lvI H _) (xo_lvT (xo_lvT hT))))
theorem xo_irem {x y : Int32} {K : Int32 → Option α} (hd : decode mt.2.1 pc = .ok (.irem, 1)) (hp : pc + 1 = pc') (kk : ∀ v, xo_X mt rc rs j r pc' ls (.inl v :: st) H (K v)) : xo_X mt rc rs j r pc ls (.inl y :: .inl x :: st) H (xo_rm x y K) := by
  intro hk p l e R s m args below meth c G A ad0 lv0 ad Hm locs cells slots lsA C0 hR hS hE hc hs hl hL hT
  subst hp
  unfold xo_rm at hk
  split at hk
  · cases hk
  next hy => exact lv_irem C0.1 C0.2.1 hd hy (kk _ hk p l e R s m args below meth c G A ad0 lv0 ad Hm locs cells slots lsA C0 hR hS hE hc hs hl hL (xo_lvC (xo_lvI H _) (xo_lvT (xo_lvT hT))))
theorem xo_goto {off : Int} (hd : decode mt.2.1 pc = .ok (.goto off, 3)) (ht : (pc : Int) + off = (pc' : Int)) (kk : xo_X mt rc rs j r pc' ls st H k) : xo_X mt rc rs j r pc ls st H k := by
  intro hk p l e R s m args below meth c G A ad0 lv0 ad Hm locs cells slots lsA C0 hR hS hE hc hs hl hL hT
  exact lv_goto C0.1 C0.2.1 hd ht (kk hk p l e R s m args below meth c G A ad0 lv0 ad Hm locs cells slots lsA C0 hR hS hE hc hs hl hL hT)
theorem xo_if_eq {x : Int32} {off : Int} {tgt : Nat} (hd : decode mt.2.1 pc = .ok (.ifCond .eq off, 3)) (ht : (pc : Int) + off = (tgt : Int)) (hp : pc + 3 = pc') (h1 : xo_X mt rc rs j r tgt ls st H kt) (h2 : xo_X mt rc rs j r pc' ls st H kf) : xo_X mt rc rs j r pc ls (.inl x :: st) H (if x = 0 then kt else kf) := by
  intro hk p l e R s m args below meth c G A ad0 lv0 ad Hm locs cells slots lsA C0 hR hS hE hc hs hl hL hT
  subst hp
  exact lv_if_eq C0.1 C0.2.1 hd ht (fun h => h1 (by rw [if_pos h] at hk; exact hk) p l e R s m args below meth c G A ad0 lv0 ad Hm locs cells slots lsA C0 hR hS hE hc hs hl hL (xo_lvT hT)) (fun h => h2 (by rw [if_neg h] at hk; exact hk) p l e R s m args below meth c G A ad0 lv0 ad Hm locs cells slots lsA C0 hR hS hE hc hs hl hL (xo_lvT hT))
theorem xo_if_ne {x : Int32} {off : Int} {tgt : Nat} (hd : decode mt.2.1 pc = .ok (.ifCond .ne off, 3)) (ht : (pc : Int) + off = (tgt : Int)) (hp : pc + 3 = pc') (h1 : xo_X mt rc rs j r tgt ls st H kt) (h2 : xo_X mt rc rs j r pc' ls st H kf) : xo_X mt rc rs j r pc ls (.inl x :: st) H (if x = 0 then kf else kt) := by
  intro hk p l e R s m args below meth c G A ad0 lv0 ad Hm locs cells slots lsA C0 hR hS hE hc hs hl hL hT
  subst hp
  exact lv_if_ne C0.1 C0.2.1 hd ht (fun h => h1 (by rw [if_neg h] at hk; exact hk) p l e R s m args below meth c G A ad0 lv0 ad Hm locs cells slots lsA C0 hR hS hE hc hs hl hL (xo_lvT hT)) (fun h => h2 (by rw [if_pos h] at hk; exact hk) p l e R s m args below meth c G A ad0 lv0 ad Hm locs cells slots lsA C0 hR hS hE hc hs hl hL (xo_lvT hT))
theorem xo_if_lt {x : Int32} {off : Int} {tgt : Nat} (hd : decode mt.2.1 pc = .ok (.ifCond .lt off, 3)) (ht : (pc : Int) + off = (tgt : Int)) (hp : pc + 3 = pc') (h1 : xo_X mt rc rs j r tgt ls st H kt) (h2 : xo_X mt rc rs j r pc' ls st H kf) : xo_X mt rc rs j r pc ls (.inl x :: st) H (if x < 0 then kt else kf) := by
  intro hk p l e R s m args below meth c G A ad0 lv0 ad Hm locs cells slots lsA C0 hR hS hE hc hs hl hL hT
  subst hp
  exact lv_if_lt C0.1 C0.2.1 hd ht (fun h => h1 (by rw [if_pos h] at hk; exact hk) p l e R s m args below meth c G A ad0 lv0 ad Hm locs cells slots lsA C0 hR hS hE hc hs hl hL (xo_lvT hT)) (fun h => h2 (by rw [if_neg h] at hk; exact hk) p l e R s m args below meth c G A ad0 lv0 ad Hm locs cells slots lsA C0 hR hS hE hc hs hl hL (xo_lvT hT))
theorem xo_if_ge {x : Int32} {off : Int} {tgt : Nat} (hd : decode mt.2.1 pc = .ok (.ifCond .ge off, 3)) (ht : (pc : Int) + off = (tgt : Int)) (hp : pc + 3 = pc') (h1 : xo_X mt rc rs j r tgt ls st H kt) (h2 : xo_X mt rc rs j r pc' ls st H kf) : xo_X mt rc rs j r pc ls (.inl x :: st) H (if x < 0 then kf else kt) := by
  intro hk p l e R s m args below meth c G A ad0 lv0 ad Hm locs cells slots lsA C0 hR hS hE hc hs hl hL hT
  subst hp
  exact lv_if_ge C0.1 C0.2.1 hd ht (fun h => h1 (by rw [if_neg (Int32.not_lt.mpr h)] at hk; exact hk) p l e R s m args below meth c G A ad0 lv0 ad Hm locs cells slots lsA C0 hR hS hE hc hs hl hL (xo_lvT hT)) (fun h => h2 (by rw [if_pos (Int32.not_le.mp h)] at hk; exact hk) p l e R s m args below meth c G A ad0 lv0 ad Hm locs cells slots lsA C0 hR hS hE hc hs hl hL (xo_lvT hT))
theorem xo_if_gt {x : Int32} {off : Int} {tgt : Nat} (hd : decode mt.2.1 pc = .ok (.ifCond .gt off, 3)) (ht : (pc : Int) + off = (tgt : Int)) (hp : pc + 3 = pc') (h1 : xo_X mt rc rs j r tgt ls st H kt) (h2 : xo_X mt rc rs j r pc' ls st H kf) : xo_X mt rc rs j r pc ls (.inl x :: st) H (if 0 < x then kt else kf) := by
  intro hk p l e R s m args below meth c G A ad0 lv0 ad Hm locs cells slots lsA C0 hR hS hE hc hs hl hL hT
  subst hp
  exact lv_if_gt C0.1 C0.2.1 hd ht (fun h => h1 (by rw [if_pos h] at hk; exact hk) p l e R s m args below meth c G A ad0 lv0 ad Hm locs cells slots lsA C0 hR hS hE hc hs hl hL (xo_lvT hT)) (fun h => h2 (by rw [if_neg h] at hk; exact hk) p l e R s m args below meth c G A ad0 lv0 ad Hm locs cells slots lsA C0 hR hS hE hc hs hl hL (xo_lvT hT))
theorem xo_if_le {x : Int32} {off : Int} {tgt : Nat} (hd : decode mt.2.1 pc = .ok (.ifCond .le off, 3)) (ht : (pc : Int) + off = (tgt : Int)) (hp : pc + 3 = pc') (h1 : xo_X mt rc rs j r tgt ls st H kt) (h2 : xo_X mt rc rs j r pc' ls st H kf) : xo_X mt rc rs j r pc ls (.inl x :: st) H (if 0 < x then kf else kt) := by
  intro hk p l e R s m args below meth c G A ad0 lv0 ad Hm locs cells slots lsA C0 hR hS hE hc hs hl hL hT
  subst hp
  exact lv_if_le C0.1 C0.2.1 hd ht (fun h => h1 (by rw [if_neg (Int32.not_lt.mpr h)] at hk; exact hk) p l e R s m args below meth c G A ad0 lv0 ad Hm locs cells slots lsA C0 hR hS hE hc hs hl hL (xo_lvT hT)) (fun h => h2 (by rw [if_pos (Int32.not_le.mp h)] at hk; exact hk) p l e R s m args below meth c G A ad0 lv0 ad Hm locs cells slots lsA C0 hR hS hE hc hs hl hL (xo_lvT hT))
theorem xo_icmp_eq {x y : Int32} {off : Int} {tgt : Nat} (hd : decode mt.2.1 pc = .ok (.if_icmp .eq off, 3)) (ht : (pc : Int) + off = (tgt : Int)) (hp : pc + 3 = pc') (h1 : xo_X mt rc rs j r tgt ls st H kt) (h2 : xo_X mt rc rs j r pc' ls st H kf) : xo_X mt rc rs j r pc ls (.inl y :: .inl x :: st) H (if x = y then kt else kf) := by
  intro hk p l e R s m args below meth c G A ad0 lv0 ad Hm locs cells slots lsA C0 hR hS hE hc hs hl hL hT
  subst hp
  exact lv_icmp_eq C0.1 C0.2.1 hd ht (fun h => h1 (by rw [if_pos h] at hk; exact hk) p l e R s m args below meth c G A ad0 lv0 ad Hm locs cells slots lsA C0 hR hS hE hc hs hl hL (xo_lvT (xo_lvT hT))) (fun h => h2 (by rw [if_neg h] at hk; exact hk) p l e R s m args below meth c G A ad0 lv0 ad Hm locs cells slots lsA C0 hR hS hE hc hs hl hL (xo_lvT (xo_lvT hT)))
theorem xo_icmp_ne {x y : Int32} {off : Int} {tgt : Nat} (hd : decode mt.2.1 pc = .ok (.if_icmp .ne off, 3)) (ht : (pc : Int) + off = (tgt : Int)) (hp : pc + 3 = pc') (h1 : xo_X mt rc rs j r tgt ls st H kt) (h2 : xo_X mt rc rs j r pc' ls st H kf) : xo_X mt rc rs j r pc ls (.inl y :: .inl x :: st) H (if x = y then kf else kt) := by
  intro hk p l e R s m args below meth c G A ad0 lv0 ad Hm locs cells slots lsA C0 hR hS hE hc hs hl hL hT
  subst hp
  exact lv_icmp_ne C0.1 C0.2.1 hd ht (fun h => h1 (by rw [if_neg h] at hk; exact hk) p l e R s m args below meth c G A ad0 lv0 ad Hm locs cells slots lsA C0 hR hS hE hc hs hl hL (xo_lvT (xo_lvT hT))) (fun h => h2 (by rw [if_pos h] at hk; exact hk) p l e R s m args below meth c G A ad0 lv0 ad Hm locs cells slots lsA C0 hR hS hE hc hs hl hL (xo_lvT (xo_lvT hT)))
theorem xo_icmp_lt {x y : Int32} {off : Int} {tgt : Nat} (hd : decode mt.2.1 pc = .ok (.if_icmp .lt off, 3)) (ht : (pc : Int) + off = (tgt : Int)) (hp : pc + 3 = pc') (h1 : xo_X mt rc rs j r tgt ls st H kt) (h2 : xo_X mt rc rs j r pc' ls st H kf) : xo_X mt rc rs j r pc ls (.inl y :: .inl x :: st) H (if x < y then kt else kf) := by
  intro hk p l e R s m args below meth c G A ad0 lv0 ad Hm locs cells slots lsA C0 hR hS hE hc hs hl hL hT
  subst hp
  exact lv_icmp_lt C0.1 C0.2.1 hd ht (fun h => h1 (by rw [if_pos h] at hk; exact hk) p l e R s m args below meth c G A ad0 lv0 ad Hm locs cells slots lsA C0 hR hS hE hc hs hl hL (xo_lvT (xo_lvT hT))) (fun h => h2 (by rw [if_neg h] at hk; exact hk) p l e R s m args below meth c G A ad0 lv0 ad Hm locs cells slots lsA C0 hR hS hE hc hs hl hL (xo_lvT (xo_lvT hT)))
theorem xo_icmp_ge {x y : Int32} {off : Int} {tgt : Nat} (hd : decode mt.2.1 pc = .ok (.if_icmp .ge off, 3)) (ht : (pc : Int) + off = (tgt : Int)) (hp : pc + 3 = pc') (h1 : xo_X mt rc rs j r tgt ls st H kt) (h2 : xo_X mt rc rs j r pc' ls st H kf) : xo_X mt rc rs j r pc ls (.inl y :: .inl x :: st) H (if x < y then kf else kt) := by
  intro hk p l e R s m args below meth c G A ad0 lv0 ad Hm locs cells slots lsA C0 hR hS hE hc hs hl hL hT
  subst hp
  exact lv_icmp_ge C0.1 C0.2.1 hd ht (fun h => h1 (by rw [if_neg (Int32.not_lt.mpr h)] at hk; exact hk) p l e R s m args below meth c G A ad0 lv0 ad Hm locs cells slots lsA C0 hR hS hE hc hs hl hL (xo_lvT (xo_lvT hT))) (fun h => h2 (by rw [if_pos (Int32.not_le.mp h)] at hk; exact hk) p l e R s m args below meth c G A ad0 lv0 ad Hm locs cells slots lsA C0 hR hS hE hc hs hl hL (xo_lvT (xo_lvT hT)))
theorem xo_icmp_gt {x y : Int32} {off : Int} {tgt : Nat} (hd : decode mt.2.1 pc = .ok (.if_icmp .gt off, 3)) (ht : (pc : Int) + off = (tgt : Int)) (hp : pc + 3 = pc') (h1 : xo_X mt rc rs j r tgt ls st H kt) (h2 : xo_X mt rc rs j r pc' ls st H kf) : xo_X mt rc rs j r pc ls (.inl y :: .inl x :: st) H (if y < x then kt else kf) := by
  intro hk p l e R s m args below meth c G A ad0 lv0 ad Hm locs cells slots lsA C0 hR hS hE hc hs hl hL hT
  subst hp
  exact lv_icmp_gt C0.1 C0.2.1 hd ht (fun h => h1 (by rw [if_pos h] at hk; exact hk) p l e R s m args below meth c G A ad0 lv0 ad Hm locs cells slots lsA C0 hR hS hE hc hs hl hL (xo_lvT (xo_lvT hT))) (fun h => h2 (by rw [if_neg h] at hk; exact hk) p l e R s m args below meth c G A ad0 lv0 ad Hm locs cells slots lsA C0 hR hS hE hc hs hl hL (xo_lvT (xo_lvT hT)))
theorem xo_icmp_le {x y : Int32} {off : Int} {tgt : Nat} (hd : decode mt.2.1 pc = .ok (.if_icmp .le off, 3)) (ht : (pc : Int) + off = (tgt : Int)) (hp : pc + 3 = pc') (h1 : xo_X mt rc rs j r tgt ls st H kt) (h2 : xo_X mt rc rs j r pc' ls st H kf) : xo_X mt rc rs j r pc ls (.inl y :: .inl x :: st) H (if y < x then kf else kt) := by
  intro hk p l e R s m args below meth c G A ad0 lv0 ad Hm locs cells slots lsA C0 hR hS hE hc hs hl hL hT
  subst hp
  exact lv_icmp_le C0.1 C0.2.1 hd ht (fun h => h1 (by rw [if_neg (Int32.not_lt.mpr h)] at hk; exact hk) p l e R s m args below meth c G A ad0 lv0 ad Hm locs cells slots lsA C0 hR hS hE hc hs hl hL (xo_lvT (xo_lvT hT))) (fun h => h2 (by rw [if_pos (Int32.not_le.mp h)] at hk; exact hk) p l e R s m args below meth c G A ad0 lv0 ad Hm locs cells slots lsA C0 hR hS hE hc hs hl hL (xo_lvT (xo_lvT hT)))
theorem xo_ifnull {x : Option xo_N} {off : Int} {tgt : Nat} (hd : decode mt.2.1 pc = .ok (.ifnull off, 3)) (ht : (pc : Int) + off = (tgt : Int)) (hp : pc + 3 = pc') (h1 : xo_X mt rc rs j r tgt ls st H kt) (h2 : xo_X mt rc rs j r pc' ls st H kf) : xo_X mt rc rs j r pc ls (.inr x :: st) H (if x = none then kt else kf) := by
  intro hk p l e R s m args below meth c G A ad0 lv0 ad Hm locs cells slots lsA C0 hR hS hE hc hs hl hL hT
  subst hp
  cases x with
  | none =>
    rw [if_pos rfl] at hk
    exact lv_ifnullN C0.1 C0.2.1 hd ht (h1 hk p l e R s m args below meth c G A ad0 lv0 ad Hm locs cells slots lsA C0 hR hS hE hc hs hl hL (xo_lvT hT))
  | some n =>
    rw [if_neg (fun z => by cases z)] at hk
    exact lv_ifnull C0.1 C0.2.1 hd (h2 hk p l e R s m args below meth c G A ad0 lv0 ad Hm locs cells slots lsA C0 hR hS hE hc hs hl hL (xo_lvT hT))
theorem xo_ifnonnull {x : Option xo_N} {off : Int} {tgt : Nat} (hd : decode mt.2.1 pc = .ok (.ifnonnull off, 3)) (ht : (pc : Int) + off = (tgt : Int)) (hp : pc + 3 = pc') (h1 : xo_X mt rc rs j r tgt ls st H kt) (h2 : xo_X mt rc rs j r pc' ls st H kf) : xo_X mt rc rs j r pc ls (.inr x :: st) H (if x = none then kf else kt) := by
  intro hk p l e R s m args below meth c G A ad0 lv0 ad Hm locs cells slots lsA C0 hR hS hE hc hs hl hL hT
  subst hp
  cases x with
  | none =>
    rw [if_pos rfl] at hk
    exact lv_ifnonnullN C0.1 C0.2.1 hd (h2 hk p l e R s m args below meth c G A ad0 lv0 ad Hm locs cells slots lsA C0 hR hS hE hc hs hl hL (xo_lvT hT))
  | some n =>
    rw [if_neg (fun z => by cases z)] at hk
    exact lv_ifnonnull C0.1 C0.2.1 hd ht (h1 hk p l e R s m args below meth c G A ad0 lv0 ad Hm locs cells slots lsA C0 hR hS hE hc hs hl hL (xo_lvT hT))
theorem xo_tsw {x : Int32} {dflt : Int} {offs : Array Int} {len d0 t0 t1 t2 : Nat} {o0 o1 o2 : Int} {k0 k1 k2 : Option α} (hd : decode mt.2.1 pc = .ok (.tableswitch dflt 0 2 offs, len)) (e0 : offs[0]? = some o0) (e1 : offs[1]? = some o1) (e2 : offs[2]? = some o2) (hd0 : (pc : Int) + dflt = (d0 : Int)) (ht0 : (pc : Int) + o0 = (t0 : Int)) (ht1 : (pc : Int) + o1 = (t1 : Int)) (ht2 : (pc : Int) + o2 = (t2 : Int)) (h0 : xo_X mt rc rs j r t0 ls st H k0) (h1 : xo_X mt rc rs j r t1 ls st H k1) (h2 : xo_X mt rc rs j r t2 ls st H k2) (h3 : xo_X mt rc rs j r d0 ls st H kf) : xo_X mt rc rs j r pc ls (.inl x :: st) H (if x = 0 then k0 else if x = 1 then k1 else if x = 2 then k2 else kf) := by
  intro hk p l e R s m args below meth c G A ad0 lv0 ad Hm locs cells slots lsA C0 hR hS hE hc hs hl hL hT
  by_cases c0 : x = 0
  · subst c0
    rw [if_pos rfl] at hk
    exact lv_tableIn C0.1 C0.2.1 hd (by decide) (by decide) e0 ht0 (h0 hk p l e R s m args below meth c G A ad0 lv0 ad Hm locs cells slots lsA C0 hR hS hE hc hs hl hL (xo_lvT hT))
  rw [if_neg c0] at hk
  by_cases c1 : x = 1
  · subst c1
    rw [if_pos rfl] at hk
    exact lv_tableIn C0.1 C0.2.1 hd (by decide) (by decide) e1 ht1 (h1 hk p l e R s m args below meth c G A ad0 lv0 ad Hm locs cells slots lsA C0 hR hS hE hc hs hl hL (xo_lvT hT))
  rw [if_neg c1] at hk
  by_cases c2 : x = 2
  · subst c2
    rw [if_pos rfl] at hk
    exact lv_tableIn C0.1 C0.2.1 hd (by decide) (by decide) e2 ht2 (h2 hk p l e R s m args below meth c G A ad0 lv0 ad Hm locs cells slots lsA C0 hR hS hE hc hs hl hL (xo_lvT hT))
  rw [if_neg c2] at hk
  refine lv_tableOut C0.1 C0.2.1 hd ?_ hd0 (h3 hk p l e R s m args below meth c G A ad0 lv0 ad Hm locs cells slots lsA C0 hR hS hE hc hs hl hL (xo_lvT hT))
  rcases Int.lt_or_le x.toInt 0 with h | h
  · exact Or.inl h
  · right
    have n0 : x.toInt ≠ 0 := fun z => c0 (Int32.toInt_inj.mp z)
    have n1 : x.toInt ≠ 1 := fun z => c1 (Int32.toInt_inj.mp z)
    have n2 : x.toInt ≠ 2 := fun z => c2 (Int32.toInt_inj.mp z)
    omega
end XR
end
section
/-- a field of class ci by the pool number ix of the class own -/
def xo_fd (own : String) (ix ci q : Nat) (d : String) (fin : Bool) : Prop := ∃ (C : String) (T : u_T) (N : Nat) (ty : Nat → FieldType), xo_cb ci C T N ty ∧ xo_lk own ix C (T q).2.1 (T q).2.2.1 ∧ q < N ∧ (T q).1 = C ∧ (T q).2.2.1 = d ∧ (T q).2.2.2 = fin
def xo_fF (own : String) (ix ci q : Nat) (d : String) : Prop := ∃ (C : String) (T : u_T) (N : Nat) (ty : Nat → FieldType), xo_cb ci C T N ty ∧ Cond.fieldLink own ix C (T q).2.1 (T q).2.2.1 ∈ xo_WS ∧ q < N ∧ (T q).1 = C ∧ (T q).2.2.1 = d ∧ (T q).2.2.2 = true ∧ own = C
def xo_cO (own : String) (ix ci N : Nat) : Prop := ∃ (C : String) (T : u_T) (ty : Nat → FieldType), xo_cb ci C T N ty ∧ (∀ k, k < N → xo_fv (fun _ => 0) (T k).2.2.1 0 none = defaultValue (ty k)) ∧ Cond.classLink own ix C ∈ xo_WS ∧ Cond.instantiable C N ∈ xo_WS ∧ Cond.initialized C ∈ xo_WS
def xo_isR (tq : FieldType) : Prop := (∃ n, tq = .object n) ∨ ∃ t, tq = .array t
theorem xo_nref {tq : FieldType} (h : xo_isR tq) (o : Option Nat) : narrow tq (va_rf o) = va_rf o ∧ fits tq (va_rf o) = true := by
  rcases h with ⟨n, rfl⟩ | ⟨t, rfl⟩ <;> cases o <;> exact ⟨rfl, rfl⟩
section XC
variable {α : Type} {mt : xo_T} {rc rs rc' rs' : Nat} {j : α → Option xo_V × xo_H} {r : α} {pc pc' ix ci q t N : Nat} {ls : List (Nat × xo_V)} {st : List xo_V} {H : xo_H} {k : Option α} {o : Option xo_N} {d : String} {fin : Bool} {n : xo_N} {i v : Int32}
theorem xo_getI {K : Int32 → Option α} (hd : decode mt.2.1 pc = .ok (.getfield ix, 3)) (hf : xo_fd mt.1.cls ix ci q d fin) (hI : d = "I" ∨ d = "Z") (hp : pc + 3 = pc') (kk : ∀ v, xo_X mt rc rs j r pc' ls (.inl v :: st) H (K v)) : xo_X mt rc rs j r pc ls (.inr o :: st) H (xo_gf ci q H o K) := by
  intro hk p l e R s m args below meth c G A ad0 lv0 ad Hm locs cells slots lsA C0 hR hS hE hc hs hl hL hT
  subst hp
  cases o with
  | none => cases hk
  | some n =>
    have hn := xo_lvH hT n rfl
    simp only [xo_gf, Option.bind_some] at hk
    split at hk
    next hkd =>
      obtain ⟨C, T, N, ty, hcb, hlk, hq, hT1, hd1, -⟩ := hf
      refine xo_Wget C0 hcb hlk hq hT1 hR hn hkd hd ?_
      have ev : xo_fv ad (T q).2.2.1 (H.1 n q) (H.2.1 n q) = .int (H.1 n q) := by unfold xo_fv; rw [hd1, if_pos hI]
      rw [ev]
      exact kk _ hk p l e R s m args below meth c G A ad0 lv0 ad Hm locs cells slots lsA C0 hR hS hE hc hs hl hL (xo_lvC (xo_lvI H _) (xo_lvT hT))
    next => cases hk
theorem xo_getP {K : Option xo_N → Option α} (hd : decode mt.2.1 pc = .ok (.getfield ix, 3)) (hf : xo_fd mt.1.cls ix ci q d fin) (hI : ¬ (d = "I" ∨ d = "Z")) (hp : pc + 3 = pc') (kk : ∀ v, xo_X mt rc rs j r pc' ls (.inr v :: st) H (K v)) : xo_X mt rc rs j r pc ls (.inr o :: st) H (xo_gp ci q H o K) := by
  intro hk p l e R s m args below meth c G A ad0 lv0 ad Hm locs cells slots lsA C0 hR hS hE hc hs hl hL hT
  subst hp
  cases o with
  | none => cases hk
  | some n =>
    have hn := xo_lvH hT n rfl
    simp only [xo_gp, Option.bind_some] at hk
    split at hk
    next hkd =>
      obtain ⟨C, T, N, ty, hcb, hlk, hq, hT1, hd1, -⟩ := hf
      refine xo_Wget C0 hcb hlk hq hT1 hR hn hkd hd ?_
      have ev : xo_fv ad (T q).2.2.1 (H.1 n q) (H.2.1 n q) = va_rf ((H.2.1 n q).map ad) := by unfold xo_fv; rw [hd1, if_neg hI]
      rw [ev]
      exact kk _ hk p l e R s m args below meth c G A ad0 lv0 ad Hm locs cells slots lsA C0 hR hS hE hc hs hl hL (xo_lvC (fun z hz => hR.2.2 n q z hn (Sum.inr.inj hz)) (xo_lvT hT))
    next => cases hk
theorem xo_putI {K : xo_H → Option α} (hd : decode mt.2.1 pc = .ok (.putfield ix, 3)) (hf : xo_fd mt.1.cls ix ci q "I" false) (hp : pc + 3 = pc') (kk : ∀ H, xo_X mt rc rs j r pc' ls st H (K H)) : xo_X mt rc rs j r pc ls (.inl v :: .inr o :: st) H (xo_pf ci q H o v K) := by
  intro hk p l e R s m args below meth c G A ad0 lv0 ad Hm locs cells slots lsA C0 hR hS hE hc hs hl hL hT
  subst hp
  cases o with
  | none => cases hk
  | some n =>
    have hn := xo_lvH (xo_lvT hT) n rfl
    simp only [xo_pf, Option.bind_some] at hk
    split at hk
    next hkd =>
      obtain ⟨C, T, N, ty, hcb, hlk, hq, hT1, hd1, hfin⟩ := hf
      have hty : ty q = .int := by
        have h1 := hcb.2.2.1 q hq
        rw [hd1] at h1
        exact (Option.some.inj ((by decide +kernel : parseFieldDescriptor "I" = some .int).symm.trans h1)).symm
      exact xo_Wput (H' := xo_sE H n q v) C0 hcb hlk hq hT1 hfin hR hS hn hkd hd (by rw [hty]; rfl) (by rw [hty]; rfl) rfl (xo_sE_ne H n q v) (fun _ _ _ => rfl) (by unfold xo_fv; rw [hd1, xo_sE_eq]; rfl) (fun z hz => hR.2.2 n q z hn hz)
        fun Hm1 locs1 hR1 hS1 => kk _ hk p l e R s m args below meth c G A ad0 lv0 ad Hm1 locs1 cells slots lsA C0 hR1 hS1 hE hc hs hl hL (xo_lvT (xo_lvT hT))
    next => cases hk
theorem xo_putZ {K : xo_H → Option α} (hd : decode mt.2.1 pc = .ok (.putfield ix, 3)) (hf : xo_fd mt.1.cls ix ci q "Z" false) (hp : pc + 3 = pc') (kk : ∀ H, xo_X mt rc rs j r pc' ls st H (K H)) : xo_X mt rc rs j r pc ls (.inl v :: .inr o :: st) H (xo_pz ci q H o v K) := by
  intro hk p l e R s m args below meth c G A ad0 lv0 ad Hm locs cells slots lsA C0 hR hS hE hc hs hl hL hT
  subst hp
  cases o with
  | none => cases hk
  | some n =>
    have hn := xo_lvH (xo_lvT hT) n rfl
    simp only [xo_pz, Option.bind_some] at hk
    split at hk
    next hkd =>
      obtain ⟨hkd, hv⟩ := hkd
      obtain ⟨C, T, N, ty, hcb, hlk, hq, hT1, hd1, hfin⟩ := hf
      have hty : ty q = .boolean := by
        have h1 := hcb.2.2.1 q hq
        rw [hd1] at h1
        exact (Option.some.inj ((by decide +kernel : parseFieldDescriptor "Z" = some .boolean).symm.trans h1)).symm
      exact xo_Wput (H' := xo_sE H n q v) C0 hcb hlk hq hT1 hfin hR hS hn hkd hd (by rw [hty]; exact (xo_nz hv).1) (by rw [hty]; exact (xo_nz hv).2) rfl (xo_sE_ne H n q v) (fun _ _ _ => rfl) (by unfold xo_fv; rw [hd1, xo_sE_eq]; rfl) (fun z hz => hR.2.2 n q z hn hz)
        fun Hm1 locs1 hR1 hS1 => kk _ hk p l e R s m args below meth c G A ad0 lv0 ad Hm1 locs1 cells slots lsA C0 hR1 hS1 hE hc hs hl hL (xo_lvT (xo_lvT hT))
    next => cases hk
theorem xo_putP {K : xo_H → Option α} {w : Option xo_N} {tq : FieldType} (hd : decode mt.2.1 pc = .ok (.putfield ix, 3)) (hf : xo_fd mt.1.cls ix ci q d false) (hI : ¬ (d = "I" ∨ d = "Z")) (hpd : parseFieldDescriptor d = some tq) (htq : xo_isR tq) (hp : pc + 3 = pc') (kk : ∀ H, xo_X mt rc rs j r pc' ls st H (K H)) : xo_X mt rc rs j r pc ls (.inr w :: .inr o :: st) H (xo_pp ci q H o w K) := by
  intro hk p l e R s m args below meth c G A ad0 lv0 ad Hm locs cells slots lsA C0 hR hS hE hc hs hl hL hT
  subst hp
  cases o with
  | none => cases hk
  | some n =>
    have hn := xo_lvH (xo_lvT hT) n rfl
    simp only [xo_pp, Option.bind_some] at hk
    split at hk
    next hkd =>
      obtain ⟨C, T, N, ty, hcb, hlk, hq, hT1, hd1, hfin⟩ := hf
      have hty : ty q = tq := by
        have h1 := hcb.2.2.1 q hq
        rw [hd1] at h1
        exact (Option.some.inj (hpd.symm.trans h1)).symm
      exact xo_Wput (H' := xo_sP H n q w) (v := va_rf (w.map ad)) C0 hcb hlk hq hT1 hfin hR hS hn hkd hd (by rw [hty]; exact (xo_nref htq _).1) (by rw [hty]; exact (xo_nref htq _).2) rfl (fun _ _ _ => rfl) (xo_sP_ne H n q w) (by unfold xo_fv; rw [hd1, xo_sP_eq, if_neg hI]) (fun z hz => by rw [xo_sP_eq] at hz; subst hz; exact xo_lvH hT z rfl)
        fun Hm1 locs1 hR1 hS1 => kk _ hk p l e R s m args below meth c G A ad0 lv0 ad Hm1 locs1 cells slots lsA C0 hR1 hS1 hE hc hs hl hL (xo_lvT (xo_lvT hT))
    next => cases hk
theorem xo_putIF {K : xo_H → Option α} (hd : decode mt.2.1 pc = .ok (.putfield ix, 3)) (hf : xo_fF mt.1.cls ix ci q "I") (hin : mt.1.name = "<init>") (hp : pc + 3 = pc') (kk : ∀ H, xo_X mt rc rs j r pc' ls st H (K H)) : xo_X mt rc rs j r pc ls (.inl v :: .inr o :: st) H (xo_pf ci q H o v K) := by
  intro hk p l e R s m args below meth c G A ad0 lv0 ad Hm locs cells slots lsA C0 hR hS hE hc hs hl hL hT
  subst hp
  cases o with
  | none => cases hk
  | some n =>
    have hn := xo_lvH (xo_lvT hT) n rfl
    simp only [xo_pf, Option.bind_some] at hk
    split at hk
    next hkd =>
      obtain ⟨C, T, N, ty, hcb, hlk, hq, hT1, hd1, hfin, hoc⟩ := hf
      have hty : ty q = .int := by
        have h1 := hcb.2.2.1 q hq
        rw [hd1] at h1
        exact (Option.some.inj ((by decide +kernel : parseFieldDescriptor "I" = some .int).symm.trans h1)).symm
      exact xo_WputF (H' := xo_sE H n q v) C0 hcb hlk hq hT1 hfin hin hoc hR hS hn hkd hd (by rw [hty]; rfl) (by rw [hty]; rfl) rfl (xo_sE_ne H n q v) (fun _ _ _ => rfl) (by unfold xo_fv; rw [hd1, xo_sE_eq]; rfl) (fun z hz => hR.2.2 n q z hn hz)
        fun Hm1 locs1 hR1 hS1 => kk _ hk p l e R s m args below meth c G A ad0 lv0 ad Hm1 locs1 cells slots lsA C0 hR1 hS1 hE hc hs hl hL (xo_lvT (xo_lvT hT))
    next => cases hk
theorem xo_putZF {K : xo_H → Option α} (hd : decode mt.2.1 pc = .ok (.putfield ix, 3)) (hf : xo_fF mt.1.cls ix ci q "Z") (hin : mt.1.name = "<init>") (hp : pc + 3 = pc') (kk : ∀ H, xo_X mt rc rs j r pc' ls st H (K H)) : xo_X mt rc rs j r pc ls (.inl v :: .inr o :: st) H (xo_pz ci q H o v K) := by
  intro hk p l e R s m args below meth c G A ad0 lv0 ad Hm locs cells slots lsA C0 hR hS hE hc hs hl hL hT
  subst hp
  cases o with
  | none => cases hk
  | some n =>
    have hn := xo_lvH (xo_lvT hT) n rfl
    simp only [xo_pz, Option.bind_some] at hk
    split at hk
    next hkd =>
      obtain ⟨hkd, hv⟩ := hkd
      obtain ⟨C, T, N, ty, hcb, hlk, hq, hT1, hd1, hfin, hoc⟩ := hf
      have hty : ty q = .boolean := by
        have h1 := hcb.2.2.1 q hq
        rw [hd1] at h1
        exact (Option.some.inj ((by decide +kernel : parseFieldDescriptor "Z" = some .boolean).symm.trans h1)).symm
      exact xo_WputF (H' := xo_sE H n q v) C0 hcb hlk hq hT1 hfin hin hoc hR hS hn hkd hd (by rw [hty]; exact (xo_nz hv).1) (by rw [hty]; exact (xo_nz hv).2) rfl (xo_sE_ne H n q v) (fun _ _ _ => rfl) (by unfold xo_fv; rw [hd1, xo_sE_eq]; rfl) (fun z hz => hR.2.2 n q z hn hz)
        fun Hm1 locs1 hR1 hS1 => kk _ hk p l e R s m args below meth c G A ad0 lv0 ad Hm1 locs1 cells slots lsA C0 hR1 hS1 hE hc hs hl hL (xo_lvT (xo_lvT hT))
    next => cases hk
theorem xo_putPF {K : xo_H → Option α} {w : Option xo_N} {tq : FieldType} (hd : decode mt.2.1 pc = .ok (.putfield ix, 3)) (hf : xo_fF mt.1.cls ix ci q d) (hin : mt.1.name = "<init>") (hI : ¬ (d = "I" ∨ d = "Z")) (hpd : parseFieldDescriptor d = some tq) (htq : xo_isR tq) (hp : pc + 3 = pc') (kk : ∀ H, xo_X mt rc rs j r pc' ls st H (K H)) : xo_X mt rc rs j r pc ls (.inr w :: .inr o :: st) H (xo_pp ci q H o w K) := by
  intro hk p l e R s m args below meth c G A ad0 lv0 ad Hm locs cells slots lsA C0 hR hS hE hc hs hl hL hT
  subst hp
  cases o with
  | none => cases hk
  | some n =>
    have hn := xo_lvH (xo_lvT hT) n rfl
    simp only [xo_pp, Option.bind_some] at hk
    split at hk
    next hkd =>
      obtain ⟨C, T, N, ty, hcb, hlk, hq, hT1, hd1, hfin, hoc⟩ := hf
      have hty : ty q = tq := by
        have h1 := hcb.2.2.1 q hq
        rw [hd1] at h1
        exact (Option.some.inj (hpd.symm.trans h1)).symm
      exact xo_WputF (H' := xo_sP H n q w) (v := va_rf (w.map ad)) C0 hcb hlk hq hT1 hfin hin hoc hR hS hn hkd hd (by rw [hty]; exact (xo_nref htq _).1) (by rw [hty]; exact (xo_nref htq _).2) rfl (fun _ _ _ => rfl) (xo_sP_ne H n q w) (by unfold xo_fv; rw [hd1, xo_sP_eq, if_neg hI]) (fun z hz => by rw [xo_sP_eq] at hz; subst hz; exact xo_lvH hT z rfl)
        fun Hm1 locs1 hR1 hS1 => kk _ hk p l e R s m args below meth c G A ad0 lv0 ad Hm1 locs1 cells slots lsA C0 hR1 hS1 hE hc hs hl hL (xo_lvT (xo_lvT hT))
    next => cases hk
/-! arrays -/
theorem xo_iald {K : Int32 → Option α} (hd : decode mt.2.1 pc = .ok (.iaload, 1)) (hp : pc + 1 = pc') (kk : ∀ v, xo_X mt rc rs j r pc' ls (.inl v :: st) H (K v)) : xo_X mt rc rs j r pc ls (.inl i :: .inr o :: st) H (xo_al 0 H o i K) := by
  intro hk p l e R s m args below meth c G A ad0 lv0 ad Hm locs cells slots lsA C0 hR hS hE hc hs hl hL hT
  subst hp
  cases o with
  | none => cases hk
  | some n =>
    have hn := xo_lvH (xo_lvT hT) n rfl
    simp only [xo_al, Option.bind_some] at hk
    split at hk
    next hin => exact xo_Wiald C0 hR hn hin hd (kk _ hk p l e R s m args below meth c G A ad0 lv0 ad Hm locs cells slots lsA C0 hR hS hE hc hs hl hL (xo_lvC (xo_lvI H _) (xo_lvT (xo_lvT hT))))
    next => cases hk
theorem xo_zald {K : Int32 → Option α} (hd : decode mt.2.1 pc = .ok (.baload, 1)) (hp : pc + 1 = pc') (kk : ∀ v, xo_X mt rc rs j r pc' ls (.inl v :: st) H (K v)) : xo_X mt rc rs j r pc ls (.inl i :: .inr o :: st) H (xo_al 1 H o i K) := by
  intro hk p l e R s m args below meth c G A ad0 lv0 ad Hm locs cells slots lsA C0 hR hS hE hc hs hl hL hT
  subst hp
  cases o with
  | none => cases hk
  | some n =>
    have hn := xo_lvH (xo_lvT hT) n rfl
    simp only [xo_al, Option.bind_some] at hk
    split at hk
    next hin => exact xo_Wzald C0 hR hn hin hd (kk _ hk p l e R s m args below meth c G A ad0 lv0 ad Hm locs cells slots lsA C0 hR hS hE hc hs hl hL (xo_lvC (xo_lvI H _) (xo_lvT (xo_lvT hT))))
    next => cases hk
theorem xo_aald {K : Option xo_N → Option α} (hd : decode mt.2.1 pc = .ok (.aaload, 1)) (ht : 2 ≤ t ∧ t < 5) (hp : pc + 1 = pc') (kk : ∀ v, xo_X mt rc rs j r pc' ls (.inr v :: st) H (K v)) : xo_X mt rc rs j r pc ls (.inl i :: .inr o :: st) H (xo_ap t H o i K) := by
  intro hk p l e R s m args below meth c G A ad0 lv0 ad Hm locs cells slots lsA C0 hR hS hE hc hs hl hL hT
  subst hp
  cases o with
  | none => cases hk
  | some n =>
    have hn := xo_lvH (xo_lvT hT) n rfl
    simp only [xo_ap, Option.bind_some] at hk
    split at hk
    next hin => exact xo_Waald C0 hR hn ht hin hd (kk _ hk p l e R s m args below meth c G A ad0 lv0 ad Hm locs cells slots lsA C0 hR hS hE hc hs hl hL (xo_lvC (fun z hz => hR.2.2 n _ z hn (Sum.inr.inj hz)) (xo_lvT (xo_lvT hT))))
    next => cases hk
theorem xo_alen {K : Int32 → Option α} (hd : decode mt.2.1 pc = .ok (.arraylength, 1)) (hp : pc + 1 = pc') (kk : ∀ v, xo_X mt rc rs j r pc' ls (.inl v :: st) H (K v)) : xo_X mt rc rs j r pc ls (.inr o :: st) H (xo_ln o K) := by
  intro hk p l e R s m args below meth c G A ad0 lv0 ad Hm locs cells slots lsA C0 hR hS hE hc hs hl hL hT
  subst hp
  cases o with
  | none => cases hk
  | some n =>
    have hn := xo_lvH hT n rfl
    simp only [xo_ln, Option.bind_some] at hk
    split at hk
    next => cases hk
    next a hkd =>
      split at hk
      next h5 => exact xo_Walen (t := a.1) (N := a.2) C0 hR hn h5 hkd hd (kk _ hk p l e R s m args below meth c G A ad0 lv0 ad Hm locs cells slots lsA C0 hR hS hE hc hs hl hL (xo_lvC (xo_lvI H _) (xo_lvT hT)))
      next => cases hk
theorem xo_iast {K : xo_H → Option α} (hd : decode mt.2.1 pc = .ok (.iastore, 1)) (hp : pc + 1 = pc') (kk : ∀ H, xo_X mt rc rs j r pc' ls st H (K H)) : xo_X mt rc rs j r pc ls (.inl v :: .inl i :: .inr o :: st) H (xo_as H o i v K) := by
  intro hk p l e R s m args below meth c G A ad0 lv0 ad Hm locs cells slots lsA C0 hR hS hE hc hs hl hL hT
  subst hp
  cases o with
  | none => cases hk
  | some n =>
    have hn := xo_lvH (xo_lvT (xo_lvT hT)) n rfl
    simp only [xo_as, Option.bind_some] at hk
    split at hk
    next hin => exact xo_Wiast C0 hR hS hn hin hd fun Hm1 locs1 hR1 hS1 => kk _ hk p l e R s m args below meth c G A ad0 lv0 ad Hm1 locs1 cells slots lsA C0 hR1 hS1 hE hc hs hl hL (xo_lvT (xo_lvT (xo_lvT hT)))
    next => cases hk
theorem xo_zast {K : xo_H → Option α} (hd : decode mt.2.1 pc = .ok (.bastore, 1)) (hp : pc + 1 = pc') (kk : ∀ H, xo_X mt rc rs j r pc' ls st H (K H)) : xo_X mt rc rs j r pc ls (.inl v :: .inl i :: .inr o :: st) H (xo_az H o i v K) := by
  intro hk p l e R s m args below meth c G A ad0 lv0 ad Hm locs cells slots lsA C0 hR hS hE hc hs hl hL hT
  subst hp
  cases o with
  | none => cases hk
  | some n =>
    have hn := xo_lvH (xo_lvT (xo_lvT hT)) n rfl
    simp only [xo_az, Option.bind_some] at hk
    split at hk
    next hin => exact xo_Wzast C0 hR hS hn hin.1 hin.2 hd fun Hm1 locs1 hR1 hS1 => kk _ hk p l e R s m args below meth c G A ad0 lv0 ad Hm1 locs1 cells slots lsA C0 hR1 hS1 hE hc hs hl hL (xo_lvT (xo_lvT (xo_lvT hT)))
    next => cases hk
theorem xo_aast {K : xo_H → Option α} {w : Option xo_N} {C : String} {T : u_T} (hd : decode mt.2.1 pc = .ok (.aastore, 1)) (ht : 2 ≤ t ∧ t < 5) (hcl : xo_cls[ci]? = some (C, T, N)) (htn : xo_tn t = C) (hp : pc + 1 = pc') (kk : ∀ H, xo_X mt rc rs j r pc' ls st H (K H)) : xo_X mt rc rs j r pc ls (.inr w :: .inl i :: .inr o :: st) H (xo_aq t ci H o i w K) := by
  intro hk p l e R s m args below meth c G A ad0 lv0 ad Hm locs cells slots lsA C0 hR hS hE hc hs hl hL hT
  subst hp
  cases o with
  | none => cases hk
  | some n =>
    have hn := xo_lvH (xo_lvT (xo_lvT hT)) n rfl
    cases w with
    | none => cases hk
    | some z =>
      have hz := xo_lvH hT z rfl
      simp only [xo_aq, Option.bind_some] at hk
      split at hk
      next hin => exact xo_Waast C0 hR hS hn hz ht hin.1 hin.2 hcl htn hd fun Hm1 locs1 hR1 hS1 => kk _ hk p l e R s m args below meth c G A ad0 lv0 ad Hm1 locs1 cells slots lsA C0 hR1 hS1 hE hc hs hl hL (xo_lvT (xo_lvT (xo_lvT hT)))
      next => cases hk
/-! new cells -/
theorem xo_sN_up (H : xo_H) (n : xo_N) : ∀ m, H.2.2 m = true → (xo_sN H n).2.2 m = true := fun m hm => by
  by_cases e : m = n
  · simp [xo_sN, e]
  · simp [xo_sN, e, hm]
theorem xo_sN_me (H : xo_H) (n : xo_N) : (xo_sN H n).2.2 n = true := by simp [xo_sN]
theorem xo_ua_l {H : xo_H} {n : xo_N} (hn : H.2.2 n = false) (ad : xo_N → Nat) (a : Nat) : ∀ m, H.2.2 m = true → xo_ua ad n a m = ad m := fun m hm => xo_ua_n ad a fun e => by rw [e, hn] at hm; cases hm
theorem xo_new {K : xo_H → Option α} (hd : decode mt.2.1 pc = .ok (.new ix, 3)) (hw : xo_cO mt.1.cls ix ci N) (hrc : rc' + 1 = rc) (hrs : rs' + N = rs) (hp : pc + 3 = pc') (kk : ∀ H, xo_X mt rc' rs' j r pc' ls (.inr (some n) :: st) H (K H)) : xo_X mt rc rs j r pc ls st H (xo_nw ci H n K) := by
  intro hk p l e R s m args below meth c G A ad0 lv0 ad Hm locs cells slots lsA C0 hR hS hE hc hs hl hL hT
  subst hp
  unfold xo_nw at hk
  split at hk
  next hn =>
    obtain ⟨hn, hkd⟩ := hn
    obtain ⟨C, T, ty, hcb, hdef, w1, w2, w3⟩ := hw
    have he := xo_ua_l hn ad Hm.size
    refine xo_Wnew C0 hcb hdef w1 w2 w3 hR hS hn hkd (by omega) (by omega) hd fun Hm1 hR1 hS1 => ?_
    have hst : st.map (xo_tr ad) = st.map (xo_tr (xo_ua ad n Hm.size)) := (xo_stEq he hT).symm
    rw [hst]
    exact kk _ hk p l e R s m args below meth c G A ad0 lv0 (xo_ua ad n Hm.size) Hm1 locs (cells + 1) (slots + N) lsA C0 hR1 hS1 (fun z hz => ⟨(he z (hE z hz).2).trans (hE z hz).1, xo_sN_up H n z (hE z hz).2⟩) (by omega) (by omega) (by rw [xo_lsEq he hL]; exact hl) (fun z hz => xo_lvUp (xo_sN_up H n) (hL z hz)) (xo_lvC (fun z hz => by cases hz; exact xo_sN_me H n) fun z hz => xo_lvUp (xo_sN_up H n) (hT z hz))
  next => cases hk
theorem xo_newa {K : xo_H → Option α} {atype : ArrayType} (hd : decode mt.2.1 pc = .ok (.newarray atype, 2)) (hty : newarray.typeOf atype = xo_ta t) (ht : t < 2) (hw : Cond.arrayClass (xo_ta t) ∈ xo_WS) (hN : N < 65536) (hrc : rc' + 1 = rc) (hrs : rs' + N = rs) (hp : pc + 2 = pc') (kk : ∀ H, xo_X mt rc' rs' j r pc' ls (.inr (some n) :: st) H (K H)) : xo_X mt rc rs j r pc ls (.inl v :: st) H (xo_na t H n N v K) := by
  intro hk p l e R s m args below meth c G A ad0 lv0 ad Hm locs cells slots lsA C0 hR hS hE hc hs hl hL hT
  subst hp
  unfold xo_na at hk
  split at hk
  next => cases hk
  next a hka =>
  obtain ⟨t', N'⟩ := a
  simp only at hk
  split at hk
  next hn =>
    obtain ⟨hn, ht', hv, hN'⟩ := hn
    subst hv
    subst ht'
    have hkd : xo_kd n = .inr (t', N') := hka
    have he := xo_ua_l hn ad Hm.size
    have hT := xo_lvT hT
    refine xo_Wnewa C0 hty ht hw hR hS hn hkd (Nat.lt_of_le_of_lt hN' hN) (by omega) (by omega) hd fun Hm1 hR1 hS1 => ?_
    have hst : st.map (xo_tr ad) = st.map (xo_tr (xo_ua ad n Hm.size)) := (xo_stEq he hT).symm
    rw [hst]
    exact kk _ hk p l e R s m args below meth c G A ad0 lv0 (xo_ua ad n Hm.size) Hm1 locs (cells + 1) (slots + N') lsA C0 hR1 hS1 (fun z hz => ⟨(he z (hE z hz).2).trans (hE z hz).1, xo_sN_up H n z (hE z hz).2⟩) (by omega) (by omega) (by rw [xo_lsEq he hL]; exact hl) (fun z hz => xo_lvUp (xo_sN_up H n) (hL z hz)) (xo_lvC (fun z hz => by cases hz; exact xo_sN_me H n) fun z hz => xo_lvUp (xo_sN_up H n) (hT z hz))
  next => cases hk
theorem xo_anew {K : xo_H → Option α} (hd : decode mt.2.1 pc = .ok (.anewarray ix, 3)) (ht : 2 ≤ t ∧ t < 5) (hw : Cond.classLink mt.1.cls ix (xo_tn t) ∈ xo_WS) (hN : N < 65536) (hrc : rc' + 1 = rc) (hrs : rs' + N = rs) (hp : pc + 3 = pc') (kk : ∀ H, xo_X mt rc' rs' j r pc' ls (.inr (some n) :: st) H (K H)) : xo_X mt rc rs j r pc ls (.inl v :: st) H (xo_na t H n N v K) := by
  intro hk p l e R s m args below meth c G A ad0 lv0 ad Hm locs cells slots lsA C0 hR hS hE hc hs hl hL hT
  subst hp
  unfold xo_na at hk
  split at hk
  next => cases hk
  next a hka =>
  obtain ⟨t', N'⟩ := a
  simp only at hk
  split at hk
  next hn =>
    obtain ⟨hn, ht', hv, hN'⟩ := hn
    subst hv
    subst ht'
    have hkd : xo_kd n = .inr (t', N') := hka
    have he := xo_ua_l hn ad Hm.size
    have hT := xo_lvT hT
    refine xo_Wanew C0 ht hw hR hS hn hkd (Nat.lt_of_le_of_lt hN' hN) (by omega) (by omega) hd fun Hm1 hR1 hS1 => ?_
    have hst : st.map (xo_tr ad) = st.map (xo_tr (xo_ua ad n Hm.size)) := (xo_stEq he hT).symm
    rw [hst]
    exact kk _ hk p l e R s m args below meth c G A ad0 lv0 (xo_ua ad n Hm.size) Hm1 locs (cells + 1) (slots + N') lsA C0 hR1 hS1 (fun z hz => ⟨(he z (hE z hz).2).trans (hE z hz).1, xo_sN_up H n z (hE z hz).2⟩) (by omega) (by omega) (by rw [xo_lsEq he hL]; exact hl) (fun z hz => xo_lvUp (xo_sN_up H n) (hL z hz)) (xo_lvC (fun z hz => by cases hz; exact xo_sN_me H n) fun z hz => xo_lvUp (xo_sN_up H n) (hT z hz))
  next => cases hk
end XC
end
section
/-! ends, beginnings, calls -/
theorem xo_no {α : Type} {mt : xo_T} {rc rs : Nat} {j : α → Option xo_V × xo_H} {r : α} {pc : Nat} {ls : List (Nat × xo_V)} {st : List xo_V} {H : xo_H} : xo_X mt rc rs j r pc ls st H none := fun h => by cases h
theorem xo_less {α : Type} {mt : xo_T} {rc rs rc' rs' : Nat} {j : α → Option xo_V × xo_H} {r : α} {pc : Nat} {ls : List (Nat × xo_V)} {st : List xo_V} {H : xo_H} {k : Option α} (h1 : rc' ≤ rc) (h2 : rs' ≤ rs) (kk : xo_X mt rc' rs' j r pc ls st H k) : xo_X mt rc rs j r pc ls st H k := by
  intro hk p l e R s m args below meth c G A ad0 lv0 ad Hm locs cells slots lsA C0 hR hS hE hc hs hl hL hT
  exact kk hk p l e R s m args below meth c G A ad0 lv0 ad Hm locs cells slots lsA C0 hR hS hE (by omega) (by omega) hl hL hT
theorem xo_ii {n : Int} {m x : Int32} (h : Int32.ofInt n = m) : x + Int32.ofInt n = x + m := by rw [h]
section XE
variable {mt : xo_T} {rc rs : Nat} {pc : Nat} {ls : List (Nat × xo_V)} {H : xo_H}
theorem xo_vret {r : xo_H} (hd : decode mt.2.1 pc = .ok (.return_, 1)) (hr : mt.2.2.2.1 = none) : xo_X mt rc rs xo_jv r pc ls [] H (some H) := by
  intro hk p l e R s m args below meth c G A ad0 lv0 ad Hm locs cells slots lsA C0 hR hS hE hc hs hl hL hT
  cases hk
  refine W.widen (k := R.cells) (n := R.slots) (by omega) (by omega) ?_
  exact W.vret C0.1 C0.2.1 (C0.2.2.2.2.2.2.2.1.trans hr) (fun t ht hW => ⟨ad, rfl, by rw [ht]; exact hR, hE, (fun v hv => by cases hv), hS.F ht⟩) hS.2.2 hd C0.2.2.2.2.2.2.1
theorem xo_iret {r : Int32 × xo_H} {v : Int32} (hd : decode mt.2.1 pc = .ok (.ireturn, 1)) (hr : mt.2.2.2.1 = some .int) : xo_X mt rc rs xo_ji r pc ls [.inl v] H (some (v, H)) := by
  intro hk p l e R s m args below meth c G A ad0 lv0 ad Hm locs cells slots lsA C0 hR hS hE hc hs hl hL hT
  cases hk
  refine W.widen (k := R.cells) (n := R.slots) (by omega) (by omega) ?_
  exact W.iret C0.1 C0.2.1 (C0.2.2.2.2.2.2.2.1.trans hr) (fun t ht hW => ⟨ad, rfl, by rw [ht]; exact hR, hE, (fun v hv => by cases hv; exact xo_lvI _ _), hS.F ht⟩) hS.2.2 hd C0.2.2.2.2.2.2.1
theorem xo_zret {r : Int32 × xo_H} {v : Int32} (hd : decode mt.2.1 pc = .ok (.ireturn, 1)) (hr : mt.2.2.2.1 = some .boolean) : xo_X mt rc rs xo_ji r pc ls [.inl v] H (xo_gb v (some (v, H))) := by
  intro hk p l e R s m args below meth c G A ad0 lv0 ad Hm locs cells slots lsA C0 hR hS hE hc hs hl hL hT
  unfold xo_gb at hk
  split at hk
  next hv =>
    cases hk
    refine W.widen (k := R.cells) (n := R.slots) (by omega) (by omega) ?_
    exact W.zret C0.1 C0.2.1 (C0.2.2.2.2.2.2.2.1.trans hr) (xo_nz hv).1 (fun t ht hW => ⟨ad, rfl, by rw [ht]; exact hR, hE, (fun v hv => by cases hv; exact xo_lvI _ _), hS.F ht⟩) hS.2.2 hd C0.2.2.2.2.2.2.1
  next => cases hk
theorem xo_aret {r : Option xo_N × xo_H} {o : Option xo_N} {C : String} (hd : decode mt.2.1 pc = .ok (.areturn, 1)) (hr : mt.2.2.2.1 = some (.object C)) : xo_X mt rc rs xo_jp r pc ls [.inr o] H (some (o, H)) := by
  intro hk p l e R s m args below meth c G A ad0 lv0 ad Hm locs cells slots lsA C0 hR hS hE hc hs hl hL hT
  cases hk
  refine W.widen (k := R.cells) (n := R.slots) (by omega) (by omega) ?_
  exact W.aret C0.1 C0.2.1 (C0.2.2.2.2.2.2.2.1.trans hr) (Or.inl ⟨C, rfl⟩) (by cases o with | none => exact Or.inl rfl | some n => exact Or.inr ⟨ad n, rfl⟩) (fun t ht hW => ⟨ad, rfl, by rw [ht]; exact hR, hE, (fun v hv => by cases hv; exact xo_lvH hT), hS.F ht⟩) hS.2.2 hd C0.2.2.2.2.2.2.1
end XE
def xo_ar : Nat → List xo_V → List (Nat × xo_V)
  | _, [] => []
  | i, v :: vs => (i, v) :: xo_ar (i + 1) vs
theorem xo_ar_tr (ad : xo_N → Nat) : ∀ (as : List xo_V) (i : Nat), lv_args i (as.map (xo_tr ad)) = (xo_ar i as).map fun q => (q.1, xo_tr ad q.2)
  | [], i => rfl
  | v :: vs, i => by
    have hc : ¬ (xo_tr ad v).category = 2 := by rw [xo_cat]; decide
    simp only [List.map_cons, lv_args, xo_ar, if_neg hc]
    rw [xo_ar_tr ad vs (i + 1)]
theorem xo_ar_lv {H : xo_H} : ∀ {as : List xo_V} {i : Nat}, (∀ v ∈ as, xo_lv H v) → ∀ q ∈ xo_ar i as, xo_lv H q.2
  | [], _, _, q, hq => by cases hq
  | v :: vs, i, h, q, hq => by
    rcases List.mem_cons.mp hq with rfl | hq
    · exact h v List.mem_cons_self
    · exact xo_ar_lv (fun w hw => h w (List.mem_cons_of_mem _ hw)) q hq
theorem xo_sl (ad : xo_N → Nat) : ∀ as : List xo_V, (lg_sl (as.map (xo_tr ad))).length = as.length
  | [] => rfl
  | v :: vs => by
    have hc : ¬ (xo_tr ad v).category = 2 := by rw [xo_cat]; decide
    have ih := xo_sl ad vs
    unfold lg_sl at ih ⊢
    rw [List.map_cons, List.flatMap_cons, if_neg hc, List.length_append, ih]
    simp [Nat.add_comm]
theorem xo_entry {α : Type} {mt : xo_T} {j : α → Option xo_V × xo_H} {as : List xo_V} {H : xo_H} {k : Option α} {r : α} (hk : k = some r) (hpl : plainName mt.1.cls = true) (hn : as.length ≤ mt.2.2.1) (h : xo_X mt mt.2.2.2.2.cells mt.2.2.2.2.slots j r 0 (xo_ar 0 as) [] H k) : xo_M mt as H (j r) := by
  intro l G A ad
  refine Met.ofW (cc := mt.2.1) (maxL := mt.2.2.1) (ret := mt.2.2.2.1) hpl rfl ?_
  intro p e s m args below meth c s₁ B hml hP
  obtain ⟨rfl, hR, hK, hA, hL⟩ := hP
  have hts := atoms_spec (ws := xo_ws mt) B.pre
  have hl := lv_entry (as.map (xo_tr ad)) (n := mt.2.2.1) (by rw [xo_sl]; exact hn)
  rw [lg_entry_eq]
  rw [xo_ar_tr] at hl
  exact h hk p l e _ s m _ below meth c G A ad H.2.2 ad s.heap [] 0 0 _ ⟨B.exec, B.bytes, hml, findClass_of_methodNamed B.named, hts, hK, B.notSynchronized, B.returns, (name_of_methodNamed B.named B.method).1, rfl, hA⟩ hR va_S.rf (fun n hn => ⟨rfl, hn⟩) (Nat.le_of_eq (Nat.zero_add _)) (Nat.le_of_eq (Nat.zero_add _)) hl (xo_ar_lv hL) (fun v hv => by cases hv)
/-- what a callee's words must give -/
def xo_cm (mc : xo_T) (n : Nat) : Prop := Cond.code mc.1 mc.2.1 mc.2.2.1 mc.2.2.2.1 ∈ xo_WS ∧ Cond.initialized mc.1.cls ∈ xo_WS ∧ mc.1.cls ≠ "java/lang/invoke/MethodHandle" ∧ mc.1.cls ≠ "java/lang/invoke/VarHandle" ∧ (parseMethodDescriptor mc.1.desc).map (fun d => d.parameters.length) = some n
def xo_cv (mc : xo_T) (n : Nat) : Prop := xo_cm mc n ∧ Cond.instanceMethod mc.1 ∈ xo_WS ∧ Cond.selects mc.1.cls mc.1 mc.1 ∈ xo_WS
def xo_cs (mc : xo_T) (n : Nat) : Prop := xo_cm mc n ∧ Cond.static mc.1 ∈ xo_WS
def xo_ci (mc : xo_T) (n : Nat) : Prop := xo_cm mc n ∧ Cond.instanceMethod mc.1 ∈ xo_WS ∧ mc.1.name = "<init>" ∧ mc.2.2.2.1 = none
def xo_ml (own : String) (ix : Nat) (y : MethodName) : Prop := Cond.methodLink own ix y ∈ xo_WS ∨ ∃ host, Cond.methodLinkNest own ix y host ∈ xo_NW
abbrev xo_rr (mt mc : xo_T) : Prop := mc.2.2.2.2.frames + 1 ≤ mt.2.2.2.2.frames ∧ 8 + (mc.2.2.1 + 11) + mc.2.2.2.2.locals ≤ mt.2.2.2.2.locals
theorem xo_K_same {G : xo_G} {u U : State} (hv : u.vm = U.vm) (h : xo_K G u) : xo_K G U := by
  obtain ⟨h1, h2, h3, h4⟩ := h
  have ha : u.vm.Alike U.vm := hv ▸ Vm.Alike.refl _
  refine ⟨fun c q hq => u_Kn_moved ha (h1 c q hq), fun t ht => ⟨arrOfT_moved ha (h2 t ht).1, (h2 t ht).2.moved ha⟩, fun w hw => ?_, fun t a b => va_AO.moved ha (h4 t a b)⟩
  have hi : xo_isN w = true := (List.mem_filter.mp hw).2
  have hz := h3 w hw
  unfold xo_isN at hi
  split at hi
  · exact va_Nw.same rfl hv hz
  · exact va_Nw.same rfl hv hz
  · cases hi
theorem xo_Pbl (G : xo_G) (A : Nat → Prop) (ad : xo_N → Nat) (as : List xo_V) (H : xo_H) : FrameBlind (xo_P G A ad as H) := fun _ U g mk h => by
  obtain ⟨h1, h2, h3, h4, h5⟩ := h
  exact ⟨h1, h2, xo_K_same (u := U) (U := U.calling g mk _) rfl h3, h4, h5⟩
theorem xo_csum (ad : xo_N → Nat) : ∀ st : List xo_V, ((st.map (xo_tr ad)).map fun v => v.category).sum = st.length
  | [] => rfl
  | v :: st => by
    rw [List.map_cons, List.map_cons, List.sum_cons, xo_csum ad st, xo_cat, List.length_cons, Nat.add_comm]
section XM
variable {p : Program} {l : Launch} {e : Env} {R : Room} {s : State} {m : MethodId} {args : Array Value} {below : List Frame} {meth : Method} {c : Code} {Hm : Heap} {locs : List Loc} {cells slots mcc mss : Nat} {Q : State → Prop}
variable {G : xo_G} {A : Nat → Prop} {ad : xo_N → Nat} {lv : xo_N → Bool} {mt mc : xo_T} {H : xo_H} {pc ix N : Nat} {lsA : Array Slot} {rest st0 : List Value} {a : Option xo_V × xo_H} {av : Array Value}
theorem xo_run (hr : va_Run p l e R s m args below meth c Hm locs cells slots mcc mss (F0 m pc lsA st0) rest (xo_Q G A ad lv a av) A) (hS : va_S A s.heap Hm locs)
    (kk : ∀ (ad' : xo_N → Nat) (H1 : Heap) (locs1 : List Loc), xo_R G A ad' a.2 H1 → (∀ n, lv n = true → ad' n = ad n ∧ a.2.2.2 n = true) → (∀ v, a.1 = some v → xo_lv a.2 v) → va_S A s.heap H1 locs1 → W p l e R s m args below meth c H1 locs1 (cells + mcc) (slots + mss) Q (F0 m (pc + 3) lsA ((a.1.map (xo_tr ad')).toList ++ rest))) : W p l e R s m args below meth c Hm locs cells slots Q (F0 m pc lsA st0) := by
  intro T hT X
  obtain ⟨v, st₀, t, T', L, h0, X', hL, e1, e2, ⟨ad', hv, hR1, hE1, ha1, hF⟩, st⟩ := hr T hT X
  cases hv
  obtain ⟨hz, hk⟩ := hF
  rw [h0] at hz hk
  obtain ⟨t2, a1, b1⟩ := kk ad' T'.heap (locs ++ L) (by rw [e1]; exact hR1) hE1 ha1
    ⟨Nat.le_trans hS.1 (by rw [e1]; exact hz), fun q h1 h2 => by rw [e1, hk q (Nat.lt_of_lt_of_le h1 hS.1) h2]; exact hS.2.1 q h1 h2, fun q hq => by
      rcases List.mem_append.mp hq with h | h
      · exact hS.2.2 q h
      · exact hL q h⟩ T' rfl X'
  exact ⟨t2, st t2 a1, b1⟩
end XM
section XL
variable {α β : Type} {mt mc : xo_T} {rc rs rc' rs' : Nat} {j : α → Option xo_V × xo_H} {j1 : β → Option xo_V × xo_H} {r : α} {pc pc' ix ci N NN : Nat} {ls : List (Nat × xo_V)} {st sg as : List xo_V} {H : xo_H} {o : Option xo_N} {C : String} {T : u_T} {K : β → Option α} {f : xo_N → Option β} {k1 : Option β}
theorem xo_callV (hd : decode mt.2.1 pc = .ok (.invokevirtual ix, 3)) (hcv : xo_cv mc N) (hlk : xo_ml mt.1.cls ix mc.1) (hcl : xo_cls[ci]? = some (mc.1.cls, T, NN)) (has : as.length = N) (hrm : xo_rr mt mc) (hrc : rc' + mc.2.2.2.2.cells = rc) (hrs : rs' + mc.2.2.2.2.slots = rs) (hst : sg = as.reverse ++ .inr o :: st) (h8 : st.length ≤ 8) (hp : pc + 3 = pc')
    (hM : ∀ n r1, f n = some r1 → xo_M mc (.inr (some n) :: as) H (j1 r1)) (kk : ∀ r1, xo_X mt rc' rs' j r pc' ls ((j1 r1).1.toList ++ st) (j1 r1).2 (K r1)) : xo_X mt rc rs j r pc ls sg H (xo_cl ci o f K) := by
  intro hk p l e R s m args below meth c G A ad0 lv0 ad Hm locs cells slots lsA C0 hR hS hE hc hs hl hL hT
  subst hp
  subst hst
  cases o with
  | none => cases hk
  | some n =>
    have hTa : ∀ v ∈ as, xo_lv H v := fun v hv => hT v (List.mem_append_left _ (List.mem_reverse.mpr hv))
    have hTn : H.2.2 n = true := hT (.inr (some n)) (List.mem_append_right _ List.mem_cons_self) n rfl
    have hTs : ∀ v ∈ st, xo_lv H v := fun v hv => hT v (List.mem_append_right _ (List.mem_cons_of_mem _ hv))
    simp only [xo_cl, Option.bind_some] at hk
    split at hk
    next hkd =>
      cases hf : f n with
      | none => rw [hf] at hk; cases hk
      | some r1 =>
        rw [hf, Option.bind_some] at hk
        obtain ⟨hcm, hwi, hws⟩ := hcv
        obtain ⟨hcode, hini, hd1, hd2, hd3⟩ := hcm
        have hts' : ∀ w ∈ xo_WS, w.before args s = true := fun w hw => C0.2.2.2.2.1 w (List.mem_cons_of_mem _ hw)
        have hR0 : R = mt.2.2.2.2 := C0.2.2.2.2.2.2.2.2.2.1
        have hG := xo_good mt mc hcode
        have hat := (hR.1 n hTn).1
        unfold xo_at at hat
        simp only [hkd] at hat
        obtain ⟨rr, hrr, cell, q1, q2, q3, -⟩ := hat
        have hKn := C0.2.2.2.2.2.1.1 ci _ hcl
        have hPre : PreV s Hm mc.1.cls (ad n) (xo_P G A ad (.inr (some n) :: as) H) (as.map (xo_tr ad)) := by
          refine ⟨xo_Pbl _ _ _ _ _, ⟨cell, q1, by rw [q3]; rfl, by rw [q2]; exact hKn.2.1⟩, fun U hU hW => ⟨rfl, by rw [hU]; exact hR, xo_K_warm hW C0.2.2.2.2.2.1, fun q hq => C0.2.2.2.2.2.2.2.2.2.2 q (by rw [hU] at hq; exact Nat.le_trans hS.1 hq), xo_lvC (fun z hz => by cases hz; exact hTn) hTa⟩⟩
        have hroom : mc.2.2.2.2.frames + 1 ≤ R.frames ∧ 8 + (mc.2.2.1 + 11) + mc.2.2.2.2.locals ≤ R.locals := by rw [hR0]; exact hrm
        have hcs : cells + mc.2.2.2.2.cells ≤ R.cells ∧ slots + mc.2.2.2.2.slots ≤ R.slots := ⟨by omega, by omega⟩
        have hstk : (F0 m pc lsA ((as.reverse ++ .inr (some n) :: st).map (xo_tr ad))).stack = (as.map (xo_tr ad)).reverse ++ .ref (ad n) :: st.map (xo_tr ad) := by
          show (as.reverse ++ .inr (some n) :: st).map (xo_tr ad) = _
          rw [List.map_append, List.map_reverse, List.map_cons]
          rfl
        have h8' : 2 * (F0 m pc lsA ((as.reverse ++ .inr (some n) :: st).map (xo_tr ad))).monitorRoom + ((st.map (xo_tr ad)).map fun v => v.category).sum ≤ 8 := by
          rw [xo_csum]; simpa [JFrame.monitorRoom] using h8
        have hrun : va_Run p l e R s m args below meth c Hm locs cells slots mc.2.2.2.2.cells mc.2.2.2.2.slots (F0 m pc lsA ((as.reverse ++ .inr (some n) :: st).map (xo_tr ad))) (st.map (xo_tr ad)) (xo_Q G A ad H.2.2 (j1 r1) (Value.ref (ad n) :: as.map (xo_tr ad)).toArray) A := by
          rcases hlk with hlk | ⟨host, hlk⟩
          · exact va_runV ⟨C0.1, C0.2.1, C0.2.2.1, C0.2.2.2.1, C0.2.2.2.2.1⟩ (hM n r1 hf l G A ad) ⟨callB_of N C0.2.2.2.2.1 hG rfl rfl rfl (hts' _ hini) (hts' _ hlk) ⟨hd1, hd2, hd3⟩ hroom, hts' _ hwi, hts' _ hws⟩ hPre rfl (by rw [List.length_map]; exact has) hl.1 hstk h8' hd hcs
          · exact va_runVN ⟨C0.1, C0.2.1, C0.2.2.1, C0.2.2.2.1, C0.2.2.2.2.1⟩ (hM n r1 hf l G A ad) ⟨va_cnB N C0.2.2.2.2.1 hG rfl rfl rfl (C0.2.2.2.2.2.1.2.2.1 _ hlk) (hts' _ hini) ⟨hd1, hd2, hd3⟩ hroom, hts' _ hwi, hts' _ hws⟩ hPre rfl (by rw [List.length_map]; exact has) hl.1 hstk h8' hd hcs
        refine xo_run hrun hS fun ad' H1 locs1 hR1 hE1 ha1 hS1 => ?_
        have he : ∀ z, H.2.2 z = true → ad' z = ad z := fun z hz => (hE1 z hz).1
        have hst2 : ((j1 r1).1.map (xo_tr ad')).toList ++ st.map (xo_tr ad) = ((j1 r1).1.toList ++ st).map (xo_tr ad') := by
          rw [List.map_append, xo_stEq he hTs]
          cases (j1 r1).1 <;> rfl
        rw [hst2]
        refine kk r1 hk p l e R s m args below meth c G A ad0 lv0 ad' H1 locs1 _ _ lsA C0 hR1 hS1 (fun z hz => ⟨(he z (hE z hz).2).trans (hE z hz).1, (hE1 z (hE z hz).2).2⟩) (by omega) (by omega) (by rw [xo_lsEq he hL]; exact hl) (fun z hz => xo_lvUp (fun y hy => (hE1 y hy).2) (hL z hz)) (fun v hv => ?_)
        rcases List.mem_append.mp hv with hv | hv
        · exact ha1 v (by simpa using hv)
        · exact xo_lvUp (fun y hy => (hE1 y hy).2) (hTs v hv)
    next => cases hk
theorem xo_callS (hd : decode mt.2.1 pc = .ok (.invokestatic ix, 3)) (hcv : xo_cs mc N) (hlk : xo_ml mt.1.cls ix mc.1) (has : as.length = N) (hrm : xo_rr mt mc) (hrc : rc' + mc.2.2.2.2.cells = rc) (hrs : rs' + mc.2.2.2.2.slots = rs) (hst : sg = as.reverse ++ st) (h8 : st.length ≤ 8) (hp : pc + 3 = pc')
    (hM : ∀ r1, k1 = some r1 → xo_M mc as H (j1 r1)) (kk : ∀ r1, xo_X mt rc' rs' j r pc' ls ((j1 r1).1.toList ++ st) (j1 r1).2 (K r1)) : xo_X mt rc rs j r pc ls sg H (k1.bind K) := by
  intro hk p l e R s m args below meth c G A ad0 lv0 ad Hm locs cells slots lsA C0 hR hS hE hc hs hl hL hT
  subst hp
  subst hst
  have hTa : ∀ v ∈ as, xo_lv H v := fun v hv => hT v (List.mem_append_left _ (List.mem_reverse.mpr hv))
  have hTs : ∀ v ∈ st, xo_lv H v := fun v hv => hT v (List.mem_append_right _ hv)
  cases hf : k1 with
  | none => rw [hf] at hk; cases hk
  | some r1 =>
    rw [hf, Option.bind_some] at hk
    obtain ⟨hcm, hwi⟩ := hcv
    obtain ⟨hcode, hini, hd1, hd2, hd3⟩ := hcm
    have hts' : ∀ w ∈ xo_WS, w.before args s = true := fun w hw => C0.2.2.2.2.1 w (List.mem_cons_of_mem _ hw)
    have hR0 : R = mt.2.2.2.2 := C0.2.2.2.2.2.2.2.2.2.1
    have hG := xo_good mt mc hcode
    have hPre : PreS s Hm (xo_P G A ad as H) (as.map (xo_tr ad)) := by
      refine ⟨xo_Pbl _ _ _ _ _, fun U hU hW => ⟨rfl, by rw [hU]; exact hR, xo_K_warm hW C0.2.2.2.2.2.1, fun q hq => C0.2.2.2.2.2.2.2.2.2.2 q (by rw [hU] at hq; exact Nat.le_trans hS.1 hq), hTa⟩⟩
    have hroom : mc.2.2.2.2.frames + 1 ≤ R.frames ∧ 8 + (mc.2.2.1 + 11) + mc.2.2.2.2.locals ≤ R.locals := by rw [hR0]; exact hrm
    have hcs : cells + mc.2.2.2.2.cells ≤ R.cells ∧ slots + mc.2.2.2.2.slots ≤ R.slots := ⟨by omega, by omega⟩
    have hstk : (F0 m pc lsA ((as.reverse ++ st).map (xo_tr ad))).stack = (as.map (xo_tr ad)).reverse ++ st.map (xo_tr ad) := by
      show (as.reverse ++ st).map (xo_tr ad) = _
      rw [List.map_append, List.map_reverse]
    have h8' : 2 * (F0 m pc lsA ((as.reverse ++ st).map (xo_tr ad))).monitorRoom + ((st.map (xo_tr ad)).map fun v => v.category).sum ≤ 8 := by
      rw [xo_csum]; simpa [JFrame.monitorRoom] using h8
    have hrun : va_Run p l e R s m args below meth c Hm locs cells slots mc.2.2.2.2.cells mc.2.2.2.2.slots (F0 m pc lsA ((as.reverse ++ st).map (xo_tr ad))) (st.map (xo_tr ad)) (xo_Q G A ad H.2.2 (j1 r1) (as.map (xo_tr ad)).toArray) A := by
      rcases hlk with hlk | ⟨host, hlk⟩
      · exact va_runS ⟨C0.1, C0.2.1, C0.2.2.1, C0.2.2.2.1, C0.2.2.2.2.1⟩ (hM r1 hf l G A ad) ⟨callB_of N C0.2.2.2.2.1 hG rfl rfl rfl (hts' _ hini) (hts' _ hlk) ⟨hd1, hd2, hd3⟩ hroom, hts' _ hwi⟩ hPre rfl (by rw [List.length_map]; exact has) hl.1 hstk h8' hd hcs
      · exact va_runSN ⟨C0.1, C0.2.1, C0.2.2.1, C0.2.2.2.1, C0.2.2.2.2.1⟩ (hM r1 hf l G A ad) ⟨va_cnB N C0.2.2.2.2.1 hG rfl rfl rfl (C0.2.2.2.2.2.1.2.2.1 _ hlk) (hts' _ hini) ⟨hd1, hd2, hd3⟩ hroom, hts' _ hwi, trivial⟩ hPre rfl (by rw [List.length_map]; exact has) hl.1 hstk h8' hd hcs
    refine xo_run hrun hS fun ad' H1 locs1 hR1 hE1 ha1 hS1 => ?_
    have he : ∀ z, H.2.2 z = true → ad' z = ad z := fun z hz => (hE1 z hz).1
    have hst2 : ((j1 r1).1.map (xo_tr ad')).toList ++ st.map (xo_tr ad) = ((j1 r1).1.toList ++ st).map (xo_tr ad') := by
      rw [List.map_append, xo_stEq he hTs]
      cases (j1 r1).1 <;> rfl
    rw [hst2]
    refine kk r1 hk p l e R s m args below meth c G A ad0 lv0 ad' H1 locs1 _ _ lsA C0 hR1 hS1 (fun z hz => ⟨(he z (hE z hz).2).trans (hE z hz).1, (hE1 z (hE z hz).2).2⟩) (by omega) (by omega) (by rw [xo_lsEq he hL]; exact hl) (fun z hz => xo_lvUp (fun y hy => (hE1 y hy).2) (hL z hz)) (fun v hv => ?_)
    rcases List.mem_append.mp hv with hv | hv
    · exact ha1 v (by simpa using hv)
    · exact xo_lvUp (fun y hy => (hE1 y hy).2) (hTs v hv)
theorem xo_callI {n : xo_N} (hd : decode mt.2.1 pc = .ok (.invokespecial ix, 3)) (hcv : xo_ci mc N) (hlk : xo_ml mt.1.cls ix mc.1) (has : as.length = N) (hrm : xo_rr mt mc) (hrc : rc' + mc.2.2.2.2.cells = rc) (hrs : rs' + mc.2.2.2.2.slots = rs) (hst : sg = as.reverse ++ .inr (some n) :: st) (h8 : st.length ≤ 8) (hp : pc + 3 = pc')
    (hM : ∀ r1, k1 = some r1 → xo_M mc (.inr (some n) :: as) H (j1 r1)) (kk : ∀ r1, xo_X mt rc' rs' j r pc' ls ((j1 r1).1.toList ++ st) (j1 r1).2 (K r1)) : xo_X mt rc rs j r pc ls sg H (k1.bind K) := by
  intro hk p l e R s m args below meth c G A ad0 lv0 ad Hm locs cells slots lsA C0 hR hS hE hc hs hl hL hT
  subst hp
  subst hst
  have hTa : ∀ v ∈ as, xo_lv H v := fun v hv => hT v (List.mem_append_left _ (List.mem_reverse.mpr hv))
  have hTn : H.2.2 n = true := hT (.inr (some n)) (List.mem_append_right _ List.mem_cons_self) n rfl
  have hTs : ∀ v ∈ st, xo_lv H v := fun v hv => hT v (List.mem_append_right _ (List.mem_cons_of_mem _ hv))
  cases hf : k1 with
  | none => rw [hf] at hk; cases hk
  | some r1 =>
    rw [hf, Option.bind_some] at hk
    obtain ⟨y, bytes, maxL, ret, rm⟩ := mc
    obtain ⟨hcm, hwi, hnm, hret⟩ := hcv
    obtain ⟨hcode, hini, hd1, hd2, hd3⟩ := hcm
    simp only at hret
    subst hret
    have hts' : ∀ w ∈ xo_WS, w.before args s = true := fun w hw => C0.2.2.2.2.1 w (List.mem_cons_of_mem _ hw)
    have hR0 : R = mt.2.2.2.2 := C0.2.2.2.2.2.2.2.2.2.1
    have hG := xo_good mt (y, bytes, maxL, none, rm) hcode
    have hPre : PreS s Hm (xo_P G A ad (.inr (some n) :: as) H) (.ref (ad n) :: as.map (xo_tr ad)) := by
      refine ⟨xo_Pbl _ _ _ _ _, fun U hU hW => ⟨rfl, by rw [hU]; exact hR, xo_K_warm hW C0.2.2.2.2.2.1, fun q hq => C0.2.2.2.2.2.2.2.2.2.2 q (by rw [hU] at hq; exact Nat.le_trans hS.1 hq), xo_lvC (fun z hz => by cases hz; exact hTn) hTa⟩⟩
    have hroom : rm.frames + 1 ≤ R.frames ∧ 8 + (maxL + 11) + rm.locals ≤ R.locals := by rw [hR0]; exact hrm
    have hcs : cells + rm.cells ≤ R.cells ∧ slots + rm.slots ≤ R.slots := ⟨by simp only at hrc; omega, by simp only at hrs; omega⟩
    have hstk : (F0 m pc lsA ((as.reverse ++ .inr (some n) :: st).map (xo_tr ad))).stack = (as.map (xo_tr ad)).reverse ++ .ref (ad n) :: st.map (xo_tr ad) := by
      show (as.reverse ++ .inr (some n) :: st).map (xo_tr ad) = _
      rw [List.map_append, List.map_reverse, List.map_cons]
      rfl
    have h8' : 2 * (F0 m pc lsA ((as.reverse ++ .inr (some n) :: st).map (xo_tr ad))).monitorRoom + ((st.map (xo_tr ad)).map fun v => v.category).sum ≤ 8 := by
      rw [xo_csum]; simpa [JFrame.monitorRoom] using h8
    have hrun : va_Run p l e R s m args below meth c Hm locs cells slots rm.cells rm.slots (F0 m pc lsA ((as.reverse ++ .inr (some n) :: st).map (xo_tr ad))) (st.map (xo_tr ad)) (xo_Q G A ad H.2.2 (j1 r1) (Value.ref (ad n) :: as.map (xo_tr ad)).toArray) A := by
      rcases hlk with hlk | ⟨host, hlk⟩
      · exact va_runI ⟨C0.1, C0.2.1, C0.2.2.1, C0.2.2.2.1, C0.2.2.2.2.1⟩ (hM r1 hf l G A ad) ⟨callB_of N C0.2.2.2.2.1 hG rfl rfl rfl (hts' _ hini) (hts' _ hlk) ⟨hd1, hd2, hd3⟩ hroom, hnm, hts' _ hwi⟩ hPre rfl (by rw [List.length_map]; exact has) hl.1 hstk h8' hd hcs
      · exact va_runIN ⟨C0.1, C0.2.1, C0.2.2.1, C0.2.2.2.1, C0.2.2.2.2.1⟩ (hM r1 hf l G A ad) ⟨va_cnB N C0.2.2.2.2.1 hG rfl rfl rfl (C0.2.2.2.2.2.1.2.2.1 _ hlk) (hts' _ hini) ⟨hd1, hd2, hd3⟩ hroom, hnm, hts' _ hwi⟩ hPre rfl (by rw [List.length_map]; exact has) hl.1 hstk h8' hd hcs
    refine xo_run hrun hS fun ad' H1 locs1 hR1 hE1 ha1 hS1 => ?_
    have he : ∀ z, H.2.2 z = true → ad' z = ad z := fun z hz => (hE1 z hz).1
    have hst2 : ((j1 r1).1.map (xo_tr ad')).toList ++ st.map (xo_tr ad) = ((j1 r1).1.toList ++ st).map (xo_tr ad') := by
      rw [List.map_append, xo_stEq he hTs]
      cases (j1 r1).1 <;> rfl
    rw [hst2]
    refine kk r1 hk p l e R s m args below meth c G A ad0 lv0 ad' H1 locs1 _ _ lsA C0 hR1 hS1 (fun z hz => ⟨(he z (hE z hz).2).trans (hE z hz).1, (hE1 z (hE z hz).2).2⟩) (by simp only at hrc; omega) (by simp only at hrs; omega) (by rw [xo_lsEq he hL]; exact hl) (fun z hz => xo_lvUp (fun y hy => (hE1 y hy).2) (hL z hz)) (fun v hv => ?_)
    rcases List.mem_append.mp hv with hv | hv
    · exact ha1 v (by simpa using hv)
    · exact xo_lvUp (fun y hy => (hE1 y hy).2) (hTs v hv)
theorem xo_oinit {n : xo_N} {k : Option α} (hd : decode mt.2.1 pc = .ok (.invokespecial ix, 3)) (w1 : Cond.methodLink mt.1.cls ix Lib.objectInit ∈ xo_WS) (w2 : Cond.instanceMethod Lib.objectInit ∈ xo_WS) (w3 : Cond.code Lib.objectInit ⟨#[0xb1]⟩ 1 none ∈ xo_WS) (hrm : 1 ≤ mt.2.2.2.2.frames ∧ 20 ≤ mt.2.2.2.2.locals) (h8 : st.length ≤ 8) (hp : pc + 3 = pc') (kk : xo_X mt rc rs j r pc' ls st H k) : xo_X mt rc rs j r pc ls (.inr (some n) :: st) H k := by
  intro hk p l e R s m args below meth c G A ad0 lv0 ad Hm locs cells slots lsA C0 hR hS hE hc hs hl hL hT
  subst hp
  have hts' : ∀ w ∈ xo_WS, w.before args s = true := fun w hw => C0.2.2.2.2.1 w (List.mem_cons_of_mem _ hw)
  have hR0 : R = mt.2.2.2.2 := C0.2.2.2.2.2.2.2.2.2.1
  refine W.objInit C0.1 C0.2.1 C0.2.2.2.1 (hts' _ w1) (hts' _ w2) (hts' _ w3) rfl (hl.1.trans C0.2.2.1.symm) (a := ad n) (rest := st.map (xo_tr ad)) rfl hd (by rw [hR0]; exact hrm.1) ?_ (kk hk p l e R s m args below meth c G A ad0 lv0 ad Hm locs cells slots lsA C0 hR hS hE hc hs hl hL (xo_lvT hT))
  rw [xo_csum, hR0]
  have : (F0 m pc lsA ((.inr (some n) :: st : List xo_V).map (xo_tr ad))).monitorRoom = 0 := by simp [JFrame.monitorRoom]
  rw [this]
  have := hrm.2
  omega
end XL
section XY
variable {α : Type} {mt mc : xo_T} {rc rs rc' rs' : Nat} {j : α → Option xo_V × xo_H} {r : α} {pc pc' ix ci N NN : Nat} {ls : List (Nat × xo_V)} {st sg as : List xo_V} {H : xo_H} {o : Option xo_N} {T : u_T}
theorem xo_callVv {f : xo_N → Option (xo_H)} {K : xo_H → Option α} (hd : decode mt.2.1 pc = .ok (.invokevirtual ix, 3)) (hcv : xo_cv mc N) (hlk : xo_ml mt.1.cls ix mc.1) (hcl : xo_cls[ci]? = some (mc.1.cls, T, NN)) (has : as.length = N) (hrm : xo_rr mt mc) (hrc : rc' + mc.2.2.2.2.cells = rc) (hrs : rs' + mc.2.2.2.2.slots = rs) (hst : sg = as.reverse ++ .inr o :: st) (h8 : st.length ≤ 8) (hp : pc + 3 = pc') (hM : ∀ n r1, f n = some r1 → xo_M mc (.inr (some n) :: as) H (xo_jv r1)) (kk : ∀ H1 : xo_H, xo_X mt rc' rs' j r pc' ls st H1 (K H1)) : xo_X mt rc rs j r pc ls sg H (xo_cl ci o f K) :=
  xo_callV (j1 := xo_jv) hd hcv hlk hcl has hrm hrc hrs hst h8 hp hM kk
theorem xo_callSv {k1 : Option (xo_H)} {K : xo_H → Option α} (hd : decode mt.2.1 pc = .ok (.invokestatic ix, 3)) (hcv : xo_cs mc N) (hlk : xo_ml mt.1.cls ix mc.1) (has : as.length = N) (hrm : xo_rr mt mc) (hrc : rc' + mc.2.2.2.2.cells = rc) (hrs : rs' + mc.2.2.2.2.slots = rs) (hst : sg = as.reverse ++ st) (h8 : st.length ≤ 8) (hp : pc + 3 = pc') (hM : ∀ r1, k1 = some r1 → xo_M mc as H (xo_jv r1)) (kk : ∀ H1 : xo_H, xo_X mt rc' rs' j r pc' ls st H1 (K H1)) : xo_X mt rc rs j r pc ls sg H (k1.bind K) :=
  xo_callS (j1 := xo_jv) hd hcv hlk has hrm hrc hrs hst h8 hp hM kk
theorem xo_callIv {n : xo_N} {k1 : Option (xo_H)} {K : xo_H → Option α} (hd : decode mt.2.1 pc = .ok (.invokespecial ix, 3)) (hcv : xo_ci mc N) (hlk : xo_ml mt.1.cls ix mc.1) (has : as.length = N) (hrm : xo_rr mt mc) (hrc : rc' + mc.2.2.2.2.cells = rc) (hrs : rs' + mc.2.2.2.2.slots = rs) (hst : sg = as.reverse ++ .inr (some n) :: st) (h8 : st.length ≤ 8) (hp : pc + 3 = pc') (hM : ∀ r1, k1 = some r1 → xo_M mc (.inr (some n) :: as) H (xo_jv r1)) (kk : ∀ H1 : xo_H, xo_X mt rc' rs' j r pc' ls st H1 (K H1)) : xo_X mt rc rs j r pc ls sg H (k1.bind K) :=
  xo_callI (j1 := xo_jv) hd hcv hlk has hrm hrc hrs hst h8 hp hM kk
theorem xo_callVi {f : xo_N → Option (Int32 × xo_H)} {K : Int32 × xo_H → Option α} (hd : decode mt.2.1 pc = .ok (.invokevirtual ix, 3)) (hcv : xo_cv mc N) (hlk : xo_ml mt.1.cls ix mc.1) (hcl : xo_cls[ci]? = some (mc.1.cls, T, NN)) (has : as.length = N) (hrm : xo_rr mt mc) (hrc : rc' + mc.2.2.2.2.cells = rc) (hrs : rs' + mc.2.2.2.2.slots = rs) (hst : sg = as.reverse ++ .inr o :: st) (h8 : st.length ≤ 8) (hp : pc + 3 = pc') (hM : ∀ n r1, f n = some r1 → xo_M mc (.inr (some n) :: as) H (xo_ji r1)) (kk : ∀ r1 : Int32 × xo_H, xo_X mt rc' rs' j r pc' ls (.inl r1.1 :: st) r1.2 (K r1)) : xo_X mt rc rs j r pc ls sg H (xo_cl ci o f K) :=
  xo_callV (j1 := xo_ji) hd hcv hlk hcl has hrm hrc hrs hst h8 hp hM kk
theorem xo_callSi {k1 : Option (Int32 × xo_H)} {K : Int32 × xo_H → Option α} (hd : decode mt.2.1 pc = .ok (.invokestatic ix, 3)) (hcv : xo_cs mc N) (hlk : xo_ml mt.1.cls ix mc.1) (has : as.length = N) (hrm : xo_rr mt mc) (hrc : rc' + mc.2.2.2.2.cells = rc) (hrs : rs' + mc.2.2.2.2.slots = rs) (hst : sg = as.reverse ++ st) (h8 : st.length ≤ 8) (hp : pc + 3 = pc') (hM : ∀ r1, k1 = some r1 → xo_M mc as H (xo_ji r1)) (kk : ∀ r1 : Int32 × xo_H, xo_X mt rc' rs' j r pc' ls (.inl r1.1 :: st) r1.2 (K r1)) : xo_X mt rc rs j r pc ls sg H (k1.bind K) :=
  xo_callS (j1 := xo_ji) hd hcv hlk has hrm hrc hrs hst h8 hp hM kk
theorem xo_callVp {f : xo_N → Option (Option xo_N × xo_H)} {K : Option xo_N × xo_H → Option α} (hd : decode mt.2.1 pc = .ok (.invokevirtual ix, 3)) (hcv : xo_cv mc N) (hlk : xo_ml mt.1.cls ix mc.1) (hcl : xo_cls[ci]? = some (mc.1.cls, T, NN)) (has : as.length = N) (hrm : xo_rr mt mc) (hrc : rc' + mc.2.2.2.2.cells = rc) (hrs : rs' + mc.2.2.2.2.slots = rs) (hst : sg = as.reverse ++ .inr o :: st) (h8 : st.length ≤ 8) (hp : pc + 3 = pc') (hM : ∀ n r1, f n = some r1 → xo_M mc (.inr (some n) :: as) H (xo_jp r1)) (kk : ∀ r1 : Option xo_N × xo_H, xo_X mt rc' rs' j r pc' ls (.inr r1.1 :: st) r1.2 (K r1)) : xo_X mt rc rs j r pc ls sg H (xo_cl ci o f K) :=
  xo_callV (j1 := xo_jp) hd hcv hlk hcl has hrm hrc hrs hst h8 hp hM kk
theorem xo_callSp {k1 : Option (Option xo_N × xo_H)} {K : Option xo_N × xo_H → Option α} (hd : decode mt.2.1 pc = .ok (.invokestatic ix, 3)) (hcv : xo_cs mc N) (hlk : xo_ml mt.1.cls ix mc.1) (has : as.length = N) (hrm : xo_rr mt mc) (hrc : rc' + mc.2.2.2.2.cells = rc) (hrs : rs' + mc.2.2.2.2.slots = rs) (hst : sg = as.reverse ++ st) (h8 : st.length ≤ 8) (hp : pc + 3 = pc') (hM : ∀ r1, k1 = some r1 → xo_M mc as H (xo_jp r1)) (kk : ∀ r1 : Option xo_N × xo_H, xo_X mt rc' rs' j r pc' ls (.inr r1.1 :: st) r1.2 (K r1)) : xo_X mt rc rs j r pc ls sg H (k1.bind K) :=
  xo_callS (j1 := xo_jp) hd hcv hlk has hrm hrc hrs hst h8 hp hM kk
end XY
end
section
theorem nt_in : ∀ w ∈ tables_1, w ∈ lw_tbl := fun w h => List.mem_append_right _ h
theorem nt_1 : ∀ w ∈ tables_1_1, w ∈ lw_tbl := fun w h => nt_in w (by unfold tables_1; exact List.mem_append_left _ h)
theorem nt_2 : ∀ w ∈ tables_1_2, w ∈ lw_tbl := fun w h => nt_in w (by unfold tables_1; exact List.mem_append_right _ (List.mem_append_left _ h))
theorem nt_3 : ∀ w ∈ tables_1_3, w ∈ lw_tbl := fun w h => nt_in w (by unfold tables_1; exact List.mem_append_right _ (List.mem_append_right _ (List.mem_append_left _ h)))
theorem nt_4 : ∀ w ∈ tables_1_4, w ∈ lw_tbl := fun w h => nt_in w (by unfold tables_1; exact List.mem_append_right _ (List.mem_append_right _ (List.mem_append_right _ (List.mem_append_left _ h))))
theorem nt_5 : ∀ w ∈ tables_1_5, w ∈ lw_tbl := fun w h => nt_in w (by unfold tables_1; exact List.mem_append_right _ (List.mem_append_right _ (List.mem_append_right _ (List.mem_append_right _ (h)))))
theorem nt_ok {w : Cond} (h : w ∈ lw_tbl) (hok : xo_ok w = true) : w ∈ xo_WS := List.mem_filter.mpr ⟨h, hok⟩
theorem nt_nw {w : Cond} (h : w ∈ lw_tbl) (hok : xo_isN w = true) : w ∈ xo_NW := List.mem_filter.mpr ⟨h, hok⟩
theorem nt_sel {y : MethodName} {n : Nat} (h : (y, n) ∈ lw_privs) : Cond.selects y.cls y y ∈ lw_tbl := List.mem_append_left _ (List.mem_map.mpr ⟨(y, n), h, rfl⟩)
theorem wy_K_0 : u_lay "FlowKernel" TF_K 0 ∈ xo_WS := (nt_ok (nt_1 _ (List.mem_of_getElem? (i := 95) rfl)) rfl)
theorem wy_K_1 : u_lay "FlowKernel" TF_K 1 ∈ xo_WS := (nt_ok (nt_1 _ (List.mem_of_getElem? (i := 97) rfl)) rfl)
theorem wy_K_2 : u_lay "FlowKernel" TF_K 2 ∈ xo_WS := (nt_ok (nt_1 _ (List.mem_of_getElem? (i := 99) rfl)) rfl)
theorem wy_K_3 : u_lay "FlowKernel" TF_K 3 ∈ xo_WS := (nt_ok (nt_1 _ (List.mem_of_getElem? (i := 101) rfl)) rfl)
theorem wy_K_4 : u_lay "FlowKernel" TF_K 4 ∈ xo_WS := (nt_ok (nt_1 _ (List.mem_of_getElem? (i := 103) rfl)) rfl)
theorem wy_K_5 : u_lay "FlowKernel" TF_K 5 ∈ xo_WS := (nt_ok (nt_1 _ (List.mem_of_getElem? (i := 105) rfl)) rfl)
theorem wy_K_6 : u_lay "FlowKernel" TF_K 6 ∈ xo_WS := (nt_ok (nt_1 _ (List.mem_of_getElem? (i := 107) rfl)) rfl)
theorem wy_K_7 : u_lay "FlowKernel" TF_K 7 ∈ xo_WS := (nt_ok (nt_1 _ (List.mem_of_getElem? (i := 109) rfl)) rfl)
theorem wy_K : ∀ w ∈ u_ws "FlowKernel" TF_K 8, w ∈ xo_WS := by
  intro w hw
  obtain ⟨k, hk, rfl⟩ := List.mem_map.mp hw
  have hk := List.mem_range.mp hk
  match k, hk with
  | 0, _ => exact wy_K_0
  | 1, _ => exact wy_K_1
  | 2, _ => exact wy_K_2
  | 3, _ => exact wy_K_3
  | 4, _ => exact wy_K_4
  | 5, _ => exact wy_K_5
  | 6, _ => exact wy_K_6
  | 7, _ => exact wy_K_7
  | k + 8, h => exact absurd h (by omega)
theorem cb_K : xo_cb 0 "FlowKernel" TF_K 8 ty_K := ⟨rfl, wy_K, by decide +kernel, by decide +kernel⟩
theorem cd_K : ∀ k, k < 8 → xo_fv (fun _ => 0) (TF_K k).2.2.1 0 none = defaultValue (ty_K k) := by decide +kernel
theorem wi_K : Cond.initialized "FlowKernel" ∈ xo_WS := (nt_ok (nt_1 _ (List.mem_of_getElem? (i := 1) rfl)) rfl)
theorem wn_K : Cond.instantiable "FlowKernel" 8 ∈ xo_WS := (nt_ok (nt_1 _ (List.mem_of_getElem? (i := 12) rfl)) rfl)
theorem wy_L_0 : u_lay "FlowKernel$EventLog" TF_L 0 ∈ xo_WS := (nt_ok (nt_1 _ (List.mem_of_getElem? (i := 30) rfl)) rfl)
theorem wy_L_1 : u_lay "FlowKernel$EventLog" TF_L 1 ∈ xo_WS := (nt_ok (nt_1 _ (List.mem_of_getElem? (i := 32) rfl)) rfl)
theorem wy_L_2 : u_lay "FlowKernel$EventLog" TF_L 2 ∈ xo_WS := (nt_ok (nt_1 _ (List.mem_of_getElem? (i := 34) rfl)) rfl)
theorem wy_L_3 : u_lay "FlowKernel$EventLog" TF_L 3 ∈ xo_WS := (nt_ok (nt_1 _ (List.mem_of_getElem? (i := 36) rfl)) rfl)
theorem wy_L : ∀ w ∈ u_ws "FlowKernel$EventLog" TF_L 4, w ∈ xo_WS := by
  intro w hw
  obtain ⟨k, hk, rfl⟩ := List.mem_map.mp hw
  have hk := List.mem_range.mp hk
  match k, hk with
  | 0, _ => exact wy_L_0
  | 1, _ => exact wy_L_1
  | 2, _ => exact wy_L_2
  | 3, _ => exact wy_L_3
  | k + 4, h => exact absurd h (by omega)
theorem cb_L : xo_cb 1 "FlowKernel$EventLog" TF_L 4 ty_L := ⟨rfl, wy_L, by decide +kernel, by decide +kernel⟩
theorem cd_L : ∀ k, k < 4 → xo_fv (fun _ => 0) (TF_L k).2.2.1 0 none = defaultValue (ty_L k) := by decide +kernel
theorem wi_L : Cond.initialized "FlowKernel$EventLog" ∈ xo_WS := (nt_ok (nt_1 _ (List.mem_of_getElem? (i := 2) rfl)) rfl)
theorem wn_L : Cond.instantiable "FlowKernel$EventLog" 4 ∈ xo_WS := (nt_ok (nt_1 _ (List.mem_of_getElem? (i := 20) rfl)) rfl)
theorem wy_J_0 : u_lay "FlowKernel$JobRow" TF_J 0 ∈ xo_WS := (nt_ok (nt_1 _ (List.mem_of_getElem? (i := 74) rfl)) rfl)
theorem wy_J_1 : u_lay "FlowKernel$JobRow" TF_J 1 ∈ xo_WS := (nt_ok (nt_1 _ (List.mem_of_getElem? (i := 76) rfl)) rfl)
theorem wy_J_2 : u_lay "FlowKernel$JobRow" TF_J 2 ∈ xo_WS := (nt_ok (nt_1 _ (List.mem_of_getElem? (i := 78) rfl)) rfl)
theorem wy_J : ∀ w ∈ u_ws "FlowKernel$JobRow" TF_J 3, w ∈ xo_WS := by
  intro w hw
  obtain ⟨k, hk, rfl⟩ := List.mem_map.mp hw
  have hk := List.mem_range.mp hk
  match k, hk with
  | 0, _ => exact wy_J_0
  | 1, _ => exact wy_J_1
  | 2, _ => exact wy_J_2
  | k + 3, h => exact absurd h (by omega)
theorem cb_J : xo_cb 2 "FlowKernel$JobRow" TF_J 3 ty_J := ⟨rfl, wy_J, by decide +kernel, by decide +kernel⟩
theorem cd_J : ∀ k, k < 3 → xo_fv (fun _ => 0) (TF_J k).2.2.1 0 none = defaultValue (ty_J k) := by decide +kernel
theorem wi_J : Cond.initialized "FlowKernel$JobRow" ∈ xo_WS := (nt_ok (nt_1 _ (List.mem_of_getElem? (i := 3) rfl)) rfl)
theorem wn_J : Cond.instantiable "FlowKernel$JobRow" 3 ∈ xo_WS := (nt_ok (nt_1 _ (List.mem_of_getElem? (i := 41) rfl)) rfl)
theorem wy_R_0 : u_lay "FlowKernel$Row" TF_R 0 ∈ xo_WS := (nt_ok (nt_1 _ (List.mem_of_getElem? (i := 61) rfl)) rfl)
theorem wy_R_1 : u_lay "FlowKernel$Row" TF_R 1 ∈ xo_WS := (nt_ok (nt_1 _ (List.mem_of_getElem? (i := 63) rfl)) rfl)
theorem wy_R_2 : u_lay "FlowKernel$Row" TF_R 2 ∈ xo_WS := (nt_ok (nt_1 _ (List.mem_of_getElem? (i := 65) rfl)) rfl)
theorem wy_R : ∀ w ∈ u_ws "FlowKernel$Row" TF_R 3, w ∈ xo_WS := by
  intro w hw
  obtain ⟨k, hk, rfl⟩ := List.mem_map.mp hw
  have hk := List.mem_range.mp hk
  match k, hk with
  | 0, _ => exact wy_R_0
  | 1, _ => exact wy_R_1
  | 2, _ => exact wy_R_2
  | k + 3, h => exact absurd h (by omega)
theorem cb_R : xo_cb 3 "FlowKernel$Row" TF_R 3 ty_R := ⟨rfl, wy_R, by decide +kernel, by decide +kernel⟩
theorem cd_R : ∀ k, k < 3 → xo_fv (fun _ => 0) (TF_R k).2.2.1 0 none = defaultValue (ty_R k) := by decide +kernel
theorem wi_R : Cond.initialized "FlowKernel$Row" ∈ xo_WS := (nt_ok (nt_1 _ (List.mem_of_getElem? (i := 4) rfl)) rfl)
theorem wn_R : Cond.instantiable "FlowKernel$Row" 3 ∈ xo_WS := (nt_ok (nt_1 _ (List.mem_of_getElem? (i := 47) rfl)) rfl)
theorem wy_C_0 : u_lay "FlowKernel$ChunkRow" TF_C 0 ∈ xo_WS := (nt_ok (nt_1 _ (List.mem_of_getElem? (i := 140) rfl)) rfl)
theorem wy_C_1 : u_lay "FlowKernel$ChunkRow" TF_C 1 ∈ xo_WS := (nt_ok (nt_1 _ (List.mem_of_getElem? (i := 142) rfl)) rfl)
theorem wy_C_2 : u_lay "FlowKernel$ChunkRow" TF_C 2 ∈ xo_WS := (nt_ok (nt_1 _ (List.mem_of_getElem? (i := 144) rfl)) rfl)
theorem wy_C_3 : u_lay "FlowKernel$ChunkRow" TF_C 3 ∈ xo_WS := (nt_ok (nt_1 _ (List.mem_of_getElem? (i := 146) rfl)) rfl)
theorem wy_C : ∀ w ∈ u_ws "FlowKernel$ChunkRow" TF_C 4, w ∈ xo_WS := by
  intro w hw
  obtain ⟨k, hk, rfl⟩ := List.mem_map.mp hw
  have hk := List.mem_range.mp hk
  match k, hk with
  | 0, _ => exact wy_C_0
  | 1, _ => exact wy_C_1
  | 2, _ => exact wy_C_2
  | 3, _ => exact wy_C_3
  | k + 4, h => exact absurd h (by omega)
theorem cb_C : xo_cb 4 "FlowKernel$ChunkRow" TF_C 4 ty_C := ⟨rfl, wy_C, by decide +kernel, by decide +kernel⟩
theorem cd_C : ∀ k, k < 4 → xo_fv (fun _ => 0) (TF_C k).2.2.1 0 none = defaultValue (ty_C k) := by decide +kernel
theorem wi_C : Cond.initialized "FlowKernel$ChunkRow" ∈ xo_WS := (nt_ok (nt_1 _ (List.mem_of_getElem? (i := 7) rfl)) rfl)
theorem wn_C : Cond.instantiable "FlowKernel$ChunkRow" 4 ∈ xo_WS := (nt_ok (nt_1 _ (List.mem_of_getElem? (i := 125) rfl)) rfl)
theorem wy_G_0 : u_lay "FlowKernel$Giver" TF_G 0 ∈ xo_WS := (nt_ok (nt_1 _ (List.mem_of_getElem? (i := 182) rfl)) rfl)
theorem wy_G_1 : u_lay "FlowKernel$Giver" TF_G 1 ∈ xo_WS := (nt_ok (nt_1 _ (List.mem_of_getElem? (i := 184) rfl)) rfl)
theorem wy_G_2 : u_lay "FlowKernel$Giver" TF_G 2 ∈ xo_WS := (nt_ok (nt_1 _ (List.mem_of_getElem? (i := 186) rfl)) rfl)
theorem wy_G_3 : u_lay "FlowKernel$Giver" TF_G 3 ∈ xo_WS := (nt_ok (nt_1 _ (List.mem_of_getElem? (i := 188) rfl)) rfl)
theorem wy_G_4 : u_lay "FlowKernel$Giver" TF_G 4 ∈ xo_WS := (nt_ok (nt_1 _ (List.mem_of_getElem? (i := 190) rfl)) rfl)
theorem wy_G_5 : u_lay "FlowKernel$Giver" TF_G 5 ∈ xo_WS := (nt_ok (nt_1 _ (List.mem_of_getElem? (i := 192) rfl)) rfl)
theorem wy_G_6 : u_lay "FlowKernel$Giver" TF_G 6 ∈ xo_WS := (nt_ok (nt_1 _ (List.mem_of_getElem? (i := 194) rfl)) rfl)
theorem wy_G_7 : u_lay "FlowKernel$Giver" TF_G 7 ∈ xo_WS := (nt_ok (nt_1 _ (List.mem_of_getElem? (i := 196) rfl)) rfl)
theorem wy_G_8 : u_lay "FlowKernel$Giver" TF_G 8 ∈ xo_WS := (nt_ok (nt_1 _ (List.mem_of_getElem? (i := 198) rfl)) rfl)
theorem wy_G_9 : u_lay "FlowKernel$Giver" TF_G 9 ∈ xo_WS := (nt_ok (nt_1 _ (List.mem_of_getElem? (i := 200) rfl)) rfl)
theorem wy_G_10 : u_lay "FlowKernel$Giver" TF_G 10 ∈ xo_WS := (nt_ok (nt_1 _ (List.mem_of_getElem? (i := 202) rfl)) rfl)
theorem wy_G_11 : u_lay "FlowKernel$Giver" TF_G 11 ∈ xo_WS := (nt_ok (nt_1 _ (List.mem_of_getElem? (i := 204) rfl)) rfl)
theorem wy_G_12 : u_lay "FlowKernel$Giver" TF_G 12 ∈ xo_WS := (nt_ok (nt_1 _ (List.mem_of_getElem? (i := 206) rfl)) rfl)
theorem wy_G_13 : u_lay "FlowKernel$Giver" TF_G 13 ∈ xo_WS := (nt_ok (nt_1 _ (List.mem_of_getElem? (i := 208) rfl)) rfl)
theorem wy_G : ∀ w ∈ u_ws "FlowKernel$Giver" TF_G 14, w ∈ xo_WS := by
  intro w hw
  obtain ⟨k, hk, rfl⟩ := List.mem_map.mp hw
  have hk := List.mem_range.mp hk
  match k, hk with
  | 0, _ => exact wy_G_0
  | 1, _ => exact wy_G_1
  | 2, _ => exact wy_G_2
  | 3, _ => exact wy_G_3
  | 4, _ => exact wy_G_4
  | 5, _ => exact wy_G_5
  | 6, _ => exact wy_G_6
  | 7, _ => exact wy_G_7
  | 8, _ => exact wy_G_8
  | 9, _ => exact wy_G_9
  | 10, _ => exact wy_G_10
  | 11, _ => exact wy_G_11
  | 12, _ => exact wy_G_12
  | 13, _ => exact wy_G_13
  | k + 14, h => exact absurd h (by omega)
theorem cb_G : xo_cb 5 "FlowKernel$Giver" TF_G 14 ty_G := ⟨rfl, wy_G, by decide +kernel, by decide +kernel⟩
theorem cd_G : ∀ k, k < 14 → xo_fv (fun _ => 0) (TF_G k).2.2.1 0 none = defaultValue (ty_G k) := by decide +kernel
theorem wi_G : Cond.initialized "FlowKernel$Giver" ∈ xo_WS := (nt_ok (nt_1 _ (List.mem_of_getElem? (i := 6) rfl)) rfl)
theorem wn_G : Cond.instantiable "FlowKernel$Giver" 14 ∈ xo_WS := (nt_ok (nt_1 _ (List.mem_of_getElem? (i := 123) rfl)) rfl)
theorem wy_A_0 : u_lay "FlowKernel$Parting" TF_A 0 ∈ xo_WS := (nt_ok (nt_3 _ (List.mem_of_getElem? (i := 99) rfl)) rfl)
theorem wy_A_1 : u_lay "FlowKernel$Parting" TF_A 1 ∈ xo_WS := (nt_ok (nt_3 _ (List.mem_of_getElem? (i := 101) rfl)) rfl)
theorem wy_A_2 : u_lay "FlowKernel$Parting" TF_A 2 ∈ xo_WS := (nt_ok (nt_3 _ (List.mem_of_getElem? (i := 103) rfl)) rfl)
theorem wy_A_3 : u_lay "FlowKernel$Parting" TF_A 3 ∈ xo_WS := (nt_ok (nt_3 _ (List.mem_of_getElem? (i := 105) rfl)) rfl)
theorem wy_A : ∀ w ∈ u_ws "FlowKernel$Parting" TF_A 4, w ∈ xo_WS := by
  intro w hw
  obtain ⟨k, hk, rfl⟩ := List.mem_map.mp hw
  have hk := List.mem_range.mp hk
  match k, hk with
  | 0, _ => exact wy_A_0
  | 1, _ => exact wy_A_1
  | 2, _ => exact wy_A_2
  | 3, _ => exact wy_A_3
  | k + 4, h => exact absurd h (by omega)
theorem cb_A : xo_cb 6 "FlowKernel$Parting" TF_A 4 ty_A := ⟨rfl, wy_A, by decide +kernel, by decide +kernel⟩
theorem cd_A : ∀ k, k < 4 → xo_fv (fun _ => 0) (TF_A k).2.2.1 0 none = defaultValue (ty_A k) := by decide +kernel
theorem wi_A : Cond.initialized "FlowKernel$Parting" ∈ xo_WS := (nt_ok (nt_1 _ (List.mem_of_getElem? (i := 10) rfl)) rfl)
theorem wn_A : Cond.instantiable "FlowKernel$Parting" 4 ∈ xo_WS := (nt_ok (nt_3 _ (List.mem_of_getElem? (i := 87) rfl)) rfl)
theorem wy_T_0 : u_lay "FlowKernel$Taker" TF_T 0 ∈ xo_WS := (nt_ok (nt_2 _ (List.mem_of_getElem? (i := 85) rfl)) rfl)
theorem wy_T_1 : u_lay "FlowKernel$Taker" TF_T 1 ∈ xo_WS := (nt_ok (nt_2 _ (List.mem_of_getElem? (i := 87) rfl)) rfl)
theorem wy_T_2 : u_lay "FlowKernel$Taker" TF_T 2 ∈ xo_WS := (nt_ok (nt_2 _ (List.mem_of_getElem? (i := 89) rfl)) rfl)
theorem wy_T_3 : u_lay "FlowKernel$Taker" TF_T 3 ∈ xo_WS := (nt_ok (nt_2 _ (List.mem_of_getElem? (i := 91) rfl)) rfl)
theorem wy_T_4 : u_lay "FlowKernel$Taker" TF_T 4 ∈ xo_WS := (nt_ok (nt_2 _ (List.mem_of_getElem? (i := 93) rfl)) rfl)
theorem wy_T_5 : u_lay "FlowKernel$Taker" TF_T 5 ∈ xo_WS := (nt_ok (nt_2 _ (List.mem_of_getElem? (i := 95) rfl)) rfl)
theorem wy_T_6 : u_lay "FlowKernel$Taker" TF_T 6 ∈ xo_WS := (nt_ok (nt_2 _ (List.mem_of_getElem? (i := 97) rfl)) rfl)
theorem wy_T_7 : u_lay "FlowKernel$Taker" TF_T 7 ∈ xo_WS := (nt_ok (nt_2 _ (List.mem_of_getElem? (i := 99) rfl)) rfl)
theorem wy_T_8 : u_lay "FlowKernel$Taker" TF_T 8 ∈ xo_WS := (nt_ok (nt_2 _ (List.mem_of_getElem? (i := 101) rfl)) rfl)
theorem wy_T_9 : u_lay "FlowKernel$Taker" TF_T 9 ∈ xo_WS := (nt_ok (nt_2 _ (List.mem_of_getElem? (i := 103) rfl)) rfl)
theorem wy_T_10 : u_lay "FlowKernel$Taker" TF_T 10 ∈ xo_WS := (nt_ok (nt_2 _ (List.mem_of_getElem? (i := 105) rfl)) rfl)
theorem wy_T_11 : u_lay "FlowKernel$Taker" TF_T 11 ∈ xo_WS := (nt_ok (nt_2 _ (List.mem_of_getElem? (i := 107) rfl)) rfl)
theorem wy_T_12 : u_lay "FlowKernel$Taker" TF_T 12 ∈ xo_WS := (nt_ok (nt_2 _ (List.mem_of_getElem? (i := 109) rfl)) rfl)
theorem wy_T : ∀ w ∈ u_ws "FlowKernel$Taker" TF_T 13, w ∈ xo_WS := by
  intro w hw
  obtain ⟨k, hk, rfl⟩ := List.mem_map.mp hw
  have hk := List.mem_range.mp hk
  match k, hk with
  | 0, _ => exact wy_T_0
  | 1, _ => exact wy_T_1
  | 2, _ => exact wy_T_2
  | 3, _ => exact wy_T_3
  | 4, _ => exact wy_T_4
  | 5, _ => exact wy_T_5
  | 6, _ => exact wy_T_6
  | 7, _ => exact wy_T_7
  | 8, _ => exact wy_T_8
  | 9, _ => exact wy_T_9
  | 10, _ => exact wy_T_10
  | 11, _ => exact wy_T_11
  | 12, _ => exact wy_T_12
  | k + 13, h => exact absurd h (by omega)
theorem cb_T : xo_cb 7 "FlowKernel$Taker" TF_T 13 ty_T := ⟨rfl, wy_T, by decide +kernel, by decide +kernel⟩
theorem cd_T : ∀ k, k < 13 → xo_fv (fun _ => 0) (TF_T k).2.2.1 0 none = defaultValue (ty_T k) := by decide +kernel
theorem wi_T : Cond.initialized "FlowKernel$Taker" ∈ xo_WS := (nt_ok (nt_1 _ (List.mem_of_getElem? (i := 8) rfl)) rfl)
theorem wn_T : Cond.instantiable "FlowKernel$Taker" 13 ∈ xo_WS := (nt_ok (nt_2 _ (List.mem_of_getElem? (i := 56) rfl)) rfl)
theorem wy_P_0 : u_lay "FlowKernel$Pipe" TF_P 0 ∈ xo_WS := (nt_ok (nt_3 _ (List.mem_of_getElem? (i := 67) rfl)) rfl)
theorem wy_P_1 : u_lay "FlowKernel$Pipe" TF_P 1 ∈ xo_WS := (nt_ok (nt_3 _ (List.mem_of_getElem? (i := 69) rfl)) rfl)
theorem wy_P_2 : u_lay "FlowKernel$Pipe" TF_P 2 ∈ xo_WS := (nt_ok (nt_3 _ (List.mem_of_getElem? (i := 71) rfl)) rfl)
theorem wy_P_3 : u_lay "FlowKernel$Pipe" TF_P 3 ∈ xo_WS := (nt_ok (nt_3 _ (List.mem_of_getElem? (i := 73) rfl)) rfl)
theorem wy_P_4 : u_lay "FlowKernel$Pipe" TF_P 4 ∈ xo_WS := (nt_ok (nt_3 _ (List.mem_of_getElem? (i := 75) rfl)) rfl)
theorem wy_P_5 : u_lay "FlowKernel$Pipe" TF_P 5 ∈ xo_WS := (nt_ok (nt_3 _ (List.mem_of_getElem? (i := 77) rfl)) rfl)
theorem wy_P_6 : u_lay "FlowKernel$Pipe" TF_P 6 ∈ xo_WS := (nt_ok (nt_3 _ (List.mem_of_getElem? (i := 79) rfl)) rfl)
theorem wy_P : ∀ w ∈ u_ws "FlowKernel$Pipe" TF_P 7, w ∈ xo_WS := by
  intro w hw
  obtain ⟨k, hk, rfl⟩ := List.mem_map.mp hw
  have hk := List.mem_range.mp hk
  match k, hk with
  | 0, _ => exact wy_P_0
  | 1, _ => exact wy_P_1
  | 2, _ => exact wy_P_2
  | 3, _ => exact wy_P_3
  | 4, _ => exact wy_P_4
  | 5, _ => exact wy_P_5
  | 6, _ => exact wy_P_6
  | k + 7, h => exact absurd h (by omega)
theorem cb_P : xo_cb 8 "FlowKernel$Pipe" TF_P 7 ty_P := ⟨rfl, wy_P, by decide +kernel, by decide +kernel⟩
theorem cd_P : ∀ k, k < 7 → xo_fv (fun _ => 0) (TF_P k).2.2.1 0 none = defaultValue (ty_P k) := by decide +kernel
theorem wi_P : Cond.initialized "FlowKernel$Pipe" ∈ xo_WS := (nt_ok (nt_1 _ (List.mem_of_getElem? (i := 9) rfl)) rfl)
theorem wn_P : Cond.instantiable "FlowKernel$Pipe" 7 ∈ xo_WS := (nt_ok (nt_3 _ (List.mem_of_getElem? (i := 48) rfl)) rfl)
theorem wy_M_0 : u_lay "FlowKernelModel" TF_M 0 ∈ xo_WS := (nt_ok (nt_4 _ (List.mem_of_getElem? (i := 49) rfl)) rfl)
theorem wy_M_1 : u_lay "FlowKernelModel" TF_M 1 ∈ xo_WS := (nt_ok (nt_4 _ (List.mem_of_getElem? (i := 51) rfl)) rfl)
theorem wy_M_2 : u_lay "FlowKernelModel" TF_M 2 ∈ xo_WS := (nt_ok (nt_4 _ (List.mem_of_getElem? (i := 53) rfl)) rfl)
theorem wy_M_3 : u_lay "FlowKernelModel" TF_M 3 ∈ xo_WS := (nt_ok (nt_4 _ (List.mem_of_getElem? (i := 55) rfl)) rfl)
theorem wy_M_4 : u_lay "FlowKernelModel" TF_M 4 ∈ xo_WS := (nt_ok (nt_4 _ (List.mem_of_getElem? (i := 57) rfl)) rfl)
theorem wy_M_5 : u_lay "FlowKernelModel" TF_M 5 ∈ xo_WS := (nt_ok (nt_4 _ (List.mem_of_getElem? (i := 59) rfl)) rfl)
theorem wy_M_6 : u_lay "FlowKernelModel" TF_M 6 ∈ xo_WS := (nt_ok (nt_4 _ (List.mem_of_getElem? (i := 61) rfl)) rfl)
theorem wy_M_7 : u_lay "FlowKernelModel" TF_M 7 ∈ xo_WS := (nt_ok (nt_4 _ (List.mem_of_getElem? (i := 63) rfl)) rfl)
theorem wy_M_8 : u_lay "FlowKernelModel" TF_M 8 ∈ xo_WS := (nt_ok (nt_4 _ (List.mem_of_getElem? (i := 65) rfl)) rfl)
theorem wy_M_9 : u_lay "FlowKernelModel" TF_M 9 ∈ xo_WS := (nt_ok (nt_4 _ (List.mem_of_getElem? (i := 67) rfl)) rfl)
theorem wy_M_10 : u_lay "FlowKernelModel" TF_M 10 ∈ xo_WS := (nt_ok (nt_4 _ (List.mem_of_getElem? (i := 69) rfl)) rfl)
theorem wy_M_11 : u_lay "FlowKernelModel" TF_M 11 ∈ xo_WS := (nt_ok (nt_4 _ (List.mem_of_getElem? (i := 71) rfl)) rfl)
theorem wy_M_12 : u_lay "FlowKernelModel" TF_M 12 ∈ xo_WS := (nt_ok (nt_4 _ (List.mem_of_getElem? (i := 73) rfl)) rfl)
theorem wy_M_13 : u_lay "FlowKernelModel" TF_M 13 ∈ xo_WS := (nt_ok (nt_4 _ (List.mem_of_getElem? (i := 75) rfl)) rfl)
theorem wy_M_14 : u_lay "FlowKernelModel" TF_M 14 ∈ xo_WS := (nt_ok (nt_4 _ (List.mem_of_getElem? (i := 77) rfl)) rfl)
theorem wy_M_15 : u_lay "FlowKernelModel" TF_M 15 ∈ xo_WS := (nt_ok (nt_4 _ (List.mem_of_getElem? (i := 79) rfl)) rfl)
theorem wy_M_16 : u_lay "FlowKernelModel" TF_M 16 ∈ xo_WS := (nt_ok (nt_4 _ (List.mem_of_getElem? (i := 81) rfl)) rfl)
theorem wy_M_17 : u_lay "FlowKernelModel" TF_M 17 ∈ xo_WS := (nt_ok (nt_4 _ (List.mem_of_getElem? (i := 83) rfl)) rfl)
theorem wy_M_18 : u_lay "FlowKernelModel" TF_M 18 ∈ xo_WS := (nt_ok (nt_4 _ (List.mem_of_getElem? (i := 85) rfl)) rfl)
theorem wy_M_19 : u_lay "FlowKernelModel" TF_M 19 ∈ xo_WS := (nt_ok (nt_4 _ (List.mem_of_getElem? (i := 87) rfl)) rfl)
theorem wy_M_20 : u_lay "FlowKernelModel" TF_M 20 ∈ xo_WS := (nt_ok (nt_4 _ (List.mem_of_getElem? (i := 89) rfl)) rfl)
theorem wy_M_21 : u_lay "FlowKernelModel" TF_M 21 ∈ xo_WS := (nt_ok (nt_4 _ (List.mem_of_getElem? (i := 91) rfl)) rfl)
theorem wy_M_22 : u_lay "FlowKernelModel" TF_M 22 ∈ xo_WS := (nt_ok (nt_4 _ (List.mem_of_getElem? (i := 93) rfl)) rfl)
theorem wy_M_23 : u_lay "FlowKernelModel" TF_M 23 ∈ xo_WS := (nt_ok (nt_4 _ (List.mem_of_getElem? (i := 95) rfl)) rfl)
theorem wy_M_24 : u_lay "FlowKernelModel" TF_M 24 ∈ xo_WS := (nt_ok (nt_4 _ (List.mem_of_getElem? (i := 97) rfl)) rfl)
theorem wy_M_25 : u_lay "FlowKernelModel" TF_M 25 ∈ xo_WS := (nt_ok (nt_4 _ (List.mem_of_getElem? (i := 99) rfl)) rfl)
theorem wy_M_26 : u_lay "FlowKernelModel" TF_M 26 ∈ xo_WS := (nt_ok (nt_4 _ (List.mem_of_getElem? (i := 101) rfl)) rfl)
theorem wy_M_27 : u_lay "FlowKernelModel" TF_M 27 ∈ xo_WS := (nt_ok (nt_4 _ (List.mem_of_getElem? (i := 103) rfl)) rfl)
theorem wy_M_28 : u_lay "FlowKernelModel" TF_M 28 ∈ xo_WS := (nt_ok (nt_4 _ (List.mem_of_getElem? (i := 105) rfl)) rfl)
theorem wy_M_29 : u_lay "FlowKernelModel" TF_M 29 ∈ xo_WS := (nt_ok (nt_4 _ (List.mem_of_getElem? (i := 107) rfl)) rfl)
theorem wy_M_30 : u_lay "FlowKernelModel" TF_M 30 ∈ xo_WS := (nt_ok (nt_4 _ (List.mem_of_getElem? (i := 109) rfl)) rfl)
theorem wy_M_31 : u_lay "FlowKernelModel" TF_M 31 ∈ xo_WS := (nt_ok (nt_4 _ (List.mem_of_getElem? (i := 111) rfl)) rfl)
theorem wy_M_32 : u_lay "FlowKernelModel" TF_M 32 ∈ xo_WS := (nt_ok (nt_4 _ (List.mem_of_getElem? (i := 113) rfl)) rfl)
theorem wy_M_33 : u_lay "FlowKernelModel" TF_M 33 ∈ xo_WS := (nt_ok (nt_4 _ (List.mem_of_getElem? (i := 115) rfl)) rfl)
theorem wy_M_34 : u_lay "FlowKernelModel" TF_M 34 ∈ xo_WS := (nt_ok (nt_4 _ (List.mem_of_getElem? (i := 117) rfl)) rfl)
theorem wy_M_35 : u_lay "FlowKernelModel" TF_M 35 ∈ xo_WS := (nt_ok (nt_4 _ (List.mem_of_getElem? (i := 119) rfl)) rfl)
theorem wy_M_36 : u_lay "FlowKernelModel" TF_M 36 ∈ xo_WS := (nt_ok (nt_4 _ (List.mem_of_getElem? (i := 121) rfl)) rfl)
theorem wy_M_37 : u_lay "FlowKernelModel" TF_M 37 ∈ xo_WS := (nt_ok (nt_4 _ (List.mem_of_getElem? (i := 123) rfl)) rfl)
theorem wy_M_38 : u_lay "FlowKernelModel" TF_M 38 ∈ xo_WS := (nt_ok (nt_4 _ (List.mem_of_getElem? (i := 125) rfl)) rfl)
theorem wy_M_39 : u_lay "FlowKernelModel" TF_M 39 ∈ xo_WS := (nt_ok (nt_4 _ (List.mem_of_getElem? (i := 127) rfl)) rfl)
theorem wy_M_40 : u_lay "FlowKernelModel" TF_M 40 ∈ xo_WS := (nt_ok (nt_4 _ (List.mem_of_getElem? (i := 129) rfl)) rfl)
theorem wy_M_41 : u_lay "FlowKernelModel" TF_M 41 ∈ xo_WS := (nt_ok (nt_4 _ (List.mem_of_getElem? (i := 131) rfl)) rfl)
theorem wy_M_42 : u_lay "FlowKernelModel" TF_M 42 ∈ xo_WS := (nt_ok (nt_4 _ (List.mem_of_getElem? (i := 133) rfl)) rfl)
theorem wy_M_43 : u_lay "FlowKernelModel" TF_M 43 ∈ xo_WS := (nt_ok (nt_4 _ (List.mem_of_getElem? (i := 135) rfl)) rfl)
theorem wy_M_44 : u_lay "FlowKernelModel" TF_M 44 ∈ xo_WS := (nt_ok (nt_4 _ (List.mem_of_getElem? (i := 137) rfl)) rfl)
theorem wy_M_45 : u_lay "FlowKernelModel" TF_M 45 ∈ xo_WS := (nt_ok (nt_4 _ (List.mem_of_getElem? (i := 139) rfl)) rfl)
theorem wy_M_46 : u_lay "FlowKernelModel" TF_M 46 ∈ xo_WS := (nt_ok (nt_4 _ (List.mem_of_getElem? (i := 141) rfl)) rfl)
theorem wy_M_47 : u_lay "FlowKernelModel" TF_M 47 ∈ xo_WS := (nt_ok (nt_4 _ (List.mem_of_getElem? (i := 143) rfl)) rfl)
theorem wy_M_48 : u_lay "FlowKernelModel" TF_M 48 ∈ xo_WS := (nt_ok (nt_4 _ (List.mem_of_getElem? (i := 145) rfl)) rfl)
theorem wy_M_49 : u_lay "FlowKernelModel" TF_M 49 ∈ xo_WS := (nt_ok (nt_4 _ (List.mem_of_getElem? (i := 147) rfl)) rfl)
theorem wy_M_50 : u_lay "FlowKernelModel" TF_M 50 ∈ xo_WS := (nt_ok (nt_4 _ (List.mem_of_getElem? (i := 149) rfl)) rfl)
theorem wy_M : ∀ w ∈ u_ws "FlowKernelModel" TF_M 51, w ∈ xo_WS := by
  intro w hw
  obtain ⟨k, hk, rfl⟩ := List.mem_map.mp hw
  have hk := List.mem_range.mp hk
  match k, hk with
  | 0, _ => exact wy_M_0
  | 1, _ => exact wy_M_1
  | 2, _ => exact wy_M_2
  | 3, _ => exact wy_M_3
  | 4, _ => exact wy_M_4
  | 5, _ => exact wy_M_5
  | 6, _ => exact wy_M_6
  | 7, _ => exact wy_M_7
  | 8, _ => exact wy_M_8
  | 9, _ => exact wy_M_9
  | 10, _ => exact wy_M_10
  | 11, _ => exact wy_M_11
  | 12, _ => exact wy_M_12
  | 13, _ => exact wy_M_13
  | 14, _ => exact wy_M_14
  | 15, _ => exact wy_M_15
  | 16, _ => exact wy_M_16
  | 17, _ => exact wy_M_17
  | 18, _ => exact wy_M_18
  | 19, _ => exact wy_M_19
  | 20, _ => exact wy_M_20
  | 21, _ => exact wy_M_21
  | 22, _ => exact wy_M_22
  | 23, _ => exact wy_M_23
  | 24, _ => exact wy_M_24
  | 25, _ => exact wy_M_25
  | 26, _ => exact wy_M_26
  | 27, _ => exact wy_M_27
  | 28, _ => exact wy_M_28
  | 29, _ => exact wy_M_29
  | 30, _ => exact wy_M_30
  | 31, _ => exact wy_M_31
  | 32, _ => exact wy_M_32
  | 33, _ => exact wy_M_33
  | 34, _ => exact wy_M_34
  | 35, _ => exact wy_M_35
  | 36, _ => exact wy_M_36
  | 37, _ => exact wy_M_37
  | 38, _ => exact wy_M_38
  | 39, _ => exact wy_M_39
  | 40, _ => exact wy_M_40
  | 41, _ => exact wy_M_41
  | 42, _ => exact wy_M_42
  | 43, _ => exact wy_M_43
  | 44, _ => exact wy_M_44
  | 45, _ => exact wy_M_45
  | 46, _ => exact wy_M_46
  | 47, _ => exact wy_M_47
  | 48, _ => exact wy_M_48
  | 49, _ => exact wy_M_49
  | 50, _ => exact wy_M_50
  | k + 51, h => exact absurd h (by omega)
theorem cb_M : xo_cb 9 "FlowKernelModel" TF_M 51 ty_M := ⟨rfl, wy_M, by decide +kernel, by decide +kernel⟩
theorem cd_M : ∀ k, k < 51 → xo_fv (fun _ => 0) (TF_M k).2.2.1 0 none = defaultValue (ty_M k) := by decide +kernel
theorem wi_M : Cond.initialized "FlowKernelModel" ∈ xo_WS := (nt_ok (nt_1 _ (List.mem_of_getElem? (i := 5) rfl)) rfl)
theorem wn_M : Cond.instantiable "FlowKernelModel" 51 ∈ xo_WS := (nt_ok (nt_3 _ (List.mem_of_getElem? (i := 233) rfl)) rfl)
theorem wa_0 : Cond.arrayClass (xo_ta 0) ∈ xo_WS := (nt_ok (nt_1 _ (List.mem_of_getElem? (i := 39) rfl)) rfl)
theorem wa_1 : Cond.arrayClass (xo_ta 1) ∈ xo_WS := (nt_ok (nt_4 _ (List.mem_of_getElem? (i := 152) rfl)) rfl)
theorem wo_inst : Cond.instanceMethod Lib.objectInit ∈ xo_WS := (nt_ok (nt_1 _ (List.mem_of_getElem? (i := 17) rfl)) rfl)
theorem wo_code : Cond.code Lib.objectInit ⟨#[0xb1]⟩ 1 none ∈ xo_WS := (nt_ok (nt_1 _ (List.mem_of_getElem? (i := 18) rfl)) rfl)
theorem wo_L_3 : Cond.methodLink "FlowKernel$EventLog" 3 Lib.objectInit ∈ xo_WS := (nt_ok (nt_1 _ (List.mem_of_getElem? (i := 24) rfl)) rfl)
theorem ff_L_9 : xo_fd "FlowKernel$EventLog" 9 1 0 "[I" true := ⟨"FlowKernel$EventLog", TF_L, 4, ty_L, cb_L, Or.inl (nt_ok (nt_1 _ (List.mem_of_getElem? (i := 25) rfl)) rfl), by decide, rfl, rfl, rfl⟩
theorem fF_L_9 : xo_fF "FlowKernel$EventLog" 9 1 0 "[I" := ⟨"FlowKernel$EventLog", TF_L, 4, ty_L, cb_L, (nt_ok (nt_1 _ (List.mem_of_getElem? (i := 25) rfl)) rfl), by decide, rfl, rfl, rfl, rfl⟩
theorem ff_L_15 : xo_fd "FlowKernel$EventLog" 15 1 1 "[I" true := ⟨"FlowKernel$EventLog", TF_L, 4, ty_L, cb_L, Or.inl (nt_ok (nt_1 _ (List.mem_of_getElem? (i := 26) rfl)) rfl), by decide, rfl, rfl, rfl⟩
theorem fF_L_15 : xo_fF "FlowKernel$EventLog" 15 1 1 "[I" := ⟨"FlowKernel$EventLog", TF_L, 4, ty_L, cb_L, (nt_ok (nt_1 _ (List.mem_of_getElem? (i := 26) rfl)) rfl), by decide, rfl, rfl, rfl, rfl⟩
theorem ff_L_18 : xo_fd "FlowKernel$EventLog" 18 1 2 "[I" true := ⟨"FlowKernel$EventLog", TF_L, 4, ty_L, cb_L, Or.inl (nt_ok (nt_1 _ (List.mem_of_getElem? (i := 27) rfl)) rfl), by decide, rfl, rfl, rfl⟩
theorem fF_L_18 : xo_fF "FlowKernel$EventLog" 18 1 2 "[I" := ⟨"FlowKernel$EventLog", TF_L, 4, ty_L, cb_L, (nt_ok (nt_1 _ (List.mem_of_getElem? (i := 27) rfl)) rfl), by decide, rfl, rfl, rfl, rfl⟩
theorem wo_R_1 : Cond.methodLink "FlowKernel$Row" 1 Lib.objectInit ∈ xo_WS := (nt_ok (nt_1 _ (List.mem_of_getElem? (i := 51) rfl)) rfl)
theorem ff_R_7 : xo_fd "FlowKernel$Row" 7 3 0 "[I" true := ⟨"FlowKernel$Row", TF_R, 3, ty_R, cb_R, Or.inl (nt_ok (nt_1 _ (List.mem_of_getElem? (i := 52) rfl)) rfl), by decide, rfl, rfl, rfl⟩
theorem fF_R_7 : xo_fF "FlowKernel$Row" 7 3 0 "[I" := ⟨"FlowKernel$Row", TF_R, 3, ty_R, cb_R, (nt_ok (nt_1 _ (List.mem_of_getElem? (i := 52) rfl)) rfl), by decide, rfl, rfl, rfl, rfl⟩
theorem wo_J_3 : Cond.methodLink "FlowKernel$JobRow" 3 Lib.objectInit ∈ xo_WS := (nt_ok (nt_1 _ (List.mem_of_getElem? (i := 45) rfl)) rfl)
theorem co_J_9 : xo_cO "FlowKernel$JobRow" 9 3 3 := ⟨"FlowKernel$Row", TF_R, ty_R, cb_R, cd_R, (nt_ok (nt_1 _ (List.mem_of_getElem? (i := 46) rfl)) rfl), wn_R, wi_R⟩
theorem ml_J_11 : xo_ml "FlowKernel$JobRow" 11 ⟨"FlowKernel$Row", "<init>", "(I)V"⟩ := Or.inl (nt_ok (nt_1 _ (List.mem_of_getElem? (i := 48) rfl)) rfl)
theorem ff_J_14 : xo_fd "FlowKernel$JobRow" 14 2 0 "LFlowKernel$Row;" true := ⟨"FlowKernel$JobRow", TF_J, 3, ty_J, cb_J, Or.inl (nt_ok (nt_1 _ (List.mem_of_getElem? (i := 68) rfl)) rfl), by decide, rfl, rfl, rfl⟩
theorem fF_J_14 : xo_fF "FlowKernel$JobRow" 14 2 0 "LFlowKernel$Row;" := ⟨"FlowKernel$JobRow", TF_J, 3, ty_J, cb_J, (nt_ok (nt_1 _ (List.mem_of_getElem? (i := 68) rfl)) rfl), by decide, rfl, rfl, rfl, rfl⟩
theorem ff_J_20 : xo_fd "FlowKernel$JobRow" 20 2 1 "LFlowKernel$Row;" true := ⟨"FlowKernel$JobRow", TF_J, 3, ty_J, cb_J, Or.inl (nt_ok (nt_1 _ (List.mem_of_getElem? (i := 70) rfl)) rfl), by decide, rfl, rfl, rfl⟩
theorem fF_J_20 : xo_fF "FlowKernel$JobRow" 20 2 1 "LFlowKernel$Row;" := ⟨"FlowKernel$JobRow", TF_J, 3, ty_J, cb_J, (nt_ok (nt_1 _ (List.mem_of_getElem? (i := 70) rfl)) rfl), by decide, rfl, rfl, rfl, rfl⟩
theorem ff_J_23 : xo_fd "FlowKernel$JobRow" 23 2 2 "LFlowKernel$Row;" true := ⟨"FlowKernel$JobRow", TF_J, 3, ty_J, cb_J, Or.inl (nt_ok (nt_1 _ (List.mem_of_getElem? (i := 72) rfl)) rfl), by decide, rfl, rfl, rfl⟩
theorem fF_J_23 : xo_fF "FlowKernel$JobRow" 23 2 2 "LFlowKernel$Row;" := ⟨"FlowKernel$JobRow", TF_J, 3, ty_J, cb_J, (nt_ok (nt_1 _ (List.mem_of_getElem? (i := 72) rfl)) rfl), by decide, rfl, rfl, rfl, rfl⟩
theorem wo_K_3 : Cond.methodLink "FlowKernel" 3 Lib.objectInit ∈ xo_WS := (nt_ok (nt_1 _ (List.mem_of_getElem? (i := 16) rfl)) rfl)
theorem co_K_9 : xo_cO "FlowKernel" 9 1 4 := ⟨"FlowKernel$EventLog", TF_L, ty_L, cb_L, cd_L, (nt_ok (nt_1 _ (List.mem_of_getElem? (i := 19) rfl)) rfl), wn_L, wi_L⟩
theorem ml_K_11 : xo_ml "FlowKernel" 11 ⟨"FlowKernel$EventLog", "<init>", "()V"⟩ := Or.inr ⟨_, nt_nw (nt_1 _ (List.mem_of_getElem? (i := 21) rfl)) rfl⟩
theorem ff_K_12 : xo_fd "FlowKernel" 12 0 0 "LFlowKernel$EventLog;" true := ⟨"FlowKernel", TF_K, 8, ty_K, cb_K, Or.inl (nt_ok (nt_1 _ (List.mem_of_getElem? (i := 87) rfl)) rfl), by decide, rfl, rfl, rfl⟩
theorem fF_K_12 : xo_fF "FlowKernel" 12 0 0 "LFlowKernel$EventLog;" := ⟨"FlowKernel", TF_K, 8, ty_K, cb_K, (nt_ok (nt_1 _ (List.mem_of_getElem? (i := 87) rfl)) rfl), by decide, rfl, rfl, rfl, rfl⟩
theorem co_K_16 : xo_cO "FlowKernel" 16 2 3 := ⟨"FlowKernel$JobRow", TF_J, ty_J, cb_J, cd_J, (nt_ok (nt_1 _ (List.mem_of_getElem? (i := 40) rfl)) rfl), wn_J, wi_J⟩
theorem ml_K_18 : xo_ml "FlowKernel" 18 ⟨"FlowKernel$JobRow", "<init>", "()V"⟩ := Or.inr ⟨_, nt_nw (nt_1 _ (List.mem_of_getElem? (i := 42) rfl)) rfl⟩
theorem ff_K_19 : xo_fd "FlowKernel" 19 0 1 "LFlowKernel$JobRow;" true := ⟨"FlowKernel", TF_K, 8, ty_K, cb_K, Or.inl (nt_ok (nt_1 _ (List.mem_of_getElem? (i := 88) rfl)) rfl), by decide, rfl, rfl, rfl⟩
theorem fF_K_19 : xo_fF "FlowKernel" 19 0 1 "LFlowKernel$JobRow;" := ⟨"FlowKernel", TF_K, 8, ty_K, cb_K, (nt_ok (nt_1 _ (List.mem_of_getElem? (i := 88) rfl)) rfl), by decide, rfl, rfl, rfl, rfl⟩
theorem wl_K_23 : Cond.classLink "FlowKernel" 23 (xo_tn 2) ∈ xo_WS := (nt_ok (nt_1 _ (List.mem_of_getElem? (i := 81) rfl)) rfl)
theorem ff_K_25 : xo_fd "FlowKernel" 25 0 2 "[LFlowKernel$Giver;" true := ⟨"FlowKernel", TF_K, 8, ty_K, cb_K, Or.inl (nt_ok (nt_1 _ (List.mem_of_getElem? (i := 89) rfl)) rfl), by decide, rfl, rfl, rfl⟩
theorem fF_K_25 : xo_fF "FlowKernel" 25 0 2 "[LFlowKernel$Giver;" := ⟨"FlowKernel", TF_K, 8, ty_K, cb_K, (nt_ok (nt_1 _ (List.mem_of_getElem? (i := 89) rfl)) rfl), by decide, rfl, rfl, rfl, rfl⟩
theorem wl_K_29 : Cond.classLink "FlowKernel" 29 (xo_tn 3) ∈ xo_WS := (nt_ok (nt_1 _ (List.mem_of_getElem? (i := 83) rfl)) rfl)
theorem ff_K_31 : xo_fd "FlowKernel" 31 0 3 "[LFlowKernel$Taker;" true := ⟨"FlowKernel", TF_K, 8, ty_K, cb_K, Or.inl (nt_ok (nt_1 _ (List.mem_of_getElem? (i := 90) rfl)) rfl), by decide, rfl, rfl, rfl⟩
theorem fF_K_31 : xo_fF "FlowKernel" 31 0 3 "[LFlowKernel$Taker;" := ⟨"FlowKernel", TF_K, 8, ty_K, cb_K, (nt_ok (nt_1 _ (List.mem_of_getElem? (i := 90) rfl)) rfl), by decide, rfl, rfl, rfl, rfl⟩
theorem wl_K_35 : Cond.classLink "FlowKernel" 35 (xo_tn 4) ∈ xo_WS := (nt_ok (nt_1 _ (List.mem_of_getElem? (i := 85) rfl)) rfl)
theorem ff_K_37 : xo_fd "FlowKernel" 37 0 4 "[LFlowKernel$Pipe;" true := ⟨"FlowKernel", TF_K, 8, ty_K, cb_K, Or.inl (nt_ok (nt_1 _ (List.mem_of_getElem? (i := 91) rfl)) rfl), by decide, rfl, rfl, rfl⟩
theorem fF_K_37 : xo_fF "FlowKernel" 37 0 4 "[LFlowKernel$Pipe;" := ⟨"FlowKernel", TF_K, 8, ty_K, cb_K, (nt_ok (nt_1 _ (List.mem_of_getElem? (i := 91) rfl)) rfl), by decide, rfl, rfl, rfl, rfl⟩
theorem wo_C_3 : Cond.methodLink "FlowKernel$ChunkRow" 3 Lib.objectInit ∈ xo_WS := (nt_ok (nt_1 _ (List.mem_of_getElem? (i := 129) rfl)) rfl)
theorem co_C_9 : xo_cO "FlowKernel$ChunkRow" 9 3 3 := ⟨"FlowKernel$Row", TF_R, ty_R, cb_R, cd_R, (nt_ok (nt_1 _ (List.mem_of_getElem? (i := 130) rfl)) rfl), wn_R, wi_R⟩
theorem ml_C_11 : xo_ml "FlowKernel$ChunkRow" 11 ⟨"FlowKernel$Row", "<init>", "(I)V"⟩ := Or.inl (nt_ok (nt_1 _ (List.mem_of_getElem? (i := 131) rfl)) rfl)
theorem ff_C_14 : xo_fd "FlowKernel$ChunkRow" 14 4 0 "LFlowKernel$Row;" true := ⟨"FlowKernel$ChunkRow", TF_C, 4, ty_C, cb_C, Or.inl (nt_ok (nt_1 _ (List.mem_of_getElem? (i := 132) rfl)) rfl), by decide, rfl, rfl, rfl⟩
theorem fF_C_14 : xo_fF "FlowKernel$ChunkRow" 14 4 0 "LFlowKernel$Row;" := ⟨"FlowKernel$ChunkRow", TF_C, 4, ty_C, cb_C, (nt_ok (nt_1 _ (List.mem_of_getElem? (i := 132) rfl)) rfl), by decide, rfl, rfl, rfl, rfl⟩
theorem ff_C_20 : xo_fd "FlowKernel$ChunkRow" 20 4 1 "I" true := ⟨"FlowKernel$ChunkRow", TF_C, 4, ty_C, cb_C, Or.inl (nt_ok (nt_1 _ (List.mem_of_getElem? (i := 134) rfl)) rfl), by decide, rfl, rfl, rfl⟩
theorem fF_C_20 : xo_fF "FlowKernel$ChunkRow" 20 4 1 "I" := ⟨"FlowKernel$ChunkRow", TF_C, 4, ty_C, cb_C, (nt_ok (nt_1 _ (List.mem_of_getElem? (i := 134) rfl)) rfl), by decide, rfl, rfl, rfl, rfl⟩
theorem ff_C_24 : xo_fd "FlowKernel$ChunkRow" 24 4 2 "Z" true := ⟨"FlowKernel$ChunkRow", TF_C, 4, ty_C, cb_C, Or.inl (nt_ok (nt_1 _ (List.mem_of_getElem? (i := 135) rfl)) rfl), by decide, rfl, rfl, rfl⟩
theorem fF_C_24 : xo_fF "FlowKernel$ChunkRow" 24 4 2 "Z" := ⟨"FlowKernel$ChunkRow", TF_C, 4, ty_C, cb_C, (nt_ok (nt_1 _ (List.mem_of_getElem? (i := 135) rfl)) rfl), by decide, rfl, rfl, rfl, rfl⟩
theorem ff_C_28 : xo_fd "FlowKernel$ChunkRow" 28 4 3 "I" false := ⟨"FlowKernel$ChunkRow", TF_C, 4, ty_C, cb_C, Or.inl (nt_ok (nt_1 _ (List.mem_of_getElem? (i := 136) rfl)) rfl), by decide, rfl, rfl, rfl⟩
theorem wo_G_3 : Cond.methodLink "FlowKernel$Giver" 3 Lib.objectInit ∈ xo_WS := (nt_ok (nt_1 _ (List.mem_of_getElem? (i := 152) rfl)) rfl)
theorem co_G_9 : xo_cO "FlowKernel$Giver" 9 3 3 := ⟨"FlowKernel$Row", TF_R, ty_R, cb_R, cd_R, (nt_ok (nt_1 _ (List.mem_of_getElem? (i := 153) rfl)) rfl), wn_R, wi_R⟩
theorem ml_G_11 : xo_ml "FlowKernel$Giver" 11 ⟨"FlowKernel$Row", "<init>", "(I)V"⟩ := Or.inl (nt_ok (nt_1 _ (List.mem_of_getElem? (i := 154) rfl)) rfl)
theorem ff_G_14 : xo_fd "FlowKernel$Giver" 14 5 3 "LFlowKernel$Row;" true := ⟨"FlowKernel$Giver", TF_G, 14, ty_G, cb_G, Or.inl (nt_ok (nt_1 _ (List.mem_of_getElem? (i := 160) rfl)) rfl), by decide, rfl, rfl, rfl⟩
theorem fF_G_14 : xo_fF "FlowKernel$Giver" 14 5 3 "LFlowKernel$Row;" := ⟨"FlowKernel$Giver", TF_G, 14, ty_G, cb_G, (nt_ok (nt_1 _ (List.mem_of_getElem? (i := 160) rfl)) rfl), by decide, rfl, rfl, rfl, rfl⟩
theorem ff_G_20 : xo_fd "FlowKernel$Giver" 20 5 4 "I" false := ⟨"FlowKernel$Giver", TF_G, 14, ty_G, cb_G, Or.inl (nt_ok (nt_1 _ (List.mem_of_getElem? (i := 163) rfl)) rfl), by decide, rfl, rfl, rfl⟩
theorem ff_G_24 : xo_fd "FlowKernel$Giver" 24 5 0 "I" true := ⟨"FlowKernel$Giver", TF_G, 14, ty_G, cb_G, Or.inl (nt_ok (nt_1 _ (List.mem_of_getElem? (i := 155) rfl)) rfl), by decide, rfl, rfl, rfl⟩
theorem fF_G_24 : xo_fF "FlowKernel$Giver" 24 5 0 "I" := ⟨"FlowKernel$Giver", TF_G, 14, ty_G, cb_G, (nt_ok (nt_1 _ (List.mem_of_getElem? (i := 155) rfl)) rfl), by decide, rfl, rfl, rfl, rfl⟩
theorem ff_G_27 : xo_fd "FlowKernel$Giver" 27 5 1 "LFlowKernel$ChunkRow;" true := ⟨"FlowKernel$Giver", TF_G, 14, ty_G, cb_G, Or.inl (nt_ok (nt_1 _ (List.mem_of_getElem? (i := 157) rfl)) rfl), by decide, rfl, rfl, rfl⟩
theorem fF_G_27 : xo_fF "FlowKernel$Giver" 27 5 1 "LFlowKernel$ChunkRow;" := ⟨"FlowKernel$Giver", TF_G, 14, ty_G, cb_G, (nt_ok (nt_1 _ (List.mem_of_getElem? (i := 157) rfl)) rfl), by decide, rfl, rfl, rfl, rfl⟩
theorem ff_G_31 : xo_fd "FlowKernel$Giver" 31 5 2 "LFlowKernel$EventLog;" true := ⟨"FlowKernel$Giver", TF_G, 14, ty_G, cb_G, Or.inl (nt_ok (nt_1 _ (List.mem_of_getElem? (i := 159) rfl)) rfl), by decide, rfl, rfl, rfl⟩
theorem fF_G_31 : xo_fF "FlowKernel$Giver" 31 5 2 "LFlowKernel$EventLog;" := ⟨"FlowKernel$Giver", TF_G, 14, ty_G, cb_G, (nt_ok (nt_1 _ (List.mem_of_getElem? (i := 159) rfl)) rfl), by decide, rfl, rfl, rfl, rfl⟩
theorem co_K_23 : xo_cO "FlowKernel" 23 5 14 := ⟨"FlowKernel$Giver", TF_G, ty_G, cb_G, cd_G, (nt_ok (nt_1 _ (List.mem_of_getElem? (i := 81) rfl)) rfl), wn_G, wi_G⟩
theorem ff_K_45 : xo_fd "FlowKernel" 45 0 5 "I" false := ⟨"FlowKernel", TF_K, 8, ty_K, cb_K, Or.inl (nt_ok (nt_1 _ (List.mem_of_getElem? (i := 92) rfl)) rfl), by decide, rfl, rfl, rfl⟩
theorem co_K_66 : xo_cO "FlowKernel" 66 4 4 := ⟨"FlowKernel$ChunkRow", TF_C, ty_C, cb_C, cd_C, (nt_ok (nt_1 _ (List.mem_of_getElem? (i := 124) rfl)) rfl), wn_C, wi_C⟩
theorem ml_K_68 : xo_ml "FlowKernel" 68 ⟨"FlowKernel$ChunkRow", "<init>", "(IZ)V"⟩ := Or.inl (nt_ok (nt_1 _ (List.mem_of_getElem? (i := 126) rfl)) rfl)
theorem ml_K_244 : xo_ml "FlowKernel" 244 ⟨"FlowKernel$Giver", "<init>", "(ILFlowKernel$ChunkRow;LFlowKernel$EventLog;)V"⟩ := Or.inl (nt_ok (nt_1 _ (List.mem_of_getElem? (i := 149) rfl)) rfl)
theorem ff_G_35 : xo_fd "FlowKernel$Giver" 35 5 7 "Z" false := ⟨"FlowKernel$Giver", TF_G, 14, ty_G, cb_G, Or.inl (nt_ok (nt_1 _ (List.mem_of_getElem? (i := 168) rfl)) rfl), by decide, rfl, rfl, rfl⟩
theorem ml_G_47 : xo_ml "FlowKernel$Giver" 47 ⟨"FlowKernel$Giver", "isGoing", "()Z"⟩ := Or.inl (nt_ok (nt_1 _ (List.mem_of_getElem? (i := 219) rfl)) rfl)
theorem ff_G_51 : xo_fd "FlowKernel$Giver" 51 3 2 "I" false := ⟨"FlowKernel$Row", TF_R, 3, ty_R, cb_R, Or.inr ⟨_, nt_nw (nt_1 _ (List.mem_of_getElem? (i := 58) rfl)) rfl⟩, by decide, rfl, rfl, rfl⟩
theorem ff_G_54 : xo_fd "FlowKernel$Giver" 54 4 3 "I" false := ⟨"FlowKernel$ChunkRow", TF_C, 4, ty_C, cb_C, Or.inr ⟨_, nt_nw (nt_1 _ (List.mem_of_getElem? (i := 138) rfl)) rfl⟩, by decide, rfl, rfl, rfl⟩
theorem ff_G_59 : xo_fd "FlowKernel$Giver" 59 5 8 "Z" false := ⟨"FlowKernel$Giver", TF_G, 14, ty_G, cb_G, Or.inl (nt_ok (nt_1 _ (List.mem_of_getElem? (i := 170) rfl)) rfl), by decide, rfl, rfl, rfl⟩
theorem ff_G_62 : xo_fd "FlowKernel$Giver" 62 5 9 "Z" false := ⟨"FlowKernel$Giver", TF_G, 14, ty_G, cb_G, Or.inl (nt_ok (nt_1 _ (List.mem_of_getElem? (i := 172) rfl)) rfl), by decide, rfl, rfl, rfl⟩
theorem ff_L_21 : xo_fd "FlowKernel$EventLog" 21 1 3 "I" false := ⟨"FlowKernel$EventLog", TF_L, 4, ty_L, cb_L, Or.inl (nt_ok (nt_1 _ (List.mem_of_getElem? (i := 28) rfl)) rfl), by decide, rfl, rfl, rfl⟩
theorem ff_C_31 : xo_fd "FlowKernel$ChunkRow" 31 3 2 "I" false := ⟨"FlowKernel$Row", TF_R, 3, ty_R, cb_R, Or.inr ⟨_, nt_nw (nt_1 _ (List.mem_of_getElem? (i := 55) rfl)) rfl⟩, by decide, rfl, rfl, rfl⟩
theorem ff_R_13 : xo_fd "FlowKernel$Row" 13 3 2 "I" false := ⟨"FlowKernel$Row", TF_R, 3, ty_R, cb_R, Or.inl (nt_ok (nt_1 _ (List.mem_of_getElem? (i := 54) rfl)) rfl), by decide, rfl, rfl, rfl⟩
theorem ff_R_17 : xo_fd "FlowKernel$Row" 17 3 1 "I" false := ⟨"FlowKernel$Row", TF_R, 3, ty_R, cb_R, Or.inl (nt_ok (nt_1 _ (List.mem_of_getElem? (i := 53) rfl)) rfl), by decide, rfl, rfl, rfl⟩
theorem ml_C_41 : xo_ml "FlowKernel$ChunkRow" 41 ⟨"FlowKernel$Row", "takeFirst", "()I"⟩ := Or.inl (nt_ok (nt_1 _ (List.mem_of_getElem? (i := 239) rfl)) rfl)
theorem ml_C_37 : xo_ml "FlowKernel$ChunkRow" 37 ⟨"FlowKernel$ChunkRow", "sizeOf", "(I)I"⟩ := Or.inl (nt_ok (nt_2 _ (List.mem_of_getElem? (i := 3) rfl)) rfl)
theorem ml_G_65 : xo_ml "FlowKernel$Giver" 65 ⟨"FlowKernel$ChunkRow", "count", "()I"⟩ := Or.inl (nt_ok (nt_2 _ (List.mem_of_getElem? (i := 11) rfl)) rfl)
theorem ml_J_30 : xo_ml "FlowKernel$JobRow" 30 ⟨"FlowKernel$Row", "add", "(I)V"⟩ := Or.inl (nt_ok (nt_2 _ (List.mem_of_getElem? (i := 20) rfl)) rfl)
theorem ff_K_281 : xo_fd "FlowKernel" 281 6 0 "LFlowKernel$Giver;" true := ⟨"FlowKernel$Parting", TF_A, 4, ty_A, cb_A, Or.inr ⟨_, nt_nw (nt_3 _ (List.mem_of_getElem? (i := 94) rfl)) rfl⟩, by decide, rfl, rfl, rfl⟩
theorem ff_K_110 : xo_fd "FlowKernel" 110 5 4 "I" false := ⟨"FlowKernel$Giver", TF_G, 14, ty_G, cb_G, Or.inr ⟨_, nt_nw (nt_1 _ (List.mem_of_getElem? (i := 164) rfl)) rfl⟩, by decide, rfl, rfl, rfl⟩
theorem ff_K_273 : xo_fd "FlowKernel" 273 6 2 "Z" false := ⟨"FlowKernel$Parting", TF_A, 4, ty_A, cb_A, Or.inr ⟨_, nt_nw (nt_3 _ (List.mem_of_getElem? (i := 97) rfl)) rfl⟩, by decide, rfl, rfl, rfl⟩
theorem ff_K_83 : xo_fd "FlowKernel" 83 5 1 "LFlowKernel$ChunkRow;" true := ⟨"FlowKernel$Giver", TF_G, 14, ty_G, cb_G, Or.inr ⟨_, nt_nw (nt_1 _ (List.mem_of_getElem? (i := 158) rfl)) rfl⟩, by decide, rfl, rfl, rfl⟩
theorem ml_K_87 : xo_ml "FlowKernel" 87 ⟨"FlowKernel$ChunkRow", "count", "()I"⟩ := Or.inl (nt_ok (nt_1 _ (List.mem_of_getElem? (i := 231) rfl)) rfl)
theorem ml_K_262 : xo_ml "FlowKernel" 262 ⟨"FlowKernel$ChunkRow", "takeFirst", "()I"⟩ := Or.inl (nt_ok (nt_1 _ (List.mem_of_getElem? (i := 235) rfl)) rfl)
theorem ml_K_263 : xo_ml "FlowKernel" 263 ⟨"FlowKernel$Giver", "closeIfDrained", "()V"⟩ := Or.inl (nt_ok (nt_2 _ (List.mem_of_getElem? (i := 7) rfl)) rfl)
theorem ff_K_91 : xo_fd "FlowKernel" 91 5 3 "LFlowKernel$Row;" true := ⟨"FlowKernel$Giver", TF_G, 14, ty_G, cb_G, Or.inr ⟨_, nt_nw (nt_1 _ (List.mem_of_getElem? (i := 162) rfl)) rfl⟩, by decide, rfl, rfl, rfl⟩
theorem ml_K_266 : xo_ml "FlowKernel" 266 ⟨"FlowKernel$Row", "add", "(I)V"⟩ := Or.inl (nt_ok (nt_2 _ (List.mem_of_getElem? (i := 12) rfl)) rfl)
theorem ml_K_270 : xo_ml "FlowKernel" 270 ⟨"FlowKernel$Giver", "startsPulling", "()Z"⟩ := Or.inl (nt_ok (nt_1 _ (List.mem_of_getElem? (i := 215) rfl)) rfl)
theorem ff_K_60 : xo_fd "FlowKernel" 60 5 0 "I" true := ⟨"FlowKernel$Giver", TF_G, 14, ty_G, cb_G, Or.inr ⟨_, nt_nw (nt_1 _ (List.mem_of_getElem? (i := 156) rfl)) rfl⟩, by decide, rfl, rfl, rfl⟩
theorem ml_K_254 : xo_ml "FlowKernel" 254 ⟨"FlowKernel$EventLog", "note", "(IIII)V"⟩ := Or.inl (nt_ok (nt_1 _ (List.mem_of_getElem? (i := 223) rfl)) rfl)
theorem ml_K_129 : xo_ml "FlowKernel" 129 ⟨"FlowKernel$JobRow", "add", "(III)V"⟩ := Or.inl (nt_ok (nt_2 _ (List.mem_of_getElem? (i := 16) rfl)) rfl)
theorem ml_G_77 : xo_ml "FlowKernel$Giver" 77 ⟨"FlowKernel$Row", "at", "(I)I"⟩ := Or.inl (nt_ok (nt_2 _ (List.mem_of_getElem? (i := 30) rfl)) rfl)
theorem ff_G_71 : xo_fd "FlowKernel$Giver" 71 5 5 "I" false := ⟨"FlowKernel$Giver", TF_G, 14, ty_G, cb_G, Or.inl (nt_ok (nt_1 _ (List.mem_of_getElem? (i := 165) rfl)) rfl), by decide, rfl, rfl, rfl⟩
theorem ml_G_81 : xo_ml "FlowKernel$Giver" 81 ⟨"FlowKernel$EventLog", "note", "(IIII)V"⟩ := Or.inl (nt_ok (nt_2 _ (List.mem_of_getElem? (i := 34) rfl)) rfl)
theorem ml_G_87 : xo_ml "FlowKernel$Giver" 87 ⟨"FlowKernel$Row", "clear", "()V"⟩ := Or.inl (nt_ok (nt_2 _ (List.mem_of_getElem? (i := 35) rfl)) rfl)
theorem ff_K_285 : xo_fd "FlowKernel" 285 6 1 "[LFlowKernel$Giver;" true := ⟨"FlowKernel$Parting", TF_A, 4, ty_A, cb_A, Or.inr ⟨_, nt_nw (nt_3 _ (List.mem_of_getElem? (i := 96) rfl)) rfl⟩, by decide, rfl, rfl, rfl⟩
theorem ml_K_79 : xo_ml "FlowKernel" 79 ⟨"FlowKernel$Giver", "isGoing", "()Z"⟩ := Or.inl (nt_ok (nt_2 _ (List.mem_of_getElem? (i := 25) rfl)) rfl)
theorem ff_K_103 : xo_fd "FlowKernel" 103 5 7 "Z" false := ⟨"FlowKernel$Giver", TF_G, 14, ty_G, cb_G, Or.inr ⟨_, nt_nw (nt_1 _ (List.mem_of_getElem? (i := 169) rfl)) rfl⟩, by decide, rfl, rfl, rfl⟩
theorem ml_K_267 : xo_ml "FlowKernel" 267 ⟨"FlowKernel$Giver", "answerAll", "()V"⟩ := Or.inl (nt_ok (nt_2 _ (List.mem_of_getElem? (i := 26) rfl)) rfl)
theorem ff_K_191 : xo_fd "FlowKernel" 191 5 11 "LFlowKernel$Parting;" false := ⟨"FlowKernel$Giver", TF_G, 14, ty_G, cb_G, Or.inr ⟨_, nt_nw (nt_1 _ (List.mem_of_getElem? (i := 176) rfl)) rfl⟩, by decide, rfl, rfl, rfl⟩
theorem ff_K_276 : xo_fd "FlowKernel" 276 6 3 "Z" false := ⟨"FlowKernel$Parting", TF_A, 4, ty_A, cb_A, Or.inr ⟨_, nt_nw (nt_3 _ (List.mem_of_getElem? (i := 98) rfl)) rfl⟩, by decide, rfl, rfl, rfl⟩
theorem ml_K_277 : xo_ml "FlowKernel" 277 ⟨"FlowKernel", "askRoot", "(LFlowKernel$Parting;)Z"⟩ := Or.inl (nt_ok (nt_1 _ (List.mem_of_getElem? (i := 227) rfl)) rfl)
theorem ml_K_203 : xo_ml "FlowKernel" 203 ⟨"FlowKernel", "endBranches", "(LFlowKernel$Parting;)V"⟩ := Or.inl (nt_ok (nt_2 _ (List.mem_of_getElem? (i := 21) rfl)) rfl)
theorem ff_K_180 : xo_fd "FlowKernel" 180 0 7 "I" false := ⟨"FlowKernel", TF_K, 8, ty_K, cb_K, Or.inl (nt_ok (nt_1 _ (List.mem_of_getElem? (i := 94) rfl)) rfl), by decide, rfl, rfl, rfl⟩
theorem ff_J_26 : xo_fd "FlowKernel$JobRow" 26 3 2 "I" false := ⟨"FlowKernel$Row", TF_R, 3, ty_R, cb_R, Or.inr ⟨_, nt_nw (nt_1 _ (List.mem_of_getElem? (i := 56) rfl)) rfl⟩, by decide, rfl, rfl, rfl⟩
theorem ml_J_33 : xo_ml "FlowKernel$JobRow" 33 ⟨"FlowKernel$Row", "at", "(I)I"⟩ := Or.inl (nt_ok (nt_2 _ (List.mem_of_getElem? (i := 51) rfl)) rfl)
theorem ml_K_300 : xo_ml "FlowKernel" 300 ⟨"FlowKernel", "pipeAt", "(I)LFlowKernel$Pipe;"⟩ := Or.inl (nt_ok (nt_2 _ (List.mem_of_getElem? (i := 43) rfl)) rfl)
theorem ff_K_304 : xo_fd "FlowKernel" 304 8 6 "Z" false := ⟨"FlowKernel$Pipe", TF_P, 7, ty_P, cb_P, Or.inr ⟨_, nt_nw (nt_3 _ (List.mem_of_getElem? (i := 66) rfl)) rfl⟩, by decide, rfl, rfl, rfl⟩
theorem ml_K_122 : xo_ml "FlowKernel" 122 ⟨"FlowKernel$JobRow", "holds", "(II)Z"⟩ := Or.inl (nt_ok (nt_2 _ (List.mem_of_getElem? (i := 47) rfl)) rfl)
theorem ml_K_41 : xo_ml "FlowKernel" 41 ⟨"FlowKernel", "isMark", "(I)Z"⟩ := Or.inl (nt_ok (nt_1 _ (List.mem_of_getElem? (i := 116) rfl)) rfl)
theorem ml_K_49 : xo_ml "FlowKernel" 49 ⟨"FlowKernel", "addGiver", "(IZ)LFlowKernel$Giver;"⟩ := Or.inl (nt_ok (nt_1 _ (List.mem_of_getElem? (i := 119) rfl)) rfl)
theorem ml_K_53 : xo_ml "FlowKernel" 53 ⟨"FlowKernel", "pullIfNeeded", "(LFlowKernel$Giver;)V"⟩ := Or.inl (nt_ok (nt_1 _ (List.mem_of_getElem? (i := 211) rfl)) rfl)
theorem ml_K_57 : xo_ml "FlowKernel" 57 ⟨"FlowKernel", "awaitPumps", "()V"⟩ := Or.inl (nt_ok (nt_2 _ (List.mem_of_getElem? (i := 39) rfl)) rfl)
theorem wo_T_3 : Cond.methodLink "FlowKernel$Taker" 3 Lib.objectInit ∈ xo_WS := (nt_ok (nt_2 _ (List.mem_of_getElem? (i := 60) rfl)) rfl)
theorem co_T_9 : xo_cO "FlowKernel$Taker" 9 3 3 := ⟨"FlowKernel$Row", TF_R, ty_R, cb_R, cd_R, (nt_ok (nt_2 _ (List.mem_of_getElem? (i := 61) rfl)) rfl), wn_R, wi_R⟩
theorem ml_T_11 : xo_ml "FlowKernel$Taker" 11 ⟨"FlowKernel$Row", "<init>", "(I)V"⟩ := Or.inl (nt_ok (nt_2 _ (List.mem_of_getElem? (i := 62) rfl)) rfl)
theorem ff_T_14 : xo_fd "FlowKernel$Taker" 14 7 3 "LFlowKernel$Row;" true := ⟨"FlowKernel$Taker", TF_T, 13, ty_T, cb_T, Or.inl (nt_ok (nt_2 _ (List.mem_of_getElem? (i := 69) rfl)) rfl), by decide, rfl, rfl, rfl⟩
theorem fF_T_14 : xo_fF "FlowKernel$Taker" 14 7 3 "LFlowKernel$Row;" := ⟨"FlowKernel$Taker", TF_T, 13, ty_T, cb_T, (nt_ok (nt_2 _ (List.mem_of_getElem? (i := 69) rfl)) rfl), by decide, rfl, rfl, rfl, rfl⟩
theorem ff_T_20 : xo_fd "FlowKernel$Taker" 20 7 4 "I" false := ⟨"FlowKernel$Taker", TF_T, 13, ty_T, cb_T, Or.inl (nt_ok (nt_2 _ (List.mem_of_getElem? (i := 70) rfl)) rfl), by decide, rfl, rfl, rfl⟩
theorem ff_T_24 : xo_fd "FlowKernel$Taker" 24 7 7 "I" false := ⟨"FlowKernel$Taker", TF_T, 13, ty_T, cb_T, Or.inl (nt_ok (nt_2 _ (List.mem_of_getElem? (i := 75) rfl)) rfl), by decide, rfl, rfl, rfl⟩
theorem ff_T_27 : xo_fd "FlowKernel$Taker" 27 7 0 "I" true := ⟨"FlowKernel$Taker", TF_T, 13, ty_T, cb_T, Or.inl (nt_ok (nt_2 _ (List.mem_of_getElem? (i := 63) rfl)) rfl), by decide, rfl, rfl, rfl⟩
theorem fF_T_27 : xo_fF "FlowKernel$Taker" 27 7 0 "I" := ⟨"FlowKernel$Taker", TF_T, 13, ty_T, cb_T, (nt_ok (nt_2 _ (List.mem_of_getElem? (i := 63) rfl)) rfl), by decide, rfl, rfl, rfl, rfl⟩
theorem ff_T_30 : xo_fd "FlowKernel$Taker" 30 7 1 "LFlowKernel$ChunkRow;" true := ⟨"FlowKernel$Taker", TF_T, 13, ty_T, cb_T, Or.inl (nt_ok (nt_2 _ (List.mem_of_getElem? (i := 65) rfl)) rfl), by decide, rfl, rfl, rfl⟩
theorem fF_T_30 : xo_fF "FlowKernel$Taker" 30 7 1 "LFlowKernel$ChunkRow;" := ⟨"FlowKernel$Taker", TF_T, 13, ty_T, cb_T, (nt_ok (nt_2 _ (List.mem_of_getElem? (i := 65) rfl)) rfl), by decide, rfl, rfl, rfl, rfl⟩
theorem ff_T_34 : xo_fd "FlowKernel$Taker" 34 7 2 "LFlowKernel$EventLog;" true := ⟨"FlowKernel$Taker", TF_T, 13, ty_T, cb_T, Or.inl (nt_ok (nt_2 _ (List.mem_of_getElem? (i := 68) rfl)) rfl), by decide, rfl, rfl, rfl⟩
theorem fF_T_34 : xo_fF "FlowKernel$Taker" 34 7 2 "LFlowKernel$EventLog;" := ⟨"FlowKernel$Taker", TF_T, 13, ty_T, cb_T, (nt_ok (nt_2 _ (List.mem_of_getElem? (i := 68) rfl)) rfl), by decide, rfl, rfl, rfl, rfl⟩
theorem ff_K_63 : xo_fd "FlowKernel" 63 0 6 "I" false := ⟨"FlowKernel", TF_K, 8, ty_K, cb_K, Or.inl (nt_ok (nt_1 _ (List.mem_of_getElem? (i := 93) rfl)) rfl), by decide, rfl, rfl, rfl⟩
theorem co_K_29 : xo_cO "FlowKernel" 29 7 13 := ⟨"FlowKernel$Taker", TF_T, ty_T, cb_T, cd_T, (nt_ok (nt_1 _ (List.mem_of_getElem? (i := 83) rfl)) rfl), wn_T, wi_T⟩
theorem ml_K_71 : xo_ml "FlowKernel" 71 ⟨"FlowKernel$Taker", "<init>", "(ILFlowKernel$ChunkRow;LFlowKernel$EventLog;)V"⟩ := Or.inl (nt_ok (nt_2 _ (List.mem_of_getElem? (i := 57) rfl)) rfl)
theorem ff_K_74 : xo_fd "FlowKernel" 74 7 0 "I" true := ⟨"FlowKernel$Taker", TF_T, 13, ty_T, cb_T, Or.inr ⟨_, nt_nw (nt_2 _ (List.mem_of_getElem? (i := 64) rfl)) rfl⟩, by decide, rfl, rfl, rfl⟩
theorem ml_K_133 : xo_ml "FlowKernel" 133 ⟨"FlowKernel", "giverAt", "(I)LFlowKernel$Giver;"⟩ := Or.inl (nt_ok (nt_2 _ (List.mem_of_getElem? (i := 120) rfl)) rfl)
theorem ff_T_38 : xo_fd "FlowKernel$Taker" 38 7 11 "Z" false := ⟨"FlowKernel$Taker", TF_T, 13, ty_T, cb_T, Or.inl (nt_ok (nt_2 _ (List.mem_of_getElem? (i := 81) rfl)) rfl), by decide, rfl, rfl, rfl⟩
theorem ml_C_34 : xo_ml "FlowKernel$ChunkRow" 34 ⟨"FlowKernel$Row", "add", "(I)V"⟩ := Or.inl (nt_ok (nt_2 _ (List.mem_of_getElem? (i := 150) rfl)) rfl)
theorem ml_T_108 : xo_ml "FlowKernel$Taker" 108 ⟨"FlowKernel$ChunkRow", "count", "()I"⟩ := Or.inl (nt_ok (nt_2 _ (List.mem_of_getElem? (i := 156) rfl)) rfl)
theorem ff_T_111 : xo_fd "FlowKernel$Taker" 111 4 0 "LFlowKernel$Row;" true := ⟨"FlowKernel$ChunkRow", TF_C, 4, ty_C, cb_C, Or.inr ⟨_, nt_nw (nt_1 _ (List.mem_of_getElem? (i := 133) rfl)) rfl⟩, by decide, rfl, rfl, rfl⟩
theorem ml_T_114 : xo_ml "FlowKernel$Taker" 114 ⟨"FlowKernel$Row", "at", "(I)I"⟩ := Or.inl (nt_ok (nt_2 _ (List.mem_of_getElem? (i := 157) rfl)) rfl)
theorem ml_T_55 : xo_ml "FlowKernel$Taker" 55 ⟨"FlowKernel$EventLog", "note", "(IIII)V"⟩ := Or.inl (nt_ok (nt_2 _ (List.mem_of_getElem? (i := 141) rfl)) rfl)
theorem ff_T_46 : xo_fd "FlowKernel$Taker" 46 7 6 "I" false := ⟨"FlowKernel$Taker", TF_T, 13, ty_T, cb_T, Or.inl (nt_ok (nt_2 _ (List.mem_of_getElem? (i := 74) rfl)) rfl), by decide, rfl, rfl, rfl⟩
theorem ml_T_49 : xo_ml "FlowKernel$Taker" 49 ⟨"FlowKernel$Taker", "hasError", "()Z"⟩ := Or.inl (nt_ok (nt_2 _ (List.mem_of_getElem? (i := 137) rfl)) rfl)
theorem ff_T_52 : xo_fd "FlowKernel$Taker" 52 7 5 "I" false := ⟨"FlowKernel$Taker", TF_T, 13, ty_T, cb_T, Or.inl (nt_ok (nt_2 _ (List.mem_of_getElem? (i := 72) rfl)) rfl), by decide, rfl, rfl, rfl⟩
theorem ml_T_42 : xo_ml "FlowKernel$Taker" 42 ⟨"FlowKernel$Taker", "isShutOrToBe", "()Z"⟩ := Or.inl (nt_ok (nt_2 _ (List.mem_of_getElem? (i := 142) rfl)) rfl)
theorem ml_T_61 : xo_ml "FlowKernel$Taker" 61 ⟨"FlowKernel$ChunkRow", "add", "(I)V"⟩ := Or.inl (nt_ok (nt_2 _ (List.mem_of_getElem? (i := 146) rfl)) rfl)
theorem ml_T_66 : xo_ml "FlowKernel$Taker" 66 ⟨"FlowKernel$Row", "add", "(I)V"⟩ := Or.inl (nt_ok (nt_2 _ (List.mem_of_getElem? (i := 151) rfl)) rfl)
theorem ml_T_67 : xo_ml "FlowKernel$Taker" 67 ⟨"FlowKernel$Taker", "startNext", "()V"⟩ := Or.inl (nt_ok (nt_2 _ (List.mem_of_getElem? (i := 152) rfl)) rfl)
theorem ff_K_200 : xo_fd "FlowKernel" 200 5 12 "LFlowKernel$Parting;" false := ⟨"FlowKernel$Giver", TF_G, 14, ty_G, cb_G, Or.inr ⟨_, nt_nw (nt_1 _ (List.mem_of_getElem? (i := 178) rfl)) rfl⟩, by decide, rfl, rfl, rfl⟩
theorem ff_K_186 : xo_fd "FlowKernel" 186 5 13 "LFlowKernel$Pipe;" false := ⟨"FlowKernel$Giver", TF_G, 14, ty_G, cb_G, Or.inr ⟨_, nt_nw (nt_1 _ (List.mem_of_getElem? (i := 181) rfl)) rfl⟩, by decide, rfl, rfl, rfl⟩
theorem ff_K_258 : xo_fd "FlowKernel" 258 8 2 "LFlowKernel$Taker;" true := ⟨"FlowKernel$Pipe", TF_P, 7, ty_P, cb_P, Or.inr ⟨_, nt_nw (nt_3 _ (List.mem_of_getElem? (i := 58) rfl)) rfl⟩, by decide, rfl, rfl, rfl⟩
theorem ml_K_156 : xo_ml "FlowKernel" 156 ⟨"FlowKernel$Taker", "accept", "(I)I"⟩ := Or.inl (nt_ok (nt_2 _ (List.mem_of_getElem? (i := 133) rfl)) rfl)
theorem ff_K_95 : xo_fd "FlowKernel" 95 3 2 "I" false := ⟨"FlowKernel$Row", TF_R, 3, ty_R, cb_R, Or.inr ⟨_, nt_nw (nt_1 _ (List.mem_of_getElem? (i := 59) rfl)) rfl⟩, by decide, rfl, rfl, rfl⟩
theorem ml_K_245 : xo_ml "FlowKernel" 245 ⟨"FlowKernel$Row", "takeFirst", "()I"⟩ := Or.inl (nt_ok (nt_2 _ (List.mem_of_getElem? (i := 128) rfl)) rfl)
theorem ml_K_248 : xo_ml "FlowKernel" 248 ⟨"FlowKernel", "answerChunk", "(LFlowKernel$Giver;II)V"⟩ := Or.inl (nt_ok (nt_2 _ (List.mem_of_getElem? (i := 129) rfl)) rfl)
theorem ml_K_252 : xo_ml "FlowKernel" 252 ⟨"FlowKernel$ChunkRow", "add", "(I)V"⟩ := Or.inl (nt_ok (nt_2 _ (List.mem_of_getElem? (i := 158) rfl)) rfl)
theorem ml_K_75 : xo_ml "FlowKernel" 75 ⟨"FlowKernel", "rootAt", "(I)LFlowKernel$Giver;"⟩ := Or.inl (nt_ok (nt_2 _ (List.mem_of_getElem? (i := 116) rfl)) rfl)
theorem ml_K_99 : xo_ml "FlowKernel" 99 ⟨"FlowKernel", "takeIn", "(LFlowKernel$Giver;I)V"⟩ := Or.inl (nt_ok (nt_2 _ (List.mem_of_getElem? (i := 124) rfl)) rfl)
theorem ml_K_107 : xo_ml "FlowKernel" 107 ⟨"FlowKernel", "closeGiver", "(LFlowKernel$Giver;)V"⟩ := Or.inl (nt_ok (nt_2 _ (List.mem_of_getElem? (i := 163) rfl)) rfl)
theorem ml_C_45 : xo_ml "FlowKernel$ChunkRow" 45 ⟨"FlowKernel$Row", "clear", "()V"⟩ := Or.inl (nt_ok (nt_2 _ (List.mem_of_getElem? (i := 186) rfl)) rfl)
theorem ml_G_68 : xo_ml "FlowKernel$Giver" 68 ⟨"FlowKernel$ChunkRow", "clear", "()V"⟩ := Or.inl (nt_ok (nt_2 _ (List.mem_of_getElem? (i := 182) rfl)) rfl)
theorem ml_G_74 : xo_ml "FlowKernel$Giver" 74 ⟨"FlowKernel$Giver", "answerAll", "()V"⟩ := Or.inl (nt_ok (nt_2 _ (List.mem_of_getElem? (i := 187) rfl)) rfl)
theorem ml_K_288 : xo_ml "FlowKernel" 288 ⟨"FlowKernel$Giver", "failWith", "(I)V"⟩ := Or.inl (nt_ok (nt_2 _ (List.mem_of_getElem? (i := 178) rfl)) rfl)
theorem ml_K_210 : xo_ml "FlowKernel" 210 ⟨"FlowKernel", "failBranches", "(LFlowKernel$Parting;I)V"⟩ := Or.inl (nt_ok (nt_2 _ (List.mem_of_getElem? (i := 188) rfl)) rfl)
theorem ml_K_113 : xo_ml "FlowKernel" 113 ⟨"FlowKernel", "isError", "(I)Z"⟩ := Or.inl (nt_ok (nt_2 _ (List.mem_of_getElem? (i := 171) rfl)) rfl)
theorem ml_K_116 : xo_ml "FlowKernel" 116 ⟨"FlowKernel", "failGiver", "(LFlowKernel$Giver;I)V"⟩ := Or.inl (nt_ok (nt_2 _ (List.mem_of_getElem? (i := 174) rfl)) rfl)
theorem ff_K_119 : xo_fd "FlowKernel" 119 5 8 "Z" false := ⟨"FlowKernel$Giver", TF_G, 14, ty_G, cb_G, Or.inr ⟨_, nt_nw (nt_1 _ (List.mem_of_getElem? (i := 171) rfl)) rfl⟩, by decide, rfl, rfl, rfl⟩
theorem ml_K_126 : xo_ml "FlowKernel" 126 ⟨"FlowKernel", "isErrorOrNone", "(I)Z"⟩ := Or.inl (nt_ok (nt_2 _ (List.mem_of_getElem? (i := 196) rfl)) rfl)
theorem ff_G_39 : xo_fd "FlowKernel$Giver" 39 5 12 "LFlowKernel$Parting;" false := ⟨"FlowKernel$Giver", TF_G, 14, ty_G, cb_G, Or.inl (nt_ok (nt_1 _ (List.mem_of_getElem? (i := 177) rfl)) rfl), by decide, rfl, rfl, rfl⟩
theorem ff_G_43 : xo_fd "FlowKernel$Giver" 43 5 13 "LFlowKernel$Pipe;" false := ⟨"FlowKernel$Giver", TF_G, 14, ty_G, cb_G, Or.inl (nt_ok (nt_1 _ (List.mem_of_getElem? (i := 179) rfl)) rfl), by decide, rfl, rfl, rfl⟩
theorem ml_K_136 : xo_ml "FlowKernel" 136 ⟨"FlowKernel$Giver", "heldBy", "()I"⟩ := Or.inl (nt_ok (nt_2 _ (List.mem_of_getElem? (i := 203) rfl)) rfl)
theorem ff_K_139 : xo_fd "FlowKernel" 139 5 6 "I" false := ⟨"FlowKernel$Giver", TF_G, 14, ty_G, cb_G, Or.inr ⟨_, nt_nw (nt_1 _ (List.mem_of_getElem? (i := 167) rfl)) rfl⟩, by decide, rfl, rfl, rfl⟩
theorem ml_K_142 : xo_ml "FlowKernel" 142 ⟨"FlowKernel", "request", "(LFlowKernel$Giver;I)V"⟩ := Or.inl (nt_ok (nt_2 _ (List.mem_of_getElem? (i := 207) rfl)) rfl)
theorem ff_A_15 : xo_fd "FlowKernel$Parting" 15 6 1 "[LFlowKernel$Giver;" true := ⟨"FlowKernel$Parting", TF_A, 4, ty_A, cb_A, Or.inl (nt_ok (nt_3 _ (List.mem_of_getElem? (i := 95) rfl)) rfl), by decide, rfl, rfl, rfl⟩
theorem ff_A_19 : xo_fd "FlowKernel$Parting" 19 5 10 "Z" false := ⟨"FlowKernel$Giver", TF_G, 14, ty_G, cb_G, Or.inr ⟨_, nt_nw (nt_1 _ (List.mem_of_getElem? (i := 174) rfl)) rfl⟩, by decide, rfl, rfl, rfl⟩
theorem ml_K_291 : xo_ml "FlowKernel" 291 ⟨"FlowKernel$ChunkRow", "clear", "()V"⟩ := Or.inl (nt_ok (nt_2 _ (List.mem_of_getElem? (i := 219) rfl)) rfl)
theorem ff_K_294 : xo_fd "FlowKernel" 294 5 10 "Z" false := ⟨"FlowKernel$Giver", TF_G, 14, ty_G, cb_G, Or.inr ⟨_, nt_nw (nt_1 _ (List.mem_of_getElem? (i := 175) rfl)) rfl⟩, by decide, rfl, rfl, rfl⟩
theorem ml_K_297 : xo_ml "FlowKernel" 297 ⟨"FlowKernel$Parting", "isGivenUp", "()Z"⟩ := Or.inl (nt_ok (nt_2 _ (List.mem_of_getElem? (i := 220) rfl)) rfl)
theorem ml_K_145 : xo_ml "FlowKernel" 145 ⟨"FlowKernel", "cancelGiver", "(LFlowKernel$Giver;I)V"⟩ := Or.inl (nt_ok (nt_2 _ (List.mem_of_getElem? (i := 215) rfl)) rfl)
theorem ml_K_148 : xo_ml "FlowKernel" 148 ⟨"FlowKernel", "takerAt", "(I)LFlowKernel$Taker;"⟩ := Or.inl (nt_ok (nt_2 _ (List.mem_of_getElem? (i := 228) rfl)) rfl)
theorem ff_K_152 : xo_fd "FlowKernel" 152 7 12 "Z" false := ⟨"FlowKernel$Taker", TF_T, 13, ty_T, cb_T, Or.inr ⟨_, nt_nw (nt_2 _ (List.mem_of_getElem? (i := 84) rfl)) rfl⟩, by decide, rfl, rfl, rfl⟩
theorem ff_K_155 : xo_fd "FlowKernel" 155 7 1 "LFlowKernel$ChunkRow;" true := ⟨"FlowKernel$Taker", TF_T, 13, ty_T, cb_T, Or.inr ⟨_, nt_nw (nt_2 _ (List.mem_of_getElem? (i := 67) rfl)) rfl⟩, by decide, rfl, rfl, rfl⟩
theorem ff_T_76 : xo_fd "FlowKernel$Taker" 76 7 9 "Z" false := ⟨"FlowKernel$Taker", TF_T, 13, ty_T, cb_T, Or.inl (nt_ok (nt_2 _ (List.mem_of_getElem? (i := 78) rfl)) rfl), by decide, rfl, rfl, rfl⟩
theorem ff_T_82 : xo_fd "FlowKernel$Taker" 82 7 10 "Z" false := ⟨"FlowKernel$Taker", TF_T, 13, ty_T, cb_T, Or.inl (nt_ok (nt_2 _ (List.mem_of_getElem? (i := 80) rfl)) rfl), by decide, rfl, rfl, rfl⟩
theorem ff_T_79 : xo_fd "FlowKernel$Taker" 79 7 8 "I" false := ⟨"FlowKernel$Taker", TF_T, 13, ty_T, cb_T, Or.inl (nt_ok (nt_2 _ (List.mem_of_getElem? (i := 77) rfl)) rfl), by decide, rfl, rfl, rfl⟩
theorem ff_T_118 : xo_fd "FlowKernel$Taker" 118 3 2 "I" false := ⟨"FlowKernel$Row", TF_R, 3, ty_R, cb_R, Or.inr ⟨_, nt_nw (nt_1 _ (List.mem_of_getElem? (i := 60) rfl)) rfl⟩, by decide, rfl, rfl, rfl⟩
theorem ml_T_120 : xo_ml "FlowKernel$Taker" 120 ⟨"FlowKernel$Row", "clear", "()V"⟩ := Or.inl (nt_ok (nt_3 _ (List.mem_of_getElem? (i := 13) rfl)) rfl)
theorem ml_T_123 : xo_ml "FlowKernel$Taker" 123 ⟨"FlowKernel$ChunkRow", "clear", "()V"⟩ := Or.inl (nt_ok (nt_3 _ (List.mem_of_getElem? (i := 14) rfl)) rfl)
theorem ml_T_124 : xo_ml "FlowKernel$Taker" 124 ⟨"FlowKernel$Taker", "startAbort", "()V"⟩ := Or.inl (nt_ok (nt_3 _ (List.mem_of_getElem? (i := 15) rfl)) rfl)
theorem ml_T_105 : xo_ml "FlowKernel$Taker" 105 ⟨"FlowKernel$Taker", "loseEnd", "()V"⟩ := Or.inl (nt_ok (nt_3 _ (List.mem_of_getElem? (i := 19) rfl)) rfl)
theorem ml_T_88 : xo_ml "FlowKernel$Taker" 88 ⟨"FlowKernel$Taker", "breakDown", "()V"⟩ := Or.inl (nt_ok (nt_3 _ (List.mem_of_getElem? (i := 9) rfl)) rfl)
theorem ml_T_70 : xo_ml "FlowKernel$Taker" 70 ⟨"FlowKernel$Taker", "canShutDown", "()Z"⟩ := Or.inl (nt_ok (nt_3 _ (List.mem_of_getElem? (i := 4) rfl)) rfl)
theorem ml_T_73 : xo_ml "FlowKernel$Taker" 73 ⟨"FlowKernel$Taker", "goOn", "()V"⟩ := Or.inl (nt_ok (nt_3 _ (List.mem_of_getElem? (i := 5) rfl)) rfl)
theorem ml_K_160 : xo_ml "FlowKernel" 160 ⟨"FlowKernel$Taker", "canShutDown", "()Z"⟩ := Or.inl (nt_ok (nt_2 _ (List.mem_of_getElem? (i := 236) rfl)) rfl)
theorem ml_K_163 : xo_ml "FlowKernel" 163 ⟨"FlowKernel$Taker", "shutDown", "()V"⟩ := Or.inl (nt_ok (nt_3 _ (List.mem_of_getElem? (i := 0) rfl)) rfl)
theorem ml_T_85 : xo_ml "FlowKernel$Taker" 85 ⟨"FlowKernel$Taker", "startFailing", "(I)V"⟩ := Or.inl (nt_ok (nt_3 _ (List.mem_of_getElem? (i := 31) rfl)) rfl)
theorem ff_K_166 : xo_fd "FlowKernel" 166 7 9 "Z" false := ⟨"FlowKernel$Taker", TF_T, 13, ty_T, cb_T, Or.inr ⟨_, nt_nw (nt_2 _ (List.mem_of_getElem? (i := 79) rfl)) rfl⟩, by decide, rfl, rfl, rfl⟩
theorem ff_K_169 : xo_fd "FlowKernel" 169 7 7 "I" false := ⟨"FlowKernel$Taker", TF_T, 13, ty_T, cb_T, Or.inr ⟨_, nt_nw (nt_2 _ (List.mem_of_getElem? (i := 76) rfl)) rfl⟩, by decide, rfl, rfl, rfl⟩
theorem ml_K_172 : xo_ml "FlowKernel" 172 ⟨"FlowKernel$Taker", "abortWith", "(I)V"⟩ := Or.inl (nt_ok (nt_3 _ (List.mem_of_getElem? (i := 27) rfl)) rfl)
theorem ff_K_176 : xo_fd "FlowKernel" 176 7 4 "I" false := ⟨"FlowKernel$Taker", TF_T, 13, ty_T, cb_T, Or.inr ⟨_, nt_nw (nt_2 _ (List.mem_of_getElem? (i := 71) rfl)) rfl⟩, by decide, rfl, rfl, rfl⟩
theorem ml_K_177 : xo_ml "FlowKernel" 177 ⟨"FlowKernel$Taker", "startFailing", "(I)V"⟩ := Or.inl (nt_ok (nt_3 _ (List.mem_of_getElem? (i := 39) rfl)) rfl)
theorem wo_P_3 : Cond.methodLink "FlowKernel$Pipe" 3 Lib.objectInit ∈ xo_WS := (nt_ok (nt_3 _ (List.mem_of_getElem? (i := 52) rfl)) rfl)
theorem ff_P_9 : xo_fd "FlowKernel$Pipe" 9 8 0 "I" true := ⟨"FlowKernel$Pipe", TF_P, 7, ty_P, cb_P, Or.inl (nt_ok (nt_3 _ (List.mem_of_getElem? (i := 53) rfl)) rfl), by decide, rfl, rfl, rfl⟩
theorem fF_P_9 : xo_fF "FlowKernel$Pipe" 9 8 0 "I" := ⟨"FlowKernel$Pipe", TF_P, 7, ty_P, cb_P, (nt_ok (nt_3 _ (List.mem_of_getElem? (i := 53) rfl)) rfl), by decide, rfl, rfl, rfl, rfl⟩
theorem ff_P_15 : xo_fd "FlowKernel$Pipe" 15 8 1 "LFlowKernel$Giver;" true := ⟨"FlowKernel$Pipe", TF_P, 7, ty_P, cb_P, Or.inl (nt_ok (nt_3 _ (List.mem_of_getElem? (i := 55) rfl)) rfl), by decide, rfl, rfl, rfl⟩
theorem fF_P_15 : xo_fF "FlowKernel$Pipe" 15 8 1 "LFlowKernel$Giver;" := ⟨"FlowKernel$Pipe", TF_P, 7, ty_P, cb_P, (nt_ok (nt_3 _ (List.mem_of_getElem? (i := 55) rfl)) rfl), by decide, rfl, rfl, rfl, rfl⟩
theorem ff_P_19 : xo_fd "FlowKernel$Pipe" 19 8 2 "LFlowKernel$Taker;" true := ⟨"FlowKernel$Pipe", TF_P, 7, ty_P, cb_P, Or.inl (nt_ok (nt_3 _ (List.mem_of_getElem? (i := 57) rfl)) rfl), by decide, rfl, rfl, rfl⟩
theorem fF_P_19 : xo_fF "FlowKernel$Pipe" 19 8 2 "LFlowKernel$Taker;" := ⟨"FlowKernel$Pipe", TF_P, 7, ty_P, cb_P, (nt_ok (nt_3 _ (List.mem_of_getElem? (i := 57) rfl)) rfl), by decide, rfl, rfl, rfl, rfl⟩
theorem ff_P_23 : xo_fd "FlowKernel$Pipe" 23 8 3 "Z" true := ⟨"FlowKernel$Pipe", TF_P, 7, ty_P, cb_P, Or.inl (nt_ok (nt_3 _ (List.mem_of_getElem? (i := 59) rfl)) rfl), by decide, rfl, rfl, rfl⟩
theorem fF_P_23 : xo_fF "FlowKernel$Pipe" 23 8 3 "Z" := ⟨"FlowKernel$Pipe", TF_P, 7, ty_P, cb_P, (nt_ok (nt_3 _ (List.mem_of_getElem? (i := 59) rfl)) rfl), by decide, rfl, rfl, rfl, rfl⟩
theorem ff_P_27 : xo_fd "FlowKernel$Pipe" 27 8 4 "Z" true := ⟨"FlowKernel$Pipe", TF_P, 7, ty_P, cb_P, Or.inl (nt_ok (nt_3 _ (List.mem_of_getElem? (i := 61) rfl)) rfl), by decide, rfl, rfl, rfl⟩
theorem fF_P_27 : xo_fF "FlowKernel$Pipe" 27 8 4 "Z" := ⟨"FlowKernel$Pipe", TF_P, 7, ty_P, cb_P, (nt_ok (nt_3 _ (List.mem_of_getElem? (i := 61) rfl)) rfl), by decide, rfl, rfl, rfl, rfl⟩
theorem ff_P_30 : xo_fd "FlowKernel$Pipe" 30 8 5 "Z" true := ⟨"FlowKernel$Pipe", TF_P, 7, ty_P, cb_P, Or.inl (nt_ok (nt_3 _ (List.mem_of_getElem? (i := 63) rfl)) rfl), by decide, rfl, rfl, rfl⟩
theorem fF_P_30 : xo_fF "FlowKernel$Pipe" 30 8 5 "Z" := ⟨"FlowKernel$Pipe", TF_P, 7, ty_P, cb_P, (nt_ok (nt_3 _ (List.mem_of_getElem? (i := 63) rfl)) rfl), by decide, rfl, rfl, rfl, rfl⟩
theorem co_K_35 : xo_cO "FlowKernel" 35 8 7 := ⟨"FlowKernel$Pipe", TF_P, ty_P, cb_P, cd_P, (nt_ok (nt_1 _ (List.mem_of_getElem? (i := 85) rfl)) rfl), wn_P, wi_P⟩
theorem ml_K_183 : xo_ml "FlowKernel" 183 ⟨"FlowKernel$Pipe", "<init>", "(ILFlowKernel$Giver;LFlowKernel$Taker;I)V"⟩ := Or.inl (nt_ok (nt_3 _ (List.mem_of_getElem? (i := 49) rfl)) rfl)
theorem ff_K_190 : xo_fd "FlowKernel" 190 8 0 "I" true := ⟨"FlowKernel$Pipe", TF_P, 7, ty_P, cb_P, Or.inr ⟨_, nt_nw (nt_3 _ (List.mem_of_getElem? (i := 54) rfl)) rfl⟩, by decide, rfl, rfl, rfl⟩
theorem wo_A_1 : Cond.methodLink "FlowKernel$Parting" 1 Lib.objectInit ∈ xo_WS := (nt_ok (nt_3 _ (List.mem_of_getElem? (i := 91) rfl)) rfl)
theorem ff_A_7 : xo_fd "FlowKernel$Parting" 7 6 0 "LFlowKernel$Giver;" true := ⟨"FlowKernel$Parting", TF_A, 4, ty_A, cb_A, Or.inl (nt_ok (nt_3 _ (List.mem_of_getElem? (i := 93) rfl)) rfl), by decide, rfl, rfl, rfl⟩
theorem fF_A_7 : xo_fF "FlowKernel$Parting" 7 6 0 "LFlowKernel$Giver;" := ⟨"FlowKernel$Parting", TF_A, 4, ty_A, cb_A, (nt_ok (nt_3 _ (List.mem_of_getElem? (i := 93) rfl)) rfl), by decide, rfl, rfl, rfl, rfl⟩
theorem wl_A_13 : Cond.classLink "FlowKernel$Parting" 13 (xo_tn 2) ∈ xo_WS := (nt_ok (nt_3 _ (List.mem_of_getElem? (i := 92) rfl)) rfl)
theorem fF_A_15 : xo_fF "FlowKernel$Parting" 15 6 1 "[LFlowKernel$Giver;" := ⟨"FlowKernel$Parting", TF_A, 4, ty_A, cb_A, (nt_ok (nt_3 _ (List.mem_of_getElem? (i := 95) rfl)) rfl), by decide, rfl, rfl, rfl, rfl⟩
theorem co_K_195 : xo_cO "FlowKernel" 195 6 4 := ⟨"FlowKernel$Parting", TF_A, ty_A, cb_A, cd_A, (nt_ok (nt_3 _ (List.mem_of_getElem? (i := 86) rfl)) rfl), wn_A, wi_A⟩
theorem ml_K_197 : xo_ml "FlowKernel" 197 ⟨"FlowKernel$Parting", "<init>", "(LFlowKernel$Giver;LFlowKernel$Giver;LFlowKernel$Giver;)V"⟩ := Or.inl (nt_ok (nt_3 _ (List.mem_of_getElem? (i := 88) rfl)) rfl)
theorem ff_K_207 : xo_fd "FlowKernel" 207 5 5 "I" false := ⟨"FlowKernel$Giver", TF_G, 14, ty_G, cb_G, Or.inr ⟨_, nt_nw (nt_1 _ (List.mem_of_getElem? (i := 166) rfl)) rfl⟩, by decide, rfl, rfl, rfl⟩
theorem ff_K_218 : xo_fd "FlowKernel" 218 5 9 "Z" false := ⟨"FlowKernel$Giver", TF_G, 14, ty_G, cb_G, Or.inr ⟨_, nt_nw (nt_1 _ (List.mem_of_getElem? (i := 173) rfl)) rfl⟩, by decide, rfl, rfl, rfl⟩
theorem ff_P_58 : xo_fd "FlowKernel$Pipe" 58 8 6 "Z" false := ⟨"FlowKernel$Pipe", TF_P, 7, ty_P, cb_P, Or.inl (nt_ok (nt_3 _ (List.mem_of_getElem? (i := 65) rfl)) rfl), by decide, rfl, rfl, rfl⟩
theorem ff_P_33 : xo_fd "FlowKernel$Pipe" 33 5 3 "LFlowKernel$Row;" true := ⟨"FlowKernel$Giver", TF_G, 14, ty_G, cb_G, Or.inr ⟨_, nt_nw (nt_1 _ (List.mem_of_getElem? (i := 161) rfl)) rfl⟩, by decide, rfl, rfl, rfl⟩
theorem ml_P_61 : xo_ml "FlowKernel$Pipe" 61 ⟨"FlowKernel$Row", "clear", "()V"⟩ := Or.inl (nt_ok (nt_3 _ (List.mem_of_getElem? (i := 140) rfl)) rfl)
theorem ff_P_64 : xo_fd "FlowKernel$Pipe" 64 5 13 "LFlowKernel$Pipe;" false := ⟨"FlowKernel$Giver", TF_G, 14, ty_G, cb_G, Or.inr ⟨_, nt_nw (nt_1 _ (List.mem_of_getElem? (i := 180) rfl)) rfl⟩, by decide, rfl, rfl, rfl⟩
theorem ff_P_68 : xo_fd "FlowKernel$Pipe" 68 7 12 "Z" false := ⟨"FlowKernel$Taker", TF_T, 13, ty_T, cb_T, Or.inr ⟨_, nt_nw (nt_2 _ (List.mem_of_getElem? (i := 83) rfl)) rfl⟩, by decide, rfl, rfl, rfl⟩
theorem ml_K_361 : xo_ml "FlowKernel" 361 ⟨"FlowKernel$Pipe", "letGo", "()V"⟩ := Or.inl (nt_ok (nt_3 _ (List.mem_of_getElem? (i := 136) rfl)) rfl)
theorem ff_P_39 : xo_fd "FlowKernel$Pipe" 39 3 2 "I" false := ⟨"FlowKernel$Row", TF_R, 3, ty_R, cb_R, Or.inr ⟨_, nt_nw (nt_1 _ (List.mem_of_getElem? (i := 57) rfl)) rfl⟩, by decide, rfl, rfl, rfl⟩
theorem ff_P_44 : xo_fd "FlowKernel$Pipe" 44 7 1 "LFlowKernel$ChunkRow;" true := ⟨"FlowKernel$Taker", TF_T, 13, ty_T, cb_T, Or.inr ⟨_, nt_nw (nt_2 _ (List.mem_of_getElem? (i := 66) rfl)) rfl⟩, by decide, rfl, rfl, rfl⟩
theorem ff_P_50 : xo_fd "FlowKernel$Pipe" 50 4 3 "I" false := ⟨"FlowKernel$ChunkRow", TF_C, 4, ty_C, cb_C, Or.inr ⟨_, nt_nw (nt_1 _ (List.mem_of_getElem? (i := 137) rfl)) rfl⟩, by decide, rfl, rfl, rfl⟩
theorem ml_P_55 : xo_ml "FlowKernel$Pipe" 55 ⟨"FlowKernel$ChunkRow", "count", "()I"⟩ := Or.inl (nt_ok (nt_3 _ (List.mem_of_getElem? (i := 147) rfl)) rfl)
theorem ff_K_339 : xo_fd "FlowKernel" 339 8 1 "LFlowKernel$Giver;" true := ⟨"FlowKernel$Pipe", TF_P, 7, ty_P, cb_P, Or.inr ⟨_, nt_nw (nt_3 _ (List.mem_of_getElem? (i := 56) rfl)) rfl⟩, by decide, rfl, rfl, rfl⟩
theorem ff_K_342 : xo_fd "FlowKernel" 342 8 4 "Z" true := ⟨"FlowKernel$Pipe", TF_P, 7, ty_P, cb_P, Or.inr ⟨_, nt_nw (nt_3 _ (List.mem_of_getElem? (i := 62) rfl)) rfl⟩, by decide, rfl, rfl, rfl⟩
theorem ml_K_345 : xo_ml "FlowKernel" 345 ⟨"FlowKernel", "endPipe", "(LFlowKernel$Pipe;II)V"⟩ := Or.inl (nt_ok (nt_3 _ (List.mem_of_getElem? (i := 132) rfl)) rfl)
theorem ml_K_240 : xo_ml "FlowKernel" 240 ⟨"FlowKernel$Taker", "hasError", "()Z"⟩ := Or.inl (nt_ok (nt_3 _ (List.mem_of_getElem? (i := 141) rfl)) rfl)
theorem ff_K_349 : xo_fd "FlowKernel" 349 8 5 "Z" true := ⟨"FlowKernel$Pipe", TF_P, 7, ty_P, cb_P, Or.inr ⟨_, nt_nw (nt_3 _ (List.mem_of_getElem? (i := 64) rfl)) rfl⟩, by decide, rfl, rfl, rfl⟩
theorem ff_K_243 : xo_fd "FlowKernel" 243 7 5 "I" false := ⟨"FlowKernel$Taker", TF_T, 13, ty_T, cb_T, Or.inr ⟨_, nt_nw (nt_2 _ (List.mem_of_getElem? (i := 73) rfl)) rfl⟩, by decide, rfl, rfl, rfl⟩
theorem ff_K_352 : xo_fd "FlowKernel" 352 8 3 "Z" true := ⟨"FlowKernel$Pipe", TF_P, 7, ty_P, cb_P, Or.inr ⟨_, nt_nw (nt_3 _ (List.mem_of_getElem? (i := 60) rfl)) rfl⟩, by decide, rfl, rfl, rfl⟩
theorem ml_K_355 : xo_ml "FlowKernel" 355 ⟨"FlowKernel$Taker", "isShutOrToBe", "()Z"⟩ := Or.inl (nt_ok (nt_3 _ (List.mem_of_getElem? (i := 142) rfl)) rfl)
theorem ml_K_358 : xo_ml "FlowKernel" 358 ⟨"FlowKernel$Pipe", "mustWait", "()Z"⟩ := Or.inl (nt_ok (nt_3 _ (List.mem_of_getElem? (i := 143) rfl)) rfl)
theorem ml_T_91 : xo_ml "FlowKernel$Taker" 91 ⟨"FlowKernel$ChunkRow", "takeFirst", "()I"⟩ := Or.inl (nt_ok (nt_3 _ (List.mem_of_getElem? (i := 156) rfl)) rfl)
theorem ml_T_95 : xo_ml "FlowKernel$Taker" 95 ⟨"FlowKernel$Row", "takeFirst", "()I"⟩ := Or.inl (nt_ok (nt_3 _ (List.mem_of_getElem? (i := 157) rfl)) rfl)
theorem ml_T_96 : xo_ml "FlowKernel$Taker" 96 ⟨"FlowKernel$Taker", "failOrBreak", "(I)V"⟩ := Or.inl (nt_ok (nt_3 _ (List.mem_of_getElem? (i := 158) rfl)) rfl)
theorem ml_T_102 : xo_ml "FlowKernel$Taker" 102 ⟨"FlowKernel$Taker", "noteAborted", "(I)V"⟩ := Or.inl (nt_ok (nt_3 _ (List.mem_of_getElem? (i := 170) rfl)) rfl)
theorem ml_T_99 : xo_ml "FlowKernel$Taker" 99 ⟨"FlowKernel$Taker", "endAbort", "(I)V"⟩ := Or.inl (nt_ok (nt_3 _ (List.mem_of_getElem? (i := 166) rfl)) rfl)
theorem ml_K_330 : xo_ml "FlowKernel" 330 ⟨"FlowKernel$Taker", "written", "(I)V"⟩ := Or.inl (nt_ok (nt_3 _ (List.mem_of_getElem? (i := 152) rfl)) rfl)
theorem ml_K_333 : xo_ml "FlowKernel" 333 ⟨"FlowKernel$Taker", "wasShut", "(I)V"⟩ := Or.inl (nt_ok (nt_3 _ (List.mem_of_getElem? (i := 162) rfl)) rfl)
theorem ml_K_336 : xo_ml "FlowKernel" 336 ⟨"FlowKernel$Taker", "wasAborted", "(I)V"⟩ := Or.inl (nt_ok (nt_3 _ (List.mem_of_getElem? (i := 174) rfl)) rfl)
theorem ff_K_307 : xo_fd "FlowKernel" 307 2 0 "LFlowKernel$Row;" true := ⟨"FlowKernel$JobRow", TF_J, 3, ty_J, cb_J, Or.inr ⟨_, nt_nw (nt_1 _ (List.mem_of_getElem? (i := 69) rfl)) rfl⟩, by decide, rfl, rfl, rfl⟩
theorem ff_K_310 : xo_fd "FlowKernel" 310 2 1 "LFlowKernel$Row;" true := ⟨"FlowKernel$JobRow", TF_J, 3, ty_J, cb_J, Or.inr ⟨_, nt_nw (nt_1 _ (List.mem_of_getElem? (i := 71) rfl)) rfl⟩, by decide, rfl, rfl, rfl⟩
theorem ff_K_313 : xo_fd "FlowKernel" 313 2 2 "LFlowKernel$Row;" true := ⟨"FlowKernel$JobRow", TF_J, 3, ty_J, cb_J, Or.inr ⟨_, nt_nw (nt_1 _ (List.mem_of_getElem? (i := 73) rfl)) rfl⟩, by decide, rfl, rfl, rfl⟩
theorem ml_K_316 : xo_ml "FlowKernel" 316 ⟨"FlowKernel", "doPulled", "(LFlowKernel$Giver;I)V"⟩ := Or.inl (nt_ok (nt_3 _ (List.mem_of_getElem? (i := 120) rfl)) rfl)
theorem ml_K_319 : xo_ml "FlowKernel" 319 ⟨"FlowKernel", "doParted", "(LFlowKernel$Giver;I)V"⟩ := Or.inl (nt_ok (nt_3 _ (List.mem_of_getElem? (i := 124) rfl)) rfl)
theorem ml_K_322 : xo_ml "FlowKernel" 322 ⟨"FlowKernel", "doPump", "(LFlowKernel$Pipe;)Z"⟩ := Or.inl (nt_ok (nt_3 _ (List.mem_of_getElem? (i := 128) rfl)) rfl)
theorem ml_K_326 : xo_ml "FlowKernel" 326 ⟨"FlowKernel", "doSettled", "(LFlowKernel$Taker;II)V"⟩ := Or.inl (nt_ok (nt_3 _ (List.mem_of_getElem? (i := 148) rfl)) rfl)
theorem ml_K_214 : xo_ml "FlowKernel" 214 ⟨"FlowKernel$JobRow", "count", "()I"⟩ := Or.inl (nt_ok (nt_3 _ (List.mem_of_getElem? (i := 112) rfl)) rfl)
theorem ml_K_215 : xo_ml "FlowKernel" 215 ⟨"FlowKernel", "doFirstJob", "()I"⟩ := Or.inl (nt_ok (nt_3 _ (List.mem_of_getElem? (i := 116) rfl)) rfl)
theorem ff_K_221 : xo_fd "FlowKernel" 221 4 3 "I" false := ⟨"FlowKernel$ChunkRow", TF_C, 4, ty_C, cb_C, Or.inr ⟨_, nt_nw (nt_1 _ (List.mem_of_getElem? (i := 139) rfl)) rfl⟩, by decide, rfl, rfl, rfl⟩
theorem ff_K_224 : xo_fd "FlowKernel" 224 7 11 "Z" false := ⟨"FlowKernel$Taker", TF_T, 13, ty_T, cb_T, Or.inr ⟨_, nt_nw (nt_2 _ (List.mem_of_getElem? (i := 82) rfl)) rfl⟩, by decide, rfl, rfl, rfl⟩
theorem ml_K_227 : xo_ml "FlowKernel" 227 ⟨"FlowKernel", "takerError", "(LFlowKernel$Taker;)I"⟩ := Or.inl (nt_ok (nt_3 _ (List.mem_of_getElem? (i := 214) rfl)) rfl)
theorem ml_K_231 : xo_ml "FlowKernel" 231 ⟨"FlowKernel", "giverError", "(LFlowKernel$Giver;)I"⟩ := Or.inl (nt_ok (nt_3 _ (List.mem_of_getElem? (i := 217) rfl)) rfl)
theorem ff_K_235 : xo_fd "FlowKernel" 235 1 3 "I" false := ⟨"FlowKernel$EventLog", TF_L, 4, ty_L, cb_L, Or.inr ⟨_, nt_nw (nt_1 _ (List.mem_of_getElem? (i := 29) rfl)) rfl⟩, by decide, rfl, rfl, rfl⟩
theorem ml_K_236 : xo_ml "FlowKernel" 236 ⟨"FlowKernel$EventLog", "tell", "(II)I"⟩ := Or.inl (nt_ok (nt_3 _ (List.mem_of_getElem? (i := 228) rfl)) rfl)
theorem wo_M_1 : Cond.methodLink "FlowKernelModel" 1 Lib.objectInit ∈ xo_WS := (nt_ok (nt_3 _ (List.mem_of_getElem? (i := 237) rfl)) rfl)
theorem ff_M_7 : xo_fd "FlowKernelModel" 7 9 1 "[I" false := ⟨"FlowKernelModel", TF_M, 51, ty_M, cb_M, Or.inl (nt_ok (nt_3 _ (List.mem_of_getElem? (i := 239) rfl)) rfl), by decide, rfl, rfl, rfl⟩
theorem ff_M_13 : xo_fd "FlowKernelModel" 13 9 2 "[I" false := ⟨"FlowKernelModel", TF_M, 51, ty_M, cb_M, Or.inl (nt_ok (nt_4 _ (List.mem_of_getElem? (i := 0) rfl)) rfl), by decide, rfl, rfl, rfl⟩
theorem ff_M_16 : xo_fd "FlowKernelModel" 16 9 3 "[I" false := ⟨"FlowKernelModel", TF_M, 51, ty_M, cb_M, Or.inl (nt_ok (nt_4 _ (List.mem_of_getElem? (i := 1) rfl)) rfl), by decide, rfl, rfl, rfl⟩
theorem ff_M_19 : xo_fd "FlowKernelModel" 19 9 4 "[Z" false := ⟨"FlowKernelModel", TF_M, 51, ty_M, cb_M, Or.inl (nt_ok (nt_4 _ (List.mem_of_getElem? (i := 2) rfl)) rfl), by decide, rfl, rfl, rfl⟩
theorem ff_M_23 : xo_fd "FlowKernelModel" 23 9 5 "[Z" false := ⟨"FlowKernelModel", TF_M, 51, ty_M, cb_M, Or.inl (nt_ok (nt_4 _ (List.mem_of_getElem? (i := 3) rfl)) rfl), by decide, rfl, rfl, rfl⟩
theorem ff_M_26 : xo_fd "FlowKernelModel" 26 9 6 "[Z" false := ⟨"FlowKernelModel", TF_M, 51, ty_M, cb_M, Or.inl (nt_ok (nt_4 _ (List.mem_of_getElem? (i := 4) rfl)) rfl), by decide, rfl, rfl, rfl⟩
theorem ff_M_29 : xo_fd "FlowKernelModel" 29 9 7 "[Z" false := ⟨"FlowKernelModel", TF_M, 51, ty_M, cb_M, Or.inl (nt_ok (nt_4 _ (List.mem_of_getElem? (i := 5) rfl)) rfl), by decide, rfl, rfl, rfl⟩
theorem ff_M_32 : xo_fd "FlowKernelModel" 32 9 8 "[I" false := ⟨"FlowKernelModel", TF_M, 51, ty_M, cb_M, Or.inl (nt_ok (nt_4 _ (List.mem_of_getElem? (i := 6) rfl)) rfl), by decide, rfl, rfl, rfl⟩
theorem ff_M_35 : xo_fd "FlowKernelModel" 35 9 9 "[I" false := ⟨"FlowKernelModel", TF_M, 51, ty_M, cb_M, Or.inl (nt_ok (nt_4 _ (List.mem_of_getElem? (i := 7) rfl)) rfl), by decide, rfl, rfl, rfl⟩
theorem ff_M_38 : xo_fd "FlowKernelModel" 38 9 10 "[I" false := ⟨"FlowKernelModel", TF_M, 51, ty_M, cb_M, Or.inl (nt_ok (nt_4 _ (List.mem_of_getElem? (i := 8) rfl)) rfl), by decide, rfl, rfl, rfl⟩
theorem ff_M_41 : xo_fd "FlowKernelModel" 41 9 11 "[I" false := ⟨"FlowKernelModel", TF_M, 51, ty_M, cb_M, Or.inl (nt_ok (nt_4 _ (List.mem_of_getElem? (i := 9) rfl)) rfl), by decide, rfl, rfl, rfl⟩
theorem ff_M_44 : xo_fd "FlowKernelModel" 44 9 12 "[I" false := ⟨"FlowKernelModel", TF_M, 51, ty_M, cb_M, Or.inl (nt_ok (nt_4 _ (List.mem_of_getElem? (i := 10) rfl)) rfl), by decide, rfl, rfl, rfl⟩
theorem ff_M_47 : xo_fd "FlowKernelModel" 47 9 13 "[I" false := ⟨"FlowKernelModel", TF_M, 51, ty_M, cb_M, Or.inl (nt_ok (nt_4 _ (List.mem_of_getElem? (i := 11) rfl)) rfl), by decide, rfl, rfl, rfl⟩
theorem ff_M_50 : xo_fd "FlowKernelModel" 50 9 14 "[Z" false := ⟨"FlowKernelModel", TF_M, 51, ty_M, cb_M, Or.inl (nt_ok (nt_4 _ (List.mem_of_getElem? (i := 12) rfl)) rfl), by decide, rfl, rfl, rfl⟩
theorem ff_M_53 : xo_fd "FlowKernelModel" 53 9 15 "[I" false := ⟨"FlowKernelModel", TF_M, 51, ty_M, cb_M, Or.inl (nt_ok (nt_4 _ (List.mem_of_getElem? (i := 13) rfl)) rfl), by decide, rfl, rfl, rfl⟩
theorem ff_M_56 : xo_fd "FlowKernelModel" 56 9 16 "[I" false := ⟨"FlowKernelModel", TF_M, 51, ty_M, cb_M, Or.inl (nt_ok (nt_4 _ (List.mem_of_getElem? (i := 14) rfl)) rfl), by decide, rfl, rfl, rfl⟩
theorem ff_M_59 : xo_fd "FlowKernelModel" 59 9 17 "[Z" false := ⟨"FlowKernelModel", TF_M, 51, ty_M, cb_M, Or.inl (nt_ok (nt_4 _ (List.mem_of_getElem? (i := 15) rfl)) rfl), by decide, rfl, rfl, rfl⟩
theorem ff_M_62 : xo_fd "FlowKernelModel" 62 9 18 "[Z" false := ⟨"FlowKernelModel", TF_M, 51, ty_M, cb_M, Or.inl (nt_ok (nt_4 _ (List.mem_of_getElem? (i := 16) rfl)) rfl), by decide, rfl, rfl, rfl⟩
theorem ff_M_65 : xo_fd "FlowKernelModel" 65 9 19 "[Z" false := ⟨"FlowKernelModel", TF_M, 51, ty_M, cb_M, Or.inl (nt_ok (nt_4 _ (List.mem_of_getElem? (i := 17) rfl)) rfl), by decide, rfl, rfl, rfl⟩
theorem ff_M_68 : xo_fd "FlowKernelModel" 68 9 21 "[I" false := ⟨"FlowKernelModel", TF_M, 51, ty_M, cb_M, Or.inl (nt_ok (nt_4 _ (List.mem_of_getElem? (i := 19) rfl)) rfl), by decide, rfl, rfl, rfl⟩
theorem ff_M_71 : xo_fd "FlowKernelModel" 71 9 22 "[I" false := ⟨"FlowKernelModel", TF_M, 51, ty_M, cb_M, Or.inl (nt_ok (nt_4 _ (List.mem_of_getElem? (i := 20) rfl)) rfl), by decide, rfl, rfl, rfl⟩
theorem ff_M_74 : xo_fd "FlowKernelModel" 74 9 23 "[I" false := ⟨"FlowKernelModel", TF_M, 51, ty_M, cb_M, Or.inl (nt_ok (nt_4 _ (List.mem_of_getElem? (i := 21) rfl)) rfl), by decide, rfl, rfl, rfl⟩
theorem ff_M_77 : xo_fd "FlowKernelModel" 77 9 24 "[Z" false := ⟨"FlowKernelModel", TF_M, 51, ty_M, cb_M, Or.inl (nt_ok (nt_4 _ (List.mem_of_getElem? (i := 22) rfl)) rfl), by decide, rfl, rfl, rfl⟩
theorem ff_M_80 : xo_fd "FlowKernelModel" 80 9 25 "[I" false := ⟨"FlowKernelModel", TF_M, 51, ty_M, cb_M, Or.inl (nt_ok (nt_4 _ (List.mem_of_getElem? (i := 23) rfl)) rfl), by decide, rfl, rfl, rfl⟩
theorem ff_M_83 : xo_fd "FlowKernelModel" 83 9 26 "[I" false := ⟨"FlowKernelModel", TF_M, 51, ty_M, cb_M, Or.inl (nt_ok (nt_4 _ (List.mem_of_getElem? (i := 24) rfl)) rfl), by decide, rfl, rfl, rfl⟩
theorem ff_M_86 : xo_fd "FlowKernelModel" 86 9 27 "[I" false := ⟨"FlowKernelModel", TF_M, 51, ty_M, cb_M, Or.inl (nt_ok (nt_4 _ (List.mem_of_getElem? (i := 25) rfl)) rfl), by decide, rfl, rfl, rfl⟩
theorem ff_M_89 : xo_fd "FlowKernelModel" 89 9 28 "[I" false := ⟨"FlowKernelModel", TF_M, 51, ty_M, cb_M, Or.inl (nt_ok (nt_4 _ (List.mem_of_getElem? (i := 26) rfl)) rfl), by decide, rfl, rfl, rfl⟩
theorem ff_M_92 : xo_fd "FlowKernelModel" 92 9 29 "[Z" false := ⟨"FlowKernelModel", TF_M, 51, ty_M, cb_M, Or.inl (nt_ok (nt_4 _ (List.mem_of_getElem? (i := 27) rfl)) rfl), by decide, rfl, rfl, rfl⟩
theorem ff_M_95 : xo_fd "FlowKernelModel" 95 9 30 "[I" false := ⟨"FlowKernelModel", TF_M, 51, ty_M, cb_M, Or.inl (nt_ok (nt_4 _ (List.mem_of_getElem? (i := 28) rfl)) rfl), by decide, rfl, rfl, rfl⟩
theorem ff_M_98 : xo_fd "FlowKernelModel" 98 9 31 "[Z" false := ⟨"FlowKernelModel", TF_M, 51, ty_M, cb_M, Or.inl (nt_ok (nt_4 _ (List.mem_of_getElem? (i := 29) rfl)) rfl), by decide, rfl, rfl, rfl⟩
theorem ff_M_101 : xo_fd "FlowKernelModel" 101 9 32 "[I" false := ⟨"FlowKernelModel", TF_M, 51, ty_M, cb_M, Or.inl (nt_ok (nt_4 _ (List.mem_of_getElem? (i := 30) rfl)) rfl), by decide, rfl, rfl, rfl⟩
theorem ff_M_104 : xo_fd "FlowKernelModel" 104 9 33 "[Z" false := ⟨"FlowKernelModel", TF_M, 51, ty_M, cb_M, Or.inl (nt_ok (nt_4 _ (List.mem_of_getElem? (i := 31) rfl)) rfl), by decide, rfl, rfl, rfl⟩
theorem ff_M_107 : xo_fd "FlowKernelModel" 107 9 34 "[Z" false := ⟨"FlowKernelModel", TF_M, 51, ty_M, cb_M, Or.inl (nt_ok (nt_4 _ (List.mem_of_getElem? (i := 32) rfl)) rfl), by decide, rfl, rfl, rfl⟩
theorem ff_M_110 : xo_fd "FlowKernelModel" 110 9 35 "[Z" false := ⟨"FlowKernelModel", TF_M, 51, ty_M, cb_M, Or.inl (nt_ok (nt_4 _ (List.mem_of_getElem? (i := 33) rfl)) rfl), by decide, rfl, rfl, rfl⟩
theorem ff_M_113 : xo_fd "FlowKernelModel" 113 9 37 "[I" false := ⟨"FlowKernelModel", TF_M, 51, ty_M, cb_M, Or.inl (nt_ok (nt_4 _ (List.mem_of_getElem? (i := 35) rfl)) rfl), by decide, rfl, rfl, rfl⟩
theorem ff_M_116 : xo_fd "FlowKernelModel" 116 9 38 "[I" false := ⟨"FlowKernelModel", TF_M, 51, ty_M, cb_M, Or.inl (nt_ok (nt_4 _ (List.mem_of_getElem? (i := 36) rfl)) rfl), by decide, rfl, rfl, rfl⟩
theorem ff_M_119 : xo_fd "FlowKernelModel" 119 9 39 "[I" false := ⟨"FlowKernelModel", TF_M, 51, ty_M, cb_M, Or.inl (nt_ok (nt_4 _ (List.mem_of_getElem? (i := 37) rfl)) rfl), by decide, rfl, rfl, rfl⟩
theorem ff_M_122 : xo_fd "FlowKernelModel" 122 9 40 "[Z" false := ⟨"FlowKernelModel", TF_M, 51, ty_M, cb_M, Or.inl (nt_ok (nt_4 _ (List.mem_of_getElem? (i := 38) rfl)) rfl), by decide, rfl, rfl, rfl⟩
theorem ff_M_125 : xo_fd "FlowKernelModel" 125 9 41 "[Z" false := ⟨"FlowKernelModel", TF_M, 51, ty_M, cb_M, Or.inl (nt_ok (nt_4 _ (List.mem_of_getElem? (i := 39) rfl)) rfl), by decide, rfl, rfl, rfl⟩
theorem ff_M_128 : xo_fd "FlowKernelModel" 128 9 44 "[I" false := ⟨"FlowKernelModel", TF_M, 51, ty_M, cb_M, Or.inl (nt_ok (nt_4 _ (List.mem_of_getElem? (i := 42) rfl)) rfl), by decide, rfl, rfl, rfl⟩
theorem ff_M_131 : xo_fd "FlowKernelModel" 131 9 45 "[I" false := ⟨"FlowKernelModel", TF_M, 51, ty_M, cb_M, Or.inl (nt_ok (nt_4 _ (List.mem_of_getElem? (i := 43) rfl)) rfl), by decide, rfl, rfl, rfl⟩
theorem ff_M_134 : xo_fd "FlowKernelModel" 134 9 46 "[I" false := ⟨"FlowKernelModel", TF_M, 51, ty_M, cb_M, Or.inl (nt_ok (nt_4 _ (List.mem_of_getElem? (i := 44) rfl)) rfl), by decide, rfl, rfl, rfl⟩
theorem ff_M_137 : xo_fd "FlowKernelModel" 137 9 48 "[I" false := ⟨"FlowKernelModel", TF_M, 51, ty_M, cb_M, Or.inl (nt_ok (nt_4 _ (List.mem_of_getElem? (i := 46) rfl)) rfl), by decide, rfl, rfl, rfl⟩
theorem ff_M_140 : xo_fd "FlowKernelModel" 140 9 49 "[I" false := ⟨"FlowKernelModel", TF_M, 51, ty_M, cb_M, Or.inl (nt_ok (nt_4 _ (List.mem_of_getElem? (i := 47) rfl)) rfl), by decide, rfl, rfl, rfl⟩
theorem ff_M_143 : xo_fd "FlowKernelModel" 143 9 50 "[I" false := ⟨"FlowKernelModel", TF_M, 51, ty_M, cb_M, Or.inl (nt_ok (nt_4 _ (List.mem_of_getElem? (i := 48) rfl)) rfl), by decide, rfl, rfl, rfl⟩
theorem ff_M_146 : xo_fd "FlowKernelModel" 146 9 47 "I" false := ⟨"FlowKernelModel", TF_M, 51, ty_M, cb_M, Or.inl (nt_ok (nt_4 _ (List.mem_of_getElem? (i := 45) rfl)) rfl), by decide, rfl, rfl, rfl⟩
theorem ff_M_150 : xo_fd "FlowKernelModel" 150 9 42 "I" false := ⟨"FlowKernelModel", TF_M, 51, ty_M, cb_M, Or.inl (nt_ok (nt_4 _ (List.mem_of_getElem? (i := 40) rfl)) rfl), by decide, rfl, rfl, rfl⟩
theorem ff_M_153 : xo_fd "FlowKernelModel" 153 9 43 "I" false := ⟨"FlowKernelModel", TF_M, 51, ty_M, cb_M, Or.inl (nt_ok (nt_4 _ (List.mem_of_getElem? (i := 41) rfl)) rfl), by decide, rfl, rfl, rfl⟩
theorem ml_M_156 : xo_ml "FlowKernelModel" 156 ⟨"FlowKernelModel", "sizeOf", "(IZ)I"⟩ := Or.inl (nt_ok (nt_4 _ (List.mem_of_getElem? (i := 193) rfl)) rfl)
theorem ml_M_160 : xo_ml "FlowKernelModel" 160 ⟨"FlowKernelModel", "happen", "(IIII)V"⟩ := Or.inl (nt_ok (nt_4 _ (List.mem_of_getElem? (i := 169) rfl)) rfl)
theorem ml_M_164 : xo_ml "FlowKernelModel" 164 ⟨"FlowKernelModel", "breaks", "(I)V"⟩ := Or.inl (nt_ok (nt_5 _ (List.mem_of_getElem? (i := 5) rfl)) rfl)
theorem ml_M_168 : xo_ml "FlowKernelModel" 168 ⟨"FlowKernelModel", "goesOn", "(I)V"⟩ := Or.inl (nt_ok (nt_5 _ (List.mem_of_getElem? (i := 1) rfl)) rfl)
theorem ml_M_175 : xo_ml "FlowKernelModel" 175 ⟨"FlowKernelModel", "startFailing", "(II)V"⟩ := Or.inl (nt_ok (nt_5 _ (List.mem_of_getElem? (i := 17) rfl)) rfl)
theorem ml_M_171 : xo_ml "FlowKernelModel" 171 ⟨"FlowKernelModel", "failsOrBreaks", "(II)V"⟩ := Or.inl (nt_ok (nt_5 _ (List.mem_of_getElem? (i := 53) rfl)) rfl)
theorem ml_M_178 : xo_ml "FlowKernelModel" 178 ⟨"FlowKernelModel", "job", "(III)V"⟩ := Or.inl (nt_ok (nt_4 _ (List.mem_of_getElem? (i := 217) rfl)) rfl)
theorem ml_M_182 : xo_ml "FlowKernelModel" 182 ⟨"FlowKernelModel", "writeTo", "(II)I"⟩ := Or.inl (nt_ok (nt_4 _ (List.mem_of_getElem? (i := 237) rfl)) rfl)
theorem ml_M_186 : xo_ml "FlowKernelModel" 186 ⟨"FlowKernelModel", "closePlain", "(I)V"⟩ := Or.inl (nt_ok (nt_4 _ (List.mem_of_getElem? (i := 205) rfl)) rfl)
theorem ml_M_189 : xo_ml "FlowKernelModel" 189 ⟨"FlowKernelModel", "endBranches", "(I)V"⟩ := Or.inl (nt_ok (nt_4 _ (List.mem_of_getElem? (i := 201) rfl)) rfl)
theorem ml_M_192 : xo_ml "FlowKernelModel" 192 ⟨"FlowKernelModel", "failPlain", "(II)V"⟩ := Or.inl (nt_ok (nt_4 _ (List.mem_of_getElem? (i := 165) rfl)) rfl)
theorem ml_M_195 : xo_ml "FlowKernelModel" 195 ⟨"FlowKernelModel", "room", "(I)I"⟩ := Or.inl (nt_ok (nt_4 _ (List.mem_of_getElem? (i := 189) rfl)) rfl)
theorem ml_M_199 : xo_ml "FlowKernelModel" 199 ⟨"FlowKernelModel", "pulls", "(I)Z"⟩ := Or.inl (nt_ok (nt_4 _ (List.mem_of_getElem? (i := 185) rfl)) rfl)
theorem ml_M_203 : xo_ml "FlowKernelModel" 203 ⟨"FlowKernelModel", "takeChunk", "(I)I"⟩ := Or.inl (nt_ok (nt_4 _ (List.mem_of_getElem? (i := 209) rfl)) rfl)
theorem ml_M_206 : xo_ml "FlowKernelModel" 206 ⟨"FlowKernelModel", "close", "(I)V"⟩ := Or.inl (nt_ok (nt_4 _ (List.mem_of_getElem? (i := 213) rfl)) rfl)
theorem ml_M_209 : xo_ml "FlowKernelModel" 209 ⟨"FlowKernelModel", "pullRoot", "(I)V"⟩ := Or.inl (nt_ok (nt_4 _ (List.mem_of_getElem? (i := 181) rfl)) rfl)
theorem ml_M_212 : xo_ml "FlowKernelModel" 212 ⟨"FlowKernelModel", "isBranch", "(I)Z"⟩ := Or.inl (nt_ok (nt_4 _ (List.mem_of_getElem? (i := 177) rfl)) rfl)
theorem ml_M_215 : xo_ml "FlowKernelModel" 215 ⟨"FlowKernelModel", "readOn", "(I)V"⟩ := Or.inl (nt_ok (nt_4 _ (List.mem_of_getElem? (i := 197) rfl)) rfl)
theorem ml_M_218 : xo_ml "FlowKernelModel" 218 ⟨"FlowKernelModel", "takeRequest", "(I)I"⟩ := Or.inl (nt_ok (nt_4 _ (List.mem_of_getElem? (i := 229) rfl)) rfl)
theorem ml_M_221 : xo_ml "FlowKernelModel" 221 ⟨"FlowKernelModel", "answer", "(III)V"⟩ := Or.inl (nt_ok (nt_4 _ (List.mem_of_getElem? (i := 233) rfl)) rfl)
theorem ml_M_224 : xo_ml "FlowKernelModel" 224 ⟨"FlowKernelModel", "pull", "(I)V"⟩ := Or.inl (nt_ok (nt_4 _ (List.mem_of_getElem? (i := 173) rfl)) rfl)
theorem ml_M_227 : xo_ml "FlowKernelModel" 227 ⟨"FlowKernelModel", "cancelRoot", "(II)V"⟩ := Or.inl (nt_ok (nt_5 _ (List.mem_of_getElem? (i := 29) rfl)) rfl)
theorem ml_M_230 : xo_ml "FlowKernelModel" 230 ⟨"FlowKernelModel", "failRoot", "(II)V"⟩ := Or.inl (nt_ok (nt_4 _ (List.mem_of_getElem? (i := 161) rfl)) rfl)
theorem ml_M_233 : xo_ml "FlowKernelModel" 233 ⟨"FlowKernelModel", "takeIn", "(II)V"⟩ := Or.inl (nt_ok (nt_4 _ (List.mem_of_getElem? (i := 225) rfl)) rfl)
theorem ml_M_236 : xo_ml "FlowKernelModel" 236 ⟨"FlowKernelModel", "abortTaker", "(II)V"⟩ := Or.inl (nt_ok (nt_5 _ (List.mem_of_getElem? (i := 13) rfl)) rfl)
theorem ml_M_239 : xo_ml "FlowKernelModel" 239 ⟨"FlowKernelModel", "finish", "(III)V"⟩ := Or.inl (nt_ok (nt_5 _ (List.mem_of_getElem? (i := 21) rfl)) rfl)
theorem ml_M_242 : xo_ml "FlowKernelModel" 242 ⟨"FlowKernelModel", "cancelGiver", "(II)V"⟩ := Or.inl (nt_ok (nt_5 _ (List.mem_of_getElem? (i := 25) rfl)) rfl)
theorem ml_M_245 : xo_ml "FlowKernelModel" 245 ⟨"FlowKernelModel", "shutDown", "(I)V"⟩ := Or.inl (nt_ok (nt_5 _ (List.mem_of_getElem? (i := 33) rfl)) rfl)
theorem ml_M_248 : xo_ml "FlowKernelModel" 248 ⟨"FlowKernelModel", "asks", "(I)Z"⟩ := Or.inl (nt_ok (nt_5 _ (List.mem_of_getElem? (i := 37) rfl)) rfl)
theorem ml_M_251 : xo_ml "FlowKernelModel" 251 ⟨"FlowKernelModel", "space", "(I)I"⟩ := Or.inl (nt_ok (nt_5 _ (List.mem_of_getElem? (i := 41) rfl)) rfl)
theorem ml_M_254 : xo_ml "FlowKernelModel" 254 ⟨"FlowKernelModel", "request", "(II)V"⟩ := Or.inl (nt_ok (nt_5 _ (List.mem_of_getElem? (i := 45) rfl)) rfl)
theorem ff_M_257 : xo_fd "FlowKernelModel" 257 9 36 "I" false := ⟨"FlowKernelModel", TF_M, 51, ty_M, cb_M, Or.inl (nt_ok (nt_4 _ (List.mem_of_getElem? (i := 34) rfl)) rfl), by decide, rfl, rfl, rfl⟩
theorem ml_M_260 : xo_ml "FlowKernelModel" 260 ⟨"FlowKernelModel", "pulledJob", "(II)V"⟩ := Or.inl (nt_ok (nt_4 _ (List.mem_of_getElem? (i := 157) rfl)) rfl)
theorem ml_M_263 : xo_ml "FlowKernelModel" 263 ⟨"FlowKernelModel", "partedJob", "(II)V"⟩ := Or.inl (nt_ok (nt_4 _ (List.mem_of_getElem? (i := 221) rfl)) rfl)
theorem ml_M_266 : xo_ml "FlowKernelModel" 266 ⟨"FlowKernelModel", "pump", "(I)Z"⟩ := Or.inl (nt_ok (nt_5 _ (List.mem_of_getElem? (i := 9) rfl)) rfl)
theorem ml_M_269 : xo_ml "FlowKernelModel" 269 ⟨"FlowKernelModel", "written", "(II)V"⟩ := Or.inl (nt_ok (nt_5 _ (List.mem_of_getElem? (i := 49) rfl)) rfl)
theorem ml_M_272 : xo_ml "FlowKernelModel" 272 ⟨"FlowKernelModel", "shutDone", "(II)V"⟩ := Or.inl (nt_ok (nt_5 _ (List.mem_of_getElem? (i := 57) rfl)) rfl)
theorem ml_M_275 : xo_ml "FlowKernelModel" 275 ⟨"FlowKernelModel", "abortDone", "(II)V"⟩ := Or.inl (nt_ok (nt_5 _ (List.mem_of_getElem? (i := 61) rfl)) rfl)
theorem ml_M_278 : xo_ml "FlowKernelModel" 278 ⟨"FlowKernelModel", "wake", "()V"⟩ := Or.inl (nt_ok (nt_5 _ (List.mem_of_getElem? (i := 65) rfl)) rfl)
theorem ml_M_281 : xo_ml "FlowKernelModel" 281 ⟨"FlowKernelModel", "step", "()I"⟩ := Or.inl (nt_ok (nt_5 _ (List.mem_of_getElem? (i := 73) rfl)) rfl)
theorem ff_M_285 : xo_fd "FlowKernelModel" 285 9 0 "I" false := ⟨"FlowKernelModel", TF_M, 51, ty_M, cb_M, Or.inl (nt_ok (nt_3 _ (List.mem_of_getElem? (i := 238) rfl)) rfl), by decide, rfl, rfl, rfl⟩
theorem ff_M_288 : xo_fd "FlowKernelModel" 288 9 20 "I" false := ⟨"FlowKernelModel", TF_M, 51, ty_M, cb_M, Or.inl (nt_ok (nt_4 _ (List.mem_of_getElem? (i := 18) rfl)) rfl), by decide, rfl, rfl, rfl⟩
theorem ml_M_291 : xo_ml "FlowKernelModel" 291 ⟨"FlowKernelModel", "addGiver", "(IZI)I"⟩ := Or.inl (nt_ok (nt_5 _ (List.mem_of_getElem? (i := 82) rfl)) rfl)
theorem ml_M_295 : xo_ml "FlowKernelModel" 295 ⟨"FlowKernelModel", "noGiver", "(I)Z"⟩ := Or.inl (nt_ok (nt_5 _ (List.mem_of_getElem? (i := 98) rfl)) rfl)
theorem ml_M_298 : xo_ml "FlowKernelModel" 298 ⟨"FlowKernelModel", "noRoot", "(I)Z"⟩ := Or.inl (nt_ok (nt_5 _ (List.mem_of_getElem? (i := 94) rfl)) rfl)
theorem ml_M_301 : xo_ml "FlowKernelModel" 301 ⟨"FlowKernelModel", "ends", "(I)V"⟩ := Or.inl (nt_ok (nt_5 _ (List.mem_of_getElem? (i := 106) rfl)) rfl)
theorem ml_M_304 : xo_ml "FlowKernelModel" 304 ⟨"FlowKernelModel", "badError", "(II)Z"⟩ := Or.inl (nt_ok (nt_5 _ (List.mem_of_getElem? (i := 114) rfl)) rfl)
theorem ml_M_308 : xo_ml "FlowKernelModel" 308 ⟨"FlowKernelModel", "noTaker", "(I)Z"⟩ := Or.inl (nt_ok (nt_5 _ (List.mem_of_getElem? (i := 134) rfl)) rfl)
abbrev mt_L_init : xo_T := (⟨"FlowKernel$EventLog", "<init>", "()V"⟩, prog_3_method_1_code, 1, none, { frames := 1, cells := 3, slots := 192, locals := 20 })
abbrev mt_R_init : xo_T := (⟨"FlowKernel$Row", "<init>", "(I)V"⟩, prog_8_method_1_code, 2, none, { frames := 1, cells := 1, slots := 16, locals := 20 })
abbrev mt_J_init : xo_T := (⟨"FlowKernel$JobRow", "<init>", "()V"⟩, prog_5_method_1_code, 1, none, { frames := 2, cells := 6, slots := 57, locals := 41 })
abbrev mt_K_init : xo_T := (⟨"FlowKernel", "<init>", "()V"⟩, prog_1_method_1_code, 1, none, { frames := 3, cells := 14, slots := 266, locals := 61 })
abbrev mt_K_isMark : xo_T := (⟨"FlowKernel", "isMark", "(I)Z"⟩, prog_1_method_29_code, 1, some .boolean, { frames := 0, cells := 0, slots := 0, locals := 0 })
abbrev mt_C_init : xo_T := (⟨"FlowKernel$ChunkRow", "<init>", "(IZ)V"⟩, prog_2_method_1_code, 3, none, { frames := 2, cells := 2, slots := 19, locals := 41 })
abbrev mt_G_init : xo_T := (⟨"FlowKernel$Giver", "<init>", "(ILFlowKernel$ChunkRow;LFlowKernel$EventLog;)V"⟩, prog_4_method_1_code, 4, none, { frames := 2, cells := 2, slots := 19, locals := 41 })
abbrev mt_K_addGiver : xo_T := (⟨"FlowKernel", "addGiver", "(IZ)LFlowKernel$Giver;"⟩, prog_1_method_38_code, 4, some (.object "FlowKernel$Giver"), { frames := 3, cells := 6, slots := 56, locals := 64 })
abbrev mt_G_isGoing : xo_T := (⟨"FlowKernel$Giver", "isGoing", "()Z"⟩, prog_4_method_2_code, 1, some .boolean, { frames := 0, cells := 0, slots := 0, locals := 0 })
abbrev mt_G_startsPulling : xo_T := (⟨"FlowKernel$Giver", "startsPulling", "()Z"⟩, prog_4_method_4_code, 2, some .boolean, { frames := 1, cells := 0, slots := 0, locals := 20 })
abbrev mt_L_note : xo_T := (⟨"FlowKernel$EventLog", "note", "(IIII)V"⟩, prog_3_method_2_code, 6, none, { frames := 0, cells := 0, slots := 0, locals := 0 })
abbrev mt_C_count : xo_T := (⟨"FlowKernel$ChunkRow", "count", "()I"⟩, prog_2_method_2_code, 1, some .int, { frames := 0, cells := 0, slots := 0, locals := 0 })
abbrev mt_R_takeFirst : xo_T := (⟨"FlowKernel$Row", "takeFirst", "()I"⟩, prog_8_method_4_code, 2, some .int, { frames := 0, cells := 0, slots := 0, locals := 0 })
abbrev mt_C_sizeOf : xo_T := (⟨"FlowKernel$ChunkRow", "sizeOf", "(I)I"⟩, prog_2_method_6_code, 2, some .int, { frames := 0, cells := 0, slots := 0, locals := 0 })
abbrev mt_C_takeFirst : xo_T := (⟨"FlowKernel$ChunkRow", "takeFirst", "()I"⟩, prog_2_method_4_code, 2, some .int, { frames := 1, cells := 0, slots := 0, locals := 21 })
abbrev mt_G_closeIfDrained : xo_T := (⟨"FlowKernel$Giver", "closeIfDrained", "()V"⟩, prog_4_method_5_code, 1, none, { frames := 1, cells := 0, slots := 0, locals := 20 })
abbrev mt_R_add : xo_T := (⟨"FlowKernel$Row", "add", "(I)V"⟩, prog_8_method_2_code, 2, none, { frames := 0, cells := 0, slots := 0, locals := 0 })
abbrev mt_J_add : xo_T := (⟨"FlowKernel$JobRow", "add", "(III)V"⟩, prog_5_method_3_code, 4, none, { frames := 1, cells := 0, slots := 0, locals := 21 })
abbrev mt_K_askRoot : xo_T := (⟨"FlowKernel", "askRoot", "(LFlowKernel$Parting;)Z"⟩, prog_1_method_43_code, 5, some .boolean, { frames := 2, cells := 0, slots := 0, locals := 44 })
abbrev mt_R_at : xo_T := (⟨"FlowKernel$Row", "at", "(I)I"⟩, prog_8_method_3_code, 2, some .int, { frames := 0, cells := 0, slots := 0, locals := 0 })
abbrev mt_R_clear : xo_T := (⟨"FlowKernel$Row", "clear", "()V"⟩, prog_8_method_5_code, 1, none, { frames := 0, cells := 0, slots := 0, locals := 0 })
abbrev mt_G_answerAll : xo_T := (⟨"FlowKernel$Giver", "answerAll", "()V"⟩, prog_4_method_7_code, 4, none, { frames := 1, cells := 0, slots := 0, locals := 25 })
abbrev mt_K_endBranches : xo_T := (⟨"FlowKernel", "endBranches", "(LFlowKernel$Parting;)V"⟩, prog_1_method_44_code, 6, none, { frames := 2, cells := 0, slots := 0, locals := 48 })
abbrev mt_K_pullIfNeeded : xo_T := (⟨"FlowKernel", "pullIfNeeded", "(LFlowKernel$Giver;)V"⟩, prog_1_method_42_code, 3, none, { frames := 3, cells := 0, slots := 0, locals := 73 })
abbrev mt_K_pipeAt : xo_T := (⟨"FlowKernel", "pipeAt", "(I)LFlowKernel$Pipe;"⟩, prog_1_method_37_code, 2, some (.object "FlowKernel$Pipe"), { frames := 0, cells := 0, slots := 0, locals := 0 })
abbrev mt_J_holds : xo_T := (⟨"FlowKernel$JobRow", "holds", "(II)Z"⟩, prog_5_method_4_code, 4, some .boolean, { frames := 1, cells := 0, slots := 0, locals := 21 })
abbrev mt_K_awaitPumps : xo_T := (⟨"FlowKernel", "awaitPumps", "()V"⟩, prog_1_method_49_code, 3, none, { frames := 2, cells := 0, slots := 0, locals := 44 })
abbrev mt_K_giver : xo_T := (⟨"FlowKernel", "giver", "(IZ)I"⟩, prog_1_method_2_code, 4, some .int, { frames := 4, cells := 6, slots := 56, locals := 95 })
abbrev mt_T_init : xo_T := (⟨"FlowKernel$Taker", "<init>", "(ILFlowKernel$ChunkRow;LFlowKernel$EventLog;)V"⟩, prog_9_method_1_code, 4, none, { frames := 2, cells := 2, slots := 19, locals := 41 })
abbrev mt_K_taker : xo_T := (⟨"FlowKernel", "taker", "(IZ)I"⟩, prog_1_method_3_code, 4, some .int, { frames := 3, cells := 6, slots := 55, locals := 66 })
abbrev mt_K_giverAt : xo_T := (⟨"FlowKernel", "giverAt", "(I)LFlowKernel$Giver;"⟩, prog_1_method_34_code, 2, some (.object "FlowKernel$Giver"), { frames := 0, cells := 0, slots := 0, locals := 0 })
abbrev mt_K_rootAt : xo_T := (⟨"FlowKernel", "rootAt", "(I)LFlowKernel$Giver;"⟩, prog_1_method_35_code, 3, some (.object "FlowKernel$Giver"), { frames := 1, cells := 0, slots := 0, locals := 21 })
abbrev mt_T_hasError : xo_T := (⟨"FlowKernel$Taker", "hasError", "()Z"⟩, prog_9_method_2_code, 1, some .boolean, { frames := 0, cells := 0, slots := 0, locals := 0 })
abbrev mt_T_isShutOrToBe : xo_T := (⟨"FlowKernel$Taker", "isShutOrToBe", "()Z"⟩, prog_9_method_3_code, 1, some .boolean, { frames := 0, cells := 0, slots := 0, locals := 0 })
abbrev mt_C_add : xo_T := (⟨"FlowKernel$ChunkRow", "add", "(I)V"⟩, prog_2_method_3_code, 2, none, { frames := 1, cells := 0, slots := 0, locals := 21 })
abbrev mt_T_startNext : xo_T := (⟨"FlowKernel$Taker", "startNext", "()V"⟩, prog_9_method_16_code, 1, none, { frames := 1, cells := 0, slots := 0, locals := 25 })
abbrev mt_T_accept : xo_T := (⟨"FlowKernel$Taker", "accept", "(I)I"⟩, prog_9_method_5_code, 2, some .int, { frames := 2, cells := 0, slots := 0, locals := 45 })
abbrev mt_K_answerChunk : xo_T := (⟨"FlowKernel", "answerChunk", "(LFlowKernel$Giver;II)V"⟩, prog_1_method_40_code, 4, none, { frames := 3, cells := 0, slots := 0, locals := 66 })
abbrev mt_K_takeIn : xo_T := (⟨"FlowKernel", "takeIn", "(LFlowKernel$Giver;I)V"⟩, prog_1_method_39_code, 3, none, { frames := 4, cells := 0, slots := 0, locals := 95 })
abbrev mt_K_put : xo_T := (⟨"FlowKernel", "put", "(II)Z"⟩, prog_1_method_4_code, 4, some .boolean, { frames := 5, cells := 0, slots := 0, locals := 117 })
abbrev mt_K_closeGiver : xo_T := (⟨"FlowKernel", "closeGiver", "(LFlowKernel$Giver;)V"⟩, prog_1_method_46_code, 3, none, { frames := 3, cells := 0, slots := 0, locals := 73 })
abbrev mt_K_end : xo_T := (⟨"FlowKernel", "end", "(I)Z"⟩, prog_1_method_5_code, 3, some .boolean, { frames := 4, cells := 0, slots := 0, locals := 95 })
abbrev mt_K_isError : xo_T := (⟨"FlowKernel", "isError", "(I)Z"⟩, prog_1_method_30_code, 1, some .boolean, { frames := 0, cells := 0, slots := 0, locals := 0 })
abbrev mt_C_clear : xo_T := (⟨"FlowKernel$ChunkRow", "clear", "()V"⟩, prog_2_method_5_code, 1, none, { frames := 1, cells := 0, slots := 0, locals := 20 })
abbrev mt_G_failWith : xo_T := (⟨"FlowKernel$Giver", "failWith", "(I)V"⟩, prog_4_method_6_code, 2, none, { frames := 2, cells := 0, slots := 0, locals := 48 })
abbrev mt_K_failBranches : xo_T := (⟨"FlowKernel", "failBranches", "(LFlowKernel$Parting;I)V"⟩, prog_1_method_45_code, 7, none, { frames := 3, cells := 0, slots := 0, locals := 69 })
abbrev mt_K_failGiver : xo_T := (⟨"FlowKernel", "failGiver", "(LFlowKernel$Giver;I)V"⟩, prog_1_method_47_code, 4, none, { frames := 4, cells := 0, slots := 0, locals := 95 })
abbrev mt_K_fail : xo_T := (⟨"FlowKernel", "fail", "(II)Z"⟩, prog_1_method_6_code, 4, some .boolean, { frames := 5, cells := 0, slots := 0, locals := 118 })
abbrev mt_K_isErrorOrNone : xo_T := (⟨"FlowKernel", "isErrorOrNone", "(I)Z"⟩, prog_1_method_31_code, 1, some .boolean, { frames := 1, cells := 0, slots := 0, locals := 20 })
abbrev mt_K_pulled : xo_T := (⟨"FlowKernel", "pulled", "(II)Z"⟩, prog_1_method_7_code, 4, some .boolean, { frames := 3, cells := 0, slots := 0, locals := 66 })
abbrev mt_G_heldBy : xo_T := (⟨"FlowKernel$Giver", "heldBy", "()I"⟩, prog_4_method_3_code, 1, some .int, { frames := 0, cells := 0, slots := 0, locals := 0 })
abbrev mt_K_request : xo_T := (⟨"FlowKernel", "request", "(LFlowKernel$Giver;I)V"⟩, prog_1_method_41_code, 4, none, { frames := 4, cells := 0, slots := 0, locals := 95 })
abbrev mt_K_read : xo_T := (⟨"FlowKernel", "read", "(I)I"⟩, prog_1_method_8_code, 4, some .int, { frames := 5, cells := 0, slots := 0, locals := 118 })
abbrev mt_A_isGivenUp : xo_T := (⟨"FlowKernel$Parting", "isGivenUp", "()Z"⟩, prog_6_method_2_code, 5, some .boolean, { frames := 0, cells := 0, slots := 0, locals := 0 })
abbrev mt_K_cancelGiver : xo_T := (⟨"FlowKernel", "cancelGiver", "(LFlowKernel$Giver;I)V"⟩, prog_1_method_48_code, 5, none, { frames := 4, cells := 0, slots := 0, locals := 95 })
abbrev mt_K_cancel : xo_T := (⟨"FlowKernel", "cancel", "(II)Z"⟩, prog_1_method_9_code, 4, some .boolean, { frames := 5, cells := 0, slots := 0, locals := 119 })
abbrev mt_K_takerAt : xo_T := (⟨"FlowKernel", "takerAt", "(I)LFlowKernel$Taker;"⟩, prog_1_method_36_code, 2, some (.object "FlowKernel$Taker"), { frames := 0, cells := 0, slots := 0, locals := 0 })
abbrev mt_K_write : xo_T := (⟨"FlowKernel", "write", "(II)I"⟩, prog_1_method_10_code, 5, some .int, { frames := 3, cells := 0, slots := 0, locals := 66 })
abbrev mt_T_canShutDown : xo_T := (⟨"FlowKernel$Taker", "canShutDown", "()Z"⟩, prog_9_method_4_code, 1, some .boolean, { frames := 1, cells := 0, slots := 0, locals := 20 })
abbrev mt_T_startAbort : xo_T := (⟨"FlowKernel$Taker", "startAbort", "()V"⟩, prog_9_method_18_code, 1, none, { frames := 1, cells := 0, slots := 0, locals := 25 })
abbrev mt_T_loseEnd : xo_T := (⟨"FlowKernel$Taker", "loseEnd", "()V"⟩, prog_9_method_19_code, 1, none, { frames := 1, cells := 0, slots := 0, locals := 25 })
abbrev mt_T_breakDown : xo_T := (⟨"FlowKernel$Taker", "breakDown", "()V"⟩, prog_9_method_17_code, 2, none, { frames := 2, cells := 0, slots := 0, locals := 45 })
abbrev mt_T_goOn : xo_T := (⟨"FlowKernel$Taker", "goOn", "()V"⟩, prog_9_method_15_code, 1, none, { frames := 3, cells := 0, slots := 0, locals := 66 })
abbrev mt_T_shutDown : xo_T := (⟨"FlowKernel$Taker", "shutDown", "()V"⟩, prog_9_method_6_code, 1, none, { frames := 4, cells := 0, slots := 0, locals := 86 })
abbrev mt_K_shut : xo_T := (⟨"FlowKernel", "shut", "(I)Z"⟩, prog_1_method_11_code, 3, some .boolean, { frames := 5, cells := 0, slots := 0, locals := 106 })
abbrev mt_T_startFailing : xo_T := (⟨"FlowKernel$Taker", "startFailing", "(I)V"⟩, prog_9_method_8_code, 2, none, { frames := 3, cells := 0, slots := 0, locals := 66 })
abbrev mt_T_abortWith : xo_T := (⟨"FlowKernel$Taker", "abortWith", "(I)V"⟩, prog_9_method_7_code, 2, none, { frames := 4, cells := 0, slots := 0, locals := 87 })
abbrev mt_K_abort : xo_T := (⟨"FlowKernel", "abort", "(II)Z"⟩, prog_1_method_12_code, 4, some .boolean, { frames := 5, cells := 0, slots := 0, locals := 108 })
abbrev mt_K_spoil : xo_T := (⟨"FlowKernel", "spoil", "(II)Z"⟩, prog_1_method_13_code, 4, some .boolean, { frames := 4, cells := 0, slots := 0, locals := 87 })
abbrev mt_K_settle : xo_T := (⟨"FlowKernel", "settle", "(II)Z"⟩, prog_1_method_14_code, 4, some .boolean, { frames := 3, cells := 0, slots := 0, locals := 66 })
abbrev mt_P_init : xo_T := (⟨"FlowKernel$Pipe", "<init>", "(ILFlowKernel$Giver;LFlowKernel$Taker;I)V"⟩, prog_7_method_1_code, 5, none, { frames := 1, cells := 0, slots := 0, locals := 20 })
abbrev mt_K_pipe : xo_T := (⟨"FlowKernel", "pipe", "(III)I"⟩, prog_1_method_15_code, 7, some .int, { frames := 3, cells := 1, slots := 7, locals := 66 })
abbrev mt_A_init : xo_T := (⟨"FlowKernel$Parting", "<init>", "(LFlowKernel$Giver;LFlowKernel$Giver;LFlowKernel$Giver;)V"⟩, prog_6_method_1_code, 4, none, { frames := 1, cells := 1, slots := 2, locals := 20 })
abbrev mt_K_part : xo_T := (⟨"FlowKernel", "part", "(I)I"⟩, prog_1_method_16_code, 6, some .int, { frames := 4, cells := 14, slots := 118, locals := 95 })
abbrev mt_J_count : xo_T := (⟨"FlowKernel$JobRow", "count", "()I"⟩, prog_5_method_2_code, 1, some .int, { frames := 0, cells := 0, slots := 0, locals := 0 })
abbrev mt_K_doPulled : xo_T := (⟨"FlowKernel", "doPulled", "(LFlowKernel$Giver;I)V"⟩, prog_1_method_51_code, 3, none, { frames := 5, cells := 0, slots := 0, locals := 118 })
abbrev mt_K_doParted : xo_T := (⟨"FlowKernel", "doParted", "(LFlowKernel$Giver;I)V"⟩, prog_1_method_52_code, 8, none, { frames := 5, cells := 0, slots := 0, locals := 117 })
abbrev mt_P_letGo : xo_T := (⟨"FlowKernel$Pipe", "letGo", "()V"⟩, prog_7_method_3_code, 1, none, { frames := 1, cells := 0, slots := 0, locals := 20 })
abbrev mt_K_endPipe : xo_T := (⟨"FlowKernel", "endPipe", "(LFlowKernel$Pipe;II)V"⟩, prog_1_method_55_code, 4, none, { frames := 2, cells := 0, slots := 0, locals := 40 })
abbrev mt_P_mustWait : xo_T := (⟨"FlowKernel$Pipe", "mustWait", "()Z"⟩, prog_7_method_2_code, 1, some .boolean, { frames := 1, cells := 0, slots := 0, locals := 20 })
abbrev mt_K_doPump : xo_T := (⟨"FlowKernel", "doPump", "(LFlowKernel$Pipe;)Z"⟩, prog_1_method_54_code, 4, some .boolean, { frames := 5, cells := 0, slots := 0, locals := 119 })
abbrev mt_T_failOrBreak : xo_T := (⟨"FlowKernel$Taker", "failOrBreak", "(I)V"⟩, prog_9_method_14_code, 2, none, { frames := 3, cells := 0, slots := 0, locals := 66 })
abbrev mt_T_written : xo_T := (⟨"FlowKernel$Taker", "written", "(I)V"⟩, prog_9_method_9_code, 3, none, { frames := 4, cells := 0, slots := 0, locals := 87 })
abbrev mt_T_noteAborted : xo_T := (⟨"FlowKernel$Taker", "noteAborted", "(I)V"⟩, prog_9_method_13_code, 2, none, { frames := 1, cells := 0, slots := 0, locals := 25 })
abbrev mt_T_endAbort : xo_T := (⟨"FlowKernel$Taker", "endAbort", "(I)V"⟩, prog_9_method_12_code, 2, none, { frames := 2, cells := 0, slots := 0, locals := 46 })
abbrev mt_T_wasShut : xo_T := (⟨"FlowKernel$Taker", "wasShut", "(I)V"⟩, prog_9_method_10_code, 2, none, { frames := 4, cells := 0, slots := 0, locals := 87 })
abbrev mt_T_wasAborted : xo_T := (⟨"FlowKernel$Taker", "wasAborted", "(I)V"⟩, prog_9_method_11_code, 2, none, { frames := 2, cells := 0, slots := 0, locals := 46 })
abbrev mt_K_doSettled : xo_T := (⟨"FlowKernel", "doSettled", "(LFlowKernel$Taker;II)V"⟩, prog_1_method_53_code, 4, none, { frames := 5, cells := 0, slots := 0, locals := 109 })
abbrev mt_K_doFirstJob : xo_T := (⟨"FlowKernel", "doFirstJob", "()I"⟩, prog_1_method_50_code, 5, some .int, { frames := 6, cells := 0, slots := 0, locals := 144 })
abbrev mt_K_step : xo_T := (⟨"FlowKernel", "step", "()I"⟩, prog_1_method_17_code, 1, some .int, { frames := 7, cells := 0, slots := 0, locals := 168 })
abbrev mt_K_run : xo_T := (⟨"FlowKernel", "run", "()I"⟩, prog_1_method_18_code, 2, some .int, { frames := 7, cells := 0, slots := 0, locals := 168 })
abbrev mt_K_jobs : xo_T := (⟨"FlowKernel", "jobs", "()I"⟩, prog_1_method_19_code, 1, some .int, { frames := 1, cells := 0, slots := 0, locals := 20 })
abbrev mt_K_giverState : xo_T := (⟨"FlowKernel", "giverState", "(I)I"⟩, prog_1_method_20_code, 4, some .int, { frames := 1, cells := 0, slots := 0, locals := 21 })
abbrev mt_K_giverRoom : xo_T := (⟨"FlowKernel", "giverRoom", "(I)I"⟩, prog_1_method_21_code, 3, some .int, { frames := 1, cells := 0, slots := 0, locals := 21 })
abbrev mt_K_giverQueue : xo_T := (⟨"FlowKernel", "giverQueue", "(I)I"⟩, prog_1_method_22_code, 3, some .int, { frames := 1, cells := 0, slots := 0, locals := 21 })
abbrev mt_K_takerState : xo_T := (⟨"FlowKernel", "takerState", "(I)I"⟩, prog_1_method_23_code, 4, some .int, { frames := 1, cells := 0, slots := 0, locals := 21 })
abbrev mt_K_takerRoom : xo_T := (⟨"FlowKernel", "takerRoom", "(I)I"⟩, prog_1_method_24_code, 3, some .int, { frames := 1, cells := 0, slots := 0, locals := 21 })
abbrev mt_K_takerQueue : xo_T := (⟨"FlowKernel", "takerQueue", "(I)I"⟩, prog_1_method_25_code, 3, some .int, { frames := 1, cells := 0, slots := 0, locals := 21 })
abbrev mt_K_takerError : xo_T := (⟨"FlowKernel", "takerError", "(LFlowKernel$Taker;)I"⟩, prog_1_method_33_code, 1, some .int, { frames := 1, cells := 0, slots := 0, locals := 20 })
abbrev mt_K_giverError : xo_T := (⟨"FlowKernel", "giverError", "(LFlowKernel$Giver;)I"⟩, prog_1_method_32_code, 1, some .int, { frames := 0, cells := 0, slots := 0, locals := 0 })
abbrev mt_K_error : xo_T := (⟨"FlowKernel", "error", "(ZI)I"⟩, prog_1_method_26_code, 3, some .int, { frames := 2, cells := 0, slots := 0, locals := 40 })
abbrev mt_K_events : xo_T := (⟨"FlowKernel", "events", "()I"⟩, prog_1_method_27_code, 1, some .int, { frames := 0, cells := 0, slots := 0, locals := 0 })
abbrev mt_L_tell : xo_T := (⟨"FlowKernel$EventLog", "tell", "(II)I"⟩, prog_3_method_3_code, 4, some .int, { frames := 0, cells := 0, slots := 0, locals := 0 })
abbrev mt_K_event : xo_T := (⟨"FlowKernel", "event", "(II)I"⟩, prog_1_method_28_code, 3, some .int, { frames := 1, cells := 0, slots := 0, locals := 23 })
abbrev mt_M_init : xo_T := (⟨"FlowKernelModel", "<init>", "()V"⟩, prog_11_method_1_code, 1, none, { frames := 1, cells := 45, slots := 730, locals := 20 })
abbrev mt_M_happen : xo_T := (⟨"FlowKernelModel", "happen", "(IIII)V"⟩, prog_11_method_2_code, 6, none, { frames := 0, cells := 0, slots := 0, locals := 0 })
abbrev mt_M_job : xo_T := (⟨"FlowKernelModel", "job", "(III)V"⟩, prog_11_method_3_code, 5, none, { frames := 0, cells := 0, slots := 0, locals := 0 })
abbrev mt_M_sizeOf : xo_T := (⟨"FlowKernelModel", "sizeOf", "(IZ)I"⟩, prog_11_method_4_code, 3, some .int, { frames := 0, cells := 0, slots := 0, locals := 0 })
abbrev mt_M_space : xo_T := (⟨"FlowKernelModel", "space", "(I)I"⟩, prog_11_method_5_code, 4, some .int, { frames := 1, cells := 0, slots := 0, locals := 22 })
abbrev mt_M_breaks : xo_T := (⟨"FlowKernelModel", "breaks", "(I)V"⟩, prog_11_method_6_code, 3, none, { frames := 1, cells := 0, slots := 0, locals := 25 })
abbrev mt_M_goesOn : xo_T := (⟨"FlowKernelModel", "goesOn", "(I)V"⟩, prog_11_method_7_code, 2, none, { frames := 2, cells := 0, slots := 0, locals := 47 })
abbrev mt_M_startFailing : xo_T := (⟨"FlowKernelModel", "startFailing", "(II)V"⟩, prog_11_method_8_code, 3, none, { frames := 2, cells := 0, slots := 0, locals := 47 })
abbrev mt_M_writeTo : xo_T := (⟨"FlowKernelModel", "writeTo", "(II)I"⟩, prog_11_method_9_code, 4, some .int, { frames := 3, cells := 0, slots := 0, locals := 68 })
abbrev mt_M_failsOrBreaks : xo_T := (⟨"FlowKernelModel", "failsOrBreaks", "(II)V"⟩, prog_11_method_11_code, 3, none, { frames := 3, cells := 0, slots := 0, locals := 69 })
abbrev mt_M_written : xo_T := (⟨"FlowKernelModel", "written", "(II)V"⟩, prog_11_method_10_code, 5, none, { frames := 4, cells := 0, slots := 0, locals := 91 })
abbrev mt_M_shutDone : xo_T := (⟨"FlowKernelModel", "shutDone", "(II)V"⟩, prog_11_method_12_code, 3, none, { frames := 4, cells := 0, slots := 0, locals := 91 })
abbrev mt_M_abortDone : xo_T := (⟨"FlowKernelModel", "abortDone", "(II)V"⟩, prog_11_method_13_code, 3, none, { frames := 1, cells := 0, slots := 0, locals := 25 })
abbrev mt_M_abortTaker : xo_T := (⟨"FlowKernelModel", "abortTaker", "(II)V"⟩, prog_11_method_14_code, 3, none, { frames := 3, cells := 0, slots := 0, locals := 69 })
abbrev mt_M_shutDown : xo_T := (⟨"FlowKernelModel", "shutDown", "(I)V"⟩, prog_11_method_15_code, 2, none, { frames := 3, cells := 0, slots := 0, locals := 68 })
abbrev mt_M_room : xo_T := (⟨"FlowKernelModel", "room", "(I)I"⟩, prog_11_method_16_code, 4, some .int, { frames := 1, cells := 0, slots := 0, locals := 22 })
abbrev mt_M_isBranch : xo_T := (⟨"FlowKernelModel", "isBranch", "(I)Z"⟩, prog_11_method_17_code, 2, some .boolean, { frames := 0, cells := 0, slots := 0, locals := 0 })
abbrev mt_M_answer : xo_T := (⟨"FlowKernelModel", "answer", "(III)V"⟩, prog_11_method_18_code, 5, none, { frames := 4, cells := 0, slots := 0, locals := 91 })
abbrev mt_M_takeRequest : xo_T := (⟨"FlowKernelModel", "takeRequest", "(I)I"⟩, prog_11_method_19_code, 4, some .int, { frames := 0, cells := 0, slots := 0, locals := 0 })
abbrev mt_M_takeChunk : xo_T := (⟨"FlowKernelModel", "takeChunk", "(I)I"⟩, prog_11_method_20_code, 4, some .int, { frames := 0, cells := 0, slots := 0, locals := 0 })
abbrev mt_M_closePlain : xo_T := (⟨"FlowKernelModel", "closePlain", "(I)V"⟩, prog_11_method_21_code, 4, none, { frames := 1, cells := 0, slots := 0, locals := 25 })
abbrev mt_M_endBranches : xo_T := (⟨"FlowKernelModel", "endBranches", "(I)V"⟩, prog_11_method_22_code, 3, none, { frames := 2, cells := 0, slots := 0, locals := 48 })
abbrev mt_M_close : xo_T := (⟨"FlowKernelModel", "close", "(I)V"⟩, prog_11_method_23_code, 3, none, { frames := 3, cells := 0, slots := 0, locals := 70 })
abbrev mt_M_failPlain : xo_T := (⟨"FlowKernelModel", "failPlain", "(II)V"⟩, prog_11_method_24_code, 5, none, { frames := 1, cells := 0, slots := 0, locals := 25 })
abbrev mt_M_failRoot : xo_T := (⟨"FlowKernelModel", "failRoot", "(II)V"⟩, prog_11_method_25_code, 4, none, { frames := 2, cells := 0, slots := 0, locals := 49 })
abbrev mt_M_pulls : xo_T := (⟨"FlowKernelModel", "pulls", "(I)Z"⟩, prog_11_method_26_code, 3, some .boolean, { frames := 2, cells := 0, slots := 0, locals := 45 })
abbrev mt_M_pullRoot : xo_T := (⟨"FlowKernelModel", "pullRoot", "(I)V"⟩, prog_11_method_27_code, 2, none, { frames := 3, cells := 0, slots := 0, locals := 67 })
abbrev mt_M_readOn : xo_T := (⟨"FlowKernelModel", "readOn", "(I)V"⟩, prog_11_method_28_code, 3, none, { frames := 4, cells := 0, slots := 0, locals := 92 })
abbrev mt_M_pull : xo_T := (⟨"FlowKernelModel", "pull", "(I)V"⟩, prog_11_method_29_code, 3, none, { frames := 5, cells := 0, slots := 0, locals := 114 })
abbrev mt_M_takeIn : xo_T := (⟨"FlowKernelModel", "takeIn", "(II)V"⟩, prog_11_method_30_code, 3, none, { frames := 6, cells := 0, slots := 0, locals := 136 })
abbrev mt_M_request : xo_T := (⟨"FlowKernelModel", "request", "(II)V"⟩, prog_11_method_31_code, 4, none, { frames := 6, cells := 0, slots := 0, locals := 136 })
abbrev mt_M_cancelRoot : xo_T := (⟨"FlowKernelModel", "cancelRoot", "(II)V"⟩, prog_11_method_32_code, 3, none, { frames := 4, cells := 0, slots := 0, locals := 92 })
abbrev mt_M_cancelGiver : xo_T := (⟨"FlowKernelModel", "cancelGiver", "(II)V"⟩, prog_11_method_33_code, 4, none, { frames := 5, cells := 0, slots := 0, locals := 114 })
abbrev mt_M_ends : xo_T := (⟨"FlowKernelModel", "ends", "(I)V"⟩, prog_11_method_34_code, 2, none, { frames := 4, cells := 0, slots := 0, locals := 92 })
abbrev mt_M_pulledJob : xo_T := (⟨"FlowKernelModel", "pulledJob", "(II)V"⟩, prog_11_method_35_code, 3, none, { frames := 6, cells := 0, slots := 0, locals := 136 })
abbrev mt_M_partedJob : xo_T := (⟨"FlowKernelModel", "partedJob", "(II)V"⟩, prog_11_method_36_code, 4, none, { frames := 7, cells := 0, slots := 0, locals := 158 })
abbrev mt_M_asks : xo_T := (⟨"FlowKernelModel", "asks", "(I)Z"⟩, prog_11_method_37_code, 4, some .boolean, { frames := 0, cells := 0, slots := 0, locals := 0 })
abbrev mt_M_finish : xo_T := (⟨"FlowKernelModel", "finish", "(III)V"⟩, prog_11_method_38_code, 8, none, { frames := 1, cells := 0, slots := 0, locals := 25 })
abbrev mt_M_pump : xo_T := (⟨"FlowKernelModel", "pump", "(I)Z"⟩, prog_11_method_39_code, 5, some .boolean, { frames := 7, cells := 0, slots := 0, locals := 159 })
abbrev mt_M_wake : xo_T := (⟨"FlowKernelModel", "wake", "()V"⟩, prog_11_method_40_code, 2, none, { frames := 1, cells := 0, slots := 0, locals := 24 })
abbrev mt_M_step : xo_T := (⟨"FlowKernelModel", "step", "()I"⟩, prog_11_method_41_code, 5, some .int, { frames := 8, cells := 0, slots := 0, locals := 183 })
abbrev mt_M_run : xo_T := (⟨"FlowKernelModel", "run", "()I"⟩, prog_11_method_42_code, 3, some .int, { frames := 9, cells := 0, slots := 0, locals := 207 })
abbrev mt_M_jobs : xo_T := (⟨"FlowKernelModel", "jobs", "()I"⟩, prog_11_method_43_code, 1, some .int, { frames := 0, cells := 0, slots := 0, locals := 0 })
abbrev mt_M_noGiver : xo_T := (⟨"FlowKernelModel", "noGiver", "(I)Z"⟩, prog_11_method_44_code, 2, some .boolean, { frames := 0, cells := 0, slots := 0, locals := 0 })
abbrev mt_M_noTaker : xo_T := (⟨"FlowKernelModel", "noTaker", "(I)Z"⟩, prog_11_method_45_code, 2, some .boolean, { frames := 0, cells := 0, slots := 0, locals := 0 })
abbrev mt_M_badError : xo_T := (⟨"FlowKernelModel", "badError", "(II)Z"⟩, prog_11_method_46_code, 3, some .boolean, { frames := 0, cells := 0, slots := 0, locals := 0 })
abbrev mt_M_addGiver : xo_T := (⟨"FlowKernelModel", "addGiver", "(IZI)I"⟩, prog_11_method_47_code, 5, some .int, { frames := 0, cells := 0, slots := 0, locals := 0 })
abbrev mt_M_giver : xo_T := (⟨"FlowKernelModel", "giver", "(IZ)I"⟩, prog_11_method_48_code, 4, some .int, { frames := 6, cells := 0, slots := 0, locals := 136 })
abbrev mt_M_taker : xo_T := (⟨"FlowKernelModel", "taker", "(IZ)I"⟩, prog_11_method_49_code, 3, some .int, { frames := 2, cells := 0, slots := 0, locals := 45 })
abbrev mt_M_noRoot : xo_T := (⟨"FlowKernelModel", "noRoot", "(I)Z"⟩, prog_11_method_50_code, 2, some .boolean, { frames := 1, cells := 0, slots := 0, locals := 21 })
abbrev mt_M_put : xo_T := (⟨"FlowKernelModel", "put", "(II)Z"⟩, prog_11_method_51_code, 3, some .boolean, { frames := 7, cells := 0, slots := 0, locals := 158 })
abbrev mt_M_end : xo_T := (⟨"FlowKernelModel", "end", "(I)Z"⟩, prog_11_method_52_code, 2, some .boolean, { frames := 5, cells := 0, slots := 0, locals := 113 })
abbrev mt_M_fail : xo_T := (⟨"FlowKernelModel", "fail", "(II)Z"⟩, prog_11_method_53_code, 3, some .boolean, { frames := 3, cells := 0, slots := 0, locals := 72 })
abbrev mt_M_pulled : xo_T := (⟨"FlowKernelModel", "pulled", "(II)Z"⟩, prog_11_method_54_code, 3, some .boolean, { frames := 2, cells := 0, slots := 0, locals := 45 })
abbrev mt_M_read : xo_T := (⟨"FlowKernelModel", "read", "(I)I"⟩, prog_11_method_55_code, 3, some .int, { frames := 7, cells := 0, slots := 0, locals := 159 })
abbrev mt_M_cancel : xo_T := (⟨"FlowKernelModel", "cancel", "(II)Z"⟩, prog_11_method_56_code, 3, some .boolean, { frames := 6, cells := 0, slots := 0, locals := 137 })
abbrev mt_M_write : xo_T := (⟨"FlowKernelModel", "write", "(II)I"⟩, prog_11_method_57_code, 4, some .int, { frames := 4, cells := 0, slots := 0, locals := 91 })
abbrev mt_M_shut : xo_T := (⟨"FlowKernelModel", "shut", "(I)Z"⟩, prog_11_method_58_code, 2, some .boolean, { frames := 4, cells := 0, slots := 0, locals := 89 })
abbrev mt_M_abort : xo_T := (⟨"FlowKernelModel", "abort", "(II)Z"⟩, prog_11_method_59_code, 3, some .boolean, { frames := 4, cells := 0, slots := 0, locals := 91 })
abbrev mt_M_spoil : xo_T := (⟨"FlowKernelModel", "spoil", "(II)Z"⟩, prog_11_method_60_code, 3, some .boolean, { frames := 3, cells := 0, slots := 0, locals := 69 })
abbrev mt_M_settle : xo_T := (⟨"FlowKernelModel", "settle", "(II)Z"⟩, prog_11_method_61_code, 3, some .boolean, { frames := 2, cells := 0, slots := 0, locals := 45 })
abbrev mt_M_pipe : xo_T := (⟨"FlowKernelModel", "pipe", "(III)I"⟩, prog_11_method_62_code, 4, some .int, { frames := 2, cells := 0, slots := 0, locals := 45 })
abbrev mt_M_part : xo_T := (⟨"FlowKernelModel", "part", "(I)I"⟩, prog_11_method_63_code, 4, some .int, { frames := 3, cells := 0, slots := 0, locals := 70 })
abbrev mt_M_giverState : xo_T := (⟨"FlowKernelModel", "giverState", "(I)I"⟩, prog_11_method_64_code, 2, some .int, { frames := 1, cells := 0, slots := 0, locals := 21 })
abbrev mt_M_giverRoom : xo_T := (⟨"FlowKernelModel", "giverRoom", "(I)I"⟩, prog_11_method_65_code, 2, some .int, { frames := 2, cells := 0, slots := 0, locals := 45 })
abbrev mt_M_giverQueue : xo_T := (⟨"FlowKernelModel", "giverQueue", "(I)I"⟩, prog_11_method_66_code, 2, some .int, { frames := 1, cells := 0, slots := 0, locals := 21 })
abbrev mt_M_takerState : xo_T := (⟨"FlowKernelModel", "takerState", "(I)I"⟩, prog_11_method_67_code, 3, some .int, { frames := 1, cells := 0, slots := 0, locals := 21 })
abbrev mt_M_takerRoom : xo_T := (⟨"FlowKernelModel", "takerRoom", "(I)I"⟩, prog_11_method_68_code, 2, some .int, { frames := 2, cells := 0, slots := 0, locals := 45 })
abbrev mt_M_takerQueue : xo_T := (⟨"FlowKernelModel", "takerQueue", "(I)I"⟩, prog_11_method_69_code, 2, some .int, { frames := 1, cells := 0, slots := 0, locals := 21 })
abbrev mt_M_error : xo_T := (⟨"FlowKernelModel", "error", "(ZI)I"⟩, prog_11_method_70_code, 3, some .int, { frames := 1, cells := 0, slots := 0, locals := 21 })
abbrev mt_M_events : xo_T := (⟨"FlowKernelModel", "events", "()I"⟩, prog_11_method_71_code, 1, some .int, { frames := 0, cells := 0, slots := 0, locals := 0 })
abbrev mt_M_event : xo_T := (⟨"FlowKernelModel", "event", "(II)I"⟩, prog_11_method_72_code, 3, some .int, { frames := 0, cells := 0, slots := 0, locals := 0 })
theorem cv_L_init : xo_ci mt_L_init 0 := ⟨⟨(nt_ok (nt_1 _ (List.mem_of_getElem? (i := 23) rfl)) rfl), wi_L, by decide, by decide, by decide +kernel⟩, (nt_ok (nt_1 _ (List.mem_of_getElem? (i := 22) rfl)) rfl), rfl, rfl⟩
theorem cv_R_init : xo_ci mt_R_init 1 := ⟨⟨(nt_ok (nt_1 _ (List.mem_of_getElem? (i := 50) rfl)) rfl), wi_R, by decide, by decide, by decide +kernel⟩, (nt_ok (nt_1 _ (List.mem_of_getElem? (i := 49) rfl)) rfl), rfl, rfl⟩
theorem cv_J_init : xo_ci mt_J_init 0 := ⟨⟨(nt_ok (nt_1 _ (List.mem_of_getElem? (i := 44) rfl)) rfl), wi_J, by decide, by decide, by decide +kernel⟩, (nt_ok (nt_1 _ (List.mem_of_getElem? (i := 43) rfl)) rfl), rfl, rfl⟩
theorem cv_K_init : xo_ci mt_K_init 0 := ⟨⟨(nt_ok (nt_1 _ (List.mem_of_getElem? (i := 15) rfl)) rfl), wi_K, by decide, by decide, by decide +kernel⟩, (nt_ok (nt_1 _ (List.mem_of_getElem? (i := 14) rfl)) rfl), rfl, rfl⟩
theorem cv_K_isMark : xo_cs mt_K_isMark 1 := ⟨⟨(nt_ok (nt_1 _ (List.mem_of_getElem? (i := 118) rfl)) rfl), wi_K, by decide, by decide, by decide +kernel⟩, (nt_ok (nt_1 _ (List.mem_of_getElem? (i := 117) rfl)) rfl)⟩
theorem cv_C_init : xo_ci mt_C_init 2 := ⟨⟨(nt_ok (nt_1 _ (List.mem_of_getElem? (i := 128) rfl)) rfl), wi_C, by decide, by decide, by decide +kernel⟩, (nt_ok (nt_1 _ (List.mem_of_getElem? (i := 127) rfl)) rfl), rfl, rfl⟩
theorem cv_G_init : xo_ci mt_G_init 3 := ⟨⟨(nt_ok (nt_1 _ (List.mem_of_getElem? (i := 151) rfl)) rfl), wi_G, by decide, by decide, by decide +kernel⟩, (nt_ok (nt_1 _ (List.mem_of_getElem? (i := 150) rfl)) rfl), rfl, rfl⟩
theorem cv_K_addGiver : xo_cv mt_K_addGiver 2 := ⟨⟨(nt_ok (nt_1 _ (List.mem_of_getElem? (i := 122) rfl)) rfl), wi_K, by decide, by decide, by decide +kernel⟩, (nt_ok (nt_1 _ (List.mem_of_getElem? (i := 121) rfl)) rfl), (nt_ok (nt_sel (y := ⟨"FlowKernel", "addGiver", "(IZ)LFlowKernel$Giver;"⟩) (n := 8) (List.mem_append_left _ (List.mem_of_getElem? (i := 0) (rfl : lw_privs_1[0]? = some _)))) rfl)⟩
theorem cv_G_isGoing : xo_cv mt_G_isGoing 0 := ⟨⟨(nt_ok (nt_1 _ (List.mem_of_getElem? (i := 222) rfl)) rfl), wi_G, by decide, by decide, by decide +kernel⟩, (nt_ok (nt_1 _ (List.mem_of_getElem? (i := 220) rfl)) rfl), (nt_ok (nt_1 _ (List.mem_of_getElem? (i := 221) rfl)) rfl)⟩
theorem cv_G_startsPulling : xo_cv mt_G_startsPulling 0 := ⟨⟨(nt_ok (nt_1 _ (List.mem_of_getElem? (i := 218) rfl)) rfl), wi_G, by decide, by decide, by decide +kernel⟩, (nt_ok (nt_1 _ (List.mem_of_getElem? (i := 216) rfl)) rfl), (nt_ok (nt_1 _ (List.mem_of_getElem? (i := 217) rfl)) rfl)⟩
theorem cv_L_note : xo_cv mt_L_note 4 := ⟨⟨(nt_ok (nt_1 _ (List.mem_of_getElem? (i := 226) rfl)) rfl), wi_L, by decide, by decide, by decide +kernel⟩, (nt_ok (nt_1 _ (List.mem_of_getElem? (i := 224) rfl)) rfl), (nt_ok (nt_1 _ (List.mem_of_getElem? (i := 225) rfl)) rfl)⟩
theorem cv_C_count : xo_cv mt_C_count 0 := ⟨⟨(nt_ok (nt_1 _ (List.mem_of_getElem? (i := 234) rfl)) rfl), wi_C, by decide, by decide, by decide +kernel⟩, (nt_ok (nt_1 _ (List.mem_of_getElem? (i := 232) rfl)) rfl), (nt_ok (nt_1 _ (List.mem_of_getElem? (i := 233) rfl)) rfl)⟩
theorem cv_R_takeFirst : xo_cv mt_R_takeFirst 0 := ⟨⟨(nt_ok (nt_2 _ (List.mem_of_getElem? (i := 2) rfl)) rfl), wi_R, by decide, by decide, by decide +kernel⟩, (nt_ok (nt_2 _ (List.mem_of_getElem? (i := 0) rfl)) rfl), (nt_ok (nt_2 _ (List.mem_of_getElem? (i := 1) rfl)) rfl)⟩
theorem cv_C_sizeOf : xo_cv mt_C_sizeOf 1 := ⟨⟨(nt_ok (nt_2 _ (List.mem_of_getElem? (i := 6) rfl)) rfl), wi_C, by decide, by decide, by decide +kernel⟩, (nt_ok (nt_2 _ (List.mem_of_getElem? (i := 5) rfl)) rfl), (nt_ok (nt_sel (y := ⟨"FlowKernel$ChunkRow", "sizeOf", "(I)I"⟩) (n := 4) (List.mem_append_left _ (List.mem_of_getElem? (i := 3) (rfl : lw_privs_1[3]? = some _)))) rfl)⟩
theorem cv_C_takeFirst : xo_cv mt_C_takeFirst 0 := ⟨⟨(nt_ok (nt_1 _ (List.mem_of_getElem? (i := 238) rfl)) rfl), wi_C, by decide, by decide, by decide +kernel⟩, (nt_ok (nt_1 _ (List.mem_of_getElem? (i := 236) rfl)) rfl), (nt_ok (nt_1 _ (List.mem_of_getElem? (i := 237) rfl)) rfl)⟩
theorem cv_G_closeIfDrained : xo_cv mt_G_closeIfDrained 0 := ⟨⟨(nt_ok (nt_2 _ (List.mem_of_getElem? (i := 10) rfl)) rfl), wi_G, by decide, by decide, by decide +kernel⟩, (nt_ok (nt_2 _ (List.mem_of_getElem? (i := 8) rfl)) rfl), (nt_ok (nt_2 _ (List.mem_of_getElem? (i := 9) rfl)) rfl)⟩
theorem cv_R_add : xo_cv mt_R_add 1 := ⟨⟨(nt_ok (nt_2 _ (List.mem_of_getElem? (i := 15) rfl)) rfl), wi_R, by decide, by decide, by decide +kernel⟩, (nt_ok (nt_2 _ (List.mem_of_getElem? (i := 13) rfl)) rfl), (nt_ok (nt_2 _ (List.mem_of_getElem? (i := 14) rfl)) rfl)⟩
theorem cv_J_add : xo_cv mt_J_add 3 := ⟨⟨(nt_ok (nt_2 _ (List.mem_of_getElem? (i := 19) rfl)) rfl), wi_J, by decide, by decide, by decide +kernel⟩, (nt_ok (nt_2 _ (List.mem_of_getElem? (i := 17) rfl)) rfl), (nt_ok (nt_2 _ (List.mem_of_getElem? (i := 18) rfl)) rfl)⟩
theorem cv_K_askRoot : xo_cv mt_K_askRoot 1 := ⟨⟨(nt_ok (nt_1 _ (List.mem_of_getElem? (i := 230) rfl)) rfl), wi_K, by decide, by decide, by decide +kernel⟩, (nt_ok (nt_1 _ (List.mem_of_getElem? (i := 229) rfl)) rfl), (nt_ok (nt_sel (y := ⟨"FlowKernel", "askRoot", "(LFlowKernel$Parting;)Z"⟩) (n := 8) (List.mem_append_left _ (List.mem_of_getElem? (i := 2) (rfl : lw_privs_1[2]? = some _)))) rfl)⟩
theorem cv_R_at : xo_cv mt_R_at 1 := ⟨⟨(nt_ok (nt_2 _ (List.mem_of_getElem? (i := 33) rfl)) rfl), wi_R, by decide, by decide, by decide +kernel⟩, (nt_ok (nt_2 _ (List.mem_of_getElem? (i := 31) rfl)) rfl), (nt_ok (nt_2 _ (List.mem_of_getElem? (i := 32) rfl)) rfl)⟩
theorem cv_R_clear : xo_cv mt_R_clear 0 := ⟨⟨(nt_ok (nt_2 _ (List.mem_of_getElem? (i := 38) rfl)) rfl), wi_R, by decide, by decide, by decide +kernel⟩, (nt_ok (nt_2 _ (List.mem_of_getElem? (i := 36) rfl)) rfl), (nt_ok (nt_2 _ (List.mem_of_getElem? (i := 37) rfl)) rfl)⟩
theorem cv_G_answerAll : xo_cv mt_G_answerAll 0 := ⟨⟨(nt_ok (nt_2 _ (List.mem_of_getElem? (i := 29) rfl)) rfl), wi_G, by decide, by decide, by decide +kernel⟩, (nt_ok (nt_2 _ (List.mem_of_getElem? (i := 27) rfl)) rfl), (nt_ok (nt_2 _ (List.mem_of_getElem? (i := 28) rfl)) rfl)⟩
theorem cv_K_endBranches : xo_cv mt_K_endBranches 1 := ⟨⟨(nt_ok (nt_2 _ (List.mem_of_getElem? (i := 24) rfl)) rfl), wi_K, by decide, by decide, by decide +kernel⟩, (nt_ok (nt_2 _ (List.mem_of_getElem? (i := 23) rfl)) rfl), (nt_ok (nt_sel (y := ⟨"FlowKernel", "endBranches", "(LFlowKernel$Parting;)V"⟩) (n := 8) (List.mem_append_left _ (List.mem_of_getElem? (i := 4) (rfl : lw_privs_1[4]? = some _)))) rfl)⟩
theorem cv_K_pullIfNeeded : xo_cv mt_K_pullIfNeeded 1 := ⟨⟨(nt_ok (nt_1 _ (List.mem_of_getElem? (i := 214) rfl)) rfl), wi_K, by decide, by decide, by decide +kernel⟩, (nt_ok (nt_1 _ (List.mem_of_getElem? (i := 213) rfl)) rfl), (nt_ok (nt_sel (y := ⟨"FlowKernel", "pullIfNeeded", "(LFlowKernel$Giver;)V"⟩) (n := 8) (List.mem_append_left _ (List.mem_of_getElem? (i := 1) (rfl : lw_privs_1[1]? = some _)))) rfl)⟩
theorem cv_K_pipeAt : xo_cv mt_K_pipeAt 1 := ⟨⟨(nt_ok (nt_2 _ (List.mem_of_getElem? (i := 46) rfl)) rfl), wi_K, by decide, by decide, by decide +kernel⟩, (nt_ok (nt_2 _ (List.mem_of_getElem? (i := 45) rfl)) rfl), (nt_ok (nt_sel (y := ⟨"FlowKernel", "pipeAt", "(I)LFlowKernel$Pipe;"⟩) (n := 8) (List.mem_append_left _ (List.mem_of_getElem? (i := 6) (rfl : lw_privs_1[6]? = some _)))) rfl)⟩
theorem cv_J_holds : xo_cv mt_J_holds 2 := ⟨⟨(nt_ok (nt_2 _ (List.mem_of_getElem? (i := 50) rfl)) rfl), wi_J, by decide, by decide, by decide +kernel⟩, (nt_ok (nt_2 _ (List.mem_of_getElem? (i := 48) rfl)) rfl), (nt_ok (nt_2 _ (List.mem_of_getElem? (i := 49) rfl)) rfl)⟩
theorem cv_K_awaitPumps : xo_cv mt_K_awaitPumps 0 := ⟨⟨(nt_ok (nt_2 _ (List.mem_of_getElem? (i := 42) rfl)) rfl), wi_K, by decide, by decide, by decide +kernel⟩, (nt_ok (nt_2 _ (List.mem_of_getElem? (i := 41) rfl)) rfl), (nt_ok (nt_sel (y := ⟨"FlowKernel", "awaitPumps", "()V"⟩) (n := 8) (List.mem_append_left _ (List.mem_of_getElem? (i := 5) (rfl : lw_privs_1[5]? = some _)))) rfl)⟩
theorem cv_K_giver : xo_cv mt_K_giver 2 := ⟨⟨(nt_ok (nt_1 _ (List.mem_of_getElem? (i := 115) rfl)) rfl), wi_K, by decide, by decide, by decide +kernel⟩, (nt_ok (nt_1 _ (List.mem_of_getElem? (i := 113) rfl)) rfl), (nt_ok (nt_1 _ (List.mem_of_getElem? (i := 114) rfl)) rfl)⟩
theorem cv_T_init : xo_ci mt_T_init 3 := ⟨⟨(nt_ok (nt_2 _ (List.mem_of_getElem? (i := 59) rfl)) rfl), wi_T, by decide, by decide, by decide +kernel⟩, (nt_ok (nt_2 _ (List.mem_of_getElem? (i := 58) rfl)) rfl), rfl, rfl⟩
theorem cv_K_taker : xo_cv mt_K_taker 2 := ⟨⟨(nt_ok (nt_2 _ (List.mem_of_getElem? (i := 55) rfl)) rfl), wi_K, by decide, by decide, by decide +kernel⟩, (nt_ok (nt_2 _ (List.mem_of_getElem? (i := 53) rfl)) rfl), (nt_ok (nt_2 _ (List.mem_of_getElem? (i := 54) rfl)) rfl)⟩
theorem cv_K_giverAt : xo_cv mt_K_giverAt 1 := ⟨⟨(nt_ok (nt_2 _ (List.mem_of_getElem? (i := 123) rfl)) rfl), wi_K, by decide, by decide, by decide +kernel⟩, (nt_ok (nt_2 _ (List.mem_of_getElem? (i := 122) rfl)) rfl), (nt_ok (nt_sel (y := ⟨"FlowKernel", "giverAt", "(I)LFlowKernel$Giver;"⟩) (n := 8) (List.mem_append_left _ (List.mem_of_getElem? (i := 8) (rfl : lw_privs_1[8]? = some _)))) rfl)⟩
theorem cv_K_rootAt : xo_cv mt_K_rootAt 1 := ⟨⟨(nt_ok (nt_2 _ (List.mem_of_getElem? (i := 119) rfl)) rfl), wi_K, by decide, by decide, by decide +kernel⟩, (nt_ok (nt_2 _ (List.mem_of_getElem? (i := 118) rfl)) rfl), (nt_ok (nt_sel (y := ⟨"FlowKernel", "rootAt", "(I)LFlowKernel$Giver;"⟩) (n := 8) (List.mem_append_left _ (List.mem_of_getElem? (i := 7) (rfl : lw_privs_1[7]? = some _)))) rfl)⟩
theorem cv_T_hasError : xo_cv mt_T_hasError 0 := ⟨⟨(nt_ok (nt_2 _ (List.mem_of_getElem? (i := 140) rfl)) rfl), wi_T, by decide, by decide, by decide +kernel⟩, (nt_ok (nt_2 _ (List.mem_of_getElem? (i := 138) rfl)) rfl), (nt_ok (nt_2 _ (List.mem_of_getElem? (i := 139) rfl)) rfl)⟩
theorem cv_T_isShutOrToBe : xo_cv mt_T_isShutOrToBe 0 := ⟨⟨(nt_ok (nt_2 _ (List.mem_of_getElem? (i := 145) rfl)) rfl), wi_T, by decide, by decide, by decide +kernel⟩, (nt_ok (nt_2 _ (List.mem_of_getElem? (i := 143) rfl)) rfl), (nt_ok (nt_2 _ (List.mem_of_getElem? (i := 144) rfl)) rfl)⟩
theorem cv_C_add : xo_cv mt_C_add 1 := ⟨⟨(nt_ok (nt_2 _ (List.mem_of_getElem? (i := 149) rfl)) rfl), wi_C, by decide, by decide, by decide +kernel⟩, (nt_ok (nt_2 _ (List.mem_of_getElem? (i := 147) rfl)) rfl), (nt_ok (nt_2 _ (List.mem_of_getElem? (i := 148) rfl)) rfl)⟩
theorem cv_T_startNext : xo_cv mt_T_startNext 0 := ⟨⟨(nt_ok (nt_2 _ (List.mem_of_getElem? (i := 155) rfl)) rfl), wi_T, by decide, by decide, by decide +kernel⟩, (nt_ok (nt_2 _ (List.mem_of_getElem? (i := 154) rfl)) rfl), (nt_ok (nt_sel (y := ⟨"FlowKernel$Taker", "startNext", "()V"⟩) (n := 13) (List.mem_append_left _ (List.mem_of_getElem? (i := 11) (rfl : lw_privs_1[11]? = some _)))) rfl)⟩
theorem cv_T_accept : xo_cv mt_T_accept 1 := ⟨⟨(nt_ok (nt_2 _ (List.mem_of_getElem? (i := 136) rfl)) rfl), wi_T, by decide, by decide, by decide +kernel⟩, (nt_ok (nt_2 _ (List.mem_of_getElem? (i := 134) rfl)) rfl), (nt_ok (nt_2 _ (List.mem_of_getElem? (i := 135) rfl)) rfl)⟩
theorem cv_K_answerChunk : xo_cv mt_K_answerChunk 3 := ⟨⟨(nt_ok (nt_2 _ (List.mem_of_getElem? (i := 132) rfl)) rfl), wi_K, by decide, by decide, by decide +kernel⟩, (nt_ok (nt_2 _ (List.mem_of_getElem? (i := 131) rfl)) rfl), (nt_ok (nt_sel (y := ⟨"FlowKernel", "answerChunk", "(LFlowKernel$Giver;II)V"⟩) (n := 8) (List.mem_append_left _ (List.mem_of_getElem? (i := 10) (rfl : lw_privs_1[10]? = some _)))) rfl)⟩
theorem cv_K_takeIn : xo_cv mt_K_takeIn 2 := ⟨⟨(nt_ok (nt_2 _ (List.mem_of_getElem? (i := 127) rfl)) rfl), wi_K, by decide, by decide, by decide +kernel⟩, (nt_ok (nt_2 _ (List.mem_of_getElem? (i := 126) rfl)) rfl), (nt_ok (nt_sel (y := ⟨"FlowKernel", "takeIn", "(LFlowKernel$Giver;I)V"⟩) (n := 8) (List.mem_append_left _ (List.mem_of_getElem? (i := 9) (rfl : lw_privs_1[9]? = some _)))) rfl)⟩
theorem cv_K_put : xo_cv mt_K_put 2 := ⟨⟨(nt_ok (nt_2 _ (List.mem_of_getElem? (i := 115) rfl)) rfl), wi_K, by decide, by decide, by decide +kernel⟩, (nt_ok (nt_2 _ (List.mem_of_getElem? (i := 113) rfl)) rfl), (nt_ok (nt_2 _ (List.mem_of_getElem? (i := 114) rfl)) rfl)⟩
theorem cv_K_closeGiver : xo_cv mt_K_closeGiver 1 := ⟨⟨(nt_ok (nt_2 _ (List.mem_of_getElem? (i := 166) rfl)) rfl), wi_K, by decide, by decide, by decide +kernel⟩, (nt_ok (nt_2 _ (List.mem_of_getElem? (i := 165) rfl)) rfl), (nt_ok (nt_sel (y := ⟨"FlowKernel", "closeGiver", "(LFlowKernel$Giver;)V"⟩) (n := 8) (List.mem_append_left _ (List.mem_of_getElem? (i := 12) (rfl : lw_privs_1[12]? = some _)))) rfl)⟩
theorem cv_K_end : xo_cv mt_K_end 1 := ⟨⟨(nt_ok (nt_2 _ (List.mem_of_getElem? (i := 162) rfl)) rfl), wi_K, by decide, by decide, by decide +kernel⟩, (nt_ok (nt_2 _ (List.mem_of_getElem? (i := 160) rfl)) rfl), (nt_ok (nt_2 _ (List.mem_of_getElem? (i := 161) rfl)) rfl)⟩
theorem cv_K_isError : xo_cs mt_K_isError 1 := ⟨⟨(nt_ok (nt_2 _ (List.mem_of_getElem? (i := 173) rfl)) rfl), wi_K, by decide, by decide, by decide +kernel⟩, (nt_ok (nt_2 _ (List.mem_of_getElem? (i := 172) rfl)) rfl)⟩
theorem cv_C_clear : xo_cv mt_C_clear 0 := ⟨⟨(nt_ok (nt_2 _ (List.mem_of_getElem? (i := 185) rfl)) rfl), wi_C, by decide, by decide, by decide +kernel⟩, (nt_ok (nt_2 _ (List.mem_of_getElem? (i := 183) rfl)) rfl), (nt_ok (nt_2 _ (List.mem_of_getElem? (i := 184) rfl)) rfl)⟩
theorem cv_G_failWith : xo_cv mt_G_failWith 1 := ⟨⟨(nt_ok (nt_2 _ (List.mem_of_getElem? (i := 181) rfl)) rfl), wi_G, by decide, by decide, by decide +kernel⟩, (nt_ok (nt_2 _ (List.mem_of_getElem? (i := 179) rfl)) rfl), (nt_ok (nt_2 _ (List.mem_of_getElem? (i := 180) rfl)) rfl)⟩
theorem cv_K_failBranches : xo_cv mt_K_failBranches 2 := ⟨⟨(nt_ok (nt_2 _ (List.mem_of_getElem? (i := 191) rfl)) rfl), wi_K, by decide, by decide, by decide +kernel⟩, (nt_ok (nt_2 _ (List.mem_of_getElem? (i := 190) rfl)) rfl), (nt_ok (nt_sel (y := ⟨"FlowKernel", "failBranches", "(LFlowKernel$Parting;I)V"⟩) (n := 8) (List.mem_append_left _ (List.mem_of_getElem? (i := 14) (rfl : lw_privs_1[14]? = some _)))) rfl)⟩
theorem cv_K_failGiver : xo_cv mt_K_failGiver 2 := ⟨⟨(nt_ok (nt_2 _ (List.mem_of_getElem? (i := 177) rfl)) rfl), wi_K, by decide, by decide, by decide +kernel⟩, (nt_ok (nt_2 _ (List.mem_of_getElem? (i := 176) rfl)) rfl), (nt_ok (nt_sel (y := ⟨"FlowKernel", "failGiver", "(LFlowKernel$Giver;I)V"⟩) (n := 8) (List.mem_append_left _ (List.mem_of_getElem? (i := 13) (rfl : lw_privs_1[13]? = some _)))) rfl)⟩
theorem cv_K_fail : xo_cv mt_K_fail 2 := ⟨⟨(nt_ok (nt_2 _ (List.mem_of_getElem? (i := 170) rfl)) rfl), wi_K, by decide, by decide, by decide +kernel⟩, (nt_ok (nt_2 _ (List.mem_of_getElem? (i := 168) rfl)) rfl), (nt_ok (nt_2 _ (List.mem_of_getElem? (i := 169) rfl)) rfl)⟩
theorem cv_K_isErrorOrNone : xo_cs mt_K_isErrorOrNone 1 := ⟨⟨(nt_ok (nt_2 _ (List.mem_of_getElem? (i := 198) rfl)) rfl), wi_K, by decide, by decide, by decide +kernel⟩, (nt_ok (nt_2 _ (List.mem_of_getElem? (i := 197) rfl)) rfl)⟩
theorem cv_K_pulled : xo_cv mt_K_pulled 2 := ⟨⟨(nt_ok (nt_2 _ (List.mem_of_getElem? (i := 195) rfl)) rfl), wi_K, by decide, by decide, by decide +kernel⟩, (nt_ok (nt_2 _ (List.mem_of_getElem? (i := 193) rfl)) rfl), (nt_ok (nt_2 _ (List.mem_of_getElem? (i := 194) rfl)) rfl)⟩
theorem cv_G_heldBy : xo_cv mt_G_heldBy 0 := ⟨⟨(nt_ok (nt_2 _ (List.mem_of_getElem? (i := 206) rfl)) rfl), wi_G, by decide, by decide, by decide +kernel⟩, (nt_ok (nt_2 _ (List.mem_of_getElem? (i := 204) rfl)) rfl), (nt_ok (nt_2 _ (List.mem_of_getElem? (i := 205) rfl)) rfl)⟩
theorem cv_K_request : xo_cv mt_K_request 2 := ⟨⟨(nt_ok (nt_2 _ (List.mem_of_getElem? (i := 210) rfl)) rfl), wi_K, by decide, by decide, by decide +kernel⟩, (nt_ok (nt_2 _ (List.mem_of_getElem? (i := 209) rfl)) rfl), (nt_ok (nt_sel (y := ⟨"FlowKernel", "request", "(LFlowKernel$Giver;I)V"⟩) (n := 8) (List.mem_append_left _ (List.mem_of_getElem? (i := 15) (rfl : lw_privs_1[15]? = some _)))) rfl)⟩
theorem cv_K_read : xo_cv mt_K_read 1 := ⟨⟨(nt_ok (nt_2 _ (List.mem_of_getElem? (i := 202) rfl)) rfl), wi_K, by decide, by decide, by decide +kernel⟩, (nt_ok (nt_2 _ (List.mem_of_getElem? (i := 200) rfl)) rfl), (nt_ok (nt_2 _ (List.mem_of_getElem? (i := 201) rfl)) rfl)⟩
theorem cv_A_isGivenUp : xo_cv mt_A_isGivenUp 0 := ⟨⟨(nt_ok (nt_2 _ (List.mem_of_getElem? (i := 223) rfl)) rfl), wi_A, by decide, by decide, by decide +kernel⟩, (nt_ok (nt_2 _ (List.mem_of_getElem? (i := 221) rfl)) rfl), (nt_ok (nt_2 _ (List.mem_of_getElem? (i := 222) rfl)) rfl)⟩
theorem cv_K_cancelGiver : xo_cv mt_K_cancelGiver 2 := ⟨⟨(nt_ok (nt_2 _ (List.mem_of_getElem? (i := 218) rfl)) rfl), wi_K, by decide, by decide, by decide +kernel⟩, (nt_ok (nt_2 _ (List.mem_of_getElem? (i := 217) rfl)) rfl), (nt_ok (nt_sel (y := ⟨"FlowKernel", "cancelGiver", "(LFlowKernel$Giver;I)V"⟩) (n := 8) (List.mem_append_right _ (List.mem_append_left _ (List.mem_of_getElem? (i := 0) (rfl : lw_privs_2[0]? = some _))))) rfl)⟩
theorem cv_K_cancel : xo_cv mt_K_cancel 2 := ⟨⟨(nt_ok (nt_2 _ (List.mem_of_getElem? (i := 214) rfl)) rfl), wi_K, by decide, by decide, by decide +kernel⟩, (nt_ok (nt_2 _ (List.mem_of_getElem? (i := 212) rfl)) rfl), (nt_ok (nt_2 _ (List.mem_of_getElem? (i := 213) rfl)) rfl)⟩
theorem cv_K_takerAt : xo_cv mt_K_takerAt 1 := ⟨⟨(nt_ok (nt_2 _ (List.mem_of_getElem? (i := 231) rfl)) rfl), wi_K, by decide, by decide, by decide +kernel⟩, (nt_ok (nt_2 _ (List.mem_of_getElem? (i := 230) rfl)) rfl), (nt_ok (nt_sel (y := ⟨"FlowKernel", "takerAt", "(I)LFlowKernel$Taker;"⟩) (n := 8) (List.mem_append_right _ (List.mem_append_left _ (List.mem_of_getElem? (i := 1) (rfl : lw_privs_2[1]? = some _))))) rfl)⟩
theorem cv_K_write : xo_cv mt_K_write 2 := ⟨⟨(nt_ok (nt_2 _ (List.mem_of_getElem? (i := 227) rfl)) rfl), wi_K, by decide, by decide, by decide +kernel⟩, (nt_ok (nt_2 _ (List.mem_of_getElem? (i := 225) rfl)) rfl), (nt_ok (nt_2 _ (List.mem_of_getElem? (i := 226) rfl)) rfl)⟩
theorem cv_T_canShutDown : xo_cv mt_T_canShutDown 0 := ⟨⟨(nt_ok (nt_2 _ (List.mem_of_getElem? (i := 239) rfl)) rfl), wi_T, by decide, by decide, by decide +kernel⟩, (nt_ok (nt_2 _ (List.mem_of_getElem? (i := 237) rfl)) rfl), (nt_ok (nt_2 _ (List.mem_of_getElem? (i := 238) rfl)) rfl)⟩
theorem cv_T_startAbort : xo_cv mt_T_startAbort 0 := ⟨⟨(nt_ok (nt_3 _ (List.mem_of_getElem? (i := 18) rfl)) rfl), wi_T, by decide, by decide, by decide +kernel⟩, (nt_ok (nt_3 _ (List.mem_of_getElem? (i := 17) rfl)) rfl), (nt_ok (nt_sel (y := ⟨"FlowKernel$Taker", "startAbort", "()V"⟩) (n := 13) (List.mem_append_right _ (List.mem_append_left _ (List.mem_of_getElem? (i := 4) (rfl : lw_privs_2[4]? = some _))))) rfl)⟩
theorem cv_T_loseEnd : xo_cv mt_T_loseEnd 0 := ⟨⟨(nt_ok (nt_3 _ (List.mem_of_getElem? (i := 22) rfl)) rfl), wi_T, by decide, by decide, by decide +kernel⟩, (nt_ok (nt_3 _ (List.mem_of_getElem? (i := 21) rfl)) rfl), (nt_ok (nt_sel (y := ⟨"FlowKernel$Taker", "loseEnd", "()V"⟩) (n := 13) (List.mem_append_right _ (List.mem_append_left _ (List.mem_of_getElem? (i := 5) (rfl : lw_privs_2[5]? = some _))))) rfl)⟩
theorem cv_T_breakDown : xo_cv mt_T_breakDown 0 := ⟨⟨(nt_ok (nt_3 _ (List.mem_of_getElem? (i := 12) rfl)) rfl), wi_T, by decide, by decide, by decide +kernel⟩, (nt_ok (nt_3 _ (List.mem_of_getElem? (i := 11) rfl)) rfl), (nt_ok (nt_sel (y := ⟨"FlowKernel$Taker", "breakDown", "()V"⟩) (n := 13) (List.mem_append_right _ (List.mem_append_left _ (List.mem_of_getElem? (i := 3) (rfl : lw_privs_2[3]? = some _))))) rfl)⟩
theorem cv_T_goOn : xo_cv mt_T_goOn 0 := ⟨⟨(nt_ok (nt_3 _ (List.mem_of_getElem? (i := 8) rfl)) rfl), wi_T, by decide, by decide, by decide +kernel⟩, (nt_ok (nt_3 _ (List.mem_of_getElem? (i := 7) rfl)) rfl), (nt_ok (nt_sel (y := ⟨"FlowKernel$Taker", "goOn", "()V"⟩) (n := 13) (List.mem_append_right _ (List.mem_append_left _ (List.mem_of_getElem? (i := 2) (rfl : lw_privs_2[2]? = some _))))) rfl)⟩
theorem cv_T_shutDown : xo_cv mt_T_shutDown 0 := ⟨⟨(nt_ok (nt_3 _ (List.mem_of_getElem? (i := 3) rfl)) rfl), wi_T, by decide, by decide, by decide +kernel⟩, (nt_ok (nt_3 _ (List.mem_of_getElem? (i := 1) rfl)) rfl), (nt_ok (nt_3 _ (List.mem_of_getElem? (i := 2) rfl)) rfl)⟩
theorem cv_K_shut : xo_cv mt_K_shut 1 := ⟨⟨(nt_ok (nt_2 _ (List.mem_of_getElem? (i := 235) rfl)) rfl), wi_K, by decide, by decide, by decide +kernel⟩, (nt_ok (nt_2 _ (List.mem_of_getElem? (i := 233) rfl)) rfl), (nt_ok (nt_2 _ (List.mem_of_getElem? (i := 234) rfl)) rfl)⟩
theorem cv_T_startFailing : xo_cv mt_T_startFailing 1 := ⟨⟨(nt_ok (nt_3 _ (List.mem_of_getElem? (i := 34) rfl)) rfl), wi_T, by decide, by decide, by decide +kernel⟩, (nt_ok (nt_3 _ (List.mem_of_getElem? (i := 32) rfl)) rfl), (nt_ok (nt_3 _ (List.mem_of_getElem? (i := 33) rfl)) rfl)⟩
theorem cv_T_abortWith : xo_cv mt_T_abortWith 1 := ⟨⟨(nt_ok (nt_3 _ (List.mem_of_getElem? (i := 30) rfl)) rfl), wi_T, by decide, by decide, by decide +kernel⟩, (nt_ok (nt_3 _ (List.mem_of_getElem? (i := 28) rfl)) rfl), (nt_ok (nt_3 _ (List.mem_of_getElem? (i := 29) rfl)) rfl)⟩
theorem cv_K_abort : xo_cv mt_K_abort 2 := ⟨⟨(nt_ok (nt_3 _ (List.mem_of_getElem? (i := 26) rfl)) rfl), wi_K, by decide, by decide, by decide +kernel⟩, (nt_ok (nt_3 _ (List.mem_of_getElem? (i := 24) rfl)) rfl), (nt_ok (nt_3 _ (List.mem_of_getElem? (i := 25) rfl)) rfl)⟩
theorem cv_K_spoil : xo_cv mt_K_spoil 2 := ⟨⟨(nt_ok (nt_3 _ (List.mem_of_getElem? (i := 38) rfl)) rfl), wi_K, by decide, by decide, by decide +kernel⟩, (nt_ok (nt_3 _ (List.mem_of_getElem? (i := 36) rfl)) rfl), (nt_ok (nt_3 _ (List.mem_of_getElem? (i := 37) rfl)) rfl)⟩
theorem cv_K_settle : xo_cv mt_K_settle 2 := ⟨⟨(nt_ok (nt_3 _ (List.mem_of_getElem? (i := 43) rfl)) rfl), wi_K, by decide, by decide, by decide +kernel⟩, (nt_ok (nt_3 _ (List.mem_of_getElem? (i := 41) rfl)) rfl), (nt_ok (nt_3 _ (List.mem_of_getElem? (i := 42) rfl)) rfl)⟩
theorem cv_P_init : xo_ci mt_P_init 4 := ⟨⟨(nt_ok (nt_3 _ (List.mem_of_getElem? (i := 51) rfl)) rfl), wi_P, by decide, by decide, by decide +kernel⟩, (nt_ok (nt_3 _ (List.mem_of_getElem? (i := 50) rfl)) rfl), rfl, rfl⟩
theorem cv_K_pipe : xo_cv mt_K_pipe 3 := ⟨⟨(nt_ok (nt_3 _ (List.mem_of_getElem? (i := 47) rfl)) rfl), wi_K, by decide, by decide, by decide +kernel⟩, (nt_ok (nt_3 _ (List.mem_of_getElem? (i := 45) rfl)) rfl), (nt_ok (nt_3 _ (List.mem_of_getElem? (i := 46) rfl)) rfl)⟩
theorem cv_A_init : xo_ci mt_A_init 3 := ⟨⟨(nt_ok (nt_3 _ (List.mem_of_getElem? (i := 90) rfl)) rfl), wi_A, by decide, by decide, by decide +kernel⟩, (nt_ok (nt_3 _ (List.mem_of_getElem? (i := 89) rfl)) rfl), rfl, rfl⟩
theorem cv_K_part : xo_cv mt_K_part 1 := ⟨⟨(nt_ok (nt_3 _ (List.mem_of_getElem? (i := 85) rfl)) rfl), wi_K, by decide, by decide, by decide +kernel⟩, (nt_ok (nt_3 _ (List.mem_of_getElem? (i := 83) rfl)) rfl), (nt_ok (nt_3 _ (List.mem_of_getElem? (i := 84) rfl)) rfl)⟩
theorem cv_J_count : xo_cv mt_J_count 0 := ⟨⟨(nt_ok (nt_3 _ (List.mem_of_getElem? (i := 115) rfl)) rfl), wi_J, by decide, by decide, by decide +kernel⟩, (nt_ok (nt_3 _ (List.mem_of_getElem? (i := 113) rfl)) rfl), (nt_ok (nt_3 _ (List.mem_of_getElem? (i := 114) rfl)) rfl)⟩
theorem cv_K_doPulled : xo_cv mt_K_doPulled 2 := ⟨⟨(nt_ok (nt_3 _ (List.mem_of_getElem? (i := 123) rfl)) rfl), wi_K, by decide, by decide, by decide +kernel⟩, (nt_ok (nt_3 _ (List.mem_of_getElem? (i := 122) rfl)) rfl), (nt_ok (nt_sel (y := ⟨"FlowKernel", "doPulled", "(LFlowKernel$Giver;I)V"⟩) (n := 8) (List.mem_append_right _ (List.mem_append_left _ (List.mem_of_getElem? (i := 7) (rfl : lw_privs_2[7]? = some _))))) rfl)⟩
theorem cv_K_doParted : xo_cv mt_K_doParted 2 := ⟨⟨(nt_ok (nt_3 _ (List.mem_of_getElem? (i := 127) rfl)) rfl), wi_K, by decide, by decide, by decide +kernel⟩, (nt_ok (nt_3 _ (List.mem_of_getElem? (i := 126) rfl)) rfl), (nt_ok (nt_sel (y := ⟨"FlowKernel", "doParted", "(LFlowKernel$Giver;I)V"⟩) (n := 8) (List.mem_append_right _ (List.mem_append_left _ (List.mem_of_getElem? (i := 8) (rfl : lw_privs_2[8]? = some _))))) rfl)⟩
theorem cv_P_letGo : xo_cv mt_P_letGo 0 := ⟨⟨(nt_ok (nt_3 _ (List.mem_of_getElem? (i := 139) rfl)) rfl), wi_P, by decide, by decide, by decide +kernel⟩, (nt_ok (nt_3 _ (List.mem_of_getElem? (i := 137) rfl)) rfl), (nt_ok (nt_3 _ (List.mem_of_getElem? (i := 138) rfl)) rfl)⟩
theorem cv_K_endPipe : xo_cv mt_K_endPipe 3 := ⟨⟨(nt_ok (nt_3 _ (List.mem_of_getElem? (i := 135) rfl)) rfl), wi_K, by decide, by decide, by decide +kernel⟩, (nt_ok (nt_3 _ (List.mem_of_getElem? (i := 134) rfl)) rfl), (nt_ok (nt_sel (y := ⟨"FlowKernel", "endPipe", "(LFlowKernel$Pipe;II)V"⟩) (n := 8) (List.mem_append_right _ (List.mem_append_left _ (List.mem_of_getElem? (i := 10) (rfl : lw_privs_2[10]? = some _))))) rfl)⟩
theorem cv_P_mustWait : xo_cv mt_P_mustWait 0 := ⟨⟨(nt_ok (nt_3 _ (List.mem_of_getElem? (i := 146) rfl)) rfl), wi_P, by decide, by decide, by decide +kernel⟩, (nt_ok (nt_3 _ (List.mem_of_getElem? (i := 144) rfl)) rfl), (nt_ok (nt_3 _ (List.mem_of_getElem? (i := 145) rfl)) rfl)⟩
theorem cv_K_doPump : xo_cv mt_K_doPump 1 := ⟨⟨(nt_ok (nt_3 _ (List.mem_of_getElem? (i := 131) rfl)) rfl), wi_K, by decide, by decide, by decide +kernel⟩, (nt_ok (nt_3 _ (List.mem_of_getElem? (i := 130) rfl)) rfl), (nt_ok (nt_sel (y := ⟨"FlowKernel", "doPump", "(LFlowKernel$Pipe;)Z"⟩) (n := 8) (List.mem_append_right _ (List.mem_append_left _ (List.mem_of_getElem? (i := 9) (rfl : lw_privs_2[9]? = some _))))) rfl)⟩
theorem cv_T_failOrBreak : xo_cv mt_T_failOrBreak 1 := ⟨⟨(nt_ok (nt_3 _ (List.mem_of_getElem? (i := 161) rfl)) rfl), wi_T, by decide, by decide, by decide +kernel⟩, (nt_ok (nt_3 _ (List.mem_of_getElem? (i := 160) rfl)) rfl), (nt_ok (nt_sel (y := ⟨"FlowKernel$Taker", "failOrBreak", "(I)V"⟩) (n := 13) (List.mem_append_right _ (List.mem_append_left _ (List.mem_of_getElem? (i := 12) (rfl : lw_privs_2[12]? = some _))))) rfl)⟩
theorem cv_T_written : xo_cv mt_T_written 1 := ⟨⟨(nt_ok (nt_3 _ (List.mem_of_getElem? (i := 155) rfl)) rfl), wi_T, by decide, by decide, by decide +kernel⟩, (nt_ok (nt_3 _ (List.mem_of_getElem? (i := 153) rfl)) rfl), (nt_ok (nt_3 _ (List.mem_of_getElem? (i := 154) rfl)) rfl)⟩
theorem cv_T_noteAborted : xo_cv mt_T_noteAborted 1 := ⟨⟨(nt_ok (nt_3 _ (List.mem_of_getElem? (i := 173) rfl)) rfl), wi_T, by decide, by decide, by decide +kernel⟩, (nt_ok (nt_3 _ (List.mem_of_getElem? (i := 172) rfl)) rfl), (nt_ok (nt_sel (y := ⟨"FlowKernel$Taker", "noteAborted", "(I)V"⟩) (n := 13) (List.mem_append_right _ (List.mem_append_left _ (List.mem_of_getElem? (i := 14) (rfl : lw_privs_2[14]? = some _))))) rfl)⟩
theorem cv_T_endAbort : xo_cv mt_T_endAbort 1 := ⟨⟨(nt_ok (nt_3 _ (List.mem_of_getElem? (i := 169) rfl)) rfl), wi_T, by decide, by decide, by decide +kernel⟩, (nt_ok (nt_3 _ (List.mem_of_getElem? (i := 168) rfl)) rfl), (nt_ok (nt_sel (y := ⟨"FlowKernel$Taker", "endAbort", "(I)V"⟩) (n := 13) (List.mem_append_right _ (List.mem_append_left _ (List.mem_of_getElem? (i := 13) (rfl : lw_privs_2[13]? = some _))))) rfl)⟩
theorem cv_T_wasShut : xo_cv mt_T_wasShut 1 := ⟨⟨(nt_ok (nt_3 _ (List.mem_of_getElem? (i := 165) rfl)) rfl), wi_T, by decide, by decide, by decide +kernel⟩, (nt_ok (nt_3 _ (List.mem_of_getElem? (i := 163) rfl)) rfl), (nt_ok (nt_3 _ (List.mem_of_getElem? (i := 164) rfl)) rfl)⟩
theorem cv_T_wasAborted : xo_cv mt_T_wasAborted 1 := ⟨⟨(nt_ok (nt_3 _ (List.mem_of_getElem? (i := 177) rfl)) rfl), wi_T, by decide, by decide, by decide +kernel⟩, (nt_ok (nt_3 _ (List.mem_of_getElem? (i := 175) rfl)) rfl), (nt_ok (nt_3 _ (List.mem_of_getElem? (i := 176) rfl)) rfl)⟩
theorem cv_K_doSettled : xo_cv mt_K_doSettled 3 := ⟨⟨(nt_ok (nt_3 _ (List.mem_of_getElem? (i := 151) rfl)) rfl), wi_K, by decide, by decide, by decide +kernel⟩, (nt_ok (nt_3 _ (List.mem_of_getElem? (i := 150) rfl)) rfl), (nt_ok (nt_sel (y := ⟨"FlowKernel", "doSettled", "(LFlowKernel$Taker;II)V"⟩) (n := 8) (List.mem_append_right _ (List.mem_append_left _ (List.mem_of_getElem? (i := 11) (rfl : lw_privs_2[11]? = some _))))) rfl)⟩
theorem cv_K_doFirstJob : xo_cv mt_K_doFirstJob 0 := ⟨⟨(nt_ok (nt_3 _ (List.mem_of_getElem? (i := 119) rfl)) rfl), wi_K, by decide, by decide, by decide +kernel⟩, (nt_ok (nt_3 _ (List.mem_of_getElem? (i := 118) rfl)) rfl), (nt_ok (nt_sel (y := ⟨"FlowKernel", "doFirstJob", "()I"⟩) (n := 8) (List.mem_append_right _ (List.mem_append_left _ (List.mem_of_getElem? (i := 6) (rfl : lw_privs_2[6]? = some _))))) rfl)⟩
theorem cv_K_step : xo_cv mt_K_step 0 := ⟨⟨(nt_ok (nt_3 _ (List.mem_of_getElem? (i := 111) rfl)) rfl), wi_K, by decide, by decide, by decide +kernel⟩, (nt_ok (nt_3 _ (List.mem_of_getElem? (i := 109) rfl)) rfl), (nt_ok (nt_3 _ (List.mem_of_getElem? (i := 110) rfl)) rfl)⟩
theorem cv_K_run : xo_cv mt_K_run 0 := ⟨⟨(nt_ok (nt_3 _ (List.mem_of_getElem? (i := 181) rfl)) rfl), wi_K, by decide, by decide, by decide +kernel⟩, (nt_ok (nt_3 _ (List.mem_of_getElem? (i := 179) rfl)) rfl), (nt_ok (nt_3 _ (List.mem_of_getElem? (i := 180) rfl)) rfl)⟩
theorem cv_K_jobs : xo_cv mt_K_jobs 0 := ⟨⟨(nt_ok (nt_3 _ (List.mem_of_getElem? (i := 185) rfl)) rfl), wi_K, by decide, by decide, by decide +kernel⟩, (nt_ok (nt_3 _ (List.mem_of_getElem? (i := 183) rfl)) rfl), (nt_ok (nt_3 _ (List.mem_of_getElem? (i := 184) rfl)) rfl)⟩
theorem cv_K_giverState : xo_cv mt_K_giverState 1 := ⟨⟨(nt_ok (nt_3 _ (List.mem_of_getElem? (i := 189) rfl)) rfl), wi_K, by decide, by decide, by decide +kernel⟩, (nt_ok (nt_3 _ (List.mem_of_getElem? (i := 187) rfl)) rfl), (nt_ok (nt_3 _ (List.mem_of_getElem? (i := 188) rfl)) rfl)⟩
theorem cv_K_giverRoom : xo_cv mt_K_giverRoom 1 := ⟨⟨(nt_ok (nt_3 _ (List.mem_of_getElem? (i := 193) rfl)) rfl), wi_K, by decide, by decide, by decide +kernel⟩, (nt_ok (nt_3 _ (List.mem_of_getElem? (i := 191) rfl)) rfl), (nt_ok (nt_3 _ (List.mem_of_getElem? (i := 192) rfl)) rfl)⟩
theorem cv_K_giverQueue : xo_cv mt_K_giverQueue 1 := ⟨⟨(nt_ok (nt_3 _ (List.mem_of_getElem? (i := 197) rfl)) rfl), wi_K, by decide, by decide, by decide +kernel⟩, (nt_ok (nt_3 _ (List.mem_of_getElem? (i := 195) rfl)) rfl), (nt_ok (nt_3 _ (List.mem_of_getElem? (i := 196) rfl)) rfl)⟩
theorem cv_K_takerState : xo_cv mt_K_takerState 1 := ⟨⟨(nt_ok (nt_3 _ (List.mem_of_getElem? (i := 201) rfl)) rfl), wi_K, by decide, by decide, by decide +kernel⟩, (nt_ok (nt_3 _ (List.mem_of_getElem? (i := 199) rfl)) rfl), (nt_ok (nt_3 _ (List.mem_of_getElem? (i := 200) rfl)) rfl)⟩
theorem cv_K_takerRoom : xo_cv mt_K_takerRoom 1 := ⟨⟨(nt_ok (nt_3 _ (List.mem_of_getElem? (i := 205) rfl)) rfl), wi_K, by decide, by decide, by decide +kernel⟩, (nt_ok (nt_3 _ (List.mem_of_getElem? (i := 203) rfl)) rfl), (nt_ok (nt_3 _ (List.mem_of_getElem? (i := 204) rfl)) rfl)⟩
theorem cv_K_takerQueue : xo_cv mt_K_takerQueue 1 := ⟨⟨(nt_ok (nt_3 _ (List.mem_of_getElem? (i := 209) rfl)) rfl), wi_K, by decide, by decide, by decide +kernel⟩, (nt_ok (nt_3 _ (List.mem_of_getElem? (i := 207) rfl)) rfl), (nt_ok (nt_3 _ (List.mem_of_getElem? (i := 208) rfl)) rfl)⟩
theorem cv_K_takerError : xo_cs mt_K_takerError 1 := ⟨⟨(nt_ok (nt_3 _ (List.mem_of_getElem? (i := 216) rfl)) rfl), wi_K, by decide, by decide, by decide +kernel⟩, (nt_ok (nt_3 _ (List.mem_of_getElem? (i := 215) rfl)) rfl)⟩
theorem cv_K_giverError : xo_cs mt_K_giverError 1 := ⟨⟨(nt_ok (nt_3 _ (List.mem_of_getElem? (i := 219) rfl)) rfl), wi_K, by decide, by decide, by decide +kernel⟩, (nt_ok (nt_3 _ (List.mem_of_getElem? (i := 218) rfl)) rfl)⟩
theorem cv_K_error : xo_cv mt_K_error 2 := ⟨⟨(nt_ok (nt_3 _ (List.mem_of_getElem? (i := 213) rfl)) rfl), wi_K, by decide, by decide, by decide +kernel⟩, (nt_ok (nt_3 _ (List.mem_of_getElem? (i := 211) rfl)) rfl), (nt_ok (nt_3 _ (List.mem_of_getElem? (i := 212) rfl)) rfl)⟩
theorem cv_K_events : xo_cv mt_K_events 0 := ⟨⟨(nt_ok (nt_3 _ (List.mem_of_getElem? (i := 223) rfl)) rfl), wi_K, by decide, by decide, by decide +kernel⟩, (nt_ok (nt_3 _ (List.mem_of_getElem? (i := 221) rfl)) rfl), (nt_ok (nt_3 _ (List.mem_of_getElem? (i := 222) rfl)) rfl)⟩
theorem cv_L_tell : xo_cv mt_L_tell 2 := ⟨⟨(nt_ok (nt_3 _ (List.mem_of_getElem? (i := 231) rfl)) rfl), wi_L, by decide, by decide, by decide +kernel⟩, (nt_ok (nt_3 _ (List.mem_of_getElem? (i := 229) rfl)) rfl), (nt_ok (nt_3 _ (List.mem_of_getElem? (i := 230) rfl)) rfl)⟩
theorem cv_K_event : xo_cv mt_K_event 2 := ⟨⟨(nt_ok (nt_3 _ (List.mem_of_getElem? (i := 227) rfl)) rfl), wi_K, by decide, by decide, by decide +kernel⟩, (nt_ok (nt_3 _ (List.mem_of_getElem? (i := 225) rfl)) rfl), (nt_ok (nt_3 _ (List.mem_of_getElem? (i := 226) rfl)) rfl)⟩
theorem cv_M_init : xo_ci mt_M_init 0 := ⟨⟨(nt_ok (nt_3 _ (List.mem_of_getElem? (i := 236) rfl)) rfl), wi_M, by decide, by decide, by decide +kernel⟩, (nt_ok (nt_3 _ (List.mem_of_getElem? (i := 235) rfl)) rfl), rfl, rfl⟩
theorem cv_M_happen : xo_cv mt_M_happen 4 := ⟨⟨(nt_ok (nt_4 _ (List.mem_of_getElem? (i := 172) rfl)) rfl), wi_M, by decide, by decide, by decide +kernel⟩, (nt_ok (nt_4 _ (List.mem_of_getElem? (i := 171) rfl)) rfl), (nt_ok (nt_sel (y := ⟨"FlowKernelModel", "happen", "(IIII)V"⟩) (n := 51) (List.mem_append_right _ (List.mem_append_right _ (List.mem_append_left _ (List.mem_of_getElem? (i := 2) (rfl : lw_privs_3[2]? = some _)))))) rfl)⟩
theorem cv_M_job : xo_cv mt_M_job 3 := ⟨⟨(nt_ok (nt_4 _ (List.mem_of_getElem? (i := 220) rfl)) rfl), wi_M, by decide, by decide, by decide +kernel⟩, (nt_ok (nt_4 _ (List.mem_of_getElem? (i := 219) rfl)) rfl), (nt_ok (nt_sel (y := ⟨"FlowKernelModel", "job", "(III)V"⟩) (n := 51) (List.mem_append_right _ (List.mem_append_right _ (List.mem_append_left _ (List.mem_of_getElem? (i := 14) (rfl : lw_privs_3[14]? = some _)))))) rfl)⟩
theorem cv_M_sizeOf : xo_cv mt_M_sizeOf 2 := ⟨⟨(nt_ok (nt_4 _ (List.mem_of_getElem? (i := 196) rfl)) rfl), wi_M, by decide, by decide, by decide +kernel⟩, (nt_ok (nt_4 _ (List.mem_of_getElem? (i := 195) rfl)) rfl), (nt_ok (nt_sel (y := ⟨"FlowKernelModel", "sizeOf", "(IZ)I"⟩) (n := 51) (List.mem_append_right _ (List.mem_append_right _ (List.mem_append_left _ (List.mem_of_getElem? (i := 8) (rfl : lw_privs_3[8]? = some _)))))) rfl)⟩
theorem cv_M_space : xo_cv mt_M_space 1 := ⟨⟨(nt_ok (nt_5 _ (List.mem_of_getElem? (i := 44) rfl)) rfl), wi_M, by decide, by decide, by decide +kernel⟩, (nt_ok (nt_5 _ (List.mem_of_getElem? (i := 43) rfl)) rfl), (nt_ok (nt_sel (y := ⟨"FlowKernelModel", "space", "(I)I"⟩) (n := 51) (List.mem_append_right _ (List.mem_append_right _ (List.mem_append_right _ (List.mem_append_left _ (List.mem_of_getElem? (i := 14) (rfl : lw_privs_4[14]? = some _))))))) rfl)⟩
theorem cv_M_breaks : xo_cv mt_M_breaks 1 := ⟨⟨(nt_ok (nt_5 _ (List.mem_of_getElem? (i := 8) rfl)) rfl), wi_M, by decide, by decide, by decide +kernel⟩, (nt_ok (nt_5 _ (List.mem_of_getElem? (i := 7) rfl)) rfl), (nt_ok (nt_sel (y := ⟨"FlowKernelModel", "breaks", "(I)V"⟩) (n := 51) (List.mem_append_right _ (List.mem_append_right _ (List.mem_append_right _ (List.mem_append_left _ (List.mem_of_getElem? (i := 5) (rfl : lw_privs_4[5]? = some _))))))) rfl)⟩
theorem cv_M_goesOn : xo_cv mt_M_goesOn 1 := ⟨⟨(nt_ok (nt_5 _ (List.mem_of_getElem? (i := 4) rfl)) rfl), wi_M, by decide, by decide, by decide +kernel⟩, (nt_ok (nt_5 _ (List.mem_of_getElem? (i := 3) rfl)) rfl), (nt_ok (nt_sel (y := ⟨"FlowKernelModel", "goesOn", "(I)V"⟩) (n := 51) (List.mem_append_right _ (List.mem_append_right _ (List.mem_append_right _ (List.mem_append_left _ (List.mem_of_getElem? (i := 4) (rfl : lw_privs_4[4]? = some _))))))) rfl)⟩
theorem cv_M_startFailing : xo_cv mt_M_startFailing 2 := ⟨⟨(nt_ok (nt_5 _ (List.mem_of_getElem? (i := 20) rfl)) rfl), wi_M, by decide, by decide, by decide +kernel⟩, (nt_ok (nt_5 _ (List.mem_of_getElem? (i := 19) rfl)) rfl), (nt_ok (nt_sel (y := ⟨"FlowKernelModel", "startFailing", "(II)V"⟩) (n := 51) (List.mem_append_right _ (List.mem_append_right _ (List.mem_append_right _ (List.mem_append_left _ (List.mem_of_getElem? (i := 8) (rfl : lw_privs_4[8]? = some _))))))) rfl)⟩
theorem cv_M_writeTo : xo_cv mt_M_writeTo 2 := ⟨⟨(nt_ok (nt_5 _ (List.mem_of_getElem? (i := 0) rfl)) rfl), wi_M, by decide, by decide, by decide +kernel⟩, (nt_ok (nt_4 _ (List.mem_of_getElem? (i := 239) rfl)) rfl), (nt_ok (nt_sel (y := ⟨"FlowKernelModel", "writeTo", "(II)I"⟩) (n := 51) (List.mem_append_right _ (List.mem_append_right _ (List.mem_append_right _ (List.mem_append_left _ (List.mem_of_getElem? (i := 3) (rfl : lw_privs_4[3]? = some _))))))) rfl)⟩
theorem cv_M_failsOrBreaks : xo_cv mt_M_failsOrBreaks 2 := ⟨⟨(nt_ok (nt_5 _ (List.mem_of_getElem? (i := 56) rfl)) rfl), wi_M, by decide, by decide, by decide +kernel⟩, (nt_ok (nt_5 _ (List.mem_of_getElem? (i := 55) rfl)) rfl), (nt_ok (nt_sel (y := ⟨"FlowKernelModel", "failsOrBreaks", "(II)V"⟩) (n := 51) (List.mem_append_right _ (List.mem_append_right _ (List.mem_append_right _ (List.mem_append_right _ ((List.mem_of_getElem? (i := 1) (rfl : lw_privs_5[1]? = some _)))))))) rfl)⟩
theorem cv_M_written : xo_cv mt_M_written 2 := ⟨⟨(nt_ok (nt_5 _ (List.mem_of_getElem? (i := 52) rfl)) rfl), wi_M, by decide, by decide, by decide +kernel⟩, (nt_ok (nt_5 _ (List.mem_of_getElem? (i := 51) rfl)) rfl), (nt_ok (nt_sel (y := ⟨"FlowKernelModel", "written", "(II)V"⟩) (n := 51) (List.mem_append_right _ (List.mem_append_right _ (List.mem_append_right _ (List.mem_append_right _ ((List.mem_of_getElem? (i := 0) (rfl : lw_privs_5[0]? = some _)))))))) rfl)⟩
theorem cv_M_shutDone : xo_cv mt_M_shutDone 2 := ⟨⟨(nt_ok (nt_5 _ (List.mem_of_getElem? (i := 60) rfl)) rfl), wi_M, by decide, by decide, by decide +kernel⟩, (nt_ok (nt_5 _ (List.mem_of_getElem? (i := 59) rfl)) rfl), (nt_ok (nt_sel (y := ⟨"FlowKernelModel", "shutDone", "(II)V"⟩) (n := 51) (List.mem_append_right _ (List.mem_append_right _ (List.mem_append_right _ (List.mem_append_right _ ((List.mem_of_getElem? (i := 2) (rfl : lw_privs_5[2]? = some _)))))))) rfl)⟩
theorem cv_M_abortDone : xo_cv mt_M_abortDone 2 := ⟨⟨(nt_ok (nt_5 _ (List.mem_of_getElem? (i := 64) rfl)) rfl), wi_M, by decide, by decide, by decide +kernel⟩, (nt_ok (nt_5 _ (List.mem_of_getElem? (i := 63) rfl)) rfl), (nt_ok (nt_sel (y := ⟨"FlowKernelModel", "abortDone", "(II)V"⟩) (n := 51) (List.mem_append_right _ (List.mem_append_right _ (List.mem_append_right _ (List.mem_append_right _ ((List.mem_of_getElem? (i := 3) (rfl : lw_privs_5[3]? = some _)))))))) rfl)⟩
theorem cv_M_abortTaker : xo_cv mt_M_abortTaker 2 := ⟨⟨(nt_ok (nt_5 _ (List.mem_of_getElem? (i := 16) rfl)) rfl), wi_M, by decide, by decide, by decide +kernel⟩, (nt_ok (nt_5 _ (List.mem_of_getElem? (i := 15) rfl)) rfl), (nt_ok (nt_sel (y := ⟨"FlowKernelModel", "abortTaker", "(II)V"⟩) (n := 51) (List.mem_append_right _ (List.mem_append_right _ (List.mem_append_right _ (List.mem_append_left _ (List.mem_of_getElem? (i := 7) (rfl : lw_privs_4[7]? = some _))))))) rfl)⟩
theorem cv_M_shutDown : xo_cv mt_M_shutDown 1 := ⟨⟨(nt_ok (nt_5 _ (List.mem_of_getElem? (i := 36) rfl)) rfl), wi_M, by decide, by decide, by decide +kernel⟩, (nt_ok (nt_5 _ (List.mem_of_getElem? (i := 35) rfl)) rfl), (nt_ok (nt_sel (y := ⟨"FlowKernelModel", "shutDown", "(I)V"⟩) (n := 51) (List.mem_append_right _ (List.mem_append_right _ (List.mem_append_right _ (List.mem_append_left _ (List.mem_of_getElem? (i := 12) (rfl : lw_privs_4[12]? = some _))))))) rfl)⟩
theorem cv_M_room : xo_cv mt_M_room 1 := ⟨⟨(nt_ok (nt_4 _ (List.mem_of_getElem? (i := 192) rfl)) rfl), wi_M, by decide, by decide, by decide +kernel⟩, (nt_ok (nt_4 _ (List.mem_of_getElem? (i := 191) rfl)) rfl), (nt_ok (nt_sel (y := ⟨"FlowKernelModel", "room", "(I)I"⟩) (n := 51) (List.mem_append_right _ (List.mem_append_right _ (List.mem_append_left _ (List.mem_of_getElem? (i := 7) (rfl : lw_privs_3[7]? = some _)))))) rfl)⟩
theorem cv_M_isBranch : xo_cv mt_M_isBranch 1 := ⟨⟨(nt_ok (nt_4 _ (List.mem_of_getElem? (i := 180) rfl)) rfl), wi_M, by decide, by decide, by decide +kernel⟩, (nt_ok (nt_4 _ (List.mem_of_getElem? (i := 179) rfl)) rfl), (nt_ok (nt_sel (y := ⟨"FlowKernelModel", "isBranch", "(I)Z"⟩) (n := 51) (List.mem_append_right _ (List.mem_append_right _ (List.mem_append_left _ (List.mem_of_getElem? (i := 4) (rfl : lw_privs_3[4]? = some _)))))) rfl)⟩
theorem cv_M_answer : xo_cv mt_M_answer 3 := ⟨⟨(nt_ok (nt_4 _ (List.mem_of_getElem? (i := 236) rfl)) rfl), wi_M, by decide, by decide, by decide +kernel⟩, (nt_ok (nt_4 _ (List.mem_of_getElem? (i := 235) rfl)) rfl), (nt_ok (nt_sel (y := ⟨"FlowKernelModel", "answer", "(III)V"⟩) (n := 51) (List.mem_append_right _ (List.mem_append_right _ (List.mem_append_right _ (List.mem_append_left _ (List.mem_of_getElem? (i := 2) (rfl : lw_privs_4[2]? = some _))))))) rfl)⟩
theorem cv_M_takeRequest : xo_cv mt_M_takeRequest 1 := ⟨⟨(nt_ok (nt_4 _ (List.mem_of_getElem? (i := 232) rfl)) rfl), wi_M, by decide, by decide, by decide +kernel⟩, (nt_ok (nt_4 _ (List.mem_of_getElem? (i := 231) rfl)) rfl), (nt_ok (nt_sel (y := ⟨"FlowKernelModel", "takeRequest", "(I)I"⟩) (n := 51) (List.mem_append_right _ (List.mem_append_right _ (List.mem_append_right _ (List.mem_append_left _ (List.mem_of_getElem? (i := 1) (rfl : lw_privs_4[1]? = some _))))))) rfl)⟩
theorem cv_M_takeChunk : xo_cv mt_M_takeChunk 1 := ⟨⟨(nt_ok (nt_4 _ (List.mem_of_getElem? (i := 212) rfl)) rfl), wi_M, by decide, by decide, by decide +kernel⟩, (nt_ok (nt_4 _ (List.mem_of_getElem? (i := 211) rfl)) rfl), (nt_ok (nt_sel (y := ⟨"FlowKernelModel", "takeChunk", "(I)I"⟩) (n := 51) (List.mem_append_right _ (List.mem_append_right _ (List.mem_append_left _ (List.mem_of_getElem? (i := 12) (rfl : lw_privs_3[12]? = some _)))))) rfl)⟩
theorem cv_M_closePlain : xo_cv mt_M_closePlain 1 := ⟨⟨(nt_ok (nt_4 _ (List.mem_of_getElem? (i := 208) rfl)) rfl), wi_M, by decide, by decide, by decide +kernel⟩, (nt_ok (nt_4 _ (List.mem_of_getElem? (i := 207) rfl)) rfl), (nt_ok (nt_sel (y := ⟨"FlowKernelModel", "closePlain", "(I)V"⟩) (n := 51) (List.mem_append_right _ (List.mem_append_right _ (List.mem_append_left _ (List.mem_of_getElem? (i := 11) (rfl : lw_privs_3[11]? = some _)))))) rfl)⟩
theorem cv_M_endBranches : xo_cv mt_M_endBranches 1 := ⟨⟨(nt_ok (nt_4 _ (List.mem_of_getElem? (i := 204) rfl)) rfl), wi_M, by decide, by decide, by decide +kernel⟩, (nt_ok (nt_4 _ (List.mem_of_getElem? (i := 203) rfl)) rfl), (nt_ok (nt_sel (y := ⟨"FlowKernelModel", "endBranches", "(I)V"⟩) (n := 51) (List.mem_append_right _ (List.mem_append_right _ (List.mem_append_left _ (List.mem_of_getElem? (i := 10) (rfl : lw_privs_3[10]? = some _)))))) rfl)⟩
theorem cv_M_close : xo_cv mt_M_close 1 := ⟨⟨(nt_ok (nt_4 _ (List.mem_of_getElem? (i := 216) rfl)) rfl), wi_M, by decide, by decide, by decide +kernel⟩, (nt_ok (nt_4 _ (List.mem_of_getElem? (i := 215) rfl)) rfl), (nt_ok (nt_sel (y := ⟨"FlowKernelModel", "close", "(I)V"⟩) (n := 51) (List.mem_append_right _ (List.mem_append_right _ (List.mem_append_left _ (List.mem_of_getElem? (i := 13) (rfl : lw_privs_3[13]? = some _)))))) rfl)⟩
theorem cv_M_failPlain : xo_cv mt_M_failPlain 2 := ⟨⟨(nt_ok (nt_4 _ (List.mem_of_getElem? (i := 168) rfl)) rfl), wi_M, by decide, by decide, by decide +kernel⟩, (nt_ok (nt_4 _ (List.mem_of_getElem? (i := 167) rfl)) rfl), (nt_ok (nt_sel (y := ⟨"FlowKernelModel", "failPlain", "(II)V"⟩) (n := 51) (List.mem_append_right _ (List.mem_append_right _ (List.mem_append_left _ (List.mem_of_getElem? (i := 1) (rfl : lw_privs_3[1]? = some _)))))) rfl)⟩
theorem cv_M_failRoot : xo_cv mt_M_failRoot 2 := ⟨⟨(nt_ok (nt_4 _ (List.mem_of_getElem? (i := 164) rfl)) rfl), wi_M, by decide, by decide, by decide +kernel⟩, (nt_ok (nt_4 _ (List.mem_of_getElem? (i := 163) rfl)) rfl), (nt_ok (nt_sel (y := ⟨"FlowKernelModel", "failRoot", "(II)V"⟩) (n := 51) (List.mem_append_right _ (List.mem_append_right _ (List.mem_append_left _ (List.mem_of_getElem? (i := 0) (rfl : lw_privs_3[0]? = some _)))))) rfl)⟩
theorem cv_M_pulls : xo_cv mt_M_pulls 1 := ⟨⟨(nt_ok (nt_4 _ (List.mem_of_getElem? (i := 188) rfl)) rfl), wi_M, by decide, by decide, by decide +kernel⟩, (nt_ok (nt_4 _ (List.mem_of_getElem? (i := 187) rfl)) rfl), (nt_ok (nt_sel (y := ⟨"FlowKernelModel", "pulls", "(I)Z"⟩) (n := 51) (List.mem_append_right _ (List.mem_append_right _ (List.mem_append_left _ (List.mem_of_getElem? (i := 6) (rfl : lw_privs_3[6]? = some _)))))) rfl)⟩
theorem cv_M_pullRoot : xo_cv mt_M_pullRoot 1 := ⟨⟨(nt_ok (nt_4 _ (List.mem_of_getElem? (i := 184) rfl)) rfl), wi_M, by decide, by decide, by decide +kernel⟩, (nt_ok (nt_4 _ (List.mem_of_getElem? (i := 183) rfl)) rfl), (nt_ok (nt_sel (y := ⟨"FlowKernelModel", "pullRoot", "(I)V"⟩) (n := 51) (List.mem_append_right _ (List.mem_append_right _ (List.mem_append_left _ (List.mem_of_getElem? (i := 5) (rfl : lw_privs_3[5]? = some _)))))) rfl)⟩
theorem cv_M_readOn : xo_cv mt_M_readOn 1 := ⟨⟨(nt_ok (nt_4 _ (List.mem_of_getElem? (i := 200) rfl)) rfl), wi_M, by decide, by decide, by decide +kernel⟩, (nt_ok (nt_4 _ (List.mem_of_getElem? (i := 199) rfl)) rfl), (nt_ok (nt_sel (y := ⟨"FlowKernelModel", "readOn", "(I)V"⟩) (n := 51) (List.mem_append_right _ (List.mem_append_right _ (List.mem_append_left _ (List.mem_of_getElem? (i := 9) (rfl : lw_privs_3[9]? = some _)))))) rfl)⟩
theorem cv_M_pull : xo_cv mt_M_pull 1 := ⟨⟨(nt_ok (nt_4 _ (List.mem_of_getElem? (i := 176) rfl)) rfl), wi_M, by decide, by decide, by decide +kernel⟩, (nt_ok (nt_4 _ (List.mem_of_getElem? (i := 175) rfl)) rfl), (nt_ok (nt_sel (y := ⟨"FlowKernelModel", "pull", "(I)V"⟩) (n := 51) (List.mem_append_right _ (List.mem_append_right _ (List.mem_append_left _ (List.mem_of_getElem? (i := 3) (rfl : lw_privs_3[3]? = some _)))))) rfl)⟩
theorem cv_M_takeIn : xo_cv mt_M_takeIn 2 := ⟨⟨(nt_ok (nt_4 _ (List.mem_of_getElem? (i := 228) rfl)) rfl), wi_M, by decide, by decide, by decide +kernel⟩, (nt_ok (nt_4 _ (List.mem_of_getElem? (i := 227) rfl)) rfl), (nt_ok (nt_sel (y := ⟨"FlowKernelModel", "takeIn", "(II)V"⟩) (n := 51) (List.mem_append_right _ (List.mem_append_right _ (List.mem_append_right _ (List.mem_append_left _ (List.mem_of_getElem? (i := 0) (rfl : lw_privs_4[0]? = some _))))))) rfl)⟩
theorem cv_M_request : xo_cv mt_M_request 2 := ⟨⟨(nt_ok (nt_5 _ (List.mem_of_getElem? (i := 48) rfl)) rfl), wi_M, by decide, by decide, by decide +kernel⟩, (nt_ok (nt_5 _ (List.mem_of_getElem? (i := 47) rfl)) rfl), (nt_ok (nt_sel (y := ⟨"FlowKernelModel", "request", "(II)V"⟩) (n := 51) (List.mem_append_right _ (List.mem_append_right _ (List.mem_append_right _ (List.mem_append_left _ (List.mem_of_getElem? (i := 15) (rfl : lw_privs_4[15]? = some _))))))) rfl)⟩
theorem cv_M_cancelRoot : xo_cv mt_M_cancelRoot 2 := ⟨⟨(nt_ok (nt_5 _ (List.mem_of_getElem? (i := 32) rfl)) rfl), wi_M, by decide, by decide, by decide +kernel⟩, (nt_ok (nt_5 _ (List.mem_of_getElem? (i := 31) rfl)) rfl), (nt_ok (nt_sel (y := ⟨"FlowKernelModel", "cancelRoot", "(II)V"⟩) (n := 51) (List.mem_append_right _ (List.mem_append_right _ (List.mem_append_right _ (List.mem_append_left _ (List.mem_of_getElem? (i := 11) (rfl : lw_privs_4[11]? = some _))))))) rfl)⟩
theorem cv_M_cancelGiver : xo_cv mt_M_cancelGiver 2 := ⟨⟨(nt_ok (nt_5 _ (List.mem_of_getElem? (i := 28) rfl)) rfl), wi_M, by decide, by decide, by decide +kernel⟩, (nt_ok (nt_5 _ (List.mem_of_getElem? (i := 27) rfl)) rfl), (nt_ok (nt_sel (y := ⟨"FlowKernelModel", "cancelGiver", "(II)V"⟩) (n := 51) (List.mem_append_right _ (List.mem_append_right _ (List.mem_append_right _ (List.mem_append_left _ (List.mem_of_getElem? (i := 10) (rfl : lw_privs_4[10]? = some _))))))) rfl)⟩
theorem cv_M_ends : xo_cv mt_M_ends 1 := ⟨⟨(nt_ok (nt_5 _ (List.mem_of_getElem? (i := 109) rfl)) rfl), wi_M, by decide, by decide, by decide +kernel⟩, (nt_ok (nt_5 _ (List.mem_of_getElem? (i := 108) rfl)) rfl), (nt_ok (nt_sel (y := ⟨"FlowKernelModel", "ends", "(I)V"⟩) (n := 51) (List.mem_append_right _ (List.mem_append_right _ (List.mem_append_right _ (List.mem_append_right _ ((List.mem_of_getElem? (i := 8) (rfl : lw_privs_5[8]? = some _)))))))) rfl)⟩
theorem cv_M_pulledJob : xo_cv mt_M_pulledJob 2 := ⟨⟨(nt_ok (nt_4 _ (List.mem_of_getElem? (i := 160) rfl)) rfl), wi_M, by decide, by decide, by decide +kernel⟩, (nt_ok (nt_4 _ (List.mem_of_getElem? (i := 159) rfl)) rfl), (nt_ok (nt_sel (y := ⟨"FlowKernelModel", "pulledJob", "(II)V"⟩) (n := 51) (List.mem_append_right _ (List.mem_append_left _ (List.mem_of_getElem? (i := 15) (rfl : lw_privs_2[15]? = some _))))) rfl)⟩
theorem cv_M_partedJob : xo_cv mt_M_partedJob 2 := ⟨⟨(nt_ok (nt_4 _ (List.mem_of_getElem? (i := 224) rfl)) rfl), wi_M, by decide, by decide, by decide +kernel⟩, (nt_ok (nt_4 _ (List.mem_of_getElem? (i := 223) rfl)) rfl), (nt_ok (nt_sel (y := ⟨"FlowKernelModel", "partedJob", "(II)V"⟩) (n := 51) (List.mem_append_right _ (List.mem_append_right _ (List.mem_append_left _ (List.mem_of_getElem? (i := 15) (rfl : lw_privs_3[15]? = some _)))))) rfl)⟩
theorem cv_M_asks : xo_cv mt_M_asks 1 := ⟨⟨(nt_ok (nt_5 _ (List.mem_of_getElem? (i := 40) rfl)) rfl), wi_M, by decide, by decide, by decide +kernel⟩, (nt_ok (nt_5 _ (List.mem_of_getElem? (i := 39) rfl)) rfl), (nt_ok (nt_sel (y := ⟨"FlowKernelModel", "asks", "(I)Z"⟩) (n := 51) (List.mem_append_right _ (List.mem_append_right _ (List.mem_append_right _ (List.mem_append_left _ (List.mem_of_getElem? (i := 13) (rfl : lw_privs_4[13]? = some _))))))) rfl)⟩
theorem cv_M_finish : xo_cv mt_M_finish 3 := ⟨⟨(nt_ok (nt_5 _ (List.mem_of_getElem? (i := 24) rfl)) rfl), wi_M, by decide, by decide, by decide +kernel⟩, (nt_ok (nt_5 _ (List.mem_of_getElem? (i := 23) rfl)) rfl), (nt_ok (nt_sel (y := ⟨"FlowKernelModel", "finish", "(III)V"⟩) (n := 51) (List.mem_append_right _ (List.mem_append_right _ (List.mem_append_right _ (List.mem_append_left _ (List.mem_of_getElem? (i := 9) (rfl : lw_privs_4[9]? = some _))))))) rfl)⟩
theorem cv_M_pump : xo_cv mt_M_pump 1 := ⟨⟨(nt_ok (nt_5 _ (List.mem_of_getElem? (i := 12) rfl)) rfl), wi_M, by decide, by decide, by decide +kernel⟩, (nt_ok (nt_5 _ (List.mem_of_getElem? (i := 11) rfl)) rfl), (nt_ok (nt_sel (y := ⟨"FlowKernelModel", "pump", "(I)Z"⟩) (n := 51) (List.mem_append_right _ (List.mem_append_right _ (List.mem_append_right _ (List.mem_append_left _ (List.mem_of_getElem? (i := 6) (rfl : lw_privs_4[6]? = some _))))))) rfl)⟩
theorem cv_M_wake : xo_cv mt_M_wake 0 := ⟨⟨(nt_ok (nt_5 _ (List.mem_of_getElem? (i := 68) rfl)) rfl), wi_M, by decide, by decide, by decide +kernel⟩, (nt_ok (nt_5 _ (List.mem_of_getElem? (i := 67) rfl)) rfl), (nt_ok (nt_sel (y := ⟨"FlowKernelModel", "wake", "()V"⟩) (n := 51) (List.mem_append_right _ (List.mem_append_right _ (List.mem_append_right _ (List.mem_append_right _ ((List.mem_of_getElem? (i := 4) (rfl : lw_privs_5[4]? = some _)))))))) rfl)⟩
theorem cv_M_step : xo_cv mt_M_step 0 := ⟨⟨(nt_ok (nt_4 _ (List.mem_of_getElem? (i := 156) rfl)) rfl), wi_M, by decide, by decide, by decide +kernel⟩, (nt_ok (nt_4 _ (List.mem_of_getElem? (i := 154) rfl)) rfl), (nt_ok (nt_4 _ (List.mem_of_getElem? (i := 155) rfl)) rfl)⟩
theorem cv_M_run : xo_cv mt_M_run 0 := ⟨⟨(nt_ok (nt_5 _ (List.mem_of_getElem? (i := 72) rfl)) rfl), wi_M, by decide, by decide, by decide +kernel⟩, (nt_ok (nt_5 _ (List.mem_of_getElem? (i := 70) rfl)) rfl), (nt_ok (nt_5 _ (List.mem_of_getElem? (i := 71) rfl)) rfl)⟩
theorem cv_M_jobs : xo_cv mt_M_jobs 0 := ⟨⟨(nt_ok (nt_5 _ (List.mem_of_getElem? (i := 77) rfl)) rfl), wi_M, by decide, by decide, by decide +kernel⟩, (nt_ok (nt_5 _ (List.mem_of_getElem? (i := 75) rfl)) rfl), (nt_ok (nt_5 _ (List.mem_of_getElem? (i := 76) rfl)) rfl)⟩
theorem cv_M_noGiver : xo_cv mt_M_noGiver 1 := ⟨⟨(nt_ok (nt_5 _ (List.mem_of_getElem? (i := 101) rfl)) rfl), wi_M, by decide, by decide, by decide +kernel⟩, (nt_ok (nt_5 _ (List.mem_of_getElem? (i := 100) rfl)) rfl), (nt_ok (nt_sel (y := ⟨"FlowKernelModel", "noGiver", "(I)Z"⟩) (n := 51) (List.mem_append_right _ (List.mem_append_right _ (List.mem_append_right _ (List.mem_append_right _ ((List.mem_of_getElem? (i := 7) (rfl : lw_privs_5[7]? = some _)))))))) rfl)⟩
theorem cv_M_noTaker : xo_cv mt_M_noTaker 1 := ⟨⟨(nt_ok (nt_5 _ (List.mem_of_getElem? (i := 137) rfl)) rfl), wi_M, by decide, by decide, by decide +kernel⟩, (nt_ok (nt_5 _ (List.mem_of_getElem? (i := 136) rfl)) rfl), (nt_ok (nt_sel (y := ⟨"FlowKernelModel", "noTaker", "(I)Z"⟩) (n := 51) (List.mem_append_right _ (List.mem_append_right _ (List.mem_append_right _ (List.mem_append_right _ ((List.mem_of_getElem? (i := 10) (rfl : lw_privs_5[10]? = some _)))))))) rfl)⟩
theorem cv_M_badError : xo_cv mt_M_badError 2 := ⟨⟨(nt_ok (nt_5 _ (List.mem_of_getElem? (i := 117) rfl)) rfl), wi_M, by decide, by decide, by decide +kernel⟩, (nt_ok (nt_5 _ (List.mem_of_getElem? (i := 116) rfl)) rfl), (nt_ok (nt_sel (y := ⟨"FlowKernelModel", "badError", "(II)Z"⟩) (n := 51) (List.mem_append_right _ (List.mem_append_right _ (List.mem_append_right _ (List.mem_append_right _ ((List.mem_of_getElem? (i := 9) (rfl : lw_privs_5[9]? = some _)))))))) rfl)⟩
theorem cv_M_addGiver : xo_cv mt_M_addGiver 3 := ⟨⟨(nt_ok (nt_5 _ (List.mem_of_getElem? (i := 85) rfl)) rfl), wi_M, by decide, by decide, by decide +kernel⟩, (nt_ok (nt_5 _ (List.mem_of_getElem? (i := 84) rfl)) rfl), (nt_ok (nt_sel (y := ⟨"FlowKernelModel", "addGiver", "(IZI)I"⟩) (n := 51) (List.mem_append_right _ (List.mem_append_right _ (List.mem_append_right _ (List.mem_append_right _ ((List.mem_of_getElem? (i := 5) (rfl : lw_privs_5[5]? = some _)))))))) rfl)⟩
theorem cv_M_giver : xo_cv mt_M_giver 2 := ⟨⟨(nt_ok (nt_5 _ (List.mem_of_getElem? (i := 81) rfl)) rfl), wi_M, by decide, by decide, by decide +kernel⟩, (nt_ok (nt_5 _ (List.mem_of_getElem? (i := 79) rfl)) rfl), (nt_ok (nt_5 _ (List.mem_of_getElem? (i := 80) rfl)) rfl)⟩
theorem cv_M_taker : xo_cv mt_M_taker 2 := ⟨⟨(nt_ok (nt_5 _ (List.mem_of_getElem? (i := 89) rfl)) rfl), wi_M, by decide, by decide, by decide +kernel⟩, (nt_ok (nt_5 _ (List.mem_of_getElem? (i := 87) rfl)) rfl), (nt_ok (nt_5 _ (List.mem_of_getElem? (i := 88) rfl)) rfl)⟩
theorem cv_M_noRoot : xo_cv mt_M_noRoot 1 := ⟨⟨(nt_ok (nt_5 _ (List.mem_of_getElem? (i := 97) rfl)) rfl), wi_M, by decide, by decide, by decide +kernel⟩, (nt_ok (nt_5 _ (List.mem_of_getElem? (i := 96) rfl)) rfl), (nt_ok (nt_sel (y := ⟨"FlowKernelModel", "noRoot", "(I)Z"⟩) (n := 51) (List.mem_append_right _ (List.mem_append_right _ (List.mem_append_right _ (List.mem_append_right _ ((List.mem_of_getElem? (i := 6) (rfl : lw_privs_5[6]? = some _)))))))) rfl)⟩
theorem cv_M_put : xo_cv mt_M_put 2 := ⟨⟨(nt_ok (nt_5 _ (List.mem_of_getElem? (i := 93) rfl)) rfl), wi_M, by decide, by decide, by decide +kernel⟩, (nt_ok (nt_5 _ (List.mem_of_getElem? (i := 91) rfl)) rfl), (nt_ok (nt_5 _ (List.mem_of_getElem? (i := 92) rfl)) rfl)⟩
theorem cv_M_end : xo_cv mt_M_end 1 := ⟨⟨(nt_ok (nt_5 _ (List.mem_of_getElem? (i := 105) rfl)) rfl), wi_M, by decide, by decide, by decide +kernel⟩, (nt_ok (nt_5 _ (List.mem_of_getElem? (i := 103) rfl)) rfl), (nt_ok (nt_5 _ (List.mem_of_getElem? (i := 104) rfl)) rfl)⟩
theorem cv_M_fail : xo_cv mt_M_fail 2 := ⟨⟨(nt_ok (nt_5 _ (List.mem_of_getElem? (i := 113) rfl)) rfl), wi_M, by decide, by decide, by decide +kernel⟩, (nt_ok (nt_5 _ (List.mem_of_getElem? (i := 111) rfl)) rfl), (nt_ok (nt_5 _ (List.mem_of_getElem? (i := 112) rfl)) rfl)⟩
theorem cv_M_pulled : xo_cv mt_M_pulled 2 := ⟨⟨(nt_ok (nt_5 _ (List.mem_of_getElem? (i := 121) rfl)) rfl), wi_M, by decide, by decide, by decide +kernel⟩, (nt_ok (nt_5 _ (List.mem_of_getElem? (i := 119) rfl)) rfl), (nt_ok (nt_5 _ (List.mem_of_getElem? (i := 120) rfl)) rfl)⟩
theorem cv_M_read : xo_cv mt_M_read 1 := ⟨⟨(nt_ok (nt_5 _ (List.mem_of_getElem? (i := 125) rfl)) rfl), wi_M, by decide, by decide, by decide +kernel⟩, (nt_ok (nt_5 _ (List.mem_of_getElem? (i := 123) rfl)) rfl), (nt_ok (nt_5 _ (List.mem_of_getElem? (i := 124) rfl)) rfl)⟩
theorem cv_M_cancel : xo_cv mt_M_cancel 2 := ⟨⟨(nt_ok (nt_5 _ (List.mem_of_getElem? (i := 129) rfl)) rfl), wi_M, by decide, by decide, by decide +kernel⟩, (nt_ok (nt_5 _ (List.mem_of_getElem? (i := 127) rfl)) rfl), (nt_ok (nt_5 _ (List.mem_of_getElem? (i := 128) rfl)) rfl)⟩
theorem cv_M_write : xo_cv mt_M_write 2 := ⟨⟨(nt_ok (nt_5 _ (List.mem_of_getElem? (i := 133) rfl)) rfl), wi_M, by decide, by decide, by decide +kernel⟩, (nt_ok (nt_5 _ (List.mem_of_getElem? (i := 131) rfl)) rfl), (nt_ok (nt_5 _ (List.mem_of_getElem? (i := 132) rfl)) rfl)⟩
theorem cv_M_shut : xo_cv mt_M_shut 1 := ⟨⟨(nt_ok (nt_5 _ (List.mem_of_getElem? (i := 141) rfl)) rfl), wi_M, by decide, by decide, by decide +kernel⟩, (nt_ok (nt_5 _ (List.mem_of_getElem? (i := 139) rfl)) rfl), (nt_ok (nt_5 _ (List.mem_of_getElem? (i := 140) rfl)) rfl)⟩
theorem cv_M_abort : xo_cv mt_M_abort 2 := ⟨⟨(nt_ok (nt_5 _ (List.mem_of_getElem? (i := 145) rfl)) rfl), wi_M, by decide, by decide, by decide +kernel⟩, (nt_ok (nt_5 _ (List.mem_of_getElem? (i := 143) rfl)) rfl), (nt_ok (nt_5 _ (List.mem_of_getElem? (i := 144) rfl)) rfl)⟩
theorem cv_M_spoil : xo_cv mt_M_spoil 2 := ⟨⟨(nt_ok (nt_5 _ (List.mem_of_getElem? (i := 149) rfl)) rfl), wi_M, by decide, by decide, by decide +kernel⟩, (nt_ok (nt_5 _ (List.mem_of_getElem? (i := 147) rfl)) rfl), (nt_ok (nt_5 _ (List.mem_of_getElem? (i := 148) rfl)) rfl)⟩
theorem cv_M_settle : xo_cv mt_M_settle 2 := ⟨⟨(nt_ok (nt_5 _ (List.mem_of_getElem? (i := 153) rfl)) rfl), wi_M, by decide, by decide, by decide +kernel⟩, (nt_ok (nt_5 _ (List.mem_of_getElem? (i := 151) rfl)) rfl), (nt_ok (nt_5 _ (List.mem_of_getElem? (i := 152) rfl)) rfl)⟩
theorem cv_M_pipe : xo_cv mt_M_pipe 3 := ⟨⟨(nt_ok (nt_5 _ (List.mem_of_getElem? (i := 157) rfl)) rfl), wi_M, by decide, by decide, by decide +kernel⟩, (nt_ok (nt_5 _ (List.mem_of_getElem? (i := 155) rfl)) rfl), (nt_ok (nt_5 _ (List.mem_of_getElem? (i := 156) rfl)) rfl)⟩
theorem cv_M_part : xo_cv mt_M_part 1 := ⟨⟨(nt_ok (nt_5 _ (List.mem_of_getElem? (i := 161) rfl)) rfl), wi_M, by decide, by decide, by decide +kernel⟩, (nt_ok (nt_5 _ (List.mem_of_getElem? (i := 159) rfl)) rfl), (nt_ok (nt_5 _ (List.mem_of_getElem? (i := 160) rfl)) rfl)⟩
theorem cv_M_giverState : xo_cv mt_M_giverState 1 := ⟨⟨(nt_ok (nt_5 _ (List.mem_of_getElem? (i := 165) rfl)) rfl), wi_M, by decide, by decide, by decide +kernel⟩, (nt_ok (nt_5 _ (List.mem_of_getElem? (i := 163) rfl)) rfl), (nt_ok (nt_5 _ (List.mem_of_getElem? (i := 164) rfl)) rfl)⟩
theorem cv_M_giverRoom : xo_cv mt_M_giverRoom 1 := ⟨⟨(nt_ok (nt_5 _ (List.mem_of_getElem? (i := 169) rfl)) rfl), wi_M, by decide, by decide, by decide +kernel⟩, (nt_ok (nt_5 _ (List.mem_of_getElem? (i := 167) rfl)) rfl), (nt_ok (nt_5 _ (List.mem_of_getElem? (i := 168) rfl)) rfl)⟩
theorem cv_M_giverQueue : xo_cv mt_M_giverQueue 1 := ⟨⟨(nt_ok (nt_5 _ (List.mem_of_getElem? (i := 173) rfl)) rfl), wi_M, by decide, by decide, by decide +kernel⟩, (nt_ok (nt_5 _ (List.mem_of_getElem? (i := 171) rfl)) rfl), (nt_ok (nt_5 _ (List.mem_of_getElem? (i := 172) rfl)) rfl)⟩
theorem cv_M_takerState : xo_cv mt_M_takerState 1 := ⟨⟨(nt_ok (nt_5 _ (List.mem_of_getElem? (i := 177) rfl)) rfl), wi_M, by decide, by decide, by decide +kernel⟩, (nt_ok (nt_5 _ (List.mem_of_getElem? (i := 175) rfl)) rfl), (nt_ok (nt_5 _ (List.mem_of_getElem? (i := 176) rfl)) rfl)⟩
theorem cv_M_takerRoom : xo_cv mt_M_takerRoom 1 := ⟨⟨(nt_ok (nt_5 _ (List.mem_of_getElem? (i := 181) rfl)) rfl), wi_M, by decide, by decide, by decide +kernel⟩, (nt_ok (nt_5 _ (List.mem_of_getElem? (i := 179) rfl)) rfl), (nt_ok (nt_5 _ (List.mem_of_getElem? (i := 180) rfl)) rfl)⟩
theorem cv_M_takerQueue : xo_cv mt_M_takerQueue 1 := ⟨⟨(nt_ok (nt_5 _ (List.mem_of_getElem? (i := 185) rfl)) rfl), wi_M, by decide, by decide, by decide +kernel⟩, (nt_ok (nt_5 _ (List.mem_of_getElem? (i := 183) rfl)) rfl), (nt_ok (nt_5 _ (List.mem_of_getElem? (i := 184) rfl)) rfl)⟩
theorem cv_M_error : xo_cv mt_M_error 2 := ⟨⟨(nt_ok (nt_5 _ (List.mem_of_getElem? (i := 189) rfl)) rfl), wi_M, by decide, by decide, by decide +kernel⟩, (nt_ok (nt_5 _ (List.mem_of_getElem? (i := 187) rfl)) rfl), (nt_ok (nt_5 _ (List.mem_of_getElem? (i := 188) rfl)) rfl)⟩
theorem cv_M_events : xo_cv mt_M_events 0 := ⟨⟨(nt_ok (nt_5 _ (List.mem_of_getElem? (i := 193) rfl)) rfl), wi_M, by decide, by decide, by decide +kernel⟩, (nt_ok (nt_5 _ (List.mem_of_getElem? (i := 191) rfl)) rfl), (nt_ok (nt_5 _ (List.mem_of_getElem? (i := 192) rfl)) rfl)⟩
theorem cv_M_event : xo_cv mt_M_event 2 := ⟨⟨(nt_ok (nt_5 _ (List.mem_of_getElem? (i := 197) rfl)) rfl), wi_M, by decide, by decide, by decide +kernel⟩, (nt_ok (nt_5 _ (List.mem_of_getElem? (i := 195) rfl)) rfl), (nt_ok (nt_5 _ (List.mem_of_getElem? (i := 196) rfl)) rfl)⟩
end
section
theorem dd_L_init_0 : decode mt_L_init.2.1 0 = .ok (.aload_n 0, 1) := by decide +kernel
theorem dd_L_init_1 : decode mt_L_init.2.1 1 = .ok (.invokespecial 3, 3) := by decide +kernel
theorem dd_L_init_4 : decode mt_L_init.2.1 4 = .ok (.aload_n 0, 1) := by decide +kernel
theorem dd_L_init_5 : decode mt_L_init.2.1 5 = .ok (.bipush 64, 2) := by decide +kernel
theorem dd_L_init_7 : decode mt_L_init.2.1 7 = .ok (.newarray .int, 2) := by decide +kernel
theorem dd_L_init_9 : decode mt_L_init.2.1 9 = .ok (.putfield 9, 3) := by decide +kernel
theorem dd_L_init_12 : decode mt_L_init.2.1 12 = .ok (.aload_n 0, 1) := by decide +kernel
theorem dd_L_init_13 : decode mt_L_init.2.1 13 = .ok (.bipush 64, 2) := by decide +kernel
theorem dd_L_init_15 : decode mt_L_init.2.1 15 = .ok (.newarray .int, 2) := by decide +kernel
theorem dd_L_init_17 : decode mt_L_init.2.1 17 = .ok (.putfield 15, 3) := by decide +kernel
theorem dd_L_init_20 : decode mt_L_init.2.1 20 = .ok (.aload_n 0, 1) := by decide +kernel
theorem dd_L_init_21 : decode mt_L_init.2.1 21 = .ok (.bipush 64, 2) := by decide +kernel
theorem dd_L_init_23 : decode mt_L_init.2.1 23 = .ok (.newarray .int, 2) := by decide +kernel
theorem dd_L_init_25 : decode mt_L_init.2.1 25 = .ok (.putfield 18, 3) := by decide +kernel
theorem dd_L_init_28 : decode mt_L_init.2.1 28 = .ok (.return_, 1) := by decide +kernel
theorem dd_R_init_0 : decode mt_R_init.2.1 0 = .ok (.aload_n 0, 1) := by decide +kernel
theorem dd_R_init_1 : decode mt_R_init.2.1 1 = .ok (.invokespecial 1, 3) := by decide +kernel
theorem dd_R_init_4 : decode mt_R_init.2.1 4 = .ok (.aload_n 0, 1) := by decide +kernel
theorem dd_R_init_5 : decode mt_R_init.2.1 5 = .ok (.iload_n 1, 1) := by decide +kernel
theorem dd_R_init_6 : decode mt_R_init.2.1 6 = .ok (.newarray .int, 2) := by decide +kernel
theorem dd_R_init_8 : decode mt_R_init.2.1 8 = .ok (.putfield 7, 3) := by decide +kernel
theorem dd_R_init_11 : decode mt_R_init.2.1 11 = .ok (.return_, 1) := by decide +kernel
theorem dd_J_init_0 : decode mt_J_init.2.1 0 = .ok (.aload_n 0, 1) := by decide +kernel
theorem dd_J_init_1 : decode mt_J_init.2.1 1 = .ok (.invokespecial 3, 3) := by decide +kernel
theorem dd_J_init_4 : decode mt_J_init.2.1 4 = .ok (.aload_n 0, 1) := by decide +kernel
theorem dd_J_init_5 : decode mt_J_init.2.1 5 = .ok (.new 9, 3) := by decide +kernel
theorem dd_J_init_8 : decode mt_J_init.2.1 8 = .ok (.dup, 1) := by decide +kernel
theorem dd_J_init_9 : decode mt_J_init.2.1 9 = .ok (.bipush 16, 2) := by decide +kernel
theorem dd_J_init_11 : decode mt_J_init.2.1 11 = .ok (.invokespecial 11, 3) := by decide +kernel
theorem dd_J_init_14 : decode mt_J_init.2.1 14 = .ok (.putfield 14, 3) := by decide +kernel
theorem dd_J_init_17 : decode mt_J_init.2.1 17 = .ok (.aload_n 0, 1) := by decide +kernel
theorem dd_J_init_18 : decode mt_J_init.2.1 18 = .ok (.new 9, 3) := by decide +kernel
theorem dd_J_init_21 : decode mt_J_init.2.1 21 = .ok (.dup, 1) := by decide +kernel
theorem dd_J_init_22 : decode mt_J_init.2.1 22 = .ok (.bipush 16, 2) := by decide +kernel
theorem dd_J_init_24 : decode mt_J_init.2.1 24 = .ok (.invokespecial 11, 3) := by decide +kernel
theorem dd_J_init_27 : decode mt_J_init.2.1 27 = .ok (.putfield 20, 3) := by decide +kernel
theorem dd_J_init_30 : decode mt_J_init.2.1 30 = .ok (.aload_n 0, 1) := by decide +kernel
theorem dd_J_init_31 : decode mt_J_init.2.1 31 = .ok (.new 9, 3) := by decide +kernel
theorem dd_J_init_34 : decode mt_J_init.2.1 34 = .ok (.dup, 1) := by decide +kernel
theorem dd_J_init_35 : decode mt_J_init.2.1 35 = .ok (.bipush 16, 2) := by decide +kernel
theorem dd_J_init_37 : decode mt_J_init.2.1 37 = .ok (.invokespecial 11, 3) := by decide +kernel
theorem dd_J_init_40 : decode mt_J_init.2.1 40 = .ok (.putfield 23, 3) := by decide +kernel
theorem dd_J_init_43 : decode mt_J_init.2.1 43 = .ok (.return_, 1) := by decide +kernel
theorem dd_C_init_0 : decode mt_C_init.2.1 0 = .ok (.aload_n 0, 1) := by decide +kernel
theorem dd_C_init_1 : decode mt_C_init.2.1 1 = .ok (.invokespecial 3, 3) := by decide +kernel
theorem dd_C_init_4 : decode mt_C_init.2.1 4 = .ok (.aload_n 0, 1) := by decide +kernel
theorem dd_C_init_5 : decode mt_C_init.2.1 5 = .ok (.new 9, 3) := by decide +kernel
theorem dd_C_init_8 : decode mt_C_init.2.1 8 = .ok (.dup, 1) := by decide +kernel
theorem dd_C_init_9 : decode mt_C_init.2.1 9 = .ok (.bipush 16, 2) := by decide +kernel
theorem dd_C_init_11 : decode mt_C_init.2.1 11 = .ok (.invokespecial 11, 3) := by decide +kernel
theorem dd_C_init_14 : decode mt_C_init.2.1 14 = .ok (.putfield 14, 3) := by decide +kernel
theorem dd_C_init_17 : decode mt_C_init.2.1 17 = .ok (.aload_n 0, 1) := by decide +kernel
theorem dd_C_init_18 : decode mt_C_init.2.1 18 = .ok (.iload_n 1, 1) := by decide +kernel
theorem dd_C_init_19 : decode mt_C_init.2.1 19 = .ok (.putfield 20, 3) := by decide +kernel
theorem dd_C_init_22 : decode mt_C_init.2.1 22 = .ok (.aload_n 0, 1) := by decide +kernel
theorem dd_C_init_23 : decode mt_C_init.2.1 23 = .ok (.iload_n 2, 1) := by decide +kernel
theorem dd_C_init_24 : decode mt_C_init.2.1 24 = .ok (.putfield 24, 3) := by decide +kernel
theorem dd_C_init_27 : decode mt_C_init.2.1 27 = .ok (.aload_n 0, 1) := by decide +kernel
theorem dd_C_init_28 : decode mt_C_init.2.1 28 = .ok (.iload_n 1, 1) := by decide +kernel
theorem dd_C_init_29 : decode mt_C_init.2.1 29 = .ok (.putfield 28, 3) := by decide +kernel
theorem dd_C_init_32 : decode mt_C_init.2.1 32 = .ok (.return_, 1) := by decide +kernel
theorem dd_L_note_0 : decode mt_L_note.2.1 0 = .ok (.aload_n 0, 1) := by decide +kernel
theorem dd_L_note_1 : decode mt_L_note.2.1 1 = .ok (.getfield 21, 3) := by decide +kernel
theorem dd_L_note_4 : decode mt_L_note.2.1 4 = .ok (.bipush 63, 2) := by decide +kernel
theorem dd_L_note_6 : decode mt_L_note.2.1 6 = .ok (.iand, 1) := by decide +kernel
theorem dd_L_note_7 : decode mt_L_note.2.1 7 = .ok (.istore 5, 2) := by decide +kernel
theorem dd_L_note_9 : decode mt_L_note.2.1 9 = .ok (.aload_n 0, 1) := by decide +kernel
theorem dd_L_note_10 : decode mt_L_note.2.1 10 = .ok (.getfield 9, 3) := by decide +kernel
theorem dd_L_note_13 : decode mt_L_note.2.1 13 = .ok (.iload 5, 2) := by decide +kernel
theorem dd_L_note_15 : decode mt_L_note.2.1 15 = .ok (.iload_n 1, 1) := by decide +kernel
theorem dd_L_note_16 : decode mt_L_note.2.1 16 = .ok (.bipush 32, 2) := by decide +kernel
theorem dd_L_note_18 : decode mt_L_note.2.1 18 = .ok (.iload_n 2, 1) := by decide +kernel
theorem dd_L_note_19 : decode mt_L_note.2.1 19 = .ok (.imul, 1) := by decide +kernel
theorem dd_L_note_20 : decode mt_L_note.2.1 20 = .ok (.iadd, 1) := by decide +kernel
theorem dd_L_note_21 : decode mt_L_note.2.1 21 = .ok (.iastore, 1) := by decide +kernel
theorem dd_L_note_22 : decode mt_L_note.2.1 22 = .ok (.aload_n 0, 1) := by decide +kernel
theorem dd_L_note_23 : decode mt_L_note.2.1 23 = .ok (.getfield 15, 3) := by decide +kernel
theorem dd_L_note_26 : decode mt_L_note.2.1 26 = .ok (.iload 5, 2) := by decide +kernel
theorem dd_L_note_28 : decode mt_L_note.2.1 28 = .ok (.iload_n 3, 1) := by decide +kernel
theorem dd_L_note_29 : decode mt_L_note.2.1 29 = .ok (.iastore, 1) := by decide +kernel
theorem dd_L_note_30 : decode mt_L_note.2.1 30 = .ok (.aload_n 0, 1) := by decide +kernel
theorem dd_L_note_31 : decode mt_L_note.2.1 31 = .ok (.getfield 18, 3) := by decide +kernel
theorem dd_L_note_34 : decode mt_L_note.2.1 34 = .ok (.iload 5, 2) := by decide +kernel
theorem dd_L_note_36 : decode mt_L_note.2.1 36 = .ok (.iload 4, 2) := by decide +kernel
theorem dd_L_note_38 : decode mt_L_note.2.1 38 = .ok (.iastore, 1) := by decide +kernel
theorem dd_L_note_39 : decode mt_L_note.2.1 39 = .ok (.aload_n 0, 1) := by decide +kernel
theorem dd_L_note_40 : decode mt_L_note.2.1 40 = .ok (.dup, 1) := by decide +kernel
theorem dd_L_note_41 : decode mt_L_note.2.1 41 = .ok (.getfield 21, 3) := by decide +kernel
theorem dd_L_note_44 : decode mt_L_note.2.1 44 = .ok (.iconst 1, 1) := by decide +kernel
theorem dd_L_note_45 : decode mt_L_note.2.1 45 = .ok (.iadd, 1) := by decide +kernel
theorem dd_L_note_46 : decode mt_L_note.2.1 46 = .ok (.putfield 21, 3) := by decide +kernel
theorem dd_L_note_49 : decode mt_L_note.2.1 49 = .ok (.return_, 1) := by decide +kernel
theorem dd_C_count_0 : decode mt_C_count.2.1 0 = .ok (.aload_n 0, 1) := by decide +kernel
theorem dd_C_count_1 : decode mt_C_count.2.1 1 = .ok (.getfield 14, 3) := by decide +kernel
theorem dd_C_count_4 : decode mt_C_count.2.1 4 = .ok (.getfield 31, 3) := by decide +kernel
theorem dd_C_count_7 : decode mt_C_count.2.1 7 = .ok (.ireturn, 1) := by decide +kernel
theorem dd_R_takeFirst_0 : decode mt_R_takeFirst.2.1 0 = .ok (.aload_n 0, 1) := by decide +kernel
theorem dd_R_takeFirst_1 : decode mt_R_takeFirst.2.1 1 = .ok (.getfield 13, 3) := by decide +kernel
theorem dd_R_takeFirst_4 : decode mt_R_takeFirst.2.1 4 = .ok (.ifCond .ne 5, 3) := by decide +kernel
theorem dd_R_takeFirst_7 : decode mt_R_takeFirst.2.1 7 = .ok (.iconst 0, 1) := by decide +kernel
theorem dd_R_takeFirst_8 : decode mt_R_takeFirst.2.1 8 = .ok (.ireturn, 1) := by decide +kernel
theorem dd_R_takeFirst_9 : decode mt_R_takeFirst.2.1 9 = .ok (.aload_n 0, 1) := by decide +kernel
theorem dd_R_takeFirst_10 : decode mt_R_takeFirst.2.1 10 = .ok (.getfield 7, 3) := by decide +kernel
theorem dd_R_takeFirst_13 : decode mt_R_takeFirst.2.1 13 = .ok (.aload_n 0, 1) := by decide +kernel
theorem dd_R_takeFirst_14 : decode mt_R_takeFirst.2.1 14 = .ok (.getfield 17, 3) := by decide +kernel
theorem dd_R_takeFirst_17 : decode mt_R_takeFirst.2.1 17 = .ok (.iaload, 1) := by decide +kernel
theorem dd_R_takeFirst_18 : decode mt_R_takeFirst.2.1 18 = .ok (.istore_n 1, 1) := by decide +kernel
theorem dd_R_takeFirst_19 : decode mt_R_takeFirst.2.1 19 = .ok (.aload_n 0, 1) := by decide +kernel
theorem dd_R_takeFirst_20 : decode mt_R_takeFirst.2.1 20 = .ok (.aload_n 0, 1) := by decide +kernel
theorem dd_R_takeFirst_21 : decode mt_R_takeFirst.2.1 21 = .ok (.getfield 17, 3) := by decide +kernel
theorem dd_R_takeFirst_24 : decode mt_R_takeFirst.2.1 24 = .ok (.iconst 1, 1) := by decide +kernel
theorem dd_R_takeFirst_25 : decode mt_R_takeFirst.2.1 25 = .ok (.iadd, 1) := by decide +kernel
theorem dd_R_takeFirst_26 : decode mt_R_takeFirst.2.1 26 = .ok (.aload_n 0, 1) := by decide +kernel
theorem dd_R_takeFirst_27 : decode mt_R_takeFirst.2.1 27 = .ok (.getfield 7, 3) := by decide +kernel
theorem dd_R_takeFirst_30 : decode mt_R_takeFirst.2.1 30 = .ok (.arraylength, 1) := by decide +kernel
theorem dd_R_takeFirst_31 : decode mt_R_takeFirst.2.1 31 = .ok (.irem, 1) := by decide +kernel
theorem dd_R_takeFirst_32 : decode mt_R_takeFirst.2.1 32 = .ok (.putfield 17, 3) := by decide +kernel
theorem dd_R_takeFirst_35 : decode mt_R_takeFirst.2.1 35 = .ok (.aload_n 0, 1) := by decide +kernel
theorem dd_R_takeFirst_36 : decode mt_R_takeFirst.2.1 36 = .ok (.dup, 1) := by decide +kernel
theorem dd_R_takeFirst_37 : decode mt_R_takeFirst.2.1 37 = .ok (.getfield 13, 3) := by decide +kernel
theorem dd_R_takeFirst_40 : decode mt_R_takeFirst.2.1 40 = .ok (.iconst 1, 1) := by decide +kernel
theorem dd_R_takeFirst_41 : decode mt_R_takeFirst.2.1 41 = .ok (.isub, 1) := by decide +kernel
theorem dd_R_takeFirst_42 : decode mt_R_takeFirst.2.1 42 = .ok (.putfield 13, 3) := by decide +kernel
theorem dd_R_takeFirst_45 : decode mt_R_takeFirst.2.1 45 = .ok (.iload_n 1, 1) := by decide +kernel
theorem dd_R_takeFirst_46 : decode mt_R_takeFirst.2.1 46 = .ok (.ireturn, 1) := by decide +kernel
theorem dd_C_sizeOf_0 : decode mt_C_sizeOf.2.1 0 = .ok (.aload_n 0, 1) := by decide +kernel
theorem dd_C_sizeOf_1 : decode mt_C_sizeOf.2.1 1 = .ok (.getfield 24, 3) := by decide +kernel
theorem dd_C_sizeOf_4 : decode mt_C_sizeOf.2.1 4 = .ok (.ifCond .eq 10, 3) := by decide +kernel
theorem dd_C_sizeOf_7 : decode mt_C_sizeOf.2.1 7 = .ok (.iload_n 1, 1) := by decide +kernel
theorem dd_C_sizeOf_8 : decode mt_C_sizeOf.2.1 8 = .ok (.bipush 7, 2) := by decide +kernel
theorem dd_C_sizeOf_10 : decode mt_C_sizeOf.2.1 10 = .ok (.iand, 1) := by decide +kernel
theorem dd_C_sizeOf_11 : decode mt_C_sizeOf.2.1 11 = .ok (.goto 4, 3) := by decide +kernel
theorem dd_C_sizeOf_14 : decode mt_C_sizeOf.2.1 14 = .ok (.iconst 1, 1) := by decide +kernel
theorem dd_C_sizeOf_15 : decode mt_C_sizeOf.2.1 15 = .ok (.ireturn, 1) := by decide +kernel
theorem dd_C_takeFirst_0 : decode mt_C_takeFirst.2.1 0 = .ok (.aload_n 0, 1) := by decide +kernel
theorem dd_C_takeFirst_1 : decode mt_C_takeFirst.2.1 1 = .ok (.getfield 14, 3) := by decide +kernel
theorem dd_C_takeFirst_4 : decode mt_C_takeFirst.2.1 4 = .ok (.invokevirtual 41, 3) := by decide +kernel
theorem dd_C_takeFirst_7 : decode mt_C_takeFirst.2.1 7 = .ok (.istore_n 1, 1) := by decide +kernel
theorem dd_C_takeFirst_8 : decode mt_C_takeFirst.2.1 8 = .ok (.aload_n 0, 1) := by decide +kernel
theorem dd_C_takeFirst_9 : decode mt_C_takeFirst.2.1 9 = .ok (.dup, 1) := by decide +kernel
theorem dd_C_takeFirst_10 : decode mt_C_takeFirst.2.1 10 = .ok (.getfield 28, 3) := by decide +kernel
theorem dd_C_takeFirst_13 : decode mt_C_takeFirst.2.1 13 = .ok (.aload_n 0, 1) := by decide +kernel
theorem dd_C_takeFirst_14 : decode mt_C_takeFirst.2.1 14 = .ok (.iload_n 1, 1) := by decide +kernel
theorem dd_C_takeFirst_15 : decode mt_C_takeFirst.2.1 15 = .ok (.invokevirtual 37, 3) := by decide +kernel
theorem dd_C_takeFirst_18 : decode mt_C_takeFirst.2.1 18 = .ok (.iadd, 1) := by decide +kernel
theorem dd_C_takeFirst_19 : decode mt_C_takeFirst.2.1 19 = .ok (.putfield 28, 3) := by decide +kernel
theorem dd_C_takeFirst_22 : decode mt_C_takeFirst.2.1 22 = .ok (.iload_n 1, 1) := by decide +kernel
theorem dd_C_takeFirst_23 : decode mt_C_takeFirst.2.1 23 = .ok (.ireturn, 1) := by decide +kernel
theorem dd_R_add_0 : decode mt_R_add.2.1 0 = .ok (.aload_n 0, 1) := by decide +kernel
theorem dd_R_add_1 : decode mt_R_add.2.1 1 = .ok (.getfield 13, 3) := by decide +kernel
theorem dd_R_add_4 : decode mt_R_add.2.1 4 = .ok (.aload_n 0, 1) := by decide +kernel
theorem dd_R_add_5 : decode mt_R_add.2.1 5 = .ok (.getfield 7, 3) := by decide +kernel
theorem dd_R_add_8 : decode mt_R_add.2.1 8 = .ok (.arraylength, 1) := by decide +kernel
theorem dd_R_add_9 : decode mt_R_add.2.1 9 = .ok (.if_icmp .ge 34, 3) := by decide +kernel
theorem dd_R_add_12 : decode mt_R_add.2.1 12 = .ok (.aload_n 0, 1) := by decide +kernel
theorem dd_R_add_13 : decode mt_R_add.2.1 13 = .ok (.getfield 7, 3) := by decide +kernel
theorem dd_R_add_16 : decode mt_R_add.2.1 16 = .ok (.aload_n 0, 1) := by decide +kernel
theorem dd_R_add_17 : decode mt_R_add.2.1 17 = .ok (.getfield 17, 3) := by decide +kernel
theorem dd_R_add_20 : decode mt_R_add.2.1 20 = .ok (.aload_n 0, 1) := by decide +kernel
theorem dd_R_add_21 : decode mt_R_add.2.1 21 = .ok (.getfield 13, 3) := by decide +kernel
theorem dd_R_add_24 : decode mt_R_add.2.1 24 = .ok (.iadd, 1) := by decide +kernel
theorem dd_R_add_25 : decode mt_R_add.2.1 25 = .ok (.aload_n 0, 1) := by decide +kernel
theorem dd_R_add_26 : decode mt_R_add.2.1 26 = .ok (.getfield 7, 3) := by decide +kernel
theorem dd_R_add_29 : decode mt_R_add.2.1 29 = .ok (.arraylength, 1) := by decide +kernel
theorem dd_R_add_30 : decode mt_R_add.2.1 30 = .ok (.irem, 1) := by decide +kernel
theorem dd_R_add_31 : decode mt_R_add.2.1 31 = .ok (.iload_n 1, 1) := by decide +kernel
theorem dd_R_add_32 : decode mt_R_add.2.1 32 = .ok (.iastore, 1) := by decide +kernel
theorem dd_R_add_33 : decode mt_R_add.2.1 33 = .ok (.aload_n 0, 1) := by decide +kernel
theorem dd_R_add_34 : decode mt_R_add.2.1 34 = .ok (.dup, 1) := by decide +kernel
theorem dd_R_add_35 : decode mt_R_add.2.1 35 = .ok (.getfield 13, 3) := by decide +kernel
theorem dd_R_add_38 : decode mt_R_add.2.1 38 = .ok (.iconst 1, 1) := by decide +kernel
theorem dd_R_add_39 : decode mt_R_add.2.1 39 = .ok (.iadd, 1) := by decide +kernel
theorem dd_R_add_40 : decode mt_R_add.2.1 40 = .ok (.putfield 13, 3) := by decide +kernel
theorem dd_R_add_43 : decode mt_R_add.2.1 43 = .ok (.return_, 1) := by decide +kernel
theorem dd_J_add_0 : decode mt_J_add.2.1 0 = .ok (.aload_n 0, 1) := by decide +kernel
theorem dd_J_add_1 : decode mt_J_add.2.1 1 = .ok (.getfield 14, 3) := by decide +kernel
theorem dd_J_add_4 : decode mt_J_add.2.1 4 = .ok (.iload_n 1, 1) := by decide +kernel
theorem dd_J_add_5 : decode mt_J_add.2.1 5 = .ok (.invokevirtual 30, 3) := by decide +kernel
theorem dd_J_add_8 : decode mt_J_add.2.1 8 = .ok (.aload_n 0, 1) := by decide +kernel
theorem dd_J_add_9 : decode mt_J_add.2.1 9 = .ok (.getfield 20, 3) := by decide +kernel
theorem dd_J_add_12 : decode mt_J_add.2.1 12 = .ok (.iload_n 2, 1) := by decide +kernel
theorem dd_J_add_13 : decode mt_J_add.2.1 13 = .ok (.invokevirtual 30, 3) := by decide +kernel
theorem dd_J_add_16 : decode mt_J_add.2.1 16 = .ok (.aload_n 0, 1) := by decide +kernel
theorem dd_J_add_17 : decode mt_J_add.2.1 17 = .ok (.getfield 23, 3) := by decide +kernel
theorem dd_J_add_20 : decode mt_J_add.2.1 20 = .ok (.iload_n 3, 1) := by decide +kernel
theorem dd_J_add_21 : decode mt_J_add.2.1 21 = .ok (.invokevirtual 30, 3) := by decide +kernel
theorem dd_J_add_24 : decode mt_J_add.2.1 24 = .ok (.return_, 1) := by decide +kernel
theorem dd_R_at_0 : decode mt_R_at.2.1 0 = .ok (.iload_n 1, 1) := by decide +kernel
theorem dd_R_at_1 : decode mt_R_at.2.1 1 = .ok (.ifCond .lt 31, 3) := by decide +kernel
theorem dd_R_at_4 : decode mt_R_at.2.1 4 = .ok (.iload_n 1, 1) := by decide +kernel
theorem dd_R_at_5 : decode mt_R_at.2.1 5 = .ok (.aload_n 0, 1) := by decide +kernel
theorem dd_R_at_6 : decode mt_R_at.2.1 6 = .ok (.getfield 13, 3) := by decide +kernel
theorem dd_R_at_9 : decode mt_R_at.2.1 9 = .ok (.if_icmp .ge 23, 3) := by decide +kernel
theorem dd_R_at_12 : decode mt_R_at.2.1 12 = .ok (.aload_n 0, 1) := by decide +kernel
theorem dd_R_at_13 : decode mt_R_at.2.1 13 = .ok (.getfield 7, 3) := by decide +kernel
theorem dd_R_at_16 : decode mt_R_at.2.1 16 = .ok (.aload_n 0, 1) := by decide +kernel
theorem dd_R_at_17 : decode mt_R_at.2.1 17 = .ok (.getfield 17, 3) := by decide +kernel
theorem dd_R_at_20 : decode mt_R_at.2.1 20 = .ok (.iload_n 1, 1) := by decide +kernel
theorem dd_R_at_21 : decode mt_R_at.2.1 21 = .ok (.iadd, 1) := by decide +kernel
theorem dd_R_at_22 : decode mt_R_at.2.1 22 = .ok (.aload_n 0, 1) := by decide +kernel
theorem dd_R_at_23 : decode mt_R_at.2.1 23 = .ok (.getfield 7, 3) := by decide +kernel
theorem dd_R_at_26 : decode mt_R_at.2.1 26 = .ok (.arraylength, 1) := by decide +kernel
theorem dd_R_at_27 : decode mt_R_at.2.1 27 = .ok (.irem, 1) := by decide +kernel
theorem dd_R_at_28 : decode mt_R_at.2.1 28 = .ok (.iaload, 1) := by decide +kernel
theorem dd_R_at_29 : decode mt_R_at.2.1 29 = .ok (.goto 4, 3) := by decide +kernel
theorem dd_R_at_32 : decode mt_R_at.2.1 32 = .ok (.iconst 0, 1) := by decide +kernel
theorem dd_R_at_33 : decode mt_R_at.2.1 33 = .ok (.ireturn, 1) := by decide +kernel
theorem dd_R_clear_0 : decode mt_R_clear.2.1 0 = .ok (.aload_n 0, 1) := by decide +kernel
theorem dd_R_clear_1 : decode mt_R_clear.2.1 1 = .ok (.iconst 0, 1) := by decide +kernel
theorem dd_R_clear_2 : decode mt_R_clear.2.1 2 = .ok (.putfield 13, 3) := by decide +kernel
theorem dd_R_clear_5 : decode mt_R_clear.2.1 5 = .ok (.return_, 1) := by decide +kernel
theorem dd_J_holds_0 : decode mt_J_holds.2.1 0 = .ok (.iconst 0, 1) := by decide +kernel
theorem dd_J_holds_1 : decode mt_J_holds.2.1 1 = .ok (.istore_n 3, 1) := by decide +kernel
theorem dd_J_holds_2 : decode mt_J_holds.2.1 2 = .ok (.iload_n 3, 1) := by decide +kernel
theorem dd_J_holds_3 : decode mt_J_holds.2.1 3 = .ok (.aload_n 0, 1) := by decide +kernel
theorem dd_J_holds_4 : decode mt_J_holds.2.1 4 = .ok (.getfield 14, 3) := by decide +kernel
theorem dd_J_holds_7 : decode mt_J_holds.2.1 7 = .ok (.getfield 26, 3) := by decide +kernel
theorem dd_J_holds_10 : decode mt_J_holds.2.1 10 = .ok (.if_icmp .ge 35, 3) := by decide +kernel
theorem dd_J_holds_13 : decode mt_J_holds.2.1 13 = .ok (.aload_n 0, 1) := by decide +kernel
theorem dd_J_holds_14 : decode mt_J_holds.2.1 14 = .ok (.getfield 14, 3) := by decide +kernel
theorem dd_J_holds_17 : decode mt_J_holds.2.1 17 = .ok (.iload_n 3, 1) := by decide +kernel
theorem dd_J_holds_18 : decode mt_J_holds.2.1 18 = .ok (.invokevirtual 33, 3) := by decide +kernel
theorem dd_J_holds_21 : decode mt_J_holds.2.1 21 = .ok (.iload_n 1, 1) := by decide +kernel
theorem dd_J_holds_22 : decode mt_J_holds.2.1 22 = .ok (.if_icmp .ne 17, 3) := by decide +kernel
theorem dd_J_holds_25 : decode mt_J_holds.2.1 25 = .ok (.aload_n 0, 1) := by decide +kernel
theorem dd_J_holds_26 : decode mt_J_holds.2.1 26 = .ok (.getfield 20, 3) := by decide +kernel
theorem dd_J_holds_29 : decode mt_J_holds.2.1 29 = .ok (.iload_n 3, 1) := by decide +kernel
theorem dd_J_holds_30 : decode mt_J_holds.2.1 30 = .ok (.invokevirtual 33, 3) := by decide +kernel
theorem dd_J_holds_33 : decode mt_J_holds.2.1 33 = .ok (.iload_n 2, 1) := by decide +kernel
theorem dd_J_holds_34 : decode mt_J_holds.2.1 34 = .ok (.if_icmp .ne 5, 3) := by decide +kernel
theorem dd_J_holds_37 : decode mt_J_holds.2.1 37 = .ok (.iconst 1, 1) := by decide +kernel
theorem dd_J_holds_38 : decode mt_J_holds.2.1 38 = .ok (.ireturn, 1) := by decide +kernel
theorem dd_J_holds_39 : decode mt_J_holds.2.1 39 = .ok (.iinc 3 1, 3) := by decide +kernel
theorem dd_J_holds_42 : decode mt_J_holds.2.1 42 = .ok (.goto (-40), 3) := by decide +kernel
theorem dd_J_holds_45 : decode mt_J_holds.2.1 45 = .ok (.iconst 0, 1) := by decide +kernel
theorem dd_J_holds_46 : decode mt_J_holds.2.1 46 = .ok (.ireturn, 1) := by decide +kernel
theorem dd_C_add_0 : decode mt_C_add.2.1 0 = .ok (.aload_n 0, 1) := by decide +kernel
theorem dd_C_add_1 : decode mt_C_add.2.1 1 = .ok (.getfield 14, 3) := by decide +kernel
theorem dd_C_add_4 : decode mt_C_add.2.1 4 = .ok (.iload_n 1, 1) := by decide +kernel
theorem dd_C_add_5 : decode mt_C_add.2.1 5 = .ok (.invokevirtual 34, 3) := by decide +kernel
theorem dd_C_add_8 : decode mt_C_add.2.1 8 = .ok (.aload_n 0, 1) := by decide +kernel
theorem dd_C_add_9 : decode mt_C_add.2.1 9 = .ok (.dup, 1) := by decide +kernel
theorem dd_C_add_10 : decode mt_C_add.2.1 10 = .ok (.getfield 28, 3) := by decide +kernel
theorem dd_C_add_13 : decode mt_C_add.2.1 13 = .ok (.aload_n 0, 1) := by decide +kernel
theorem dd_C_add_14 : decode mt_C_add.2.1 14 = .ok (.iload_n 1, 1) := by decide +kernel
theorem dd_C_add_15 : decode mt_C_add.2.1 15 = .ok (.invokevirtual 37, 3) := by decide +kernel
theorem dd_C_add_18 : decode mt_C_add.2.1 18 = .ok (.isub, 1) := by decide +kernel
theorem dd_C_add_19 : decode mt_C_add.2.1 19 = .ok (.putfield 28, 3) := by decide +kernel
theorem dd_C_add_22 : decode mt_C_add.2.1 22 = .ok (.return_, 1) := by decide +kernel
theorem dd_C_clear_0 : decode mt_C_clear.2.1 0 = .ok (.aload_n 0, 1) := by decide +kernel
theorem dd_C_clear_1 : decode mt_C_clear.2.1 1 = .ok (.getfield 14, 3) := by decide +kernel
theorem dd_C_clear_4 : decode mt_C_clear.2.1 4 = .ok (.invokevirtual 45, 3) := by decide +kernel
theorem dd_C_clear_7 : decode mt_C_clear.2.1 7 = .ok (.aload_n 0, 1) := by decide +kernel
theorem dd_C_clear_8 : decode mt_C_clear.2.1 8 = .ok (.aload_n 0, 1) := by decide +kernel
theorem dd_C_clear_9 : decode mt_C_clear.2.1 9 = .ok (.getfield 20, 3) := by decide +kernel
theorem dd_C_clear_12 : decode mt_C_clear.2.1 12 = .ok (.putfield 28, 3) := by decide +kernel
theorem dd_C_clear_15 : decode mt_C_clear.2.1 15 = .ok (.return_, 1) := by decide +kernel
theorem dd_J_count_0 : decode mt_J_count.2.1 0 = .ok (.aload_n 0, 1) := by decide +kernel
theorem dd_J_count_1 : decode mt_J_count.2.1 1 = .ok (.getfield 14, 3) := by decide +kernel
theorem dd_J_count_4 : decode mt_J_count.2.1 4 = .ok (.getfield 26, 3) := by decide +kernel
theorem dd_J_count_7 : decode mt_J_count.2.1 7 = .ok (.ireturn, 1) := by decide +kernel
theorem dd_L_tell_0 : decode mt_L_tell.2.1 0 = .ok (.iload_n 1, 1) := by decide +kernel
theorem dd_L_tell_1 : decode mt_L_tell.2.1 1 = .ok (.ifCond .lt 22, 3) := by decide +kernel
theorem dd_L_tell_4 : decode mt_L_tell.2.1 4 = .ok (.iload_n 1, 1) := by decide +kernel
theorem dd_L_tell_5 : decode mt_L_tell.2.1 5 = .ok (.aload_n 0, 1) := by decide +kernel
theorem dd_L_tell_6 : decode mt_L_tell.2.1 6 = .ok (.getfield 21, 3) := by decide +kernel
theorem dd_L_tell_9 : decode mt_L_tell.2.1 9 = .ok (.if_icmp .ge 14, 3) := by decide +kernel
theorem dd_L_tell_12 : decode mt_L_tell.2.1 12 = .ok (.iload_n 1, 1) := by decide +kernel
theorem dd_L_tell_13 : decode mt_L_tell.2.1 13 = .ok (.aload_n 0, 1) := by decide +kernel
theorem dd_L_tell_14 : decode mt_L_tell.2.1 14 = .ok (.getfield 21, 3) := by decide +kernel
theorem dd_L_tell_17 : decode mt_L_tell.2.1 17 = .ok (.bipush 64, 2) := by decide +kernel
theorem dd_L_tell_19 : decode mt_L_tell.2.1 19 = .ok (.isub, 1) := by decide +kernel
theorem dd_L_tell_20 : decode mt_L_tell.2.1 20 = .ok (.if_icmp .ge 5, 3) := by decide +kernel
theorem dd_L_tell_23 : decode mt_L_tell.2.1 23 = .ok (.iconst 0, 1) := by decide +kernel
theorem dd_L_tell_24 : decode mt_L_tell.2.1 24 = .ok (.ireturn, 1) := by decide +kernel
theorem dd_L_tell_25 : decode mt_L_tell.2.1 25 = .ok (.iload_n 1, 1) := by decide +kernel
theorem dd_L_tell_26 : decode mt_L_tell.2.1 26 = .ok (.bipush 63, 2) := by decide +kernel
theorem dd_L_tell_28 : decode mt_L_tell.2.1 28 = .ok (.iand, 1) := by decide +kernel
theorem dd_L_tell_29 : decode mt_L_tell.2.1 29 = .ok (.istore_n 3, 1) := by decide +kernel
theorem dd_L_tell_30 : decode mt_L_tell.2.1 30 = .ok (.iload_n 2, 1) := by decide +kernel
theorem dd_L_tell_31 : decode mt_L_tell.2.1 31 = .ok (.tableswitch 46 0 2 #[25, 32, 39], 25) := by decide +kernel
theorem dd_L_tell_56 : decode mt_L_tell.2.1 56 = .ok (.aload_n 0, 1) := by decide +kernel
theorem dd_L_tell_57 : decode mt_L_tell.2.1 57 = .ok (.getfield 9, 3) := by decide +kernel
theorem dd_L_tell_60 : decode mt_L_tell.2.1 60 = .ok (.iload_n 3, 1) := by decide +kernel
theorem dd_L_tell_61 : decode mt_L_tell.2.1 61 = .ok (.iaload, 1) := by decide +kernel
theorem dd_L_tell_62 : decode mt_L_tell.2.1 62 = .ok (.ireturn, 1) := by decide +kernel
theorem dd_L_tell_63 : decode mt_L_tell.2.1 63 = .ok (.aload_n 0, 1) := by decide +kernel
theorem dd_L_tell_64 : decode mt_L_tell.2.1 64 = .ok (.getfield 15, 3) := by decide +kernel
theorem dd_L_tell_67 : decode mt_L_tell.2.1 67 = .ok (.iload_n 3, 1) := by decide +kernel
theorem dd_L_tell_68 : decode mt_L_tell.2.1 68 = .ok (.iaload, 1) := by decide +kernel
theorem dd_L_tell_69 : decode mt_L_tell.2.1 69 = .ok (.ireturn, 1) := by decide +kernel
theorem dd_L_tell_70 : decode mt_L_tell.2.1 70 = .ok (.aload_n 0, 1) := by decide +kernel
theorem dd_L_tell_71 : decode mt_L_tell.2.1 71 = .ok (.getfield 18, 3) := by decide +kernel
theorem dd_L_tell_74 : decode mt_L_tell.2.1 74 = .ok (.iload_n 3, 1) := by decide +kernel
theorem dd_L_tell_75 : decode mt_L_tell.2.1 75 = .ok (.iaload, 1) := by decide +kernel
theorem dd_L_tell_76 : decode mt_L_tell.2.1 76 = .ok (.ireturn, 1) := by decide +kernel
theorem dd_L_tell_77 : decode mt_L_tell.2.1 77 = .ok (.iconst 0, 1) := by decide +kernel
theorem dd_L_tell_78 : decode mt_L_tell.2.1 78 = .ok (.ireturn, 1) := by decide +kernel
end
section
def fc_L_init (t : xo_N) (H : xo_H) : Option (xo_H) :=
  xo_na 0 H (t.1 + 1, t.2) 64 (64 : Int32) fun H1 =>
  xo_pp 1 0 H1 (some t) (some (t.1 + 1, t.2)) fun H3 =>
  xo_na 0 H3 (t.1 + 2, t.2) 64 (64 : Int32) fun H4 =>
  xo_pp 1 1 H4 (some t) (some (t.1 + 2, t.2)) fun H6 =>
  xo_na 0 H6 (t.1 + 3, t.2) 64 (64 : Int32) fun H7 =>
  xo_pp 1 2 H7 (some t) (some (t.1 + 3, t.2)) fun H9 =>
  some H9

set_option maxRecDepth 100000 in
set_option maxHeartbeats 4000000 in
theorem kb_L_init (t : xo_N) (H : xo_H) (r : xo_H) : xo_X mt_L_init 3 192 xo_jv r 0 [(0, .inr (some t))] [] H (fc_L_init t H) := by
  unfold fc_L_init
  refine xo_aload_n (pc' := 1) dd_L_init_0 rfl 0 rfl rfl ?_
  refine xo_oinit (pc' := 4) dd_L_init_1 wo_L_3 wo_inst wo_code (by decide) (Nat.le_of_ble_eq_true rfl) rfl ?_
  refine xo_aload_n (pc' := 5) dd_L_init_4 rfl 0 rfl rfl ?_
  refine xo_bipush (pc' := 7) (v := (64 : Int32)) dd_L_init_5 (by decide) rfl ?_
  refine xo_newa (pc' := 9) dd_L_init_7 rfl (by decide) wa_0 (by decide) rfl rfl rfl fun H1 => ?_
  refine xo_putPF (pc' := 12) dd_L_init_9 fF_L_9 rfl (by decide) (by decide +kernel : parseFieldDescriptor "[I" = some (.array .int)) (Or.inr ⟨_, rfl⟩) rfl fun H3 => ?_
  refine xo_aload_n (pc' := 13) dd_L_init_12 rfl 0 rfl rfl ?_
  refine xo_bipush (pc' := 15) (v := (64 : Int32)) dd_L_init_13 (by decide) rfl ?_
  refine xo_newa (pc' := 17) dd_L_init_15 rfl (by decide) wa_0 (by decide) rfl rfl rfl fun H4 => ?_
  refine xo_putPF (pc' := 20) dd_L_init_17 fF_L_15 rfl (by decide) (by decide +kernel : parseFieldDescriptor "[I" = some (.array .int)) (Or.inr ⟨_, rfl⟩) rfl fun H6 => ?_
  refine xo_aload_n (pc' := 21) dd_L_init_20 rfl 0 rfl rfl ?_
  refine xo_bipush (pc' := 23) (v := (64 : Int32)) dd_L_init_21 (by decide) rfl ?_
  refine xo_newa (pc' := 25) dd_L_init_23 rfl (by decide) wa_0 (by decide) rfl rfl rfl fun H7 => ?_
  refine xo_putPF (pc' := 28) dd_L_init_25 fF_L_18 rfl (by decide) (by decide +kernel : parseFieldDescriptor "[I" = some (.array .int)) (Or.inr ⟨_, rfl⟩) rfl fun H9 => ?_
  exact xo_vret dd_L_init_28 rfl
set_option maxRecDepth 100000 in
set_option maxHeartbeats 4000000 in
theorem kc_L_init (t : xo_N) (H : xo_H) (r : xo_H) (hk : fc_L_init t H = some r) : xo_M mt_L_init [.inr (some t)] H (xo_jv r) :=
  xo_entry hk (by decide +kernel) (Nat.le_of_ble_eq_true rfl) (kb_L_init t H r)
def fc_R_init (t : xo_N) (x1 : Int32) (H : xo_H) : Option (xo_H) :=
  xo_na 0 H (t.1 + 1, t.2) 16 x1 fun H1 =>
  xo_pp 3 0 H1 (some t) (some (t.1 + 1, t.2)) fun H3 =>
  some H3

set_option maxRecDepth 100000 in
set_option maxHeartbeats 4000000 in
theorem kb_R_init (t : xo_N) (x1 : Int32) (H : xo_H) (r : xo_H) : xo_X mt_R_init 1 16 xo_jv r 0 [(0, .inr (some t)), (1, .inl x1)] [] H (fc_R_init t x1 H) := by
  unfold fc_R_init
  refine xo_aload_n (pc' := 1) dd_R_init_0 rfl 0 rfl rfl ?_
  refine xo_oinit (pc' := 4) dd_R_init_1 wo_R_1 wo_inst wo_code (by decide) (Nat.le_of_ble_eq_true rfl) rfl ?_
  refine xo_aload_n (pc' := 5) dd_R_init_4 rfl 0 rfl rfl ?_
  refine xo_iload_n (pc' := 6) dd_R_init_5 rfl 1 rfl rfl ?_
  refine xo_newa (pc' := 8) dd_R_init_6 rfl (by decide) wa_0 (by decide) rfl rfl rfl fun H1 => ?_
  refine xo_putPF (pc' := 11) dd_R_init_8 fF_R_7 rfl (by decide) (by decide +kernel : parseFieldDescriptor "[I" = some (.array .int)) (Or.inr ⟨_, rfl⟩) rfl fun H3 => ?_
  exact xo_vret dd_R_init_11 rfl
set_option maxRecDepth 100000 in
set_option maxHeartbeats 4000000 in
theorem kc_R_init (t : xo_N) (x1 : Int32) (H : xo_H) (r : xo_H) (hk : fc_R_init t x1 H = some r) : xo_M mt_R_init [.inr (some t), .inl x1] H (xo_jv r) :=
  xo_entry hk (by decide +kernel) (Nat.le_of_ble_eq_true rfl) (kb_R_init t x1 H r)
def fc_J_init (t : xo_N) (H : xo_H) : Option (xo_H) :=
  xo_nw 3 H (t.1 + 1, t.2) fun H1 =>
  (fc_R_init (t.1 + 1, t.2) (16 : Int32) H1).bind fun H3 =>
  xo_pp 2 0 H3 (some t) (some (t.1 + 1, t.2)) fun H4 =>
  xo_nw 3 H4 (t.1 + 3, t.2) fun H5 =>
  (fc_R_init (t.1 + 3, t.2) (16 : Int32) H5).bind fun H7 =>
  xo_pp 2 1 H7 (some t) (some (t.1 + 3, t.2)) fun H8 =>
  xo_nw 3 H8 (t.1 + 5, t.2) fun H9 =>
  (fc_R_init (t.1 + 5, t.2) (16 : Int32) H9).bind fun H11 =>
  xo_pp 2 2 H11 (some t) (some (t.1 + 5, t.2)) fun H12 =>
  some H12

set_option maxRecDepth 100000 in
set_option maxHeartbeats 4000000 in
theorem kb_J_init (t : xo_N) (H : xo_H) (r : xo_H) : xo_X mt_J_init 6 57 xo_jv r 0 [(0, .inr (some t))] [] H (fc_J_init t H) := by
  unfold fc_J_init
  refine xo_aload_n (pc' := 1) dd_J_init_0 rfl 0 rfl rfl ?_
  refine xo_oinit (pc' := 4) dd_J_init_1 wo_J_3 wo_inst wo_code (by decide) (Nat.le_of_ble_eq_true rfl) rfl ?_
  refine xo_aload_n (pc' := 5) dd_J_init_4 rfl 0 rfl rfl ?_
  refine xo_new (pc' := 8) dd_J_init_5 co_J_9 rfl rfl rfl fun H1 => ?_
  refine xo_dup (pc' := 9) dd_J_init_8 rfl ?_
  refine xo_bipush (pc' := 11) (v := (16 : Int32)) dd_J_init_9 (by decide) rfl ?_
  refine xo_callIv (as := [.inl (16 : Int32)]) (n := (t.1 + 1, t.2)) (st := [.inr (some (t.1 + 1, t.2)), .inr (some t)]) (pc' := 14) dd_J_init_11 cv_R_init ml_J_11 rfl ⟨by decide, by decide⟩ rfl rfl rfl (Nat.le_of_ble_eq_true rfl) rfl (fun q h => kc_R_init (t.1 + 1, t.2) (16 : Int32) H1 q h) fun H3 => ?_
  refine xo_putPF (pc' := 17) dd_J_init_14 fF_J_14 rfl (by decide) (by decide +kernel : parseFieldDescriptor "LFlowKernel$Row;" = some (.object "FlowKernel$Row")) (Or.inl ⟨_, rfl⟩) rfl fun H4 => ?_
  refine xo_aload_n (pc' := 18) dd_J_init_17 rfl 0 rfl rfl ?_
  refine xo_new (pc' := 21) dd_J_init_18 co_J_9 rfl rfl rfl fun H5 => ?_
  refine xo_dup (pc' := 22) dd_J_init_21 rfl ?_
  refine xo_bipush (pc' := 24) (v := (16 : Int32)) dd_J_init_22 (by decide) rfl ?_
  refine xo_callIv (as := [.inl (16 : Int32)]) (n := (t.1 + 3, t.2)) (st := [.inr (some (t.1 + 3, t.2)), .inr (some t)]) (pc' := 27) dd_J_init_24 cv_R_init ml_J_11 rfl ⟨by decide, by decide⟩ rfl rfl rfl (Nat.le_of_ble_eq_true rfl) rfl (fun q h => kc_R_init (t.1 + 3, t.2) (16 : Int32) H5 q h) fun H7 => ?_
  refine xo_putPF (pc' := 30) dd_J_init_27 fF_J_20 rfl (by decide) (by decide +kernel : parseFieldDescriptor "LFlowKernel$Row;" = some (.object "FlowKernel$Row")) (Or.inl ⟨_, rfl⟩) rfl fun H8 => ?_
  refine xo_aload_n (pc' := 31) dd_J_init_30 rfl 0 rfl rfl ?_
  refine xo_new (pc' := 34) dd_J_init_31 co_J_9 rfl rfl rfl fun H9 => ?_
  refine xo_dup (pc' := 35) dd_J_init_34 rfl ?_
  refine xo_bipush (pc' := 37) (v := (16 : Int32)) dd_J_init_35 (by decide) rfl ?_
  refine xo_callIv (as := [.inl (16 : Int32)]) (n := (t.1 + 5, t.2)) (st := [.inr (some (t.1 + 5, t.2)), .inr (some t)]) (pc' := 40) dd_J_init_37 cv_R_init ml_J_11 rfl ⟨by decide, by decide⟩ rfl rfl rfl (Nat.le_of_ble_eq_true rfl) rfl (fun q h => kc_R_init (t.1 + 5, t.2) (16 : Int32) H9 q h) fun H11 => ?_
  refine xo_putPF (pc' := 43) dd_J_init_40 fF_J_23 rfl (by decide) (by decide +kernel : parseFieldDescriptor "LFlowKernel$Row;" = some (.object "FlowKernel$Row")) (Or.inl ⟨_, rfl⟩) rfl fun H12 => ?_
  exact xo_vret dd_J_init_43 rfl
set_option maxRecDepth 100000 in
set_option maxHeartbeats 4000000 in
theorem kc_J_init (t : xo_N) (H : xo_H) (r : xo_H) (hk : fc_J_init t H = some r) : xo_M mt_J_init [.inr (some t)] H (xo_jv r) :=
  xo_entry hk (by decide +kernel) (Nat.le_of_ble_eq_true rfl) (kb_J_init t H r)
def fc_C_init (t : xo_N) (x1 : Int32) (x2 : Int32) (H : xo_H) : Option (xo_H) :=
  xo_nw 3 H (t.1 + 1, t.2) fun H1 =>
  (fc_R_init (t.1 + 1, t.2) (16 : Int32) H1).bind fun H3 =>
  xo_pp 4 0 H3 (some t) (some (t.1 + 1, t.2)) fun H4 =>
  xo_pf 4 1 H4 (some t) x1 fun H5 =>
  xo_pz 4 2 H5 (some t) x2 fun H6 =>
  xo_pf 4 3 H6 (some t) x1 fun H7 =>
  some H7

set_option maxRecDepth 100000 in
set_option maxHeartbeats 4000000 in
theorem kb_C_init (t : xo_N) (x1 : Int32) (x2 : Int32) (H : xo_H) (r : xo_H) : xo_X mt_C_init 2 19 xo_jv r 0 [(0, .inr (some t)), (1, .inl x1), (2, .inl x2)] [] H (fc_C_init t x1 x2 H) := by
  unfold fc_C_init
  refine xo_aload_n (pc' := 1) dd_C_init_0 rfl 0 rfl rfl ?_
  refine xo_oinit (pc' := 4) dd_C_init_1 wo_C_3 wo_inst wo_code (by decide) (Nat.le_of_ble_eq_true rfl) rfl ?_
  refine xo_aload_n (pc' := 5) dd_C_init_4 rfl 0 rfl rfl ?_
  refine xo_new (pc' := 8) dd_C_init_5 co_C_9 rfl rfl rfl fun H1 => ?_
  refine xo_dup (pc' := 9) dd_C_init_8 rfl ?_
  refine xo_bipush (pc' := 11) (v := (16 : Int32)) dd_C_init_9 (by decide) rfl ?_
  refine xo_callIv (as := [.inl (16 : Int32)]) (n := (t.1 + 1, t.2)) (st := [.inr (some (t.1 + 1, t.2)), .inr (some t)]) (pc' := 14) dd_C_init_11 cv_R_init ml_C_11 rfl ⟨by decide, by decide⟩ rfl rfl rfl (Nat.le_of_ble_eq_true rfl) rfl (fun q h => kc_R_init (t.1 + 1, t.2) (16 : Int32) H1 q h) fun H3 => ?_
  refine xo_putPF (pc' := 17) dd_C_init_14 fF_C_14 rfl (by decide) (by decide +kernel : parseFieldDescriptor "LFlowKernel$Row;" = some (.object "FlowKernel$Row")) (Or.inl ⟨_, rfl⟩) rfl fun H4 => ?_
  refine xo_aload_n (pc' := 18) dd_C_init_17 rfl 0 rfl rfl ?_
  refine xo_iload_n (pc' := 19) dd_C_init_18 rfl 1 rfl rfl ?_
  refine xo_putIF (pc' := 22) dd_C_init_19 fF_C_20 rfl rfl fun H5 => ?_
  refine xo_aload_n (pc' := 23) dd_C_init_22 rfl 0 rfl rfl ?_
  refine xo_iload_n (pc' := 24) dd_C_init_23 rfl 2 rfl rfl ?_
  refine xo_putZF (pc' := 27) dd_C_init_24 fF_C_24 rfl rfl fun H6 => ?_
  refine xo_aload_n (pc' := 28) dd_C_init_27 rfl 0 rfl rfl ?_
  refine xo_iload_n (pc' := 29) dd_C_init_28 rfl 1 rfl rfl ?_
  refine xo_putI (pc' := 32) dd_C_init_29 ff_C_28 rfl fun H7 => ?_
  exact xo_vret dd_C_init_32 rfl
set_option maxRecDepth 100000 in
set_option maxHeartbeats 4000000 in
theorem kc_C_init (t : xo_N) (x1 : Int32) (x2 : Int32) (H : xo_H) (r : xo_H) (hk : fc_C_init t x1 x2 H = some r) : xo_M mt_C_init [.inr (some t), .inl x1, .inl x2] H (xo_jv r) :=
  xo_entry hk (by decide +kernel) (Nat.le_of_ble_eq_true rfl) (kb_C_init t x1 x2 H r)
def fc_L_note (t : xo_N) (x1 : Int32) (x2 : Int32) (x3 : Int32) (x4 : Int32) (H : xo_H) : Option (xo_H) :=
  xo_gf 1 3 H (some t) fun v1 =>
  xo_gp 1 0 H (some t) fun o2 =>
  xo_as H o2 (v1 &&& (63 : Int32)) (x1 + ((32 : Int32) * x2)) fun H3 =>
  xo_gp 1 1 H3 (some t) fun o4 =>
  xo_as H3 o4 (v1 &&& (63 : Int32)) x3 fun H5 =>
  xo_gp 1 2 H5 (some t) fun o6 =>
  xo_as H5 o6 (v1 &&& (63 : Int32)) x4 fun H7 =>
  xo_gf 1 3 H7 (some t) fun v8 =>
  xo_pf 1 3 H7 (some t) (v8 + (1 : Int32)) fun H9 =>
  some H9

set_option maxRecDepth 100000 in
set_option maxHeartbeats 4000000 in
theorem kb_L_note (t : xo_N) (x1 : Int32) (x2 : Int32) (x3 : Int32) (x4 : Int32) (H : xo_H) (r : xo_H) : xo_X mt_L_note 0 0 xo_jv r 0 [(0, .inr (some t)), (1, .inl x1), (2, .inl x2), (3, .inl x3), (4, .inl x4)] [] H (fc_L_note t x1 x2 x3 x4 H) := by
  unfold fc_L_note
  refine xo_aload_n (pc' := 1) dd_L_note_0 rfl 0 rfl rfl ?_
  refine xo_getI (pc' := 4) dd_L_note_1 ff_L_21 (by decide) rfl fun v1 => ?_
  refine xo_bipush (pc' := 6) (v := (63 : Int32)) dd_L_note_4 (by decide) rfl ?_
  refine xo_iand (pc' := 7) dd_L_note_6 rfl ?_
  refine xo_istore (pc' := 9) dd_L_note_7 (by decide) rfl rfl ?_
  refine xo_aload_n (pc' := 10) dd_L_note_9 rfl 1 rfl rfl ?_
  refine xo_getP (pc' := 13) dd_L_note_10 ff_L_9 (by decide) rfl fun o2 => ?_
  refine xo_iload (pc' := 15) dd_L_note_13 0 rfl rfl ?_
  refine xo_iload_n (pc' := 16) dd_L_note_15 rfl 2 rfl rfl ?_
  refine xo_bipush (pc' := 18) (v := (32 : Int32)) dd_L_note_16 (by decide) rfl ?_
  refine xo_iload_n (pc' := 19) dd_L_note_18 rfl 3 rfl rfl ?_
  refine xo_imul (pc' := 20) dd_L_note_19 rfl ?_
  refine xo_iadd (pc' := 21) dd_L_note_20 rfl ?_
  refine xo_iast (pc' := 22) dd_L_note_21 rfl fun H3 => ?_
  refine xo_aload_n (pc' := 23) dd_L_note_22 rfl 1 rfl rfl ?_
  refine xo_getP (pc' := 26) dd_L_note_23 ff_L_15 (by decide) rfl fun o4 => ?_
  refine xo_iload (pc' := 28) dd_L_note_26 0 rfl rfl ?_
  refine xo_iload_n (pc' := 29) dd_L_note_28 rfl 4 rfl rfl ?_
  refine xo_iast (pc' := 30) dd_L_note_29 rfl fun H5 => ?_
  refine xo_aload_n (pc' := 31) dd_L_note_30 rfl 1 rfl rfl ?_
  refine xo_getP (pc' := 34) dd_L_note_31 ff_L_18 (by decide) rfl fun o6 => ?_
  refine xo_iload (pc' := 36) dd_L_note_34 0 rfl rfl ?_
  refine xo_iload (pc' := 38) dd_L_note_36 5 rfl rfl ?_
  refine xo_iast (pc' := 39) dd_L_note_38 rfl fun H7 => ?_
  refine xo_aload_n (pc' := 40) dd_L_note_39 rfl 1 rfl rfl ?_
  refine xo_dup (pc' := 41) dd_L_note_40 rfl ?_
  refine xo_getI (pc' := 44) dd_L_note_41 ff_L_21 (by decide) rfl fun v8 => ?_
  refine xo_iconst (pc' := 45) (v := (1 : Int32)) dd_L_note_44 (by decide) rfl ?_
  refine xo_iadd (pc' := 46) dd_L_note_45 rfl ?_
  refine xo_putI (pc' := 49) dd_L_note_46 ff_L_21 rfl fun H9 => ?_
  exact xo_vret dd_L_note_49 rfl
set_option maxRecDepth 100000 in
set_option maxHeartbeats 4000000 in
theorem kc_L_note (t : xo_N) (x1 : Int32) (x2 : Int32) (x3 : Int32) (x4 : Int32) (H : xo_H) (r : xo_H) (hk : fc_L_note t x1 x2 x3 x4 H = some r) : xo_M mt_L_note [.inr (some t), .inl x1, .inl x2, .inl x3, .inl x4] H (xo_jv r) :=
  xo_entry hk (by decide +kernel) (Nat.le_of_ble_eq_true rfl) (kb_L_note t x1 x2 x3 x4 H r)
def fc_C_count (t : xo_N) (H : xo_H) : Option (Int32 × xo_H) :=
  xo_gp 4 0 H (some t) fun o1 =>
  xo_gf 3 2 H o1 fun v2 =>
  some (v2, H)

set_option maxRecDepth 100000 in
set_option maxHeartbeats 4000000 in
theorem kb_C_count (t : xo_N) (H : xo_H) (r : Int32 × xo_H) : xo_X mt_C_count 0 0 xo_ji r 0 [(0, .inr (some t))] [] H (fc_C_count t H) := by
  unfold fc_C_count
  refine xo_aload_n (pc' := 1) dd_C_count_0 rfl 0 rfl rfl ?_
  refine xo_getP (pc' := 4) dd_C_count_1 ff_C_14 (by decide) rfl fun o1 => ?_
  refine xo_getI (pc' := 7) dd_C_count_4 ff_C_31 (by decide) rfl fun v2 => ?_
  exact xo_iret dd_C_count_7 rfl
set_option maxRecDepth 100000 in
set_option maxHeartbeats 4000000 in
theorem kc_C_count (t : xo_N) (H : xo_H) (r : Int32 × xo_H) (hk : fc_C_count t H = some r) : xo_M mt_C_count [.inr (some t)] H (xo_ji r) :=
  xo_entry hk (by decide +kernel) (Nat.le_of_ble_eq_true rfl) (kb_C_count t H r)
def fc_R_takeFirst (t : xo_N) (H : xo_H) : Option (Int32 × xo_H) :=
  xo_gf 3 2 H (some t) fun v1 =>
  if v1 = 0 then (some ((0 : Int32), H))
  else (xo_gp 3 0 H (some t) fun o2 =>
  xo_gf 3 1 H (some t) fun v3 =>
  xo_al 0 H o2 v3 fun v4 =>
  xo_gf 3 1 H (some t) fun v5 =>
  xo_gp 3 0 H (some t) fun o6 =>
  xo_ln o6 fun v7 =>
  xo_rm (v5 + (1 : Int32)) v7 fun v8 =>
  xo_pf 3 1 H (some t) v8 fun H9 =>
  xo_gf 3 2 H9 (some t) fun v10 =>
  xo_pf 3 2 H9 (some t) (v10 - (1 : Int32)) fun H11 =>
  some (v4, H11))

set_option maxRecDepth 100000 in
set_option maxHeartbeats 4000000 in
theorem kb_R_takeFirst (t : xo_N) (H : xo_H) (r : Int32 × xo_H) : xo_X mt_R_takeFirst 0 0 xo_ji r 0 [(0, .inr (some t))] [] H (fc_R_takeFirst t H) := by
  unfold fc_R_takeFirst
  refine xo_aload_n (pc' := 1) dd_R_takeFirst_0 rfl 0 rfl rfl ?_
  refine xo_getI (pc' := 4) dd_R_takeFirst_1 ff_R_13 (by decide) rfl fun v1 => ?_
  refine xo_if_ne (pc' := 7) (tgt := 9) dd_R_takeFirst_4 rfl rfl ?_ ?_
  · refine xo_aload_n (pc' := 10) dd_R_takeFirst_9 rfl 0 rfl rfl ?_
    refine xo_getP (pc' := 13) dd_R_takeFirst_10 ff_R_7 (by decide) rfl fun o2 => ?_
    refine xo_aload_n (pc' := 14) dd_R_takeFirst_13 rfl 0 rfl rfl ?_
    refine xo_getI (pc' := 17) dd_R_takeFirst_14 ff_R_17 (by decide) rfl fun v3 => ?_
    refine xo_iald (pc' := 18) dd_R_takeFirst_17 rfl fun v4 => ?_
    refine xo_istore_n (pc' := 19) dd_R_takeFirst_18 rfl (by decide) rfl rfl ?_
    refine xo_aload_n (pc' := 20) dd_R_takeFirst_19 rfl 1 rfl rfl ?_
    refine xo_aload_n (pc' := 21) dd_R_takeFirst_20 rfl 1 rfl rfl ?_
    refine xo_getI (pc' := 24) dd_R_takeFirst_21 ff_R_17 (by decide) rfl fun v5 => ?_
    refine xo_iconst (pc' := 25) (v := (1 : Int32)) dd_R_takeFirst_24 (by decide) rfl ?_
    refine xo_iadd (pc' := 26) dd_R_takeFirst_25 rfl ?_
    refine xo_aload_n (pc' := 27) dd_R_takeFirst_26 rfl 1 rfl rfl ?_
    refine xo_getP (pc' := 30) dd_R_takeFirst_27 ff_R_7 (by decide) rfl fun o6 => ?_
    refine xo_alen (pc' := 31) dd_R_takeFirst_30 rfl fun v7 => ?_
    refine xo_irem (pc' := 32) dd_R_takeFirst_31 rfl fun v8 => ?_
    refine xo_putI (pc' := 35) dd_R_takeFirst_32 ff_R_17 rfl fun H9 => ?_
    refine xo_aload_n (pc' := 36) dd_R_takeFirst_35 rfl 1 rfl rfl ?_
    refine xo_dup (pc' := 37) dd_R_takeFirst_36 rfl ?_
    refine xo_getI (pc' := 40) dd_R_takeFirst_37 ff_R_13 (by decide) rfl fun v10 => ?_
    refine xo_iconst (pc' := 41) (v := (1 : Int32)) dd_R_takeFirst_40 (by decide) rfl ?_
    refine xo_isub (pc' := 42) dd_R_takeFirst_41 rfl ?_
    refine xo_putI (pc' := 45) dd_R_takeFirst_42 ff_R_13 rfl fun H11 => ?_
    refine xo_iload_n (pc' := 46) dd_R_takeFirst_45 rfl 0 rfl rfl ?_
    exact xo_iret dd_R_takeFirst_46 rfl
  · refine xo_iconst (pc' := 8) (v := (0 : Int32)) dd_R_takeFirst_7 (by decide) rfl ?_
    exact xo_iret dd_R_takeFirst_8 rfl
set_option maxRecDepth 100000 in
set_option maxHeartbeats 4000000 in
theorem kc_R_takeFirst (t : xo_N) (H : xo_H) (r : Int32 × xo_H) (hk : fc_R_takeFirst t H = some r) : xo_M mt_R_takeFirst [.inr (some t)] H (xo_ji r) :=
  xo_entry hk (by decide +kernel) (Nat.le_of_ble_eq_true rfl) (kb_R_takeFirst t H r)
def fc_C_sizeOf (t : xo_N) (x1 : Int32) (H : xo_H) : Option (Int32 × xo_H) :=
  xo_gf 4 2 H (some t) fun v1 =>
  if v1 = 0 then (some ((1 : Int32), H))
  else (some ((x1 &&& (7 : Int32)), H))

set_option maxRecDepth 100000 in
set_option maxHeartbeats 4000000 in
theorem kb_C_sizeOf (t : xo_N) (x1 : Int32) (H : xo_H) (r : Int32 × xo_H) : xo_X mt_C_sizeOf 0 0 xo_ji r 0 [(0, .inr (some t)), (1, .inl x1)] [] H (fc_C_sizeOf t x1 H) := by
  unfold fc_C_sizeOf
  refine xo_aload_n (pc' := 1) dd_C_sizeOf_0 rfl 0 rfl rfl ?_
  refine xo_getI (pc' := 4) dd_C_sizeOf_1 ff_C_24 (by decide) rfl fun v1 => ?_
  refine xo_if_eq (pc' := 7) (tgt := 14) dd_C_sizeOf_4 rfl rfl ?_ ?_
  · refine xo_iconst (pc' := 15) (v := (1 : Int32)) dd_C_sizeOf_14 (by decide) rfl ?_
    exact xo_iret dd_C_sizeOf_15 rfl
  · refine xo_iload_n (pc' := 8) dd_C_sizeOf_7 rfl 1 rfl rfl ?_
    refine xo_bipush (pc' := 10) (v := (7 : Int32)) dd_C_sizeOf_8 (by decide) rfl ?_
    refine xo_iand (pc' := 11) dd_C_sizeOf_10 rfl ?_
    refine xo_goto (pc' := 15) dd_C_sizeOf_11 rfl ?_
    exact xo_iret dd_C_sizeOf_15 rfl
set_option maxRecDepth 100000 in
set_option maxHeartbeats 4000000 in
theorem kc_C_sizeOf (t : xo_N) (x1 : Int32) (H : xo_H) (r : Int32 × xo_H) (hk : fc_C_sizeOf t x1 H = some r) : xo_M mt_C_sizeOf [.inr (some t), .inl x1] H (xo_ji r) :=
  xo_entry hk (by decide +kernel) (Nat.le_of_ble_eq_true rfl) (kb_C_sizeOf t x1 H r)
def fc_C_takeFirst (t : xo_N) (H : xo_H) : Option (Int32 × xo_H) :=
  xo_gp 4 0 H (some t) fun o1 =>
  xo_cl 3 o1 (fun n7 => fc_R_takeFirst n7 H) fun r2 =>
  xo_gf 4 3 r2.2 (some t) fun v3 =>
  xo_cl 4 (some t) (fun n6 => fc_C_sizeOf n6 r2.1 r2.2) fun r4 =>
  xo_pf 4 3 r4.2 (some t) (v3 + r4.1) fun H5 =>
  some (r2.1, H5)

set_option maxRecDepth 100000 in
set_option maxHeartbeats 4000000 in
theorem kb_C_takeFirst (t : xo_N) (H : xo_H) (r : Int32 × xo_H) : xo_X mt_C_takeFirst 0 0 xo_ji r 0 [(0, .inr (some t))] [] H (fc_C_takeFirst t H) := by
  unfold fc_C_takeFirst
  refine xo_aload_n (pc' := 1) dd_C_takeFirst_0 rfl 0 rfl rfl ?_
  refine xo_getP (pc' := 4) dd_C_takeFirst_1 ff_C_14 (by decide) rfl fun o1 => ?_
  refine xo_callVi (as := []) (o := o1) (st := []) (pc' := 7) dd_C_takeFirst_4 cv_R_takeFirst ml_C_41 rfl rfl ⟨by decide, by decide⟩ rfl rfl rfl (Nat.le_of_ble_eq_true rfl) rfl (fun n q h => kc_R_takeFirst n H q h) fun r2 => ?_
  refine xo_istore_n (pc' := 8) dd_C_takeFirst_7 rfl (by decide) rfl rfl ?_
  refine xo_aload_n (pc' := 9) dd_C_takeFirst_8 rfl 1 rfl rfl ?_
  refine xo_dup (pc' := 10) dd_C_takeFirst_9 rfl ?_
  refine xo_getI (pc' := 13) dd_C_takeFirst_10 ff_C_28 (by decide) rfl fun v3 => ?_
  refine xo_aload_n (pc' := 14) dd_C_takeFirst_13 rfl 1 rfl rfl ?_
  refine xo_iload_n (pc' := 15) dd_C_takeFirst_14 rfl 0 rfl rfl ?_
  refine xo_callVi (as := [.inl r2.1]) (o := (some t)) (st := [.inl v3, .inr (some t)]) (pc' := 18) dd_C_takeFirst_15 cv_C_sizeOf ml_C_37 rfl rfl ⟨by decide, by decide⟩ rfl rfl rfl (Nat.le_of_ble_eq_true rfl) rfl (fun n q h => kc_C_sizeOf n r2.1 r2.2 q h) fun r4 => ?_
  refine xo_iadd (pc' := 19) dd_C_takeFirst_18 rfl ?_
  refine xo_putI (pc' := 22) dd_C_takeFirst_19 ff_C_28 rfl fun H5 => ?_
  refine xo_iload_n (pc' := 23) dd_C_takeFirst_22 rfl 0 rfl rfl ?_
  exact xo_iret dd_C_takeFirst_23 rfl
set_option maxRecDepth 100000 in
set_option maxHeartbeats 4000000 in
theorem kc_C_takeFirst (t : xo_N) (H : xo_H) (r : Int32 × xo_H) (hk : fc_C_takeFirst t H = some r) : xo_M mt_C_takeFirst [.inr (some t)] H (xo_ji r) :=
  xo_entry hk (by decide +kernel) (Nat.le_of_ble_eq_true rfl) (kb_C_takeFirst t H r)
def fc_R_add (t : xo_N) (x1 : Int32) (H : xo_H) : Option (xo_H) :=
  xo_gf 3 2 H (some t) fun v1 =>
  xo_gp 3 0 H (some t) fun o2 =>
  xo_ln o2 fun v3 =>
  if v1 < v3 then (xo_gp 3 0 H (some t) fun o4 =>
  xo_gf 3 1 H (some t) fun v5 =>
  xo_gf 3 2 H (some t) fun v6 =>
  xo_gp 3 0 H (some t) fun o7 =>
  xo_ln o7 fun v8 =>
  xo_rm (v5 + v6) v8 fun v9 =>
  xo_as H o4 v9 x1 fun H10 =>
  xo_gf 3 2 H10 (some t) fun v11 =>
  xo_pf 3 2 H10 (some t) (v11 + (1 : Int32)) fun H12 =>
  some H12)
  else (some H)

set_option maxRecDepth 100000 in
set_option maxHeartbeats 4000000 in
theorem kb_R_add (t : xo_N) (x1 : Int32) (H : xo_H) (r : xo_H) : xo_X mt_R_add 0 0 xo_jv r 0 [(0, .inr (some t)), (1, .inl x1)] [] H (fc_R_add t x1 H) := by
  unfold fc_R_add
  refine xo_aload_n (pc' := 1) dd_R_add_0 rfl 0 rfl rfl ?_
  refine xo_getI (pc' := 4) dd_R_add_1 ff_R_13 (by decide) rfl fun v1 => ?_
  refine xo_aload_n (pc' := 5) dd_R_add_4 rfl 0 rfl rfl ?_
  refine xo_getP (pc' := 8) dd_R_add_5 ff_R_7 (by decide) rfl fun o2 => ?_
  refine xo_alen (pc' := 9) dd_R_add_8 rfl fun v3 => ?_
  refine xo_icmp_ge (pc' := 12) (tgt := 43) dd_R_add_9 rfl rfl ?_ ?_
  · exact xo_vret dd_R_add_43 rfl
  · refine xo_aload_n (pc' := 13) dd_R_add_12 rfl 0 rfl rfl ?_
    refine xo_getP (pc' := 16) dd_R_add_13 ff_R_7 (by decide) rfl fun o4 => ?_
    refine xo_aload_n (pc' := 17) dd_R_add_16 rfl 0 rfl rfl ?_
    refine xo_getI (pc' := 20) dd_R_add_17 ff_R_17 (by decide) rfl fun v5 => ?_
    refine xo_aload_n (pc' := 21) dd_R_add_20 rfl 0 rfl rfl ?_
    refine xo_getI (pc' := 24) dd_R_add_21 ff_R_13 (by decide) rfl fun v6 => ?_
    refine xo_iadd (pc' := 25) dd_R_add_24 rfl ?_
    refine xo_aload_n (pc' := 26) dd_R_add_25 rfl 0 rfl rfl ?_
    refine xo_getP (pc' := 29) dd_R_add_26 ff_R_7 (by decide) rfl fun o7 => ?_
    refine xo_alen (pc' := 30) dd_R_add_29 rfl fun v8 => ?_
    refine xo_irem (pc' := 31) dd_R_add_30 rfl fun v9 => ?_
    refine xo_iload_n (pc' := 32) dd_R_add_31 rfl 1 rfl rfl ?_
    refine xo_iast (pc' := 33) dd_R_add_32 rfl fun H10 => ?_
    refine xo_aload_n (pc' := 34) dd_R_add_33 rfl 0 rfl rfl ?_
    refine xo_dup (pc' := 35) dd_R_add_34 rfl ?_
    refine xo_getI (pc' := 38) dd_R_add_35 ff_R_13 (by decide) rfl fun v11 => ?_
    refine xo_iconst (pc' := 39) (v := (1 : Int32)) dd_R_add_38 (by decide) rfl ?_
    refine xo_iadd (pc' := 40) dd_R_add_39 rfl ?_
    refine xo_putI (pc' := 43) dd_R_add_40 ff_R_13 rfl fun H12 => ?_
    exact xo_vret dd_R_add_43 rfl
set_option maxRecDepth 100000 in
set_option maxHeartbeats 4000000 in
theorem kc_R_add (t : xo_N) (x1 : Int32) (H : xo_H) (r : xo_H) (hk : fc_R_add t x1 H = some r) : xo_M mt_R_add [.inr (some t), .inl x1] H (xo_jv r) :=
  xo_entry hk (by decide +kernel) (Nat.le_of_ble_eq_true rfl) (kb_R_add t x1 H r)
def fc_J_add (t : xo_N) (x1 : Int32) (x2 : Int32) (x3 : Int32) (H : xo_H) : Option (xo_H) :=
  xo_gp 2 0 H (some t) fun o1 =>
  xo_cl 3 o1 (fun n9 => fc_R_add n9 x1 H) fun H2 =>
  xo_gp 2 1 H2 (some t) fun o3 =>
  xo_cl 3 o3 (fun n8 => fc_R_add n8 x2 H2) fun H4 =>
  xo_gp 2 2 H4 (some t) fun o5 =>
  xo_cl 3 o5 (fun n7 => fc_R_add n7 x3 H4) fun H6 =>
  some H6

set_option maxRecDepth 100000 in
set_option maxHeartbeats 4000000 in
theorem kb_J_add (t : xo_N) (x1 : Int32) (x2 : Int32) (x3 : Int32) (H : xo_H) (r : xo_H) : xo_X mt_J_add 0 0 xo_jv r 0 [(0, .inr (some t)), (1, .inl x1), (2, .inl x2), (3, .inl x3)] [] H (fc_J_add t x1 x2 x3 H) := by
  unfold fc_J_add
  refine xo_aload_n (pc' := 1) dd_J_add_0 rfl 0 rfl rfl ?_
  refine xo_getP (pc' := 4) dd_J_add_1 ff_J_14 (by decide) rfl fun o1 => ?_
  refine xo_iload_n (pc' := 5) dd_J_add_4 rfl 1 rfl rfl ?_
  refine xo_callVv (as := [.inl x1]) (o := o1) (st := []) (pc' := 8) dd_J_add_5 cv_R_add ml_J_30 rfl rfl ⟨by decide, by decide⟩ rfl rfl rfl (Nat.le_of_ble_eq_true rfl) rfl (fun n q h => kc_R_add n x1 H q h) fun H2 => ?_
  refine xo_aload_n (pc' := 9) dd_J_add_8 rfl 0 rfl rfl ?_
  refine xo_getP (pc' := 12) dd_J_add_9 ff_J_20 (by decide) rfl fun o3 => ?_
  refine xo_iload_n (pc' := 13) dd_J_add_12 rfl 2 rfl rfl ?_
  refine xo_callVv (as := [.inl x2]) (o := o3) (st := []) (pc' := 16) dd_J_add_13 cv_R_add ml_J_30 rfl rfl ⟨by decide, by decide⟩ rfl rfl rfl (Nat.le_of_ble_eq_true rfl) rfl (fun n q h => kc_R_add n x2 H2 q h) fun H4 => ?_
  refine xo_aload_n (pc' := 17) dd_J_add_16 rfl 0 rfl rfl ?_
  refine xo_getP (pc' := 20) dd_J_add_17 ff_J_23 (by decide) rfl fun o5 => ?_
  refine xo_iload_n (pc' := 21) dd_J_add_20 rfl 3 rfl rfl ?_
  refine xo_callVv (as := [.inl x3]) (o := o5) (st := []) (pc' := 24) dd_J_add_21 cv_R_add ml_J_30 rfl rfl ⟨by decide, by decide⟩ rfl rfl rfl (Nat.le_of_ble_eq_true rfl) rfl (fun n q h => kc_R_add n x3 H4 q h) fun H6 => ?_
  exact xo_vret dd_J_add_24 rfl
set_option maxRecDepth 100000 in
set_option maxHeartbeats 4000000 in
theorem kc_J_add (t : xo_N) (x1 : Int32) (x2 : Int32) (x3 : Int32) (H : xo_H) (r : xo_H) (hk : fc_J_add t x1 x2 x3 H = some r) : xo_M mt_J_add [.inr (some t), .inl x1, .inl x2, .inl x3] H (xo_jv r) :=
  xo_entry hk (by decide +kernel) (Nat.le_of_ble_eq_true rfl) (kb_J_add t x1 x2 x3 H r)
def fc_R_at (t : xo_N) (x1 : Int32) (H : xo_H) : Option (Int32 × xo_H) :=
  if x1 < 0 then (some ((0 : Int32), H))
  else (xo_gf 3 2 H (some t) fun v1 =>
  if x1 < v1 then (xo_gp 3 0 H (some t) fun o2 =>
  xo_gf 3 1 H (some t) fun v3 =>
  xo_gp 3 0 H (some t) fun o4 =>
  xo_ln o4 fun v5 =>
  xo_rm (v3 + x1) v5 fun v6 =>
  xo_al 0 H o2 v6 fun v7 =>
  some (v7, H))
  else (some ((0 : Int32), H)))

set_option maxRecDepth 100000 in
set_option maxHeartbeats 4000000 in
theorem kb_R_at (t : xo_N) (x1 : Int32) (H : xo_H) (r : Int32 × xo_H) : xo_X mt_R_at 0 0 xo_ji r 0 [(0, .inr (some t)), (1, .inl x1)] [] H (fc_R_at t x1 H) := by
  unfold fc_R_at
  refine xo_iload_n (pc' := 1) dd_R_at_0 rfl 1 rfl rfl ?_
  refine xo_if_lt (pc' := 4) (tgt := 32) dd_R_at_1 rfl rfl ?_ ?_
  · refine xo_iconst (pc' := 33) (v := (0 : Int32)) dd_R_at_32 (by decide) rfl ?_
    exact xo_iret dd_R_at_33 rfl
  · refine xo_iload_n (pc' := 5) dd_R_at_4 rfl 1 rfl rfl ?_
    refine xo_aload_n (pc' := 6) dd_R_at_5 rfl 0 rfl rfl ?_
    refine xo_getI (pc' := 9) dd_R_at_6 ff_R_13 (by decide) rfl fun v1 => ?_
    refine xo_icmp_ge (pc' := 12) (tgt := 32) dd_R_at_9 rfl rfl ?_ ?_
    · refine xo_iconst (pc' := 33) (v := (0 : Int32)) dd_R_at_32 (by decide) rfl ?_
      exact xo_iret dd_R_at_33 rfl
    · refine xo_aload_n (pc' := 13) dd_R_at_12 rfl 0 rfl rfl ?_
      refine xo_getP (pc' := 16) dd_R_at_13 ff_R_7 (by decide) rfl fun o2 => ?_
      refine xo_aload_n (pc' := 17) dd_R_at_16 rfl 0 rfl rfl ?_
      refine xo_getI (pc' := 20) dd_R_at_17 ff_R_17 (by decide) rfl fun v3 => ?_
      refine xo_iload_n (pc' := 21) dd_R_at_20 rfl 1 rfl rfl ?_
      refine xo_iadd (pc' := 22) dd_R_at_21 rfl ?_
      refine xo_aload_n (pc' := 23) dd_R_at_22 rfl 0 rfl rfl ?_
      refine xo_getP (pc' := 26) dd_R_at_23 ff_R_7 (by decide) rfl fun o4 => ?_
      refine xo_alen (pc' := 27) dd_R_at_26 rfl fun v5 => ?_
      refine xo_irem (pc' := 28) dd_R_at_27 rfl fun v6 => ?_
      refine xo_iald (pc' := 29) dd_R_at_28 rfl fun v7 => ?_
      refine xo_goto (pc' := 33) dd_R_at_29 rfl ?_
      exact xo_iret dd_R_at_33 rfl
set_option maxRecDepth 100000 in
set_option maxHeartbeats 4000000 in
theorem kc_R_at (t : xo_N) (x1 : Int32) (H : xo_H) (r : Int32 × xo_H) (hk : fc_R_at t x1 H = some r) : xo_M mt_R_at [.inr (some t), .inl x1] H (xo_ji r) :=
  xo_entry hk (by decide +kernel) (Nat.le_of_ble_eq_true rfl) (kb_R_at t x1 H r)
def fc_R_clear (t : xo_N) (H : xo_H) : Option (xo_H) :=
  xo_pf 3 2 H (some t) (0 : Int32) fun H1 =>
  some H1

set_option maxRecDepth 100000 in
set_option maxHeartbeats 4000000 in
theorem kb_R_clear (t : xo_N) (H : xo_H) (r : xo_H) : xo_X mt_R_clear 0 0 xo_jv r 0 [(0, .inr (some t))] [] H (fc_R_clear t H) := by
  unfold fc_R_clear
  refine xo_aload_n (pc' := 1) dd_R_clear_0 rfl 0 rfl rfl ?_
  refine xo_iconst (pc' := 2) (v := (0 : Int32)) dd_R_clear_1 (by decide) rfl ?_
  refine xo_putI (pc' := 5) dd_R_clear_2 ff_R_13 rfl fun H1 => ?_
  exact xo_vret dd_R_clear_5 rfl
set_option maxRecDepth 100000 in
set_option maxHeartbeats 4000000 in
theorem kc_R_clear (t : xo_N) (H : xo_H) (r : xo_H) (hk : fc_R_clear t H = some r) : xo_M mt_R_clear [.inr (some t)] H (xo_jv r) :=
  xo_entry hk (by decide +kernel) (Nat.le_of_ble_eq_true rfl) (kb_R_clear t H r)
def fb_J_holds_2 : Nat → xo_N → Int32 → Int32 → Int32 → xo_H → Option (Int32 × xo_H)
  | 0, _, _, _, _, _ => none
  | fu + 1, t, x1, x2, x3, H =>
  xo_gp 2 0 H (some t) fun o1 =>
  xo_gf 3 2 H o1 fun v2 =>
  if x3 < v2 then (xo_gp 2 0 H (some t) fun o3 =>
  xo_cl 3 o3 (fun n8 => fc_R_at n8 x3 H) fun r4 =>
  if r4.1 = x1 then (xo_gp 2 1 r4.2 (some t) fun o5 =>
  xo_cl 3 o5 (fun n7 => fc_R_at n7 x3 r4.2) fun r6 =>
  if r6.1 = x2 then (xo_gb (1 : Int32) (some ((1 : Int32), r6.2)))
  else (fb_J_holds_2 fu t x1 x2 (x3 + (1 : Int32)) r6.2))
  else (fb_J_holds_2 fu t x1 x2 (x3 + (1 : Int32)) r4.2))
  else (xo_gb (0 : Int32) (some ((0 : Int32), H)))

def fc_J_holds (t : xo_N) (x1 : Int32) (x2 : Int32) (H : xo_H) : Option (Int32 × xo_H) :=
  fb_J_holds_2 1000 t x1 x2 (0 : Int32) H

set_option maxRecDepth 100000 in
set_option maxHeartbeats 4000000 in
theorem kb_J_holds_2 : ∀ (fu : Nat) (t : xo_N) (x1 : Int32) (x2 : Int32) (x3 : Int32) (H : xo_H) (r : Int32 × xo_H), xo_X mt_J_holds 0 0 xo_ji r 2 [(0, .inr (some t)), (1, .inl x1), (2, .inl x2), (3, .inl x3)] [] H (fb_J_holds_2 fu t x1 x2 x3 H) := by
  intro fu
  induction fu with
  | zero => intros; exact xo_no
  | succ fu ih =>
    intro t x1 x2 x3 H r
    rw [fb_J_holds_2]
    refine xo_iload_n (pc' := 3) dd_J_holds_2 rfl 3 rfl rfl ?_
    refine xo_aload_n (pc' := 4) dd_J_holds_3 rfl 0 rfl rfl ?_
    refine xo_getP (pc' := 7) dd_J_holds_4 ff_J_14 (by decide) rfl fun o1 => ?_
    refine xo_getI (pc' := 10) dd_J_holds_7 ff_J_26 (by decide) rfl fun v2 => ?_
    refine xo_icmp_ge (pc' := 13) (tgt := 45) dd_J_holds_10 rfl rfl ?_ ?_
    · refine xo_iconst (pc' := 46) (v := (0 : Int32)) dd_J_holds_45 (by decide) rfl ?_
      exact xo_zret dd_J_holds_46 rfl
    · refine xo_aload_n (pc' := 14) dd_J_holds_13 rfl 0 rfl rfl ?_
      refine xo_getP (pc' := 17) dd_J_holds_14 ff_J_14 (by decide) rfl fun o3 => ?_
      refine xo_iload_n (pc' := 18) dd_J_holds_17 rfl 3 rfl rfl ?_
      refine xo_callVi (as := [.inl x3]) (o := o3) (st := []) (pc' := 21) dd_J_holds_18 cv_R_at ml_J_33 rfl rfl ⟨by decide, by decide⟩ rfl rfl rfl (Nat.le_of_ble_eq_true rfl) rfl (fun n q h => kc_R_at n x3 H q h) fun r4 => ?_
      refine xo_iload_n (pc' := 22) dd_J_holds_21 rfl 1 rfl rfl ?_
      refine xo_icmp_ne (pc' := 25) (tgt := 39) dd_J_holds_22 rfl rfl ?_ ?_
      · refine xo_iinc (pc' := 42) dd_J_holds_39 3 rfl (xo_ii (m := (1 : Int32)) (by decide)) (by decide) rfl rfl ?_
        refine xo_goto (pc' := 2) dd_J_holds_42 rfl ?_
        refine xo_sub [1, 2, 3, 0] rfl ?_
        exact ih t x1 x2 (x3 + (1 : Int32)) r4.2 r
      · refine xo_aload_n (pc' := 26) dd_J_holds_25 rfl 0 rfl rfl ?_
        refine xo_getP (pc' := 29) dd_J_holds_26 ff_J_20 (by decide) rfl fun o5 => ?_
        refine xo_iload_n (pc' := 30) dd_J_holds_29 rfl 3 rfl rfl ?_
        refine xo_callVi (as := [.inl x3]) (o := o5) (st := []) (pc' := 33) dd_J_holds_30 cv_R_at ml_J_33 rfl rfl ⟨by decide, by decide⟩ rfl rfl rfl (Nat.le_of_ble_eq_true rfl) rfl (fun n q h => kc_R_at n x3 r4.2 q h) fun r6 => ?_
        refine xo_iload_n (pc' := 34) dd_J_holds_33 rfl 2 rfl rfl ?_
        refine xo_icmp_ne (pc' := 37) (tgt := 39) dd_J_holds_34 rfl rfl ?_ ?_
        · refine xo_iinc (pc' := 42) dd_J_holds_39 3 rfl (xo_ii (m := (1 : Int32)) (by decide)) (by decide) rfl rfl ?_
          refine xo_goto (pc' := 2) dd_J_holds_42 rfl ?_
          refine xo_sub [1, 2, 3, 0] rfl ?_
          exact ih t x1 x2 (x3 + (1 : Int32)) r6.2 r
        · refine xo_iconst (pc' := 38) (v := (1 : Int32)) dd_J_holds_37 (by decide) rfl ?_
          exact xo_zret dd_J_holds_38 rfl
set_option maxRecDepth 100000 in
set_option maxHeartbeats 4000000 in
theorem kb_J_holds (t : xo_N) (x1 : Int32) (x2 : Int32) (H : xo_H) (r : Int32 × xo_H) : xo_X mt_J_holds 0 0 xo_ji r 0 [(0, .inr (some t)), (1, .inl x1), (2, .inl x2)] [] H (fc_J_holds t x1 x2 H) := by
  unfold fc_J_holds
  refine xo_iconst (pc' := 1) (v := (0 : Int32)) dd_J_holds_0 (by decide) rfl ?_
  refine xo_istore_n (pc' := 2) dd_J_holds_1 rfl (by decide) rfl rfl ?_
  refine xo_sub [1, 2, 3, 0] rfl ?_
  exact kb_J_holds_2 1000 t x1 x2 (0 : Int32) H r
set_option maxRecDepth 100000 in
set_option maxHeartbeats 4000000 in
theorem kc_J_holds (t : xo_N) (x1 : Int32) (x2 : Int32) (H : xo_H) (r : Int32 × xo_H) (hk : fc_J_holds t x1 x2 H = some r) : xo_M mt_J_holds [.inr (some t), .inl x1, .inl x2] H (xo_ji r) :=
  xo_entry hk (by decide +kernel) (Nat.le_of_ble_eq_true rfl) (kb_J_holds t x1 x2 H r)
def fc_C_add (t : xo_N) (x1 : Int32) (H : xo_H) : Option (xo_H) :=
  xo_gp 4 0 H (some t) fun o1 =>
  xo_cl 3 o1 (fun n7 => fc_R_add n7 x1 H) fun H2 =>
  xo_gf 4 3 H2 (some t) fun v3 =>
  xo_cl 4 (some t) (fun n6 => fc_C_sizeOf n6 x1 H2) fun r4 =>
  xo_pf 4 3 r4.2 (some t) (v3 - r4.1) fun H5 =>
  some H5

set_option maxRecDepth 100000 in
set_option maxHeartbeats 4000000 in
theorem kb_C_add (t : xo_N) (x1 : Int32) (H : xo_H) (r : xo_H) : xo_X mt_C_add 0 0 xo_jv r 0 [(0, .inr (some t)), (1, .inl x1)] [] H (fc_C_add t x1 H) := by
  unfold fc_C_add
  refine xo_aload_n (pc' := 1) dd_C_add_0 rfl 0 rfl rfl ?_
  refine xo_getP (pc' := 4) dd_C_add_1 ff_C_14 (by decide) rfl fun o1 => ?_
  refine xo_iload_n (pc' := 5) dd_C_add_4 rfl 1 rfl rfl ?_
  refine xo_callVv (as := [.inl x1]) (o := o1) (st := []) (pc' := 8) dd_C_add_5 cv_R_add ml_C_34 rfl rfl ⟨by decide, by decide⟩ rfl rfl rfl (Nat.le_of_ble_eq_true rfl) rfl (fun n q h => kc_R_add n x1 H q h) fun H2 => ?_
  refine xo_aload_n (pc' := 9) dd_C_add_8 rfl 0 rfl rfl ?_
  refine xo_dup (pc' := 10) dd_C_add_9 rfl ?_
  refine xo_getI (pc' := 13) dd_C_add_10 ff_C_28 (by decide) rfl fun v3 => ?_
  refine xo_aload_n (pc' := 14) dd_C_add_13 rfl 0 rfl rfl ?_
  refine xo_iload_n (pc' := 15) dd_C_add_14 rfl 1 rfl rfl ?_
  refine xo_callVi (as := [.inl x1]) (o := (some t)) (st := [.inl v3, .inr (some t)]) (pc' := 18) dd_C_add_15 cv_C_sizeOf ml_C_37 rfl rfl ⟨by decide, by decide⟩ rfl rfl rfl (Nat.le_of_ble_eq_true rfl) rfl (fun n q h => kc_C_sizeOf n x1 H2 q h) fun r4 => ?_
  refine xo_isub (pc' := 19) dd_C_add_18 rfl ?_
  refine xo_putI (pc' := 22) dd_C_add_19 ff_C_28 rfl fun H5 => ?_
  exact xo_vret dd_C_add_22 rfl
set_option maxRecDepth 100000 in
set_option maxHeartbeats 4000000 in
theorem kc_C_add (t : xo_N) (x1 : Int32) (H : xo_H) (r : xo_H) (hk : fc_C_add t x1 H = some r) : xo_M mt_C_add [.inr (some t), .inl x1] H (xo_jv r) :=
  xo_entry hk (by decide +kernel) (Nat.le_of_ble_eq_true rfl) (kb_C_add t x1 H r)
def fc_C_clear (t : xo_N) (H : xo_H) : Option (xo_H) :=
  xo_gp 4 0 H (some t) fun o1 =>
  xo_cl 3 o1 (fun n5 => fc_R_clear n5 H) fun H2 =>
  xo_gf 4 1 H2 (some t) fun v3 =>
  xo_pf 4 3 H2 (some t) v3 fun H4 =>
  some H4

set_option maxRecDepth 100000 in
set_option maxHeartbeats 4000000 in
theorem kb_C_clear (t : xo_N) (H : xo_H) (r : xo_H) : xo_X mt_C_clear 0 0 xo_jv r 0 [(0, .inr (some t))] [] H (fc_C_clear t H) := by
  unfold fc_C_clear
  refine xo_aload_n (pc' := 1) dd_C_clear_0 rfl 0 rfl rfl ?_
  refine xo_getP (pc' := 4) dd_C_clear_1 ff_C_14 (by decide) rfl fun o1 => ?_
  refine xo_callVv (as := []) (o := o1) (st := []) (pc' := 7) dd_C_clear_4 cv_R_clear ml_C_45 rfl rfl ⟨by decide, by decide⟩ rfl rfl rfl (Nat.le_of_ble_eq_true rfl) rfl (fun n q h => kc_R_clear n H q h) fun H2 => ?_
  refine xo_aload_n (pc' := 8) dd_C_clear_7 rfl 0 rfl rfl ?_
  refine xo_aload_n (pc' := 9) dd_C_clear_8 rfl 0 rfl rfl ?_
  refine xo_getI (pc' := 12) dd_C_clear_9 ff_C_20 (by decide) rfl fun v3 => ?_
  refine xo_putI (pc' := 15) dd_C_clear_12 ff_C_28 rfl fun H4 => ?_
  exact xo_vret dd_C_clear_15 rfl
set_option maxRecDepth 100000 in
set_option maxHeartbeats 4000000 in
theorem kc_C_clear (t : xo_N) (H : xo_H) (r : xo_H) (hk : fc_C_clear t H = some r) : xo_M mt_C_clear [.inr (some t)] H (xo_jv r) :=
  xo_entry hk (by decide +kernel) (Nat.le_of_ble_eq_true rfl) (kb_C_clear t H r)
def fc_J_count (t : xo_N) (H : xo_H) : Option (Int32 × xo_H) :=
  xo_gp 2 0 H (some t) fun o1 =>
  xo_gf 3 2 H o1 fun v2 =>
  some (v2, H)

set_option maxRecDepth 100000 in
set_option maxHeartbeats 4000000 in
theorem kb_J_count (t : xo_N) (H : xo_H) (r : Int32 × xo_H) : xo_X mt_J_count 0 0 xo_ji r 0 [(0, .inr (some t))] [] H (fc_J_count t H) := by
  unfold fc_J_count
  refine xo_aload_n (pc' := 1) dd_J_count_0 rfl 0 rfl rfl ?_
  refine xo_getP (pc' := 4) dd_J_count_1 ff_J_14 (by decide) rfl fun o1 => ?_
  refine xo_getI (pc' := 7) dd_J_count_4 ff_J_26 (by decide) rfl fun v2 => ?_
  exact xo_iret dd_J_count_7 rfl
set_option maxRecDepth 100000 in
set_option maxHeartbeats 4000000 in
theorem kc_J_count (t : xo_N) (H : xo_H) (r : Int32 × xo_H) (hk : fc_J_count t H = some r) : xo_M mt_J_count [.inr (some t)] H (xo_ji r) :=
  xo_entry hk (by decide +kernel) (Nat.le_of_ble_eq_true rfl) (kb_J_count t H r)
def fc_L_tell (t : xo_N) (x1 : Int32) (x2 : Int32) (H : xo_H) : Option (Int32 × xo_H) :=
  if x1 < 0 then (some ((0 : Int32), H))
  else (xo_gf 1 3 H (some t) fun v1 =>
  if x1 < v1 then (xo_gf 1 3 H (some t) fun v2 =>
  if x1 < (v2 - (64 : Int32)) then (some ((0 : Int32), H))
  else (if x2 = 0 then (xo_gp 1 0 H (some t) fun o3 =>
  xo_al 0 H o3 (x1 &&& (63 : Int32)) fun v4 =>
  some (v4, H))
  else if x2 = 1 then (xo_gp 1 1 H (some t) fun o5 =>
  xo_al 0 H o5 (x1 &&& (63 : Int32)) fun v6 =>
  some (v6, H))
  else if x2 = 2 then (xo_gp 1 2 H (some t) fun o7 =>
  xo_al 0 H o7 (x1 &&& (63 : Int32)) fun v8 =>
  some (v8, H))
  else (some ((0 : Int32), H))))
  else (some ((0 : Int32), H)))

set_option maxRecDepth 100000 in
set_option maxHeartbeats 4000000 in
theorem kb_L_tell (t : xo_N) (x1 : Int32) (x2 : Int32) (H : xo_H) (r : Int32 × xo_H) : xo_X mt_L_tell 0 0 xo_ji r 0 [(0, .inr (some t)), (1, .inl x1), (2, .inl x2)] [] H (fc_L_tell t x1 x2 H) := by
  unfold fc_L_tell
  refine xo_iload_n (pc' := 1) dd_L_tell_0 rfl 1 rfl rfl ?_
  refine xo_if_lt (pc' := 4) (tgt := 23) dd_L_tell_1 rfl rfl ?_ ?_
  · refine xo_iconst (pc' := 24) (v := (0 : Int32)) dd_L_tell_23 (by decide) rfl ?_
    exact xo_iret dd_L_tell_24 rfl
  · refine xo_iload_n (pc' := 5) dd_L_tell_4 rfl 1 rfl rfl ?_
    refine xo_aload_n (pc' := 6) dd_L_tell_5 rfl 0 rfl rfl ?_
    refine xo_getI (pc' := 9) dd_L_tell_6 ff_L_21 (by decide) rfl fun v1 => ?_
    refine xo_icmp_ge (pc' := 12) (tgt := 23) dd_L_tell_9 rfl rfl ?_ ?_
    · refine xo_iconst (pc' := 24) (v := (0 : Int32)) dd_L_tell_23 (by decide) rfl ?_
      exact xo_iret dd_L_tell_24 rfl
    · refine xo_iload_n (pc' := 13) dd_L_tell_12 rfl 1 rfl rfl ?_
      refine xo_aload_n (pc' := 14) dd_L_tell_13 rfl 0 rfl rfl ?_
      refine xo_getI (pc' := 17) dd_L_tell_14 ff_L_21 (by decide) rfl fun v2 => ?_
      refine xo_bipush (pc' := 19) (v := (64 : Int32)) dd_L_tell_17 (by decide) rfl ?_
      refine xo_isub (pc' := 20) dd_L_tell_19 rfl ?_
      refine xo_icmp_ge (pc' := 23) (tgt := 25) dd_L_tell_20 rfl rfl ?_ ?_
      · refine xo_iload_n (pc' := 26) dd_L_tell_25 rfl 1 rfl rfl ?_
        refine xo_bipush (pc' := 28) (v := (63 : Int32)) dd_L_tell_26 (by decide) rfl ?_
        refine xo_iand (pc' := 29) dd_L_tell_28 rfl ?_
        refine xo_istore_n (pc' := 30) dd_L_tell_29 rfl (by decide) rfl rfl ?_
        refine xo_iload_n (pc' := 31) dd_L_tell_30 rfl 3 rfl rfl ?_
        refine xo_tsw (t0 := 56) (t1 := 63) (t2 := 70) (d0 := 77) dd_L_tell_31 rfl rfl rfl rfl rfl rfl rfl ?_ ?_ ?_ ?_
        · refine xo_aload_n (pc' := 57) dd_L_tell_56 rfl 1 rfl rfl ?_
          refine xo_getP (pc' := 60) dd_L_tell_57 ff_L_9 (by decide) rfl fun o3 => ?_
          refine xo_iload_n (pc' := 61) dd_L_tell_60 rfl 0 rfl rfl ?_
          refine xo_iald (pc' := 62) dd_L_tell_61 rfl fun v4 => ?_
          exact xo_iret dd_L_tell_62 rfl
        · refine xo_aload_n (pc' := 64) dd_L_tell_63 rfl 1 rfl rfl ?_
          refine xo_getP (pc' := 67) dd_L_tell_64 ff_L_15 (by decide) rfl fun o5 => ?_
          refine xo_iload_n (pc' := 68) dd_L_tell_67 rfl 0 rfl rfl ?_
          refine xo_iald (pc' := 69) dd_L_tell_68 rfl fun v6 => ?_
          exact xo_iret dd_L_tell_69 rfl
        · refine xo_aload_n (pc' := 71) dd_L_tell_70 rfl 1 rfl rfl ?_
          refine xo_getP (pc' := 74) dd_L_tell_71 ff_L_18 (by decide) rfl fun o7 => ?_
          refine xo_iload_n (pc' := 75) dd_L_tell_74 rfl 0 rfl rfl ?_
          refine xo_iald (pc' := 76) dd_L_tell_75 rfl fun v8 => ?_
          exact xo_iret dd_L_tell_76 rfl
        · refine xo_iconst (pc' := 78) (v := (0 : Int32)) dd_L_tell_77 (by decide) rfl ?_
          exact xo_iret dd_L_tell_78 rfl
      · refine xo_iconst (pc' := 24) (v := (0 : Int32)) dd_L_tell_23 (by decide) rfl ?_
        exact xo_iret dd_L_tell_24 rfl
set_option maxRecDepth 100000 in
set_option maxHeartbeats 4000000 in
theorem kc_L_tell (t : xo_N) (x1 : Int32) (x2 : Int32) (H : xo_H) (r : Int32 × xo_H) (hk : fc_L_tell t x1 x2 H = some r) : xo_M mt_L_tell [.inr (some t), .inl x1, .inl x2] H (xo_ji r) :=
  xo_entry hk (by decide +kernel) (Nat.le_of_ble_eq_true rfl) (kb_L_tell t x1 x2 H r)
end
section
theorem dd_G_init_0 : decode mt_G_init.2.1 0 = .ok (.aload_n 0, 1) := by decide +kernel
theorem dd_G_init_1 : decode mt_G_init.2.1 1 = .ok (.invokespecial 3, 3) := by decide +kernel
theorem dd_G_init_4 : decode mt_G_init.2.1 4 = .ok (.aload_n 0, 1) := by decide +kernel
theorem dd_G_init_5 : decode mt_G_init.2.1 5 = .ok (.new 9, 3) := by decide +kernel
theorem dd_G_init_8 : decode mt_G_init.2.1 8 = .ok (.dup, 1) := by decide +kernel
theorem dd_G_init_9 : decode mt_G_init.2.1 9 = .ok (.bipush 8, 2) := by decide +kernel
theorem dd_G_init_11 : decode mt_G_init.2.1 11 = .ok (.invokespecial 11, 3) := by decide +kernel
theorem dd_G_init_14 : decode mt_G_init.2.1 14 = .ok (.putfield 14, 3) := by decide +kernel
theorem dd_G_init_17 : decode mt_G_init.2.1 17 = .ok (.aload_n 0, 1) := by decide +kernel
theorem dd_G_init_18 : decode mt_G_init.2.1 18 = .ok (.iconst 0, 1) := by decide +kernel
theorem dd_G_init_19 : decode mt_G_init.2.1 19 = .ok (.putfield 20, 3) := by decide +kernel
theorem dd_G_init_22 : decode mt_G_init.2.1 22 = .ok (.aload_n 0, 1) := by decide +kernel
theorem dd_G_init_23 : decode mt_G_init.2.1 23 = .ok (.iload_n 1, 1) := by decide +kernel
theorem dd_G_init_24 : decode mt_G_init.2.1 24 = .ok (.putfield 24, 3) := by decide +kernel
theorem dd_G_init_27 : decode mt_G_init.2.1 27 = .ok (.aload_n 0, 1) := by decide +kernel
theorem dd_G_init_28 : decode mt_G_init.2.1 28 = .ok (.aload_n 2, 1) := by decide +kernel
theorem dd_G_init_29 : decode mt_G_init.2.1 29 = .ok (.putfield 27, 3) := by decide +kernel
theorem dd_G_init_32 : decode mt_G_init.2.1 32 = .ok (.aload_n 0, 1) := by decide +kernel
theorem dd_G_init_33 : decode mt_G_init.2.1 33 = .ok (.aload_n 3, 1) := by decide +kernel
theorem dd_G_init_34 : decode mt_G_init.2.1 34 = .ok (.putfield 31, 3) := by decide +kernel
theorem dd_G_init_37 : decode mt_G_init.2.1 37 = .ok (.return_, 1) := by decide +kernel
theorem dd_G_isGoing_0 : decode mt_G_isGoing.2.1 0 = .ok (.aload_n 0, 1) := by decide +kernel
theorem dd_G_isGoing_1 : decode mt_G_isGoing.2.1 1 = .ok (.getfield 20, 3) := by decide +kernel
theorem dd_G_isGoing_4 : decode mt_G_isGoing.2.1 4 = .ok (.ifCond .ne 14, 3) := by decide +kernel
theorem dd_G_isGoing_7 : decode mt_G_isGoing.2.1 7 = .ok (.aload_n 0, 1) := by decide +kernel
theorem dd_G_isGoing_8 : decode mt_G_isGoing.2.1 8 = .ok (.getfield 35, 3) := by decide +kernel
theorem dd_G_isGoing_11 : decode mt_G_isGoing.2.1 11 = .ok (.ifCond .ne 7, 3) := by decide +kernel
theorem dd_G_isGoing_14 : decode mt_G_isGoing.2.1 14 = .ok (.iconst 1, 1) := by decide +kernel
theorem dd_G_isGoing_15 : decode mt_G_isGoing.2.1 15 = .ok (.goto 4, 3) := by decide +kernel
theorem dd_G_isGoing_18 : decode mt_G_isGoing.2.1 18 = .ok (.iconst 0, 1) := by decide +kernel
theorem dd_G_isGoing_19 : decode mt_G_isGoing.2.1 19 = .ok (.ireturn, 1) := by decide +kernel
theorem dd_G_startsPulling_0 : decode mt_G_startsPulling.2.1 0 = .ok (.aload_n 0, 1) := by decide +kernel
theorem dd_G_startsPulling_1 : decode mt_G_startsPulling.2.1 1 = .ok (.invokevirtual 47, 3) := by decide +kernel
theorem dd_G_startsPulling_4 : decode mt_G_startsPulling.2.1 4 = .ok (.ifCond .eq 27, 3) := by decide +kernel
theorem dd_G_startsPulling_7 : decode mt_G_startsPulling.2.1 7 = .ok (.aload_n 0, 1) := by decide +kernel
theorem dd_G_startsPulling_8 : decode mt_G_startsPulling.2.1 8 = .ok (.getfield 14, 3) := by decide +kernel
theorem dd_G_startsPulling_11 : decode mt_G_startsPulling.2.1 11 = .ok (.getfield 51, 3) := by decide +kernel
theorem dd_G_startsPulling_14 : decode mt_G_startsPulling.2.1 14 = .ok (.ifCond .gt 13, 3) := by decide +kernel
theorem dd_G_startsPulling_17 : decode mt_G_startsPulling.2.1 17 = .ok (.aload_n 0, 1) := by decide +kernel
theorem dd_G_startsPulling_18 : decode mt_G_startsPulling.2.1 18 = .ok (.getfield 27, 3) := by decide +kernel
theorem dd_G_startsPulling_21 : decode mt_G_startsPulling.2.1 21 = .ok (.getfield 54, 3) := by decide +kernel
theorem dd_G_startsPulling_24 : decode mt_G_startsPulling.2.1 24 = .ok (.ifCond .le 7, 3) := by decide +kernel
theorem dd_G_startsPulling_27 : decode mt_G_startsPulling.2.1 27 = .ok (.iconst 1, 1) := by decide +kernel
theorem dd_G_startsPulling_28 : decode mt_G_startsPulling.2.1 28 = .ok (.goto 4, 3) := by decide +kernel
theorem dd_G_startsPulling_31 : decode mt_G_startsPulling.2.1 31 = .ok (.iconst 0, 1) := by decide +kernel
theorem dd_G_startsPulling_32 : decode mt_G_startsPulling.2.1 32 = .ok (.istore_n 1, 1) := by decide +kernel
theorem dd_G_startsPulling_33 : decode mt_G_startsPulling.2.1 33 = .ok (.iload_n 1, 1) := by decide +kernel
theorem dd_G_startsPulling_34 : decode mt_G_startsPulling.2.1 34 = .ok (.ifCond .eq 17, 3) := by decide +kernel
theorem dd_G_startsPulling_37 : decode mt_G_startsPulling.2.1 37 = .ok (.aload_n 0, 1) := by decide +kernel
theorem dd_G_startsPulling_38 : decode mt_G_startsPulling.2.1 38 = .ok (.getfield 59, 3) := by decide +kernel
theorem dd_G_startsPulling_41 : decode mt_G_startsPulling.2.1 41 = .ok (.ifCond .eq 10, 3) := by decide +kernel
theorem dd_G_startsPulling_44 : decode mt_G_startsPulling.2.1 44 = .ok (.aload_n 0, 1) := by decide +kernel
theorem dd_G_startsPulling_45 : decode mt_G_startsPulling.2.1 45 = .ok (.iconst 1, 1) := by decide +kernel
theorem dd_G_startsPulling_46 : decode mt_G_startsPulling.2.1 46 = .ok (.putfield 62, 3) := by decide +kernel
theorem dd_G_startsPulling_49 : decode mt_G_startsPulling.2.1 49 = .ok (.iconst 0, 1) := by decide +kernel
theorem dd_G_startsPulling_50 : decode mt_G_startsPulling.2.1 50 = .ok (.ireturn, 1) := by decide +kernel
theorem dd_G_startsPulling_51 : decode mt_G_startsPulling.2.1 51 = .ok (.iload_n 1, 1) := by decide +kernel
theorem dd_G_startsPulling_52 : decode mt_G_startsPulling.2.1 52 = .ok (.ifCond .eq 8, 3) := by decide +kernel
theorem dd_G_startsPulling_55 : decode mt_G_startsPulling.2.1 55 = .ok (.aload_n 0, 1) := by decide +kernel
theorem dd_G_startsPulling_56 : decode mt_G_startsPulling.2.1 56 = .ok (.iconst 1, 1) := by decide +kernel
theorem dd_G_startsPulling_57 : decode mt_G_startsPulling.2.1 57 = .ok (.putfield 59, 3) := by decide +kernel
theorem dd_G_startsPulling_60 : decode mt_G_startsPulling.2.1 60 = .ok (.iload_n 1, 1) := by decide +kernel
theorem dd_G_startsPulling_61 : decode mt_G_startsPulling.2.1 61 = .ok (.ireturn, 1) := by decide +kernel
theorem dd_G_closeIfDrained_0 : decode mt_G_closeIfDrained.2.1 0 = .ok (.aload_n 0, 1) := by decide +kernel
theorem dd_G_closeIfDrained_1 : decode mt_G_closeIfDrained.2.1 1 = .ok (.getfield 35, 3) := by decide +kernel
theorem dd_G_closeIfDrained_4 : decode mt_G_closeIfDrained.2.1 4 = .ok (.ifCond .eq 18, 3) := by decide +kernel
theorem dd_G_closeIfDrained_7 : decode mt_G_closeIfDrained.2.1 7 = .ok (.aload_n 0, 1) := by decide +kernel
theorem dd_G_closeIfDrained_8 : decode mt_G_closeIfDrained.2.1 8 = .ok (.getfield 27, 3) := by decide +kernel
theorem dd_G_closeIfDrained_11 : decode mt_G_closeIfDrained.2.1 11 = .ok (.invokevirtual 65, 3) := by decide +kernel
theorem dd_G_closeIfDrained_14 : decode mt_G_closeIfDrained.2.1 14 = .ok (.ifCond .ne 8, 3) := by decide +kernel
theorem dd_G_closeIfDrained_17 : decode mt_G_closeIfDrained.2.1 17 = .ok (.aload_n 0, 1) := by decide +kernel
theorem dd_G_closeIfDrained_18 : decode mt_G_closeIfDrained.2.1 18 = .ok (.iconst 1, 1) := by decide +kernel
theorem dd_G_closeIfDrained_19 : decode mt_G_closeIfDrained.2.1 19 = .ok (.putfield 20, 3) := by decide +kernel
theorem dd_G_closeIfDrained_22 : decode mt_G_closeIfDrained.2.1 22 = .ok (.return_, 1) := by decide +kernel
theorem dd_G_answerAll_0 : decode mt_G_answerAll.2.1 0 = .ok (.aload_n 0, 1) := by decide +kernel
theorem dd_G_answerAll_1 : decode mt_G_answerAll.2.1 1 = .ok (.getfield 20, 3) := by decide +kernel
theorem dd_G_answerAll_4 : decode mt_G_answerAll.2.1 4 = .ok (.iconst 2, 1) := by decide +kernel
theorem dd_G_answerAll_5 : decode mt_G_answerAll.2.1 5 = .ok (.if_icmp .ne 8, 3) := by decide +kernel
theorem dd_G_answerAll_8 : decode mt_G_answerAll.2.1 8 = .ok (.bipush 8, 2) := by decide +kernel
theorem dd_G_answerAll_10 : decode mt_G_answerAll.2.1 10 = .ok (.goto 5, 3) := by decide +kernel
theorem dd_G_answerAll_13 : decode mt_G_answerAll.2.1 13 = .ok (.bipush 7, 2) := by decide +kernel
theorem dd_G_answerAll_15 : decode mt_G_answerAll.2.1 15 = .ok (.istore_n 1, 1) := by decide +kernel
theorem dd_G_answerAll_16 : decode mt_G_answerAll.2.1 16 = .ok (.iconst 0, 1) := by decide +kernel
theorem dd_G_answerAll_17 : decode mt_G_answerAll.2.1 17 = .ok (.istore_n 2, 1) := by decide +kernel
theorem dd_G_answerAll_18 : decode mt_G_answerAll.2.1 18 = .ok (.iload_n 2, 1) := by decide +kernel
theorem dd_G_answerAll_19 : decode mt_G_answerAll.2.1 19 = .ok (.aload_n 0, 1) := by decide +kernel
theorem dd_G_answerAll_20 : decode mt_G_answerAll.2.1 20 = .ok (.getfield 14, 3) := by decide +kernel
theorem dd_G_answerAll_23 : decode mt_G_answerAll.2.1 23 = .ok (.getfield 51, 3) := by decide +kernel
theorem dd_G_answerAll_26 : decode mt_G_answerAll.2.1 26 = .ok (.if_icmp .ge 39, 3) := by decide +kernel
theorem dd_G_answerAll_29 : decode mt_G_answerAll.2.1 29 = .ok (.aload_n 0, 1) := by decide +kernel
theorem dd_G_answerAll_30 : decode mt_G_answerAll.2.1 30 = .ok (.getfield 14, 3) := by decide +kernel
theorem dd_G_answerAll_33 : decode mt_G_answerAll.2.1 33 = .ok (.iload_n 2, 1) := by decide +kernel
theorem dd_G_answerAll_34 : decode mt_G_answerAll.2.1 34 = .ok (.invokevirtual 77, 3) := by decide +kernel
theorem dd_G_answerAll_37 : decode mt_G_answerAll.2.1 37 = .ok (.istore_n 3, 1) := by decide +kernel
theorem dd_G_answerAll_38 : decode mt_G_answerAll.2.1 38 = .ok (.iload_n 3, 1) := by decide +kernel
theorem dd_G_answerAll_39 : decode mt_G_answerAll.2.1 39 = .ok (.ifCond .eq 20, 3) := by decide +kernel
theorem dd_G_answerAll_42 : decode mt_G_answerAll.2.1 42 = .ok (.aload_n 0, 1) := by decide +kernel
theorem dd_G_answerAll_43 : decode mt_G_answerAll.2.1 43 = .ok (.getfield 31, 3) := by decide +kernel
theorem dd_G_answerAll_46 : decode mt_G_answerAll.2.1 46 = .ok (.iload_n 1, 1) := by decide +kernel
theorem dd_G_answerAll_47 : decode mt_G_answerAll.2.1 47 = .ok (.aload_n 0, 1) := by decide +kernel
theorem dd_G_answerAll_48 : decode mt_G_answerAll.2.1 48 = .ok (.getfield 24, 3) := by decide +kernel
theorem dd_G_answerAll_51 : decode mt_G_answerAll.2.1 51 = .ok (.iload_n 3, 1) := by decide +kernel
theorem dd_G_answerAll_52 : decode mt_G_answerAll.2.1 52 = .ok (.aload_n 0, 1) := by decide +kernel
theorem dd_G_answerAll_53 : decode mt_G_answerAll.2.1 53 = .ok (.getfield 71, 3) := by decide +kernel
theorem dd_G_answerAll_56 : decode mt_G_answerAll.2.1 56 = .ok (.invokevirtual 81, 3) := by decide +kernel
theorem dd_G_answerAll_59 : decode mt_G_answerAll.2.1 59 = .ok (.iinc 2 1, 3) := by decide +kernel
theorem dd_G_answerAll_62 : decode mt_G_answerAll.2.1 62 = .ok (.goto (-44), 3) := by decide +kernel
theorem dd_G_answerAll_65 : decode mt_G_answerAll.2.1 65 = .ok (.aload_n 0, 1) := by decide +kernel
theorem dd_G_answerAll_66 : decode mt_G_answerAll.2.1 66 = .ok (.getfield 14, 3) := by decide +kernel
theorem dd_G_answerAll_69 : decode mt_G_answerAll.2.1 69 = .ok (.invokevirtual 87, 3) := by decide +kernel
theorem dd_G_answerAll_72 : decode mt_G_answerAll.2.1 72 = .ok (.return_, 1) := by decide +kernel
theorem dd_G_failWith_0 : decode mt_G_failWith.2.1 0 = .ok (.aload_n 0, 1) := by decide +kernel
theorem dd_G_failWith_1 : decode mt_G_failWith.2.1 1 = .ok (.getfield 20, 3) := by decide +kernel
theorem dd_G_failWith_4 : decode mt_G_failWith.2.1 4 = .ok (.ifCond .eq 4, 3) := by decide +kernel
theorem dd_G_failWith_7 : decode mt_G_failWith.2.1 7 = .ok (.return_, 1) := by decide +kernel
theorem dd_G_failWith_8 : decode mt_G_failWith.2.1 8 = .ok (.aload_n 0, 1) := by decide +kernel
theorem dd_G_failWith_9 : decode mt_G_failWith.2.1 9 = .ok (.getfield 27, 3) := by decide +kernel
theorem dd_G_failWith_12 : decode mt_G_failWith.2.1 12 = .ok (.invokevirtual 68, 3) := by decide +kernel
theorem dd_G_failWith_15 : decode mt_G_failWith.2.1 15 = .ok (.aload_n 0, 1) := by decide +kernel
theorem dd_G_failWith_16 : decode mt_G_failWith.2.1 16 = .ok (.iconst 2, 1) := by decide +kernel
theorem dd_G_failWith_17 : decode mt_G_failWith.2.1 17 = .ok (.putfield 20, 3) := by decide +kernel
theorem dd_G_failWith_20 : decode mt_G_failWith.2.1 20 = .ok (.aload_n 0, 1) := by decide +kernel
theorem dd_G_failWith_21 : decode mt_G_failWith.2.1 21 = .ok (.iload_n 1, 1) := by decide +kernel
theorem dd_G_failWith_22 : decode mt_G_failWith.2.1 22 = .ok (.putfield 71, 3) := by decide +kernel
theorem dd_G_failWith_25 : decode mt_G_failWith.2.1 25 = .ok (.aload_n 0, 1) := by decide +kernel
theorem dd_G_failWith_26 : decode mt_G_failWith.2.1 26 = .ok (.invokevirtual 74, 3) := by decide +kernel
theorem dd_G_failWith_29 : decode mt_G_failWith.2.1 29 = .ok (.return_, 1) := by decide +kernel
theorem dd_G_heldBy_0 : decode mt_G_heldBy.2.1 0 = .ok (.aload_n 0, 1) := by decide +kernel
theorem dd_G_heldBy_1 : decode mt_G_heldBy.2.1 1 = .ok (.getfield 39, 3) := by decide +kernel
theorem dd_G_heldBy_4 : decode mt_G_heldBy.2.1 4 = .ok (.ifnull 5, 3) := by decide +kernel
theorem dd_G_heldBy_7 : decode mt_G_heldBy.2.1 7 = .ok (.iconst 2, 1) := by decide +kernel
theorem dd_G_heldBy_8 : decode mt_G_heldBy.2.1 8 = .ok (.ireturn, 1) := by decide +kernel
theorem dd_G_heldBy_9 : decode mt_G_heldBy.2.1 9 = .ok (.aload_n 0, 1) := by decide +kernel
theorem dd_G_heldBy_10 : decode mt_G_heldBy.2.1 10 = .ok (.getfield 43, 3) := by decide +kernel
theorem dd_G_heldBy_13 : decode mt_G_heldBy.2.1 13 = .ok (.ifnull 7, 3) := by decide +kernel
theorem dd_G_heldBy_16 : decode mt_G_heldBy.2.1 16 = .ok (.iconst 1, 1) := by decide +kernel
theorem dd_G_heldBy_17 : decode mt_G_heldBy.2.1 17 = .ok (.goto 4, 3) := by decide +kernel
theorem dd_G_heldBy_20 : decode mt_G_heldBy.2.1 20 = .ok (.iconst 0, 1) := by decide +kernel
theorem dd_G_heldBy_21 : decode mt_G_heldBy.2.1 21 = .ok (.ireturn, 1) := by decide +kernel
theorem dd_A_isGivenUp_0 : decode mt_A_isGivenUp.2.1 0 = .ok (.aload_n 0, 1) := by decide +kernel
theorem dd_A_isGivenUp_1 : decode mt_A_isGivenUp.2.1 1 = .ok (.getfield 15, 3) := by decide +kernel
theorem dd_A_isGivenUp_4 : decode mt_A_isGivenUp.2.1 4 = .ok (.astore_n 1, 1) := by decide +kernel
theorem dd_A_isGivenUp_5 : decode mt_A_isGivenUp.2.1 5 = .ok (.aload_n 1, 1) := by decide +kernel
theorem dd_A_isGivenUp_6 : decode mt_A_isGivenUp.2.1 6 = .ok (.arraylength, 1) := by decide +kernel
theorem dd_A_isGivenUp_7 : decode mt_A_isGivenUp.2.1 7 = .ok (.istore_n 2, 1) := by decide +kernel
theorem dd_A_isGivenUp_8 : decode mt_A_isGivenUp.2.1 8 = .ok (.iconst 0, 1) := by decide +kernel
theorem dd_A_isGivenUp_9 : decode mt_A_isGivenUp.2.1 9 = .ok (.istore_n 3, 1) := by decide +kernel
theorem dd_A_isGivenUp_10 : decode mt_A_isGivenUp.2.1 10 = .ok (.iload_n 3, 1) := by decide +kernel
theorem dd_A_isGivenUp_11 : decode mt_A_isGivenUp.2.1 11 = .ok (.iload_n 2, 1) := by decide +kernel
theorem dd_A_isGivenUp_12 : decode mt_A_isGivenUp.2.1 12 = .ok (.if_icmp .ge 24, 3) := by decide +kernel
theorem dd_A_isGivenUp_15 : decode mt_A_isGivenUp.2.1 15 = .ok (.aload_n 1, 1) := by decide +kernel
theorem dd_A_isGivenUp_16 : decode mt_A_isGivenUp.2.1 16 = .ok (.iload_n 3, 1) := by decide +kernel
theorem dd_A_isGivenUp_17 : decode mt_A_isGivenUp.2.1 17 = .ok (.aaload, 1) := by decide +kernel
theorem dd_A_isGivenUp_18 : decode mt_A_isGivenUp.2.1 18 = .ok (.astore 4, 2) := by decide +kernel
theorem dd_A_isGivenUp_20 : decode mt_A_isGivenUp.2.1 20 = .ok (.aload 4, 2) := by decide +kernel
theorem dd_A_isGivenUp_22 : decode mt_A_isGivenUp.2.1 22 = .ok (.getfield 19, 3) := by decide +kernel
theorem dd_A_isGivenUp_25 : decode mt_A_isGivenUp.2.1 25 = .ok (.ifCond .ne 5, 3) := by decide +kernel
theorem dd_A_isGivenUp_28 : decode mt_A_isGivenUp.2.1 28 = .ok (.iconst 0, 1) := by decide +kernel
theorem dd_A_isGivenUp_29 : decode mt_A_isGivenUp.2.1 29 = .ok (.ireturn, 1) := by decide +kernel
theorem dd_A_isGivenUp_30 : decode mt_A_isGivenUp.2.1 30 = .ok (.iinc 3 1, 3) := by decide +kernel
theorem dd_A_isGivenUp_33 : decode mt_A_isGivenUp.2.1 33 = .ok (.goto (-23), 3) := by decide +kernel
theorem dd_A_isGivenUp_36 : decode mt_A_isGivenUp.2.1 36 = .ok (.iconst 1, 1) := by decide +kernel
theorem dd_A_isGivenUp_37 : decode mt_A_isGivenUp.2.1 37 = .ok (.ireturn, 1) := by decide +kernel
theorem dd_P_init_0 : decode mt_P_init.2.1 0 = .ok (.aload_n 0, 1) := by decide +kernel
theorem dd_P_init_1 : decode mt_P_init.2.1 1 = .ok (.invokespecial 3, 3) := by decide +kernel
theorem dd_P_init_4 : decode mt_P_init.2.1 4 = .ok (.aload_n 0, 1) := by decide +kernel
theorem dd_P_init_5 : decode mt_P_init.2.1 5 = .ok (.iload_n 1, 1) := by decide +kernel
theorem dd_P_init_6 : decode mt_P_init.2.1 6 = .ok (.putfield 9, 3) := by decide +kernel
theorem dd_P_init_9 : decode mt_P_init.2.1 9 = .ok (.aload_n 0, 1) := by decide +kernel
theorem dd_P_init_10 : decode mt_P_init.2.1 10 = .ok (.aload_n 2, 1) := by decide +kernel
theorem dd_P_init_11 : decode mt_P_init.2.1 11 = .ok (.putfield 15, 3) := by decide +kernel
theorem dd_P_init_14 : decode mt_P_init.2.1 14 = .ok (.aload_n 0, 1) := by decide +kernel
theorem dd_P_init_15 : decode mt_P_init.2.1 15 = .ok (.aload_n 3, 1) := by decide +kernel
theorem dd_P_init_16 : decode mt_P_init.2.1 16 = .ok (.putfield 19, 3) := by decide +kernel
theorem dd_P_init_19 : decode mt_P_init.2.1 19 = .ok (.aload_n 0, 1) := by decide +kernel
theorem dd_P_init_20 : decode mt_P_init.2.1 20 = .ok (.iload 4, 2) := by decide +kernel
theorem dd_P_init_22 : decode mt_P_init.2.1 22 = .ok (.iconst 1, 1) := by decide +kernel
theorem dd_P_init_23 : decode mt_P_init.2.1 23 = .ok (.iand, 1) := by decide +kernel
theorem dd_P_init_24 : decode mt_P_init.2.1 24 = .ok (.ifCond .eq 7, 3) := by decide +kernel
theorem dd_P_init_27 : decode mt_P_init.2.1 27 = .ok (.iconst 1, 1) := by decide +kernel
theorem dd_P_init_28 : decode mt_P_init.2.1 28 = .ok (.goto 4, 3) := by decide +kernel
theorem dd_P_init_31 : decode mt_P_init.2.1 31 = .ok (.iconst 0, 1) := by decide +kernel
theorem dd_P_init_32 : decode mt_P_init.2.1 32 = .ok (.putfield 23, 3) := by decide +kernel
theorem dd_P_init_35 : decode mt_P_init.2.1 35 = .ok (.aload_n 0, 1) := by decide +kernel
theorem dd_P_init_36 : decode mt_P_init.2.1 36 = .ok (.iload 4, 2) := by decide +kernel
theorem dd_P_init_38 : decode mt_P_init.2.1 38 = .ok (.iconst 2, 1) := by decide +kernel
theorem dd_P_init_39 : decode mt_P_init.2.1 39 = .ok (.iand, 1) := by decide +kernel
theorem dd_P_init_40 : decode mt_P_init.2.1 40 = .ok (.ifCond .eq 7, 3) := by decide +kernel
theorem dd_P_init_43 : decode mt_P_init.2.1 43 = .ok (.iconst 1, 1) := by decide +kernel
theorem dd_P_init_44 : decode mt_P_init.2.1 44 = .ok (.goto 4, 3) := by decide +kernel
theorem dd_P_init_47 : decode mt_P_init.2.1 47 = .ok (.iconst 0, 1) := by decide +kernel
theorem dd_P_init_48 : decode mt_P_init.2.1 48 = .ok (.putfield 27, 3) := by decide +kernel
theorem dd_P_init_51 : decode mt_P_init.2.1 51 = .ok (.aload_n 0, 1) := by decide +kernel
theorem dd_P_init_52 : decode mt_P_init.2.1 52 = .ok (.iload 4, 2) := by decide +kernel
theorem dd_P_init_54 : decode mt_P_init.2.1 54 = .ok (.iconst 4, 1) := by decide +kernel
theorem dd_P_init_55 : decode mt_P_init.2.1 55 = .ok (.iand, 1) := by decide +kernel
theorem dd_P_init_56 : decode mt_P_init.2.1 56 = .ok (.ifCond .eq 7, 3) := by decide +kernel
theorem dd_P_init_59 : decode mt_P_init.2.1 59 = .ok (.iconst 1, 1) := by decide +kernel
theorem dd_P_init_60 : decode mt_P_init.2.1 60 = .ok (.goto 4, 3) := by decide +kernel
theorem dd_P_init_63 : decode mt_P_init.2.1 63 = .ok (.iconst 0, 1) := by decide +kernel
theorem dd_P_init_64 : decode mt_P_init.2.1 64 = .ok (.putfield 30, 3) := by decide +kernel
theorem dd_P_init_67 : decode mt_P_init.2.1 67 = .ok (.return_, 1) := by decide +kernel
theorem dd_A_init_0 : decode mt_A_init.2.1 0 = .ok (.aload_n 0, 1) := by decide +kernel
theorem dd_A_init_1 : decode mt_A_init.2.1 1 = .ok (.invokespecial 1, 3) := by decide +kernel
theorem dd_A_init_4 : decode mt_A_init.2.1 4 = .ok (.aload_n 0, 1) := by decide +kernel
theorem dd_A_init_5 : decode mt_A_init.2.1 5 = .ok (.aload_n 1, 1) := by decide +kernel
theorem dd_A_init_6 : decode mt_A_init.2.1 6 = .ok (.putfield 7, 3) := by decide +kernel
theorem dd_A_init_9 : decode mt_A_init.2.1 9 = .ok (.aload_n 0, 1) := by decide +kernel
theorem dd_A_init_10 : decode mt_A_init.2.1 10 = .ok (.iconst 2, 1) := by decide +kernel
theorem dd_A_init_11 : decode mt_A_init.2.1 11 = .ok (.anewarray 13, 3) := by decide +kernel
theorem dd_A_init_14 : decode mt_A_init.2.1 14 = .ok (.dup, 1) := by decide +kernel
theorem dd_A_init_15 : decode mt_A_init.2.1 15 = .ok (.iconst 0, 1) := by decide +kernel
theorem dd_A_init_16 : decode mt_A_init.2.1 16 = .ok (.aload_n 2, 1) := by decide +kernel
theorem dd_A_init_17 : decode mt_A_init.2.1 17 = .ok (.aastore, 1) := by decide +kernel
theorem dd_A_init_18 : decode mt_A_init.2.1 18 = .ok (.dup, 1) := by decide +kernel
theorem dd_A_init_19 : decode mt_A_init.2.1 19 = .ok (.iconst 1, 1) := by decide +kernel
theorem dd_A_init_20 : decode mt_A_init.2.1 20 = .ok (.aload_n 3, 1) := by decide +kernel
theorem dd_A_init_21 : decode mt_A_init.2.1 21 = .ok (.aastore, 1) := by decide +kernel
theorem dd_A_init_22 : decode mt_A_init.2.1 22 = .ok (.putfield 15, 3) := by decide +kernel
theorem dd_A_init_25 : decode mt_A_init.2.1 25 = .ok (.return_, 1) := by decide +kernel
theorem dd_P_letGo_0 : decode mt_P_letGo.2.1 0 = .ok (.aload_n 0, 1) := by decide +kernel
theorem dd_P_letGo_1 : decode mt_P_letGo.2.1 1 = .ok (.iconst 1, 1) := by decide +kernel
theorem dd_P_letGo_2 : decode mt_P_letGo.2.1 2 = .ok (.putfield 58, 3) := by decide +kernel
theorem dd_P_letGo_5 : decode mt_P_letGo.2.1 5 = .ok (.aload_n 0, 1) := by decide +kernel
theorem dd_P_letGo_6 : decode mt_P_letGo.2.1 6 = .ok (.getfield 15, 3) := by decide +kernel
theorem dd_P_letGo_9 : decode mt_P_letGo.2.1 9 = .ok (.getfield 33, 3) := by decide +kernel
theorem dd_P_letGo_12 : decode mt_P_letGo.2.1 12 = .ok (.invokevirtual 61, 3) := by decide +kernel
theorem dd_P_letGo_15 : decode mt_P_letGo.2.1 15 = .ok (.aload_n 0, 1) := by decide +kernel
theorem dd_P_letGo_16 : decode mt_P_letGo.2.1 16 = .ok (.getfield 15, 3) := by decide +kernel
theorem dd_P_letGo_19 : decode mt_P_letGo.2.1 19 = .ok (.aconst_null, 1) := by decide +kernel
theorem dd_P_letGo_20 : decode mt_P_letGo.2.1 20 = .ok (.putfield 64, 3) := by decide +kernel
theorem dd_P_letGo_23 : decode mt_P_letGo.2.1 23 = .ok (.aload_n 0, 1) := by decide +kernel
theorem dd_P_letGo_24 : decode mt_P_letGo.2.1 24 = .ok (.getfield 19, 3) := by decide +kernel
theorem dd_P_letGo_27 : decode mt_P_letGo.2.1 27 = .ok (.iconst 0, 1) := by decide +kernel
theorem dd_P_letGo_28 : decode mt_P_letGo.2.1 28 = .ok (.putfield 68, 3) := by decide +kernel
theorem dd_P_letGo_31 : decode mt_P_letGo.2.1 31 = .ok (.return_, 1) := by decide +kernel
theorem dd_P_mustWait_0 : decode mt_P_mustWait.2.1 0 = .ok (.aload_n 0, 1) := by decide +kernel
theorem dd_P_mustWait_1 : decode mt_P_mustWait.2.1 1 = .ok (.getfield 15, 3) := by decide +kernel
theorem dd_P_mustWait_4 : decode mt_P_mustWait.2.1 4 = .ok (.getfield 33, 3) := by decide +kernel
theorem dd_P_mustWait_7 : decode mt_P_mustWait.2.1 7 = .ok (.getfield 39, 3) := by decide +kernel
theorem dd_P_mustWait_10 : decode mt_P_mustWait.2.1 10 = .ok (.ifCond .gt 31, 3) := by decide +kernel
theorem dd_P_mustWait_13 : decode mt_P_mustWait.2.1 13 = .ok (.aload_n 0, 1) := by decide +kernel
theorem dd_P_mustWait_14 : decode mt_P_mustWait.2.1 14 = .ok (.getfield 19, 3) := by decide +kernel
theorem dd_P_mustWait_17 : decode mt_P_mustWait.2.1 17 = .ok (.getfield 44, 3) := by decide +kernel
theorem dd_P_mustWait_20 : decode mt_P_mustWait.2.1 20 = .ok (.getfield 50, 3) := by decide +kernel
theorem dd_P_mustWait_23 : decode mt_P_mustWait.2.1 23 = .ok (.ifCond .le 18, 3) := by decide +kernel
theorem dd_P_mustWait_26 : decode mt_P_mustWait.2.1 26 = .ok (.aload_n 0, 1) := by decide +kernel
theorem dd_P_mustWait_27 : decode mt_P_mustWait.2.1 27 = .ok (.getfield 19, 3) := by decide +kernel
theorem dd_P_mustWait_30 : decode mt_P_mustWait.2.1 30 = .ok (.getfield 44, 3) := by decide +kernel
theorem dd_P_mustWait_33 : decode mt_P_mustWait.2.1 33 = .ok (.invokevirtual 55, 3) := by decide +kernel
theorem dd_P_mustWait_36 : decode mt_P_mustWait.2.1 36 = .ok (.bipush 16, 2) := by decide +kernel
theorem dd_P_mustWait_38 : decode mt_P_mustWait.2.1 38 = .ok (.if_icmp .lt 7, 3) := by decide +kernel
theorem dd_P_mustWait_41 : decode mt_P_mustWait.2.1 41 = .ok (.iconst 1, 1) := by decide +kernel
theorem dd_P_mustWait_42 : decode mt_P_mustWait.2.1 42 = .ok (.goto 4, 3) := by decide +kernel
theorem dd_P_mustWait_45 : decode mt_P_mustWait.2.1 45 = .ok (.iconst 0, 1) := by decide +kernel
theorem dd_P_mustWait_46 : decode mt_P_mustWait.2.1 46 = .ok (.ireturn, 1) := by decide +kernel
end
section
def fc_G_init (t : xo_N) (x1 : Int32) (x2 : Option xo_N) (x3 : Option xo_N) (H : xo_H) : Option (xo_H) :=
  xo_nw 3 H (t.1 + 4, t.2) fun H1 =>
  (fc_R_init (t.1 + 4, t.2) (8 : Int32) H1).bind fun H3 =>
  xo_pp 5 3 H3 (some t) (some (t.1 + 4, t.2)) fun H4 =>
  xo_pf 5 4 H4 (some t) (0 : Int32) fun H5 =>
  xo_pf 5 0 H5 (some t) x1 fun H6 =>
  xo_pp 5 1 H6 (some t) x2 fun H7 =>
  xo_pp 5 2 H7 (some t) x3 fun H8 =>
  some H8

set_option maxRecDepth 100000 in
set_option maxHeartbeats 4000000 in
theorem kb_G_init (t : xo_N) (x1 : Int32) (x2 : Option xo_N) (x3 : Option xo_N) (H : xo_H) (r : xo_H) : xo_X mt_G_init 2 19 xo_jv r 0 [(0, .inr (some t)), (1, .inl x1), (2, .inr x2), (3, .inr x3)] [] H (fc_G_init t x1 x2 x3 H) := by
  unfold fc_G_init
  refine xo_aload_n (pc' := 1) dd_G_init_0 rfl 0 rfl rfl ?_
  refine xo_oinit (pc' := 4) dd_G_init_1 wo_G_3 wo_inst wo_code (by decide) (Nat.le_of_ble_eq_true rfl) rfl ?_
  refine xo_aload_n (pc' := 5) dd_G_init_4 rfl 0 rfl rfl ?_
  refine xo_new (pc' := 8) dd_G_init_5 co_G_9 rfl rfl rfl fun H1 => ?_
  refine xo_dup (pc' := 9) dd_G_init_8 rfl ?_
  refine xo_bipush (pc' := 11) (v := (8 : Int32)) dd_G_init_9 (by decide) rfl ?_
  refine xo_callIv (as := [.inl (8 : Int32)]) (n := (t.1 + 4, t.2)) (st := [.inr (some (t.1 + 4, t.2)), .inr (some t)]) (pc' := 14) dd_G_init_11 cv_R_init ml_G_11 rfl ⟨by decide, by decide⟩ rfl rfl rfl (Nat.le_of_ble_eq_true rfl) rfl (fun q h => kc_R_init (t.1 + 4, t.2) (8 : Int32) H1 q h) fun H3 => ?_
  refine xo_putPF (pc' := 17) dd_G_init_14 fF_G_14 rfl (by decide) (by decide +kernel : parseFieldDescriptor "LFlowKernel$Row;" = some (.object "FlowKernel$Row")) (Or.inl ⟨_, rfl⟩) rfl fun H4 => ?_
  refine xo_aload_n (pc' := 18) dd_G_init_17 rfl 0 rfl rfl ?_
  refine xo_iconst (pc' := 19) (v := (0 : Int32)) dd_G_init_18 (by decide) rfl ?_
  refine xo_putI (pc' := 22) dd_G_init_19 ff_G_20 rfl fun H5 => ?_
  refine xo_aload_n (pc' := 23) dd_G_init_22 rfl 0 rfl rfl ?_
  refine xo_iload_n (pc' := 24) dd_G_init_23 rfl 1 rfl rfl ?_
  refine xo_putIF (pc' := 27) dd_G_init_24 fF_G_24 rfl rfl fun H6 => ?_
  refine xo_aload_n (pc' := 28) dd_G_init_27 rfl 0 rfl rfl ?_
  refine xo_aload_n (pc' := 29) dd_G_init_28 rfl 2 rfl rfl ?_
  refine xo_putPF (pc' := 32) dd_G_init_29 fF_G_27 rfl (by decide) (by decide +kernel : parseFieldDescriptor "LFlowKernel$ChunkRow;" = some (.object "FlowKernel$ChunkRow")) (Or.inl ⟨_, rfl⟩) rfl fun H7 => ?_
  refine xo_aload_n (pc' := 33) dd_G_init_32 rfl 0 rfl rfl ?_
  refine xo_aload_n (pc' := 34) dd_G_init_33 rfl 3 rfl rfl ?_
  refine xo_putPF (pc' := 37) dd_G_init_34 fF_G_31 rfl (by decide) (by decide +kernel : parseFieldDescriptor "LFlowKernel$EventLog;" = some (.object "FlowKernel$EventLog")) (Or.inl ⟨_, rfl⟩) rfl fun H8 => ?_
  exact xo_vret dd_G_init_37 rfl
set_option maxRecDepth 100000 in
set_option maxHeartbeats 4000000 in
theorem kc_G_init (t : xo_N) (x1 : Int32) (x2 : Option xo_N) (x3 : Option xo_N) (H : xo_H) (r : xo_H) (hk : fc_G_init t x1 x2 x3 H = some r) : xo_M mt_G_init [.inr (some t), .inl x1, .inr x2, .inr x3] H (xo_jv r) :=
  xo_entry hk (by decide +kernel) (Nat.le_of_ble_eq_true rfl) (kb_G_init t x1 x2 x3 H r)
def fc_G_isGoing (t : xo_N) (H : xo_H) : Option (Int32 × xo_H) :=
  xo_gf 5 4 H (some t) fun v1 =>
  if v1 = 0 then (xo_gf 5 7 H (some t) fun v2 =>
  if v2 = 0 then (xo_gb (1 : Int32) (some ((1 : Int32), H)))
  else (xo_gb (0 : Int32) (some ((0 : Int32), H))))
  else (xo_gb (0 : Int32) (some ((0 : Int32), H)))

set_option maxRecDepth 100000 in
set_option maxHeartbeats 4000000 in
theorem kb_G_isGoing (t : xo_N) (H : xo_H) (r : Int32 × xo_H) : xo_X mt_G_isGoing 0 0 xo_ji r 0 [(0, .inr (some t))] [] H (fc_G_isGoing t H) := by
  unfold fc_G_isGoing
  refine xo_aload_n (pc' := 1) dd_G_isGoing_0 rfl 0 rfl rfl ?_
  refine xo_getI (pc' := 4) dd_G_isGoing_1 ff_G_20 (by decide) rfl fun v1 => ?_
  refine xo_if_ne (pc' := 7) (tgt := 18) dd_G_isGoing_4 rfl rfl ?_ ?_
  · refine xo_iconst (pc' := 19) (v := (0 : Int32)) dd_G_isGoing_18 (by decide) rfl ?_
    exact xo_zret dd_G_isGoing_19 rfl
  · refine xo_aload_n (pc' := 8) dd_G_isGoing_7 rfl 0 rfl rfl ?_
    refine xo_getI (pc' := 11) dd_G_isGoing_8 ff_G_35 (by decide) rfl fun v2 => ?_
    refine xo_if_ne (pc' := 14) (tgt := 18) dd_G_isGoing_11 rfl rfl ?_ ?_
    · refine xo_iconst (pc' := 19) (v := (0 : Int32)) dd_G_isGoing_18 (by decide) rfl ?_
      exact xo_zret dd_G_isGoing_19 rfl
    · refine xo_iconst (pc' := 15) (v := (1 : Int32)) dd_G_isGoing_14 (by decide) rfl ?_
      refine xo_goto (pc' := 19) dd_G_isGoing_15 rfl ?_
      exact xo_zret dd_G_isGoing_19 rfl
set_option maxRecDepth 100000 in
set_option maxHeartbeats 4000000 in
theorem kc_G_isGoing (t : xo_N) (H : xo_H) (r : Int32 × xo_H) (hk : fc_G_isGoing t H = some r) : xo_M mt_G_isGoing [.inr (some t)] H (xo_ji r) :=
  xo_entry hk (by decide +kernel) (Nat.le_of_ble_eq_true rfl) (kb_G_isGoing t H r)
def fb_G_startsPulling_51 (t : xo_N) (x1 : Int32) (H : xo_H) : Option (Int32 × xo_H) :=
  if x1 = 0 then (xo_gb x1 (some (x1, H)))
  else (xo_pz 5 8 H (some t) (1 : Int32) fun H1 =>
  xo_gb x1 (some (x1, H1)))

def fb_G_startsPulling_32 (t : xo_N) (s0 : Int32) (H : xo_H) : Option (Int32 × xo_H) :=
  if s0 = 0 then (fb_G_startsPulling_51 t s0 H)
  else (xo_gf 5 8 H (some t) fun v1 =>
  if v1 = 0 then (fb_G_startsPulling_51 t s0 H)
  else (xo_pz 5 9 H (some t) (1 : Int32) fun H2 =>
  xo_gb (0 : Int32) (some ((0 : Int32), H2))))

def fc_G_startsPulling (t : xo_N) (H : xo_H) : Option (Int32 × xo_H) :=
  xo_cl 5 (some t) (fun n6 => fc_G_isGoing n6 H) fun r1 =>
  if r1.1 = 0 then (fb_G_startsPulling_32 t (0 : Int32) r1.2)
  else (xo_gp 5 3 r1.2 (some t) fun o2 =>
  xo_gf 3 2 r1.2 o2 fun v3 =>
  if 0 < v3 then (fb_G_startsPulling_32 t (1 : Int32) r1.2)
  else (xo_gp 5 1 r1.2 (some t) fun o4 =>
  xo_gf 4 3 r1.2 o4 fun v5 =>
  if 0 < v5 then (fb_G_startsPulling_32 t (1 : Int32) r1.2)
  else (fb_G_startsPulling_32 t (0 : Int32) r1.2)))

set_option maxRecDepth 100000 in
set_option maxHeartbeats 4000000 in
theorem kb_G_startsPulling_51 (t : xo_N) (x1 : Int32) (H : xo_H) (r : Int32 × xo_H) : xo_X mt_G_startsPulling 0 0 xo_ji r 51 [(0, .inr (some t)), (1, .inl x1)] [] H (fb_G_startsPulling_51 t x1 H) := by
  unfold fb_G_startsPulling_51
  refine xo_iload_n (pc' := 52) dd_G_startsPulling_51 rfl 1 rfl rfl ?_
  refine xo_if_eq (pc' := 55) (tgt := 60) dd_G_startsPulling_52 rfl rfl ?_ ?_
  · refine xo_iload_n (pc' := 61) dd_G_startsPulling_60 rfl 1 rfl rfl ?_
    exact xo_zret dd_G_startsPulling_61 rfl
  · refine xo_aload_n (pc' := 56) dd_G_startsPulling_55 rfl 0 rfl rfl ?_
    refine xo_iconst (pc' := 57) (v := (1 : Int32)) dd_G_startsPulling_56 (by decide) rfl ?_
    refine xo_putZ (pc' := 60) dd_G_startsPulling_57 ff_G_59 rfl fun H1 => ?_
    refine xo_iload_n (pc' := 61) dd_G_startsPulling_60 rfl 1 rfl rfl ?_
    exact xo_zret dd_G_startsPulling_61 rfl
set_option maxRecDepth 100000 in
set_option maxHeartbeats 4000000 in
theorem kb_G_startsPulling_32 (t : xo_N) (s0 : Int32) (H : xo_H) (r : Int32 × xo_H) : xo_X mt_G_startsPulling 0 0 xo_ji r 32 [(0, .inr (some t))] [.inl s0] H (fb_G_startsPulling_32 t s0 H) := by
  unfold fb_G_startsPulling_32
  refine xo_istore_n (pc' := 33) dd_G_startsPulling_32 rfl (by decide) rfl rfl ?_
  refine xo_iload_n (pc' := 34) dd_G_startsPulling_33 rfl 0 rfl rfl ?_
  refine xo_if_eq (pc' := 37) (tgt := 51) dd_G_startsPulling_34 rfl rfl ?_ ?_
  · refine xo_sub [1, 0] rfl ?_
    exact kb_G_startsPulling_51 t s0 H r
  · refine xo_aload_n (pc' := 38) dd_G_startsPulling_37 rfl 1 rfl rfl ?_
    refine xo_getI (pc' := 41) dd_G_startsPulling_38 ff_G_59 (by decide) rfl fun v1 => ?_
    refine xo_if_eq (pc' := 44) (tgt := 51) dd_G_startsPulling_41 rfl rfl ?_ ?_
    · refine xo_sub [1, 0] rfl ?_
      exact kb_G_startsPulling_51 t s0 H r
    · refine xo_aload_n (pc' := 45) dd_G_startsPulling_44 rfl 1 rfl rfl ?_
      refine xo_iconst (pc' := 46) (v := (1 : Int32)) dd_G_startsPulling_45 (by decide) rfl ?_
      refine xo_putZ (pc' := 49) dd_G_startsPulling_46 ff_G_62 rfl fun H2 => ?_
      refine xo_iconst (pc' := 50) (v := (0 : Int32)) dd_G_startsPulling_49 (by decide) rfl ?_
      exact xo_zret dd_G_startsPulling_50 rfl
set_option maxRecDepth 100000 in
set_option maxHeartbeats 4000000 in
theorem kb_G_startsPulling (t : xo_N) (H : xo_H) (r : Int32 × xo_H) : xo_X mt_G_startsPulling 0 0 xo_ji r 0 [(0, .inr (some t))] [] H (fc_G_startsPulling t H) := by
  unfold fc_G_startsPulling
  refine xo_aload_n (pc' := 1) dd_G_startsPulling_0 rfl 0 rfl rfl ?_
  refine xo_callVi (as := []) (o := (some t)) (st := []) (pc' := 4) dd_G_startsPulling_1 cv_G_isGoing ml_G_47 rfl rfl ⟨by decide, by decide⟩ rfl rfl rfl (Nat.le_of_ble_eq_true rfl) rfl (fun n q h => kc_G_isGoing n H q h) fun r1 => ?_
  refine xo_if_eq (pc' := 7) (tgt := 31) dd_G_startsPulling_4 rfl rfl ?_ ?_
  · refine xo_iconst (pc' := 32) (v := (0 : Int32)) dd_G_startsPulling_31 (by decide) rfl ?_
    exact kb_G_startsPulling_32 t (0 : Int32) r1.2 r
  · refine xo_aload_n (pc' := 8) dd_G_startsPulling_7 rfl 0 rfl rfl ?_
    refine xo_getP (pc' := 11) dd_G_startsPulling_8 ff_G_14 (by decide) rfl fun o2 => ?_
    refine xo_getI (pc' := 14) dd_G_startsPulling_11 ff_G_51 (by decide) rfl fun v3 => ?_
    refine xo_if_gt (pc' := 17) (tgt := 27) dd_G_startsPulling_14 rfl rfl ?_ ?_
    · refine xo_iconst (pc' := 28) (v := (1 : Int32)) dd_G_startsPulling_27 (by decide) rfl ?_
      refine xo_goto (pc' := 32) dd_G_startsPulling_28 rfl ?_
      exact kb_G_startsPulling_32 t (1 : Int32) r1.2 r
    · refine xo_aload_n (pc' := 18) dd_G_startsPulling_17 rfl 0 rfl rfl ?_
      refine xo_getP (pc' := 21) dd_G_startsPulling_18 ff_G_27 (by decide) rfl fun o4 => ?_
      refine xo_getI (pc' := 24) dd_G_startsPulling_21 ff_G_54 (by decide) rfl fun v5 => ?_
      refine xo_if_le (pc' := 27) (tgt := 31) dd_G_startsPulling_24 rfl rfl ?_ ?_
      · refine xo_iconst (pc' := 32) (v := (0 : Int32)) dd_G_startsPulling_31 (by decide) rfl ?_
        exact kb_G_startsPulling_32 t (0 : Int32) r1.2 r
      · refine xo_iconst (pc' := 28) (v := (1 : Int32)) dd_G_startsPulling_27 (by decide) rfl ?_
        refine xo_goto (pc' := 32) dd_G_startsPulling_28 rfl ?_
        exact kb_G_startsPulling_32 t (1 : Int32) r1.2 r
set_option maxRecDepth 100000 in
set_option maxHeartbeats 4000000 in
theorem kc_G_startsPulling (t : xo_N) (H : xo_H) (r : Int32 × xo_H) (hk : fc_G_startsPulling t H = some r) : xo_M mt_G_startsPulling [.inr (some t)] H (xo_ji r) :=
  xo_entry hk (by decide +kernel) (Nat.le_of_ble_eq_true rfl) (kb_G_startsPulling t H r)
def fc_G_closeIfDrained (t : xo_N) (H : xo_H) : Option (xo_H) :=
  xo_gf 5 7 H (some t) fun v1 =>
  if v1 = 0 then (some H)
  else (xo_gp 5 1 H (some t) fun o2 =>
  xo_cl 4 o2 (fun n5 => fc_C_count n5 H) fun r3 =>
  if r3.1 = 0 then (xo_pf 5 4 r3.2 (some t) (1 : Int32) fun H4 =>
  some H4)
  else (some r3.2))

set_option maxRecDepth 100000 in
set_option maxHeartbeats 4000000 in
theorem kb_G_closeIfDrained (t : xo_N) (H : xo_H) (r : xo_H) : xo_X mt_G_closeIfDrained 0 0 xo_jv r 0 [(0, .inr (some t))] [] H (fc_G_closeIfDrained t H) := by
  unfold fc_G_closeIfDrained
  refine xo_aload_n (pc' := 1) dd_G_closeIfDrained_0 rfl 0 rfl rfl ?_
  refine xo_getI (pc' := 4) dd_G_closeIfDrained_1 ff_G_35 (by decide) rfl fun v1 => ?_
  refine xo_if_eq (pc' := 7) (tgt := 22) dd_G_closeIfDrained_4 rfl rfl ?_ ?_
  · exact xo_vret dd_G_closeIfDrained_22 rfl
  · refine xo_aload_n (pc' := 8) dd_G_closeIfDrained_7 rfl 0 rfl rfl ?_
    refine xo_getP (pc' := 11) dd_G_closeIfDrained_8 ff_G_27 (by decide) rfl fun o2 => ?_
    refine xo_callVi (as := []) (o := o2) (st := []) (pc' := 14) dd_G_closeIfDrained_11 cv_C_count ml_G_65 rfl rfl ⟨by decide, by decide⟩ rfl rfl rfl (Nat.le_of_ble_eq_true rfl) rfl (fun n q h => kc_C_count n H q h) fun r3 => ?_
    refine xo_if_ne (pc' := 17) (tgt := 22) dd_G_closeIfDrained_14 rfl rfl ?_ ?_
    · exact xo_vret dd_G_closeIfDrained_22 rfl
    · refine xo_aload_n (pc' := 18) dd_G_closeIfDrained_17 rfl 0 rfl rfl ?_
      refine xo_iconst (pc' := 19) (v := (1 : Int32)) dd_G_closeIfDrained_18 (by decide) rfl ?_
      refine xo_putI (pc' := 22) dd_G_closeIfDrained_19 ff_G_20 rfl fun H4 => ?_
      exact xo_vret dd_G_closeIfDrained_22 rfl
set_option maxRecDepth 100000 in
set_option maxHeartbeats 4000000 in
theorem kc_G_closeIfDrained (t : xo_N) (H : xo_H) (r : xo_H) (hk : fc_G_closeIfDrained t H = some r) : xo_M mt_G_closeIfDrained [.inr (some t)] H (xo_jv r) :=
  xo_entry hk (by decide +kernel) (Nat.le_of_ble_eq_true rfl) (kb_G_closeIfDrained t H r)
def fb_G_answerAll_18 : Nat → xo_N → Int32 → Int32 → xo_H → Option (xo_H)
  | 0, _, _, _, _ => none
  | fu + 1, t, x1, x2, H =>
  xo_gp 5 3 H (some t) fun o1 =>
  xo_gf 3 2 H o1 fun v2 =>
  if x2 < v2 then (xo_gp 5 3 H (some t) fun o6 =>
  xo_cl 3 o6 (fun n13 => fc_R_at n13 x2 H) fun r7 =>
  if r7.1 = 0 then (fb_G_answerAll_18 fu t x1 (x2 + (1 : Int32)) r7.2)
  else (xo_gp 5 2 r7.2 (some t) fun o8 =>
  xo_gf 5 0 r7.2 (some t) fun v9 =>
  xo_gf 5 5 r7.2 (some t) fun v10 =>
  xo_cl 1 o8 (fun n12 => fc_L_note n12 x1 v9 r7.1 v10 r7.2) fun H11 =>
  fb_G_answerAll_18 fu t x1 (x2 + (1 : Int32)) H11))
  else (xo_gp 5 3 H (some t) fun o3 =>
  xo_cl 3 o3 (fun n5 => fc_R_clear n5 H) fun H4 =>
  some H4)

def fb_G_answerAll_15 (t : xo_N) (s0 : Int32) (H : xo_H) : Option (xo_H) :=
  fb_G_answerAll_18 1000 t s0 (0 : Int32) H

def fc_G_answerAll (t : xo_N) (H : xo_H) : Option (xo_H) :=
  xo_gf 5 4 H (some t) fun v1 =>
  if v1 = (2 : Int32) then (fb_G_answerAll_15 t (8 : Int32) H)
  else (fb_G_answerAll_15 t (7 : Int32) H)

set_option maxRecDepth 100000 in
set_option maxHeartbeats 4000000 in
theorem kb_G_answerAll_18 : ∀ (fu : Nat) (t : xo_N) (x1 : Int32) (x2 : Int32) (H : xo_H) (r : xo_H), xo_X mt_G_answerAll 0 0 xo_jv r 18 [(0, .inr (some t)), (1, .inl x1), (2, .inl x2)] [] H (fb_G_answerAll_18 fu t x1 x2 H) := by
  intro fu
  induction fu with
  | zero => intros; exact xo_no
  | succ fu ih =>
    intro t x1 x2 H r
    rw [fb_G_answerAll_18]
    refine xo_iload_n (pc' := 19) dd_G_answerAll_18 rfl 2 rfl rfl ?_
    refine xo_aload_n (pc' := 20) dd_G_answerAll_19 rfl 0 rfl rfl ?_
    refine xo_getP (pc' := 23) dd_G_answerAll_20 ff_G_14 (by decide) rfl fun o1 => ?_
    refine xo_getI (pc' := 26) dd_G_answerAll_23 ff_G_51 (by decide) rfl fun v2 => ?_
    refine xo_icmp_ge (pc' := 29) (tgt := 65) dd_G_answerAll_26 rfl rfl ?_ ?_
    · refine xo_aload_n (pc' := 66) dd_G_answerAll_65 rfl 0 rfl rfl ?_
      refine xo_getP (pc' := 69) dd_G_answerAll_66 ff_G_14 (by decide) rfl fun o3 => ?_
      refine xo_callVv (as := []) (o := o3) (st := []) (pc' := 72) dd_G_answerAll_69 cv_R_clear ml_G_87 rfl rfl ⟨by decide, by decide⟩ rfl rfl rfl (Nat.le_of_ble_eq_true rfl) rfl (fun n q h => kc_R_clear n H q h) fun H4 => ?_
      exact xo_vret dd_G_answerAll_72 rfl
    · refine xo_aload_n (pc' := 30) dd_G_answerAll_29 rfl 0 rfl rfl ?_
      refine xo_getP (pc' := 33) dd_G_answerAll_30 ff_G_14 (by decide) rfl fun o6 => ?_
      refine xo_iload_n (pc' := 34) dd_G_answerAll_33 rfl 2 rfl rfl ?_
      refine xo_callVi (as := [.inl x2]) (o := o6) (st := []) (pc' := 37) dd_G_answerAll_34 cv_R_at ml_G_77 rfl rfl ⟨by decide, by decide⟩ rfl rfl rfl (Nat.le_of_ble_eq_true rfl) rfl (fun n q h => kc_R_at n x2 H q h) fun r7 => ?_
      refine xo_istore_n (pc' := 38) dd_G_answerAll_37 rfl (by decide) rfl rfl ?_
      refine xo_iload_n (pc' := 39) dd_G_answerAll_38 rfl 0 rfl rfl ?_
      refine xo_if_eq (pc' := 42) (tgt := 59) dd_G_answerAll_39 rfl rfl ?_ ?_
      · refine xo_iinc (pc' := 62) dd_G_answerAll_59 3 rfl (xo_ii (m := (1 : Int32)) (by decide)) (by decide) rfl rfl ?_
        refine xo_goto (pc' := 18) dd_G_answerAll_62 rfl ?_
        refine xo_sub [2, 3, 0] rfl ?_
        exact ih t x1 (x2 + (1 : Int32)) r7.2 r
      · refine xo_aload_n (pc' := 43) dd_G_answerAll_42 rfl 1 rfl rfl ?_
        refine xo_getP (pc' := 46) dd_G_answerAll_43 ff_G_31 (by decide) rfl fun o8 => ?_
        refine xo_iload_n (pc' := 47) dd_G_answerAll_46 rfl 2 rfl rfl ?_
        refine xo_aload_n (pc' := 48) dd_G_answerAll_47 rfl 1 rfl rfl ?_
        refine xo_getI (pc' := 51) dd_G_answerAll_48 ff_G_24 (by decide) rfl fun v9 => ?_
        refine xo_iload_n (pc' := 52) dd_G_answerAll_51 rfl 0 rfl rfl ?_
        refine xo_aload_n (pc' := 53) dd_G_answerAll_52 rfl 1 rfl rfl ?_
        refine xo_getI (pc' := 56) dd_G_answerAll_53 ff_G_71 (by decide) rfl fun v10 => ?_
        refine xo_callVv (as := [.inl x1, .inl v9, .inl r7.1, .inl v10]) (o := o8) (st := []) (pc' := 59) dd_G_answerAll_56 cv_L_note ml_G_81 rfl rfl ⟨by decide, by decide⟩ rfl rfl rfl (Nat.le_of_ble_eq_true rfl) rfl (fun n q h => kc_L_note n x1 v9 r7.1 v10 r7.2 q h) fun H11 => ?_
        refine xo_iinc (pc' := 62) dd_G_answerAll_59 3 rfl (xo_ii (m := (1 : Int32)) (by decide)) (by decide) rfl rfl ?_
        refine xo_goto (pc' := 18) dd_G_answerAll_62 rfl ?_
        refine xo_sub [2, 3, 0] rfl ?_
        exact ih t x1 (x2 + (1 : Int32)) H11 r
set_option maxRecDepth 100000 in
set_option maxHeartbeats 4000000 in
theorem kb_G_answerAll_15 (t : xo_N) (s0 : Int32) (H : xo_H) (r : xo_H) : xo_X mt_G_answerAll 0 0 xo_jv r 15 [(0, .inr (some t))] [.inl s0] H (fb_G_answerAll_15 t s0 H) := by
  unfold fb_G_answerAll_15
  refine xo_istore_n (pc' := 16) dd_G_answerAll_15 rfl (by decide) rfl rfl ?_
  refine xo_iconst (pc' := 17) (v := (0 : Int32)) dd_G_answerAll_16 (by decide) rfl ?_
  refine xo_istore_n (pc' := 18) dd_G_answerAll_17 rfl (by decide) rfl rfl ?_
  refine xo_sub [2, 1, 0] rfl ?_
  exact kb_G_answerAll_18 1000 t s0 (0 : Int32) H r
set_option maxRecDepth 100000 in
set_option maxHeartbeats 4000000 in
theorem kb_G_answerAll (t : xo_N) (H : xo_H) (r : xo_H) : xo_X mt_G_answerAll 0 0 xo_jv r 0 [(0, .inr (some t))] [] H (fc_G_answerAll t H) := by
  unfold fc_G_answerAll
  refine xo_aload_n (pc' := 1) dd_G_answerAll_0 rfl 0 rfl rfl ?_
  refine xo_getI (pc' := 4) dd_G_answerAll_1 ff_G_20 (by decide) rfl fun v1 => ?_
  refine xo_iconst (pc' := 5) (v := (2 : Int32)) dd_G_answerAll_4 (by decide) rfl ?_
  refine xo_icmp_ne (pc' := 8) (tgt := 13) dd_G_answerAll_5 rfl rfl ?_ ?_
  · refine xo_bipush (pc' := 15) (v := (7 : Int32)) dd_G_answerAll_13 (by decide) rfl ?_
    exact kb_G_answerAll_15 t (7 : Int32) H r
  · refine xo_bipush (pc' := 10) (v := (8 : Int32)) dd_G_answerAll_8 (by decide) rfl ?_
    refine xo_goto (pc' := 15) dd_G_answerAll_10 rfl ?_
    exact kb_G_answerAll_15 t (8 : Int32) H r
set_option maxRecDepth 100000 in
set_option maxHeartbeats 4000000 in
theorem kc_G_answerAll (t : xo_N) (H : xo_H) (r : xo_H) (hk : fc_G_answerAll t H = some r) : xo_M mt_G_answerAll [.inr (some t)] H (xo_jv r) :=
  xo_entry hk (by decide +kernel) (Nat.le_of_ble_eq_true rfl) (kb_G_answerAll t H r)
def fc_G_failWith (t : xo_N) (x1 : Int32) (H : xo_H) : Option (xo_H) :=
  xo_gf 5 4 H (some t) fun v1 =>
  if v1 = 0 then (xo_gp 5 1 H (some t) fun o2 =>
  xo_cl 4 o2 (fun n8 => fc_C_clear n8 H) fun H3 =>
  xo_pf 5 4 H3 (some t) (2 : Int32) fun H4 =>
  xo_pf 5 5 H4 (some t) x1 fun H5 =>
  xo_cl 5 (some t) (fun n7 => fc_G_answerAll n7 H5) fun H6 =>
  some H6)
  else (some H)

set_option maxRecDepth 100000 in
set_option maxHeartbeats 4000000 in
theorem kb_G_failWith (t : xo_N) (x1 : Int32) (H : xo_H) (r : xo_H) : xo_X mt_G_failWith 0 0 xo_jv r 0 [(0, .inr (some t)), (1, .inl x1)] [] H (fc_G_failWith t x1 H) := by
  unfold fc_G_failWith
  refine xo_aload_n (pc' := 1) dd_G_failWith_0 rfl 0 rfl rfl ?_
  refine xo_getI (pc' := 4) dd_G_failWith_1 ff_G_20 (by decide) rfl fun v1 => ?_
  refine xo_if_eq (pc' := 7) (tgt := 8) dd_G_failWith_4 rfl rfl ?_ ?_
  · refine xo_aload_n (pc' := 9) dd_G_failWith_8 rfl 0 rfl rfl ?_
    refine xo_getP (pc' := 12) dd_G_failWith_9 ff_G_27 (by decide) rfl fun o2 => ?_
    refine xo_callVv (as := []) (o := o2) (st := []) (pc' := 15) dd_G_failWith_12 cv_C_clear ml_G_68 rfl rfl ⟨by decide, by decide⟩ rfl rfl rfl (Nat.le_of_ble_eq_true rfl) rfl (fun n q h => kc_C_clear n H q h) fun H3 => ?_
    refine xo_aload_n (pc' := 16) dd_G_failWith_15 rfl 0 rfl rfl ?_
    refine xo_iconst (pc' := 17) (v := (2 : Int32)) dd_G_failWith_16 (by decide) rfl ?_
    refine xo_putI (pc' := 20) dd_G_failWith_17 ff_G_20 rfl fun H4 => ?_
    refine xo_aload_n (pc' := 21) dd_G_failWith_20 rfl 0 rfl rfl ?_
    refine xo_iload_n (pc' := 22) dd_G_failWith_21 rfl 1 rfl rfl ?_
    refine xo_putI (pc' := 25) dd_G_failWith_22 ff_G_71 rfl fun H5 => ?_
    refine xo_aload_n (pc' := 26) dd_G_failWith_25 rfl 0 rfl rfl ?_
    refine xo_callVv (as := []) (o := (some t)) (st := []) (pc' := 29) dd_G_failWith_26 cv_G_answerAll ml_G_74 rfl rfl ⟨by decide, by decide⟩ rfl rfl rfl (Nat.le_of_ble_eq_true rfl) rfl (fun n q h => kc_G_answerAll n H5 q h) fun H6 => ?_
    exact xo_vret dd_G_failWith_29 rfl
  · exact xo_vret dd_G_failWith_7 rfl
set_option maxRecDepth 100000 in
set_option maxHeartbeats 4000000 in
theorem kc_G_failWith (t : xo_N) (x1 : Int32) (H : xo_H) (r : xo_H) (hk : fc_G_failWith t x1 H = some r) : xo_M mt_G_failWith [.inr (some t), .inl x1] H (xo_jv r) :=
  xo_entry hk (by decide +kernel) (Nat.le_of_ble_eq_true rfl) (kb_G_failWith t x1 H r)
def fc_G_heldBy (t : xo_N) (H : xo_H) : Option (Int32 × xo_H) :=
  xo_gp 5 12 H (some t) fun o1 =>
  if o1 = none then (xo_gp 5 13 H (some t) fun o2 =>
  if o2 = none then (some ((0 : Int32), H))
  else (some ((1 : Int32), H)))
  else (some ((2 : Int32), H))

set_option maxRecDepth 100000 in
set_option maxHeartbeats 4000000 in
theorem kb_G_heldBy (t : xo_N) (H : xo_H) (r : Int32 × xo_H) : xo_X mt_G_heldBy 0 0 xo_ji r 0 [(0, .inr (some t))] [] H (fc_G_heldBy t H) := by
  unfold fc_G_heldBy
  refine xo_aload_n (pc' := 1) dd_G_heldBy_0 rfl 0 rfl rfl ?_
  refine xo_getP (pc' := 4) dd_G_heldBy_1 ff_G_39 (by decide) rfl fun o1 => ?_
  refine xo_ifnull (pc' := 7) (tgt := 9) dd_G_heldBy_4 rfl rfl ?_ ?_
  · refine xo_aload_n (pc' := 10) dd_G_heldBy_9 rfl 0 rfl rfl ?_
    refine xo_getP (pc' := 13) dd_G_heldBy_10 ff_G_43 (by decide) rfl fun o2 => ?_
    refine xo_ifnull (pc' := 16) (tgt := 20) dd_G_heldBy_13 rfl rfl ?_ ?_
    · refine xo_iconst (pc' := 21) (v := (0 : Int32)) dd_G_heldBy_20 (by decide) rfl ?_
      exact xo_iret dd_G_heldBy_21 rfl
    · refine xo_iconst (pc' := 17) (v := (1 : Int32)) dd_G_heldBy_16 (by decide) rfl ?_
      refine xo_goto (pc' := 21) dd_G_heldBy_17 rfl ?_
      exact xo_iret dd_G_heldBy_21 rfl
  · refine xo_iconst (pc' := 8) (v := (2 : Int32)) dd_G_heldBy_7 (by decide) rfl ?_
    exact xo_iret dd_G_heldBy_8 rfl
set_option maxRecDepth 100000 in
set_option maxHeartbeats 4000000 in
theorem kc_G_heldBy (t : xo_N) (H : xo_H) (r : Int32 × xo_H) (hk : fc_G_heldBy t H = some r) : xo_M mt_G_heldBy [.inr (some t)] H (xo_ji r) :=
  xo_entry hk (by decide +kernel) (Nat.le_of_ble_eq_true rfl) (kb_G_heldBy t H r)
def fb_A_isGivenUp_10 : Nat → Option xo_N → Int32 → Int32 → xo_H → Option (Int32 × xo_H)
  | 0, _, _, _, _ => none
  | fu + 1, x1, x2, x3, H =>
  if x3 < x2 then (xo_ap 2 H x1 x3 fun o1 =>
  xo_gf 5 10 H o1 fun v2 =>
  if v2 = 0 then (xo_gb (0 : Int32) (some ((0 : Int32), H)))
  else (fb_A_isGivenUp_10 fu x1 x2 (x3 + (1 : Int32)) H))
  else (xo_gb (1 : Int32) (some ((1 : Int32), H)))

def fc_A_isGivenUp (t : xo_N) (H : xo_H) : Option (Int32 × xo_H) :=
  xo_gp 6 1 H (some t) fun o1 =>
  xo_ln o1 fun v2 =>
  fb_A_isGivenUp_10 1000 o1 v2 (0 : Int32) H

set_option maxRecDepth 100000 in
set_option maxHeartbeats 4000000 in
theorem kb_A_isGivenUp_10 : ∀ (fu : Nat) (x1 : Option xo_N) (x2 : Int32) (x3 : Int32) (H : xo_H) (r : Int32 × xo_H), xo_X mt_A_isGivenUp 0 0 xo_ji r 10 [(1, .inr x1), (2, .inl x2), (3, .inl x3)] [] H (fb_A_isGivenUp_10 fu x1 x2 x3 H) := by
  intro fu
  induction fu with
  | zero => intros; exact xo_no
  | succ fu ih =>
    intro x1 x2 x3 H r
    rw [fb_A_isGivenUp_10]
    refine xo_iload_n (pc' := 11) dd_A_isGivenUp_10 rfl 2 rfl rfl ?_
    refine xo_iload_n (pc' := 12) dd_A_isGivenUp_11 rfl 1 rfl rfl ?_
    refine xo_icmp_ge (pc' := 15) (tgt := 36) dd_A_isGivenUp_12 rfl rfl ?_ ?_
    · refine xo_iconst (pc' := 37) (v := (1 : Int32)) dd_A_isGivenUp_36 (by decide) rfl ?_
      exact xo_zret dd_A_isGivenUp_37 rfl
    · refine xo_aload_n (pc' := 16) dd_A_isGivenUp_15 rfl 0 rfl rfl ?_
      refine xo_iload_n (pc' := 17) dd_A_isGivenUp_16 rfl 2 rfl rfl ?_
      refine xo_aald (pc' := 18) dd_A_isGivenUp_17 (by decide) rfl fun o1 => ?_
      refine xo_astore (pc' := 20) dd_A_isGivenUp_18 (by decide) rfl rfl ?_
      refine xo_aload (pc' := 22) dd_A_isGivenUp_20 0 rfl rfl ?_
      refine xo_getI (pc' := 25) dd_A_isGivenUp_22 ff_A_19 (by decide) rfl fun v2 => ?_
      refine xo_if_ne (pc' := 28) (tgt := 30) dd_A_isGivenUp_25 rfl rfl ?_ ?_
      · refine xo_iinc (pc' := 33) dd_A_isGivenUp_30 3 rfl (xo_ii (m := (1 : Int32)) (by decide)) (by decide) rfl rfl ?_
        refine xo_goto (pc' := 10) dd_A_isGivenUp_33 rfl ?_
        refine xo_sub [2, 3, 0] rfl ?_
        exact ih x1 x2 (x3 + (1 : Int32)) H r
      · refine xo_iconst (pc' := 29) (v := (0 : Int32)) dd_A_isGivenUp_28 (by decide) rfl ?_
        exact xo_zret dd_A_isGivenUp_29 rfl
set_option maxRecDepth 100000 in
set_option maxHeartbeats 4000000 in
theorem kb_A_isGivenUp (t : xo_N) (H : xo_H) (r : Int32 × xo_H) : xo_X mt_A_isGivenUp 0 0 xo_ji r 0 [(0, .inr (some t))] [] H (fc_A_isGivenUp t H) := by
  unfold fc_A_isGivenUp
  refine xo_aload_n (pc' := 1) dd_A_isGivenUp_0 rfl 0 rfl rfl ?_
  refine xo_getP (pc' := 4) dd_A_isGivenUp_1 ff_A_15 (by decide) rfl fun o1 => ?_
  refine xo_astore_n (pc' := 5) dd_A_isGivenUp_4 rfl (by decide) rfl rfl ?_
  refine xo_aload_n (pc' := 6) dd_A_isGivenUp_5 rfl 0 rfl rfl ?_
  refine xo_alen (pc' := 7) dd_A_isGivenUp_6 rfl fun v2 => ?_
  refine xo_istore_n (pc' := 8) dd_A_isGivenUp_7 rfl (by decide) rfl rfl ?_
  refine xo_iconst (pc' := 9) (v := (0 : Int32)) dd_A_isGivenUp_8 (by decide) rfl ?_
  refine xo_istore_n (pc' := 10) dd_A_isGivenUp_9 rfl (by decide) rfl rfl ?_
  refine xo_sub [2, 1, 0] rfl ?_
  exact kb_A_isGivenUp_10 1000 o1 v2 (0 : Int32) H r
set_option maxRecDepth 100000 in
set_option maxHeartbeats 4000000 in
theorem kc_A_isGivenUp (t : xo_N) (H : xo_H) (r : Int32 × xo_H) (hk : fc_A_isGivenUp t H = some r) : xo_M mt_A_isGivenUp [.inr (some t)] H (xo_ji r) :=
  xo_entry hk (by decide +kernel) (Nat.le_of_ble_eq_true rfl) (kb_A_isGivenUp t H r)
def fb_P_init_64 (t : xo_N) (s1 : Int32) (H : xo_H) : Option (xo_H) :=
  xo_pz 8 5 H (some t) s1 fun H1 =>
  some H1

def fb_P_init_48 (t : xo_N) (x4 : Int32) (s1 : Int32) (H : xo_H) : Option (xo_H) :=
  xo_pz 8 4 H (some t) s1 fun H1 =>
  if (x4 &&& (4 : Int32)) = 0 then (fb_P_init_64 t (0 : Int32) H1)
  else (fb_P_init_64 t (1 : Int32) H1)

def fb_P_init_32 (t : xo_N) (x4 : Int32) (s1 : Int32) (H : xo_H) : Option (xo_H) :=
  xo_pz 8 3 H (some t) s1 fun H1 =>
  if (x4 &&& (2 : Int32)) = 0 then (fb_P_init_48 t x4 (0 : Int32) H1)
  else (fb_P_init_48 t x4 (1 : Int32) H1)

def fc_P_init (t : xo_N) (x1 : Int32) (x2 : Option xo_N) (x3 : Option xo_N) (x4 : Int32) (H : xo_H) : Option (xo_H) :=
  xo_pf 8 0 H (some t) x1 fun H1 =>
  xo_pp 8 1 H1 (some t) x2 fun H2 =>
  xo_pp 8 2 H2 (some t) x3 fun H3 =>
  if (x4 &&& (1 : Int32)) = 0 then (fb_P_init_32 t x4 (0 : Int32) H3)
  else (fb_P_init_32 t x4 (1 : Int32) H3)

set_option maxRecDepth 100000 in
set_option maxHeartbeats 4000000 in
theorem kb_P_init_64 (t : xo_N) (s1 : Int32) (H : xo_H) (r : xo_H) : xo_X mt_P_init 0 0 xo_jv r 64 [] [.inl s1, .inr (some t)] H (fb_P_init_64 t s1 H) := by
  unfold fb_P_init_64
  refine xo_putZF (pc' := 67) dd_P_init_64 fF_P_30 rfl rfl fun H1 => ?_
  exact xo_vret dd_P_init_67 rfl
set_option maxRecDepth 100000 in
set_option maxHeartbeats 4000000 in
theorem kb_P_init_48 (t : xo_N) (x4 : Int32) (s1 : Int32) (H : xo_H) (r : xo_H) : xo_X mt_P_init 0 0 xo_jv r 48 [(0, .inr (some t)), (4, .inl x4)] [.inl s1, .inr (some t)] H (fb_P_init_48 t x4 s1 H) := by
  unfold fb_P_init_48
  refine xo_putZF (pc' := 51) dd_P_init_48 fF_P_27 rfl rfl fun H1 => ?_
  refine xo_aload_n (pc' := 52) dd_P_init_51 rfl 0 rfl rfl ?_
  refine xo_iload (pc' := 54) dd_P_init_52 1 rfl rfl ?_
  refine xo_iconst (pc' := 55) (v := (4 : Int32)) dd_P_init_54 (by decide) rfl ?_
  refine xo_iand (pc' := 56) dd_P_init_55 rfl ?_
  refine xo_if_eq (pc' := 59) (tgt := 63) dd_P_init_56 rfl rfl ?_ ?_
  · refine xo_iconst (pc' := 64) (v := (0 : Int32)) dd_P_init_63 (by decide) rfl ?_
    refine xo_sub [] rfl ?_
    exact kb_P_init_64 t (0 : Int32) H1 r
  · refine xo_iconst (pc' := 60) (v := (1 : Int32)) dd_P_init_59 (by decide) rfl ?_
    refine xo_goto (pc' := 64) dd_P_init_60 rfl ?_
    refine xo_sub [] rfl ?_
    exact kb_P_init_64 t (1 : Int32) H1 r
set_option maxRecDepth 100000 in
set_option maxHeartbeats 4000000 in
theorem kb_P_init_32 (t : xo_N) (x4 : Int32) (s1 : Int32) (H : xo_H) (r : xo_H) : xo_X mt_P_init 0 0 xo_jv r 32 [(0, .inr (some t)), (4, .inl x4)] [.inl s1, .inr (some t)] H (fb_P_init_32 t x4 s1 H) := by
  unfold fb_P_init_32
  refine xo_putZF (pc' := 35) dd_P_init_32 fF_P_23 rfl rfl fun H1 => ?_
  refine xo_aload_n (pc' := 36) dd_P_init_35 rfl 0 rfl rfl ?_
  refine xo_iload (pc' := 38) dd_P_init_36 1 rfl rfl ?_
  refine xo_iconst (pc' := 39) (v := (2 : Int32)) dd_P_init_38 (by decide) rfl ?_
  refine xo_iand (pc' := 40) dd_P_init_39 rfl ?_
  refine xo_if_eq (pc' := 43) (tgt := 47) dd_P_init_40 rfl rfl ?_ ?_
  · refine xo_iconst (pc' := 48) (v := (0 : Int32)) dd_P_init_47 (by decide) rfl ?_
    exact kb_P_init_48 t x4 (0 : Int32) H1 r
  · refine xo_iconst (pc' := 44) (v := (1 : Int32)) dd_P_init_43 (by decide) rfl ?_
    refine xo_goto (pc' := 48) dd_P_init_44 rfl ?_
    exact kb_P_init_48 t x4 (1 : Int32) H1 r
set_option maxRecDepth 100000 in
set_option maxHeartbeats 4000000 in
theorem kb_P_init (t : xo_N) (x1 : Int32) (x2 : Option xo_N) (x3 : Option xo_N) (x4 : Int32) (H : xo_H) (r : xo_H) : xo_X mt_P_init 0 0 xo_jv r 0 [(0, .inr (some t)), (1, .inl x1), (2, .inr x2), (3, .inr x3), (4, .inl x4)] [] H (fc_P_init t x1 x2 x3 x4 H) := by
  unfold fc_P_init
  refine xo_aload_n (pc' := 1) dd_P_init_0 rfl 0 rfl rfl ?_
  refine xo_oinit (pc' := 4) dd_P_init_1 wo_P_3 wo_inst wo_code (by decide) (Nat.le_of_ble_eq_true rfl) rfl ?_
  refine xo_aload_n (pc' := 5) dd_P_init_4 rfl 0 rfl rfl ?_
  refine xo_iload_n (pc' := 6) dd_P_init_5 rfl 1 rfl rfl ?_
  refine xo_putIF (pc' := 9) dd_P_init_6 fF_P_9 rfl rfl fun H1 => ?_
  refine xo_aload_n (pc' := 10) dd_P_init_9 rfl 0 rfl rfl ?_
  refine xo_aload_n (pc' := 11) dd_P_init_10 rfl 2 rfl rfl ?_
  refine xo_putPF (pc' := 14) dd_P_init_11 fF_P_15 rfl (by decide) (by decide +kernel : parseFieldDescriptor "LFlowKernel$Giver;" = some (.object "FlowKernel$Giver")) (Or.inl ⟨_, rfl⟩) rfl fun H2 => ?_
  refine xo_aload_n (pc' := 15) dd_P_init_14 rfl 0 rfl rfl ?_
  refine xo_aload_n (pc' := 16) dd_P_init_15 rfl 3 rfl rfl ?_
  refine xo_putPF (pc' := 19) dd_P_init_16 fF_P_19 rfl (by decide) (by decide +kernel : parseFieldDescriptor "LFlowKernel$Taker;" = some (.object "FlowKernel$Taker")) (Or.inl ⟨_, rfl⟩) rfl fun H3 => ?_
  refine xo_aload_n (pc' := 20) dd_P_init_19 rfl 0 rfl rfl ?_
  refine xo_iload (pc' := 22) dd_P_init_20 4 rfl rfl ?_
  refine xo_iconst (pc' := 23) (v := (1 : Int32)) dd_P_init_22 (by decide) rfl ?_
  refine xo_iand (pc' := 24) dd_P_init_23 rfl ?_
  refine xo_if_eq (pc' := 27) (tgt := 31) dd_P_init_24 rfl rfl ?_ ?_
  · refine xo_iconst (pc' := 32) (v := (0 : Int32)) dd_P_init_31 (by decide) rfl ?_
    refine xo_sub [0, 4] rfl ?_
    exact kb_P_init_32 t x4 (0 : Int32) H3 r
  · refine xo_iconst (pc' := 28) (v := (1 : Int32)) dd_P_init_27 (by decide) rfl ?_
    refine xo_goto (pc' := 32) dd_P_init_28 rfl ?_
    refine xo_sub [0, 4] rfl ?_
    exact kb_P_init_32 t x4 (1 : Int32) H3 r
set_option maxRecDepth 100000 in
set_option maxHeartbeats 4000000 in
theorem kc_P_init (t : xo_N) (x1 : Int32) (x2 : Option xo_N) (x3 : Option xo_N) (x4 : Int32) (H : xo_H) (r : xo_H) (hk : fc_P_init t x1 x2 x3 x4 H = some r) : xo_M mt_P_init [.inr (some t), .inl x1, .inr x2, .inr x3, .inl x4] H (xo_jv r) :=
  xo_entry hk (by decide +kernel) (Nat.le_of_ble_eq_true rfl) (kb_P_init t x1 x2 x3 x4 H r)
def fc_A_init (t : xo_N) (x1 : Option xo_N) (x2 : Option xo_N) (x3 : Option xo_N) (H : xo_H) : Option (xo_H) :=
  xo_pp 6 0 H (some t) x1 fun H1 =>
  xo_na 2 H1 (t.1 + 1, t.2) 2 (2 : Int32) fun H2 =>
  xo_aq 2 5 H2 (some (t.1 + 1, t.2)) (0 : Int32) x2 fun H4 =>
  xo_aq 2 5 H4 (some (t.1 + 1, t.2)) (1 : Int32) x3 fun H5 =>
  xo_pp 6 1 H5 (some t) (some (t.1 + 1, t.2)) fun H6 =>
  some H6

set_option maxRecDepth 100000 in
set_option maxHeartbeats 4000000 in
theorem kb_A_init (t : xo_N) (x1 : Option xo_N) (x2 : Option xo_N) (x3 : Option xo_N) (H : xo_H) (r : xo_H) : xo_X mt_A_init 1 2 xo_jv r 0 [(0, .inr (some t)), (1, .inr x1), (2, .inr x2), (3, .inr x3)] [] H (fc_A_init t x1 x2 x3 H) := by
  unfold fc_A_init
  refine xo_aload_n (pc' := 1) dd_A_init_0 rfl 0 rfl rfl ?_
  refine xo_oinit (pc' := 4) dd_A_init_1 wo_A_1 wo_inst wo_code (by decide) (Nat.le_of_ble_eq_true rfl) rfl ?_
  refine xo_aload_n (pc' := 5) dd_A_init_4 rfl 0 rfl rfl ?_
  refine xo_aload_n (pc' := 6) dd_A_init_5 rfl 1 rfl rfl ?_
  refine xo_putPF (pc' := 9) dd_A_init_6 fF_A_7 rfl (by decide) (by decide +kernel : parseFieldDescriptor "LFlowKernel$Giver;" = some (.object "FlowKernel$Giver")) (Or.inl ⟨_, rfl⟩) rfl fun H1 => ?_
  refine xo_aload_n (pc' := 10) dd_A_init_9 rfl 0 rfl rfl ?_
  refine xo_iconst (pc' := 11) (v := (2 : Int32)) dd_A_init_10 (by decide) rfl ?_
  refine xo_anew (pc' := 14) dd_A_init_11 (by decide) wl_A_13 (by decide) rfl rfl rfl fun H2 => ?_
  refine xo_dup (pc' := 15) dd_A_init_14 rfl ?_
  refine xo_iconst (pc' := 16) (v := (0 : Int32)) dd_A_init_15 (by decide) rfl ?_
  refine xo_aload_n (pc' := 17) dd_A_init_16 rfl 2 rfl rfl ?_
  refine xo_aast (pc' := 18) dd_A_init_17 (by decide) rfl rfl rfl fun H4 => ?_
  refine xo_dup (pc' := 19) dd_A_init_18 rfl ?_
  refine xo_iconst (pc' := 20) (v := (1 : Int32)) dd_A_init_19 (by decide) rfl ?_
  refine xo_aload_n (pc' := 21) dd_A_init_20 rfl 3 rfl rfl ?_
  refine xo_aast (pc' := 22) dd_A_init_21 (by decide) rfl rfl rfl fun H5 => ?_
  refine xo_putPF (pc' := 25) dd_A_init_22 fF_A_15 rfl (by decide) (by decide +kernel : parseFieldDescriptor "[LFlowKernel$Giver;" = some (.array (.object "FlowKernel$Giver"))) (Or.inr ⟨_, rfl⟩) rfl fun H6 => ?_
  exact xo_vret dd_A_init_25 rfl
set_option maxRecDepth 100000 in
set_option maxHeartbeats 4000000 in
theorem kc_A_init (t : xo_N) (x1 : Option xo_N) (x2 : Option xo_N) (x3 : Option xo_N) (H : xo_H) (r : xo_H) (hk : fc_A_init t x1 x2 x3 H = some r) : xo_M mt_A_init [.inr (some t), .inr x1, .inr x2, .inr x3] H (xo_jv r) :=
  xo_entry hk (by decide +kernel) (Nat.le_of_ble_eq_true rfl) (kb_A_init t x1 x2 x3 H r)
def fc_P_letGo (t : xo_N) (H : xo_H) : Option (xo_H) :=
  xo_pz 8 6 H (some t) (1 : Int32) fun H1 =>
  xo_gp 8 1 H1 (some t) fun o2 =>
  xo_gp 5 3 H1 o2 fun o3 =>
  xo_cl 3 o3 (fun n9 => fc_R_clear n9 H1) fun H4 =>
  xo_gp 8 1 H4 (some t) fun o5 =>
  xo_pp 5 13 H4 o5 none fun H6 =>
  xo_gp 8 2 H6 (some t) fun o7 =>
  xo_pz 7 12 H6 o7 (0 : Int32) fun H8 =>
  some H8

set_option maxRecDepth 100000 in
set_option maxHeartbeats 4000000 in
theorem kb_P_letGo (t : xo_N) (H : xo_H) (r : xo_H) : xo_X mt_P_letGo 0 0 xo_jv r 0 [(0, .inr (some t))] [] H (fc_P_letGo t H) := by
  unfold fc_P_letGo
  refine xo_aload_n (pc' := 1) dd_P_letGo_0 rfl 0 rfl rfl ?_
  refine xo_iconst (pc' := 2) (v := (1 : Int32)) dd_P_letGo_1 (by decide) rfl ?_
  refine xo_putZ (pc' := 5) dd_P_letGo_2 ff_P_58 rfl fun H1 => ?_
  refine xo_aload_n (pc' := 6) dd_P_letGo_5 rfl 0 rfl rfl ?_
  refine xo_getP (pc' := 9) dd_P_letGo_6 ff_P_15 (by decide) rfl fun o2 => ?_
  refine xo_getP (pc' := 12) dd_P_letGo_9 ff_P_33 (by decide) rfl fun o3 => ?_
  refine xo_callVv (as := []) (o := o3) (st := []) (pc' := 15) dd_P_letGo_12 cv_R_clear ml_P_61 rfl rfl ⟨by decide, by decide⟩ rfl rfl rfl (Nat.le_of_ble_eq_true rfl) rfl (fun n q h => kc_R_clear n H1 q h) fun H4 => ?_
  refine xo_aload_n (pc' := 16) dd_P_letGo_15 rfl 0 rfl rfl ?_
  refine xo_getP (pc' := 19) dd_P_letGo_16 ff_P_15 (by decide) rfl fun o5 => ?_
  refine xo_null (pc' := 20) dd_P_letGo_19 rfl ?_
  refine xo_putP (pc' := 23) dd_P_letGo_20 ff_P_64 (by decide) (by decide +kernel : parseFieldDescriptor "LFlowKernel$Pipe;" = some (.object "FlowKernel$Pipe")) (Or.inl ⟨_, rfl⟩) rfl fun H6 => ?_
  refine xo_aload_n (pc' := 24) dd_P_letGo_23 rfl 0 rfl rfl ?_
  refine xo_getP (pc' := 27) dd_P_letGo_24 ff_P_19 (by decide) rfl fun o7 => ?_
  refine xo_iconst (pc' := 28) (v := (0 : Int32)) dd_P_letGo_27 (by decide) rfl ?_
  refine xo_putZ (pc' := 31) dd_P_letGo_28 ff_P_68 rfl fun H8 => ?_
  exact xo_vret dd_P_letGo_31 rfl
set_option maxRecDepth 100000 in
set_option maxHeartbeats 4000000 in
theorem kc_P_letGo (t : xo_N) (H : xo_H) (r : xo_H) (hk : fc_P_letGo t H = some r) : xo_M mt_P_letGo [.inr (some t)] H (xo_jv r) :=
  xo_entry hk (by decide +kernel) (Nat.le_of_ble_eq_true rfl) (kb_P_letGo t H r)
def fc_P_mustWait (t : xo_N) (H : xo_H) : Option (Int32 × xo_H) :=
  xo_gp 8 1 H (some t) fun o1 =>
  xo_gp 5 3 H o1 fun o2 =>
  xo_gf 3 2 H o2 fun v3 =>
  if 0 < v3 then (xo_gb (1 : Int32) (some ((1 : Int32), H)))
  else (xo_gp 8 2 H (some t) fun o4 =>
  xo_gp 7 1 H o4 fun o5 =>
  xo_gf 4 3 H o5 fun v6 =>
  if 0 < v6 then (xo_gp 8 2 H (some t) fun o7 =>
  xo_gp 7 1 H o7 fun o8 =>
  xo_cl 4 o8 (fun n10 => fc_C_count n10 H) fun r9 =>
  if r9.1 < (16 : Int32) then (xo_gb (0 : Int32) (some ((0 : Int32), r9.2)))
  else (xo_gb (1 : Int32) (some ((1 : Int32), r9.2))))
  else (xo_gb (1 : Int32) (some ((1 : Int32), H))))

set_option maxRecDepth 100000 in
set_option maxHeartbeats 4000000 in
theorem kb_P_mustWait (t : xo_N) (H : xo_H) (r : Int32 × xo_H) : xo_X mt_P_mustWait 0 0 xo_ji r 0 [(0, .inr (some t))] [] H (fc_P_mustWait t H) := by
  unfold fc_P_mustWait
  refine xo_aload_n (pc' := 1) dd_P_mustWait_0 rfl 0 rfl rfl ?_
  refine xo_getP (pc' := 4) dd_P_mustWait_1 ff_P_15 (by decide) rfl fun o1 => ?_
  refine xo_getP (pc' := 7) dd_P_mustWait_4 ff_P_33 (by decide) rfl fun o2 => ?_
  refine xo_getI (pc' := 10) dd_P_mustWait_7 ff_P_39 (by decide) rfl fun v3 => ?_
  refine xo_if_gt (pc' := 13) (tgt := 41) dd_P_mustWait_10 rfl rfl ?_ ?_
  · refine xo_iconst (pc' := 42) (v := (1 : Int32)) dd_P_mustWait_41 (by decide) rfl ?_
    refine xo_goto (pc' := 46) dd_P_mustWait_42 rfl ?_
    exact xo_zret dd_P_mustWait_46 rfl
  · refine xo_aload_n (pc' := 14) dd_P_mustWait_13 rfl 0 rfl rfl ?_
    refine xo_getP (pc' := 17) dd_P_mustWait_14 ff_P_19 (by decide) rfl fun o4 => ?_
    refine xo_getP (pc' := 20) dd_P_mustWait_17 ff_P_44 (by decide) rfl fun o5 => ?_
    refine xo_getI (pc' := 23) dd_P_mustWait_20 ff_P_50 (by decide) rfl fun v6 => ?_
    refine xo_if_le (pc' := 26) (tgt := 41) dd_P_mustWait_23 rfl rfl ?_ ?_
    · refine xo_iconst (pc' := 42) (v := (1 : Int32)) dd_P_mustWait_41 (by decide) rfl ?_
      refine xo_goto (pc' := 46) dd_P_mustWait_42 rfl ?_
      exact xo_zret dd_P_mustWait_46 rfl
    · refine xo_aload_n (pc' := 27) dd_P_mustWait_26 rfl 0 rfl rfl ?_
      refine xo_getP (pc' := 30) dd_P_mustWait_27 ff_P_19 (by decide) rfl fun o7 => ?_
      refine xo_getP (pc' := 33) dd_P_mustWait_30 ff_P_44 (by decide) rfl fun o8 => ?_
      refine xo_callVi (as := []) (o := o8) (st := []) (pc' := 36) dd_P_mustWait_33 cv_C_count ml_P_55 rfl rfl ⟨by decide, by decide⟩ rfl rfl rfl (Nat.le_of_ble_eq_true rfl) rfl (fun n q h => kc_C_count n H q h) fun r9 => ?_
      refine xo_bipush (pc' := 38) (v := (16 : Int32)) dd_P_mustWait_36 (by decide) rfl ?_
      refine xo_icmp_lt (pc' := 41) (tgt := 45) dd_P_mustWait_38 rfl rfl ?_ ?_
      · refine xo_iconst (pc' := 46) (v := (0 : Int32)) dd_P_mustWait_45 (by decide) rfl ?_
        exact xo_zret dd_P_mustWait_46 rfl
      · refine xo_iconst (pc' := 42) (v := (1 : Int32)) dd_P_mustWait_41 (by decide) rfl ?_
        refine xo_goto (pc' := 46) dd_P_mustWait_42 rfl ?_
        exact xo_zret dd_P_mustWait_46 rfl
set_option maxRecDepth 100000 in
set_option maxHeartbeats 4000000 in
theorem kc_P_mustWait (t : xo_N) (H : xo_H) (r : Int32 × xo_H) (hk : fc_P_mustWait t H = some r) : xo_M mt_P_mustWait [.inr (some t)] H (xo_ji r) :=
  xo_entry hk (by decide +kernel) (Nat.le_of_ble_eq_true rfl) (kb_P_mustWait t H r)
end
section
theorem dd_T_init_0 : decode mt_T_init.2.1 0 = .ok (.aload_n 0, 1) := by decide +kernel
theorem dd_T_init_1 : decode mt_T_init.2.1 1 = .ok (.invokespecial 3, 3) := by decide +kernel
theorem dd_T_init_4 : decode mt_T_init.2.1 4 = .ok (.aload_n 0, 1) := by decide +kernel
theorem dd_T_init_5 : decode mt_T_init.2.1 5 = .ok (.new 9, 3) := by decide +kernel
theorem dd_T_init_8 : decode mt_T_init.2.1 8 = .ok (.dup, 1) := by decide +kernel
theorem dd_T_init_9 : decode mt_T_init.2.1 9 = .ok (.bipush 16, 2) := by decide +kernel
theorem dd_T_init_11 : decode mt_T_init.2.1 11 = .ok (.invokespecial 11, 3) := by decide +kernel
theorem dd_T_init_14 : decode mt_T_init.2.1 14 = .ok (.putfield 14, 3) := by decide +kernel
theorem dd_T_init_17 : decode mt_T_init.2.1 17 = .ok (.aload_n 0, 1) := by decide +kernel
theorem dd_T_init_18 : decode mt_T_init.2.1 18 = .ok (.iconst 0, 1) := by decide +kernel
theorem dd_T_init_19 : decode mt_T_init.2.1 19 = .ok (.putfield 20, 3) := by decide +kernel
theorem dd_T_init_22 : decode mt_T_init.2.1 22 = .ok (.aload_n 0, 1) := by decide +kernel
theorem dd_T_init_23 : decode mt_T_init.2.1 23 = .ok (.iconst 0, 1) := by decide +kernel
theorem dd_T_init_24 : decode mt_T_init.2.1 24 = .ok (.putfield 24, 3) := by decide +kernel
theorem dd_T_init_27 : decode mt_T_init.2.1 27 = .ok (.aload_n 0, 1) := by decide +kernel
theorem dd_T_init_28 : decode mt_T_init.2.1 28 = .ok (.iload_n 1, 1) := by decide +kernel
theorem dd_T_init_29 : decode mt_T_init.2.1 29 = .ok (.putfield 27, 3) := by decide +kernel
theorem dd_T_init_32 : decode mt_T_init.2.1 32 = .ok (.aload_n 0, 1) := by decide +kernel
theorem dd_T_init_33 : decode mt_T_init.2.1 33 = .ok (.aload_n 2, 1) := by decide +kernel
theorem dd_T_init_34 : decode mt_T_init.2.1 34 = .ok (.putfield 30, 3) := by decide +kernel
theorem dd_T_init_37 : decode mt_T_init.2.1 37 = .ok (.aload_n 0, 1) := by decide +kernel
theorem dd_T_init_38 : decode mt_T_init.2.1 38 = .ok (.aload_n 3, 1) := by decide +kernel
theorem dd_T_init_39 : decode mt_T_init.2.1 39 = .ok (.putfield 34, 3) := by decide +kernel
theorem dd_T_init_42 : decode mt_T_init.2.1 42 = .ok (.return_, 1) := by decide +kernel
theorem dd_T_hasError_0 : decode mt_T_hasError.2.1 0 = .ok (.aload_n 0, 1) := by decide +kernel
theorem dd_T_hasError_1 : decode mt_T_hasError.2.1 1 = .ok (.getfield 20, 3) := by decide +kernel
theorem dd_T_hasError_4 : decode mt_T_hasError.2.1 4 = .ok (.iconst 1, 1) := by decide +kernel
theorem dd_T_hasError_5 : decode mt_T_hasError.2.1 5 = .ok (.if_icmp .eq 11, 3) := by decide +kernel
theorem dd_T_hasError_8 : decode mt_T_hasError.2.1 8 = .ok (.aload_n 0, 1) := by decide +kernel
theorem dd_T_hasError_9 : decode mt_T_hasError.2.1 9 = .ok (.getfield 20, 3) := by decide +kernel
theorem dd_T_hasError_12 : decode mt_T_hasError.2.1 12 = .ok (.iconst 2, 1) := by decide +kernel
theorem dd_T_hasError_13 : decode mt_T_hasError.2.1 13 = .ok (.if_icmp .ne 7, 3) := by decide +kernel
theorem dd_T_hasError_16 : decode mt_T_hasError.2.1 16 = .ok (.iconst 1, 1) := by decide +kernel
theorem dd_T_hasError_17 : decode mt_T_hasError.2.1 17 = .ok (.goto 4, 3) := by decide +kernel
theorem dd_T_hasError_20 : decode mt_T_hasError.2.1 20 = .ok (.iconst 0, 1) := by decide +kernel
theorem dd_T_hasError_21 : decode mt_T_hasError.2.1 21 = .ok (.ireturn, 1) := by decide +kernel
theorem dd_T_isShutOrToBe_0 : decode mt_T_isShutOrToBe.2.1 0 = .ok (.aload_n 0, 1) := by decide +kernel
theorem dd_T_isShutOrToBe_1 : decode mt_T_isShutOrToBe.2.1 1 = .ok (.getfield 38, 3) := by decide +kernel
theorem dd_T_isShutOrToBe_4 : decode mt_T_isShutOrToBe.2.1 4 = .ok (.ifCond .ne 19, 3) := by decide +kernel
theorem dd_T_isShutOrToBe_7 : decode mt_T_isShutOrToBe.2.1 7 = .ok (.aload_n 0, 1) := by decide +kernel
theorem dd_T_isShutOrToBe_8 : decode mt_T_isShutOrToBe.2.1 8 = .ok (.getfield 24, 3) := by decide +kernel
theorem dd_T_isShutOrToBe_11 : decode mt_T_isShutOrToBe.2.1 11 = .ok (.iconst 4, 1) := by decide +kernel
theorem dd_T_isShutOrToBe_12 : decode mt_T_isShutOrToBe.2.1 12 = .ok (.if_icmp .eq 11, 3) := by decide +kernel
theorem dd_T_isShutOrToBe_15 : decode mt_T_isShutOrToBe.2.1 15 = .ok (.aload_n 0, 1) := by decide +kernel
theorem dd_T_isShutOrToBe_16 : decode mt_T_isShutOrToBe.2.1 16 = .ok (.getfield 20, 3) := by decide +kernel
theorem dd_T_isShutOrToBe_19 : decode mt_T_isShutOrToBe.2.1 19 = .ok (.iconst 3, 1) := by decide +kernel
theorem dd_T_isShutOrToBe_20 : decode mt_T_isShutOrToBe.2.1 20 = .ok (.if_icmp .ne 7, 3) := by decide +kernel
theorem dd_T_isShutOrToBe_23 : decode mt_T_isShutOrToBe.2.1 23 = .ok (.iconst 1, 1) := by decide +kernel
theorem dd_T_isShutOrToBe_24 : decode mt_T_isShutOrToBe.2.1 24 = .ok (.goto 4, 3) := by decide +kernel
theorem dd_T_isShutOrToBe_27 : decode mt_T_isShutOrToBe.2.1 27 = .ok (.iconst 0, 1) := by decide +kernel
theorem dd_T_isShutOrToBe_28 : decode mt_T_isShutOrToBe.2.1 28 = .ok (.ireturn, 1) := by decide +kernel
theorem dd_T_startNext_0 : decode mt_T_startNext.2.1 0 = .ok (.aload_n 0, 1) := by decide +kernel
theorem dd_T_startNext_1 : decode mt_T_startNext.2.1 1 = .ok (.getfield 24, 3) := by decide +kernel
theorem dd_T_startNext_4 : decode mt_T_startNext.2.1 4 = .ok (.ifCond .ne 10, 3) := by decide +kernel
theorem dd_T_startNext_7 : decode mt_T_startNext.2.1 7 = .ok (.aload_n 0, 1) := by decide +kernel
theorem dd_T_startNext_8 : decode mt_T_startNext.2.1 8 = .ok (.getfield 20, 3) := by decide +kernel
theorem dd_T_startNext_11 : decode mt_T_startNext.2.1 11 = .ok (.ifCond .eq 4, 3) := by decide +kernel
theorem dd_T_startNext_14 : decode mt_T_startNext.2.1 14 = .ok (.return_, 1) := by decide +kernel
theorem dd_T_startNext_15 : decode mt_T_startNext.2.1 15 = .ok (.aload_n 0, 1) := by decide +kernel
theorem dd_T_startNext_16 : decode mt_T_startNext.2.1 16 = .ok (.getfield 30, 3) := by decide +kernel
theorem dd_T_startNext_19 : decode mt_T_startNext.2.1 19 = .ok (.invokevirtual 108, 3) := by decide +kernel
theorem dd_T_startNext_22 : decode mt_T_startNext.2.1 22 = .ok (.ifCond .le 35, 3) := by decide +kernel
theorem dd_T_startNext_25 : decode mt_T_startNext.2.1 25 = .ok (.aload_n 0, 1) := by decide +kernel
theorem dd_T_startNext_26 : decode mt_T_startNext.2.1 26 = .ok (.iconst 3, 1) := by decide +kernel
theorem dd_T_startNext_27 : decode mt_T_startNext.2.1 27 = .ok (.putfield 24, 3) := by decide +kernel
theorem dd_T_startNext_30 : decode mt_T_startNext.2.1 30 = .ok (.aload_n 0, 1) := by decide +kernel
theorem dd_T_startNext_31 : decode mt_T_startNext.2.1 31 = .ok (.getfield 34, 3) := by decide +kernel
theorem dd_T_startNext_34 : decode mt_T_startNext.2.1 34 = .ok (.iconst 3, 1) := by decide +kernel
theorem dd_T_startNext_35 : decode mt_T_startNext.2.1 35 = .ok (.aload_n 0, 1) := by decide +kernel
theorem dd_T_startNext_36 : decode mt_T_startNext.2.1 36 = .ok (.getfield 27, 3) := by decide +kernel
theorem dd_T_startNext_39 : decode mt_T_startNext.2.1 39 = .ok (.aload_n 0, 1) := by decide +kernel
theorem dd_T_startNext_40 : decode mt_T_startNext.2.1 40 = .ok (.getfield 30, 3) := by decide +kernel
theorem dd_T_startNext_43 : decode mt_T_startNext.2.1 43 = .ok (.getfield 111, 3) := by decide +kernel
theorem dd_T_startNext_46 : decode mt_T_startNext.2.1 46 = .ok (.iconst 0, 1) := by decide +kernel
theorem dd_T_startNext_47 : decode mt_T_startNext.2.1 47 = .ok (.invokevirtual 114, 3) := by decide +kernel
theorem dd_T_startNext_50 : decode mt_T_startNext.2.1 50 = .ok (.iconst 0, 1) := by decide +kernel
theorem dd_T_startNext_51 : decode mt_T_startNext.2.1 51 = .ok (.invokevirtual 55, 3) := by decide +kernel
theorem dd_T_startNext_54 : decode mt_T_startNext.2.1 54 = .ok (.goto 34, 3) := by decide +kernel
theorem dd_T_startNext_57 : decode mt_T_startNext.2.1 57 = .ok (.aload_n 0, 1) := by decide +kernel
theorem dd_T_startNext_58 : decode mt_T_startNext.2.1 58 = .ok (.getfield 38, 3) := by decide +kernel
theorem dd_T_startNext_61 : decode mt_T_startNext.2.1 61 = .ok (.ifCond .eq 27, 3) := by decide +kernel
theorem dd_T_startNext_64 : decode mt_T_startNext.2.1 64 = .ok (.aload_n 0, 1) := by decide +kernel
theorem dd_T_startNext_65 : decode mt_T_startNext.2.1 65 = .ok (.iconst 0, 1) := by decide +kernel
theorem dd_T_startNext_66 : decode mt_T_startNext.2.1 66 = .ok (.putfield 38, 3) := by decide +kernel
theorem dd_T_startNext_69 : decode mt_T_startNext.2.1 69 = .ok (.aload_n 0, 1) := by decide +kernel
theorem dd_T_startNext_70 : decode mt_T_startNext.2.1 70 = .ok (.iconst 4, 1) := by decide +kernel
theorem dd_T_startNext_71 : decode mt_T_startNext.2.1 71 = .ok (.putfield 24, 3) := by decide +kernel
theorem dd_T_startNext_74 : decode mt_T_startNext.2.1 74 = .ok (.aload_n 0, 1) := by decide +kernel
theorem dd_T_startNext_75 : decode mt_T_startNext.2.1 75 = .ok (.getfield 34, 3) := by decide +kernel
theorem dd_T_startNext_78 : decode mt_T_startNext.2.1 78 = .ok (.iconst 4, 1) := by decide +kernel
theorem dd_T_startNext_79 : decode mt_T_startNext.2.1 79 = .ok (.aload_n 0, 1) := by decide +kernel
theorem dd_T_startNext_80 : decode mt_T_startNext.2.1 80 = .ok (.getfield 27, 3) := by decide +kernel
theorem dd_T_startNext_83 : decode mt_T_startNext.2.1 83 = .ok (.iconst 0, 1) := by decide +kernel
theorem dd_T_startNext_84 : decode mt_T_startNext.2.1 84 = .ok (.iconst 0, 1) := by decide +kernel
theorem dd_T_startNext_85 : decode mt_T_startNext.2.1 85 = .ok (.invokevirtual 55, 3) := by decide +kernel
theorem dd_T_startNext_88 : decode mt_T_startNext.2.1 88 = .ok (.return_, 1) := by decide +kernel
theorem dd_T_accept_0 : decode mt_T_accept.2.1 0 = .ok (.aload_n 0, 1) := by decide +kernel
theorem dd_T_accept_1 : decode mt_T_accept.2.1 1 = .ok (.dup, 1) := by decide +kernel
theorem dd_T_accept_2 : decode mt_T_accept.2.1 2 = .ok (.getfield 46, 3) := by decide +kernel
theorem dd_T_accept_5 : decode mt_T_accept.2.1 5 = .ok (.iconst 1, 1) := by decide +kernel
theorem dd_T_accept_6 : decode mt_T_accept.2.1 6 = .ok (.iadd, 1) := by decide +kernel
theorem dd_T_accept_7 : decode mt_T_accept.2.1 7 = .ok (.putfield 46, 3) := by decide +kernel
theorem dd_T_accept_10 : decode mt_T_accept.2.1 10 = .ok (.aload_n 0, 1) := by decide +kernel
theorem dd_T_accept_11 : decode mt_T_accept.2.1 11 = .ok (.invokevirtual 49, 3) := by decide +kernel
theorem dd_T_accept_14 : decode mt_T_accept.2.1 14 = .ok (.ifCond .eq 27, 3) := by decide +kernel
theorem dd_T_accept_17 : decode mt_T_accept.2.1 17 = .ok (.aload_n 0, 1) := by decide +kernel
theorem dd_T_accept_18 : decode mt_T_accept.2.1 18 = .ok (.getfield 34, 3) := by decide +kernel
theorem dd_T_accept_21 : decode mt_T_accept.2.1 21 = .ok (.bipush 10, 2) := by decide +kernel
theorem dd_T_accept_23 : decode mt_T_accept.2.1 23 = .ok (.aload_n 0, 1) := by decide +kernel
theorem dd_T_accept_24 : decode mt_T_accept.2.1 24 = .ok (.getfield 27, 3) := by decide +kernel
theorem dd_T_accept_27 : decode mt_T_accept.2.1 27 = .ok (.aload_n 0, 1) := by decide +kernel
theorem dd_T_accept_28 : decode mt_T_accept.2.1 28 = .ok (.getfield 46, 3) := by decide +kernel
theorem dd_T_accept_31 : decode mt_T_accept.2.1 31 = .ok (.aload_n 0, 1) := by decide +kernel
theorem dd_T_accept_32 : decode mt_T_accept.2.1 32 = .ok (.getfield 52, 3) := by decide +kernel
theorem dd_T_accept_35 : decode mt_T_accept.2.1 35 = .ok (.invokevirtual 55, 3) := by decide +kernel
theorem dd_T_accept_38 : decode mt_T_accept.2.1 38 = .ok (.goto 55, 3) := by decide +kernel
theorem dd_T_accept_41 : decode mt_T_accept.2.1 41 = .ok (.aload_n 0, 1) := by decide +kernel
theorem dd_T_accept_42 : decode mt_T_accept.2.1 42 = .ok (.invokevirtual 42, 3) := by decide +kernel
theorem dd_T_accept_45 : decode mt_T_accept.2.1 45 = .ok (.ifCond .eq 25, 3) := by decide +kernel
theorem dd_T_accept_48 : decode mt_T_accept.2.1 48 = .ok (.aload_n 0, 1) := by decide +kernel
theorem dd_T_accept_49 : decode mt_T_accept.2.1 49 = .ok (.getfield 34, 3) := by decide +kernel
theorem dd_T_accept_52 : decode mt_T_accept.2.1 52 = .ok (.bipush 10, 2) := by decide +kernel
theorem dd_T_accept_54 : decode mt_T_accept.2.1 54 = .ok (.aload_n 0, 1) := by decide +kernel
theorem dd_T_accept_55 : decode mt_T_accept.2.1 55 = .ok (.getfield 27, 3) := by decide +kernel
theorem dd_T_accept_58 : decode mt_T_accept.2.1 58 = .ok (.aload_n 0, 1) := by decide +kernel
theorem dd_T_accept_59 : decode mt_T_accept.2.1 59 = .ok (.getfield 46, 3) := by decide +kernel
theorem dd_T_accept_62 : decode mt_T_accept.2.1 62 = .ok (.bipush 100, 2) := by decide +kernel
theorem dd_T_accept_64 : decode mt_T_accept.2.1 64 = .ok (.invokevirtual 55, 3) := by decide +kernel
theorem dd_T_accept_67 : decode mt_T_accept.2.1 67 = .ok (.goto 26, 3) := by decide +kernel
theorem dd_T_accept_70 : decode mt_T_accept.2.1 70 = .ok (.aload_n 0, 1) := by decide +kernel
theorem dd_T_accept_71 : decode mt_T_accept.2.1 71 = .ok (.getfield 30, 3) := by decide +kernel
theorem dd_T_accept_74 : decode mt_T_accept.2.1 74 = .ok (.iload_n 1, 1) := by decide +kernel
theorem dd_T_accept_75 : decode mt_T_accept.2.1 75 = .ok (.invokevirtual 61, 3) := by decide +kernel
theorem dd_T_accept_78 : decode mt_T_accept.2.1 78 = .ok (.aload_n 0, 1) := by decide +kernel
theorem dd_T_accept_79 : decode mt_T_accept.2.1 79 = .ok (.getfield 14, 3) := by decide +kernel
theorem dd_T_accept_82 : decode mt_T_accept.2.1 82 = .ok (.aload_n 0, 1) := by decide +kernel
theorem dd_T_accept_83 : decode mt_T_accept.2.1 83 = .ok (.getfield 46, 3) := by decide +kernel
theorem dd_T_accept_86 : decode mt_T_accept.2.1 86 = .ok (.invokevirtual 66, 3) := by decide +kernel
theorem dd_T_accept_89 : decode mt_T_accept.2.1 89 = .ok (.aload_n 0, 1) := by decide +kernel
theorem dd_T_accept_90 : decode mt_T_accept.2.1 90 = .ok (.invokevirtual 67, 3) := by decide +kernel
theorem dd_T_accept_93 : decode mt_T_accept.2.1 93 = .ok (.aload_n 0, 1) := by decide +kernel
theorem dd_T_accept_94 : decode mt_T_accept.2.1 94 = .ok (.getfield 46, 3) := by decide +kernel
theorem dd_T_accept_97 : decode mt_T_accept.2.1 97 = .ok (.ireturn, 1) := by decide +kernel
theorem dd_T_canShutDown_0 : decode mt_T_canShutDown.2.1 0 = .ok (.aload_n 0, 1) := by decide +kernel
theorem dd_T_canShutDown_1 : decode mt_T_canShutDown.2.1 1 = .ok (.getfield 20, 3) := by decide +kernel
theorem dd_T_canShutDown_4 : decode mt_T_canShutDown.2.1 4 = .ok (.iconst 2, 1) := by decide +kernel
theorem dd_T_canShutDown_5 : decode mt_T_canShutDown.2.1 5 = .ok (.if_icmp .eq 14, 3) := by decide +kernel
theorem dd_T_canShutDown_8 : decode mt_T_canShutDown.2.1 8 = .ok (.aload_n 0, 1) := by decide +kernel
theorem dd_T_canShutDown_9 : decode mt_T_canShutDown.2.1 9 = .ok (.invokevirtual 42, 3) := by decide +kernel
theorem dd_T_canShutDown_12 : decode mt_T_canShutDown.2.1 12 = .ok (.ifCond .ne 7, 3) := by decide +kernel
theorem dd_T_canShutDown_15 : decode mt_T_canShutDown.2.1 15 = .ok (.iconst 1, 1) := by decide +kernel
theorem dd_T_canShutDown_16 : decode mt_T_canShutDown.2.1 16 = .ok (.goto 4, 3) := by decide +kernel
theorem dd_T_canShutDown_19 : decode mt_T_canShutDown.2.1 19 = .ok (.iconst 0, 1) := by decide +kernel
theorem dd_T_canShutDown_20 : decode mt_T_canShutDown.2.1 20 = .ok (.ireturn, 1) := by decide +kernel
theorem dd_T_startAbort_0 : decode mt_T_startAbort.2.1 0 = .ok (.aload_n 0, 1) := by decide +kernel
theorem dd_T_startAbort_1 : decode mt_T_startAbort.2.1 1 = .ok (.iconst 0, 1) := by decide +kernel
theorem dd_T_startAbort_2 : decode mt_T_startAbort.2.1 2 = .ok (.putfield 76, 3) := by decide +kernel
theorem dd_T_startAbort_5 : decode mt_T_startAbort.2.1 5 = .ok (.aload_n 0, 1) := by decide +kernel
theorem dd_T_startAbort_6 : decode mt_T_startAbort.2.1 6 = .ok (.getfield 82, 3) := by decide +kernel
theorem dd_T_startAbort_9 : decode mt_T_startAbort.2.1 9 = .ok (.ifCond .eq 24, 3) := by decide +kernel
theorem dd_T_startAbort_12 : decode mt_T_startAbort.2.1 12 = .ok (.aload_n 0, 1) := by decide +kernel
theorem dd_T_startAbort_13 : decode mt_T_startAbort.2.1 13 = .ok (.getfield 34, 3) := by decide +kernel
theorem dd_T_startAbort_16 : decode mt_T_startAbort.2.1 16 = .ok (.bipush 14, 2) := by decide +kernel
theorem dd_T_startAbort_18 : decode mt_T_startAbort.2.1 18 = .ok (.aload_n 0, 1) := by decide +kernel
theorem dd_T_startAbort_19 : decode mt_T_startAbort.2.1 19 = .ok (.getfield 27, 3) := by decide +kernel
theorem dd_T_startAbort_22 : decode mt_T_startAbort.2.1 22 = .ok (.aload_n 0, 1) := by decide +kernel
theorem dd_T_startAbort_23 : decode mt_T_startAbort.2.1 23 = .ok (.getfield 52, 3) := by decide +kernel
theorem dd_T_startAbort_26 : decode mt_T_startAbort.2.1 26 = .ok (.iconst 0, 1) := by decide +kernel
theorem dd_T_startAbort_27 : decode mt_T_startAbort.2.1 27 = .ok (.invokevirtual 55, 3) := by decide +kernel
theorem dd_T_startAbort_30 : decode mt_T_startAbort.2.1 30 = .ok (.goto 25, 3) := by decide +kernel
theorem dd_T_startAbort_33 : decode mt_T_startAbort.2.1 33 = .ok (.aload_n 0, 1) := by decide +kernel
theorem dd_T_startAbort_34 : decode mt_T_startAbort.2.1 34 = .ok (.iconst 5, 1) := by decide +kernel
theorem dd_T_startAbort_35 : decode mt_T_startAbort.2.1 35 = .ok (.putfield 24, 3) := by decide +kernel
theorem dd_T_startAbort_38 : decode mt_T_startAbort.2.1 38 = .ok (.aload_n 0, 1) := by decide +kernel
theorem dd_T_startAbort_39 : decode mt_T_startAbort.2.1 39 = .ok (.getfield 34, 3) := by decide +kernel
theorem dd_T_startAbort_42 : decode mt_T_startAbort.2.1 42 = .ok (.iconst 5, 1) := by decide +kernel
theorem dd_T_startAbort_43 : decode mt_T_startAbort.2.1 43 = .ok (.aload_n 0, 1) := by decide +kernel
theorem dd_T_startAbort_44 : decode mt_T_startAbort.2.1 44 = .ok (.getfield 27, 3) := by decide +kernel
theorem dd_T_startAbort_47 : decode mt_T_startAbort.2.1 47 = .ok (.aload_n 0, 1) := by decide +kernel
theorem dd_T_startAbort_48 : decode mt_T_startAbort.2.1 48 = .ok (.getfield 79, 3) := by decide +kernel
theorem dd_T_startAbort_51 : decode mt_T_startAbort.2.1 51 = .ok (.iconst 0, 1) := by decide +kernel
theorem dd_T_startAbort_52 : decode mt_T_startAbort.2.1 52 = .ok (.invokevirtual 55, 3) := by decide +kernel
theorem dd_T_startAbort_55 : decode mt_T_startAbort.2.1 55 = .ok (.return_, 1) := by decide +kernel
theorem dd_T_loseEnd_0 : decode mt_T_loseEnd.2.1 0 = .ok (.aload_n 0, 1) := by decide +kernel
theorem dd_T_loseEnd_1 : decode mt_T_loseEnd.2.1 1 = .ok (.getfield 38, 3) := by decide +kernel
theorem dd_T_loseEnd_4 : decode mt_T_loseEnd.2.1 4 = .ok (.ifCond .eq 26, 3) := by decide +kernel
theorem dd_T_loseEnd_7 : decode mt_T_loseEnd.2.1 7 = .ok (.aload_n 0, 1) := by decide +kernel
theorem dd_T_loseEnd_8 : decode mt_T_loseEnd.2.1 8 = .ok (.iconst 0, 1) := by decide +kernel
theorem dd_T_loseEnd_9 : decode mt_T_loseEnd.2.1 9 = .ok (.putfield 38, 3) := by decide +kernel
theorem dd_T_loseEnd_12 : decode mt_T_loseEnd.2.1 12 = .ok (.aload_n 0, 1) := by decide +kernel
theorem dd_T_loseEnd_13 : decode mt_T_loseEnd.2.1 13 = .ok (.getfield 34, 3) := by decide +kernel
theorem dd_T_loseEnd_16 : decode mt_T_loseEnd.2.1 16 = .ok (.bipush 12, 2) := by decide +kernel
theorem dd_T_loseEnd_18 : decode mt_T_loseEnd.2.1 18 = .ok (.aload_n 0, 1) := by decide +kernel
theorem dd_T_loseEnd_19 : decode mt_T_loseEnd.2.1 19 = .ok (.getfield 27, 3) := by decide +kernel
theorem dd_T_loseEnd_22 : decode mt_T_loseEnd.2.1 22 = .ok (.aload_n 0, 1) := by decide +kernel
theorem dd_T_loseEnd_23 : decode mt_T_loseEnd.2.1 23 = .ok (.getfield 52, 3) := by decide +kernel
theorem dd_T_loseEnd_26 : decode mt_T_loseEnd.2.1 26 = .ok (.iconst 0, 1) := by decide +kernel
theorem dd_T_loseEnd_27 : decode mt_T_loseEnd.2.1 27 = .ok (.invokevirtual 55, 3) := by decide +kernel
theorem dd_T_loseEnd_30 : decode mt_T_loseEnd.2.1 30 = .ok (.return_, 1) := by decide +kernel
theorem dd_T_breakDown_0 : decode mt_T_breakDown.2.1 0 = .ok (.aload_n 0, 1) := by decide +kernel
theorem dd_T_breakDown_1 : decode mt_T_breakDown.2.1 1 = .ok (.iconst 2, 1) := by decide +kernel
theorem dd_T_breakDown_2 : decode mt_T_breakDown.2.1 2 = .ok (.putfield 20, 3) := by decide +kernel
theorem dd_T_breakDown_5 : decode mt_T_breakDown.2.1 5 = .ok (.iconst 0, 1) := by decide +kernel
theorem dd_T_breakDown_6 : decode mt_T_breakDown.2.1 6 = .ok (.istore_n 1, 1) := by decide +kernel
theorem dd_T_breakDown_7 : decode mt_T_breakDown.2.1 7 = .ok (.iload_n 1, 1) := by decide +kernel
theorem dd_T_breakDown_8 : decode mt_T_breakDown.2.1 8 = .ok (.aload_n 0, 1) := by decide +kernel
theorem dd_T_breakDown_9 : decode mt_T_breakDown.2.1 9 = .ok (.getfield 14, 3) := by decide +kernel
theorem dd_T_breakDown_12 : decode mt_T_breakDown.2.1 12 = .ok (.getfield 118, 3) := by decide +kernel
theorem dd_T_breakDown_15 : decode mt_T_breakDown.2.1 15 = .ok (.if_icmp .ge 34, 3) := by decide +kernel
theorem dd_T_breakDown_18 : decode mt_T_breakDown.2.1 18 = .ok (.aload_n 0, 1) := by decide +kernel
theorem dd_T_breakDown_19 : decode mt_T_breakDown.2.1 19 = .ok (.getfield 34, 3) := by decide +kernel
theorem dd_T_breakDown_22 : decode mt_T_breakDown.2.1 22 = .ok (.bipush 10, 2) := by decide +kernel
theorem dd_T_breakDown_24 : decode mt_T_breakDown.2.1 24 = .ok (.aload_n 0, 1) := by decide +kernel
theorem dd_T_breakDown_25 : decode mt_T_breakDown.2.1 25 = .ok (.getfield 27, 3) := by decide +kernel
theorem dd_T_breakDown_28 : decode mt_T_breakDown.2.1 28 = .ok (.aload_n 0, 1) := by decide +kernel
theorem dd_T_breakDown_29 : decode mt_T_breakDown.2.1 29 = .ok (.getfield 14, 3) := by decide +kernel
theorem dd_T_breakDown_32 : decode mt_T_breakDown.2.1 32 = .ok (.iload_n 1, 1) := by decide +kernel
theorem dd_T_breakDown_33 : decode mt_T_breakDown.2.1 33 = .ok (.invokevirtual 114, 3) := by decide +kernel
theorem dd_T_breakDown_36 : decode mt_T_breakDown.2.1 36 = .ok (.aload_n 0, 1) := by decide +kernel
theorem dd_T_breakDown_37 : decode mt_T_breakDown.2.1 37 = .ok (.getfield 52, 3) := by decide +kernel
theorem dd_T_breakDown_40 : decode mt_T_breakDown.2.1 40 = .ok (.invokevirtual 55, 3) := by decide +kernel
theorem dd_T_breakDown_43 : decode mt_T_breakDown.2.1 43 = .ok (.iinc 1 1, 3) := by decide +kernel
theorem dd_T_breakDown_46 : decode mt_T_breakDown.2.1 46 = .ok (.goto (-39), 3) := by decide +kernel
theorem dd_T_breakDown_49 : decode mt_T_breakDown.2.1 49 = .ok (.aload_n 0, 1) := by decide +kernel
theorem dd_T_breakDown_50 : decode mt_T_breakDown.2.1 50 = .ok (.getfield 14, 3) := by decide +kernel
theorem dd_T_breakDown_53 : decode mt_T_breakDown.2.1 53 = .ok (.invokevirtual 120, 3) := by decide +kernel
theorem dd_T_breakDown_56 : decode mt_T_breakDown.2.1 56 = .ok (.aload_n 0, 1) := by decide +kernel
theorem dd_T_breakDown_57 : decode mt_T_breakDown.2.1 57 = .ok (.getfield 30, 3) := by decide +kernel
theorem dd_T_breakDown_60 : decode mt_T_breakDown.2.1 60 = .ok (.invokevirtual 123, 3) := by decide +kernel
theorem dd_T_breakDown_63 : decode mt_T_breakDown.2.1 63 = .ok (.aload_n 0, 1) := by decide +kernel
theorem dd_T_breakDown_64 : decode mt_T_breakDown.2.1 64 = .ok (.getfield 76, 3) := by decide +kernel
theorem dd_T_breakDown_67 : decode mt_T_breakDown.2.1 67 = .ok (.ifCond .eq 7, 3) := by decide +kernel
theorem dd_T_breakDown_70 : decode mt_T_breakDown.2.1 70 = .ok (.aload_n 0, 1) := by decide +kernel
theorem dd_T_breakDown_71 : decode mt_T_breakDown.2.1 71 = .ok (.invokevirtual 124, 3) := by decide +kernel
theorem dd_T_breakDown_74 : decode mt_T_breakDown.2.1 74 = .ok (.aload_n 0, 1) := by decide +kernel
theorem dd_T_breakDown_75 : decode mt_T_breakDown.2.1 75 = .ok (.getfield 24, 3) := by decide +kernel
theorem dd_T_breakDown_78 : decode mt_T_breakDown.2.1 78 = .ok (.iconst 5, 1) := by decide +kernel
theorem dd_T_breakDown_79 : decode mt_T_breakDown.2.1 79 = .ok (.if_icmp .eq 7, 3) := by decide +kernel
theorem dd_T_breakDown_82 : decode mt_T_breakDown.2.1 82 = .ok (.aload_n 0, 1) := by decide +kernel
theorem dd_T_breakDown_83 : decode mt_T_breakDown.2.1 83 = .ok (.invokevirtual 105, 3) := by decide +kernel
theorem dd_T_breakDown_86 : decode mt_T_breakDown.2.1 86 = .ok (.return_, 1) := by decide +kernel
theorem dd_T_goOn_0 : decode mt_T_goOn.2.1 0 = .ok (.aload_n 0, 1) := by decide +kernel
theorem dd_T_goOn_1 : decode mt_T_goOn.2.1 1 = .ok (.getfield 24, 3) := by decide +kernel
theorem dd_T_goOn_4 : decode mt_T_goOn.2.1 4 = .ok (.ifCond .ne 18, 3) := by decide +kernel
theorem dd_T_goOn_7 : decode mt_T_goOn.2.1 7 = .ok (.aload_n 0, 1) := by decide +kernel
theorem dd_T_goOn_8 : decode mt_T_goOn.2.1 8 = .ok (.getfield 20, 3) := by decide +kernel
theorem dd_T_goOn_11 : decode mt_T_goOn.2.1 11 = .ok (.iconst 1, 1) := by decide +kernel
theorem dd_T_goOn_12 : decode mt_T_goOn.2.1 12 = .ok (.if_icmp .ne 10, 3) := by decide +kernel
theorem dd_T_goOn_15 : decode mt_T_goOn.2.1 15 = .ok (.aload_n 0, 1) := by decide +kernel
theorem dd_T_goOn_16 : decode mt_T_goOn.2.1 16 = .ok (.invokevirtual 88, 3) := by decide +kernel
theorem dd_T_goOn_19 : decode mt_T_goOn.2.1 19 = .ok (.goto 7, 3) := by decide +kernel
theorem dd_T_goOn_22 : decode mt_T_goOn.2.1 22 = .ok (.aload_n 0, 1) := by decide +kernel
theorem dd_T_goOn_23 : decode mt_T_goOn.2.1 23 = .ok (.invokevirtual 67, 3) := by decide +kernel
theorem dd_T_goOn_26 : decode mt_T_goOn.2.1 26 = .ok (.return_, 1) := by decide +kernel
theorem dd_T_shutDown_0 : decode mt_T_shutDown.2.1 0 = .ok (.aload_n 0, 1) := by decide +kernel
theorem dd_T_shutDown_1 : decode mt_T_shutDown.2.1 1 = .ok (.invokevirtual 70, 3) := by decide +kernel
theorem dd_T_shutDown_4 : decode mt_T_shutDown.2.1 4 = .ok (.ifCond .eq 12, 3) := by decide +kernel
theorem dd_T_shutDown_7 : decode mt_T_shutDown.2.1 7 = .ok (.aload_n 0, 1) := by decide +kernel
theorem dd_T_shutDown_8 : decode mt_T_shutDown.2.1 8 = .ok (.iconst 1, 1) := by decide +kernel
theorem dd_T_shutDown_9 : decode mt_T_shutDown.2.1 9 = .ok (.putfield 38, 3) := by decide +kernel
theorem dd_T_shutDown_12 : decode mt_T_shutDown.2.1 12 = .ok (.aload_n 0, 1) := by decide +kernel
theorem dd_T_shutDown_13 : decode mt_T_shutDown.2.1 13 = .ok (.invokevirtual 73, 3) := by decide +kernel
theorem dd_T_shutDown_16 : decode mt_T_shutDown.2.1 16 = .ok (.return_, 1) := by decide +kernel
theorem dd_T_startFailing_0 : decode mt_T_startFailing.2.1 0 = .ok (.aload_n 0, 1) := by decide +kernel
theorem dd_T_startFailing_1 : decode mt_T_startFailing.2.1 1 = .ok (.iconst 1, 1) := by decide +kernel
theorem dd_T_startFailing_2 : decode mt_T_startFailing.2.1 2 = .ok (.putfield 20, 3) := by decide +kernel
theorem dd_T_startFailing_5 : decode mt_T_startFailing.2.1 5 = .ok (.aload_n 0, 1) := by decide +kernel
theorem dd_T_startFailing_6 : decode mt_T_startFailing.2.1 6 = .ok (.iload_n 1, 1) := by decide +kernel
theorem dd_T_startFailing_7 : decode mt_T_startFailing.2.1 7 = .ok (.putfield 52, 3) := by decide +kernel
theorem dd_T_startFailing_10 : decode mt_T_startFailing.2.1 10 = .ok (.aload_n 0, 1) := by decide +kernel
theorem dd_T_startFailing_11 : decode mt_T_startFailing.2.1 11 = .ok (.getfield 24, 3) := by decide +kernel
theorem dd_T_startFailing_14 : decode mt_T_startFailing.2.1 14 = .ok (.ifCond .ne 7, 3) := by decide +kernel
theorem dd_T_startFailing_17 : decode mt_T_startFailing.2.1 17 = .ok (.aload_n 0, 1) := by decide +kernel
theorem dd_T_startFailing_18 : decode mt_T_startFailing.2.1 18 = .ok (.invokevirtual 88, 3) := by decide +kernel
theorem dd_T_startFailing_21 : decode mt_T_startFailing.2.1 21 = .ok (.return_, 1) := by decide +kernel
theorem dd_T_abortWith_0 : decode mt_T_abortWith.2.1 0 = .ok (.aload_n 0, 1) := by decide +kernel
theorem dd_T_abortWith_1 : decode mt_T_abortWith.2.1 1 = .ok (.getfield 20, 3) := by decide +kernel
theorem dd_T_abortWith_4 : decode mt_T_abortWith.2.1 4 = .ok (.iconst 3, 1) := by decide +kernel
theorem dd_T_abortWith_5 : decode mt_T_abortWith.2.1 5 = .ok (.if_icmp .eq 11, 3) := by decide +kernel
theorem dd_T_abortWith_8 : decode mt_T_abortWith.2.1 8 = .ok (.aload_n 0, 1) := by decide +kernel
theorem dd_T_abortWith_9 : decode mt_T_abortWith.2.1 9 = .ok (.getfield 20, 3) := by decide +kernel
theorem dd_T_abortWith_12 : decode mt_T_abortWith.2.1 12 = .ok (.iconst 2, 1) := by decide +kernel
theorem dd_T_abortWith_13 : decode mt_T_abortWith.2.1 13 = .ok (.if_icmp .ne 19, 3) := by decide +kernel
theorem dd_T_abortWith_16 : decode mt_T_abortWith.2.1 16 = .ok (.aload_n 0, 1) := by decide +kernel
theorem dd_T_abortWith_17 : decode mt_T_abortWith.2.1 17 = .ok (.getfield 34, 3) := by decide +kernel
theorem dd_T_abortWith_20 : decode mt_T_abortWith.2.1 20 = .ok (.bipush 13, 2) := by decide +kernel
theorem dd_T_abortWith_22 : decode mt_T_abortWith.2.1 22 = .ok (.aload_n 0, 1) := by decide +kernel
theorem dd_T_abortWith_23 : decode mt_T_abortWith.2.1 23 = .ok (.getfield 27, 3) := by decide +kernel
theorem dd_T_abortWith_26 : decode mt_T_abortWith.2.1 26 = .ok (.iconst 0, 1) := by decide +kernel
theorem dd_T_abortWith_27 : decode mt_T_abortWith.2.1 27 = .ok (.iconst 0, 1) := by decide +kernel
theorem dd_T_abortWith_28 : decode mt_T_abortWith.2.1 28 = .ok (.invokevirtual 55, 3) := by decide +kernel
theorem dd_T_abortWith_31 : decode mt_T_abortWith.2.1 31 = .ok (.return_, 1) := by decide +kernel
theorem dd_T_abortWith_32 : decode mt_T_abortWith.2.1 32 = .ok (.aload_n 0, 1) := by decide +kernel
theorem dd_T_abortWith_33 : decode mt_T_abortWith.2.1 33 = .ok (.getfield 76, 3) := by decide +kernel
theorem dd_T_abortWith_36 : decode mt_T_abortWith.2.1 36 = .ok (.ifCond .eq 4, 3) := by decide +kernel
theorem dd_T_abortWith_39 : decode mt_T_abortWith.2.1 39 = .ok (.return_, 1) := by decide +kernel
theorem dd_T_abortWith_40 : decode mt_T_abortWith.2.1 40 = .ok (.aload_n 0, 1) := by decide +kernel
theorem dd_T_abortWith_41 : decode mt_T_abortWith.2.1 41 = .ok (.iconst 1, 1) := by decide +kernel
theorem dd_T_abortWith_42 : decode mt_T_abortWith.2.1 42 = .ok (.putfield 76, 3) := by decide +kernel
theorem dd_T_abortWith_45 : decode mt_T_abortWith.2.1 45 = .ok (.aload_n 0, 1) := by decide +kernel
theorem dd_T_abortWith_46 : decode mt_T_abortWith.2.1 46 = .ok (.iload_n 1, 1) := by decide +kernel
theorem dd_T_abortWith_47 : decode mt_T_abortWith.2.1 47 = .ok (.putfield 79, 3) := by decide +kernel
theorem dd_T_abortWith_50 : decode mt_T_abortWith.2.1 50 = .ok (.aload_n 0, 1) := by decide +kernel
theorem dd_T_abortWith_51 : decode mt_T_abortWith.2.1 51 = .ok (.aload_n 0, 1) := by decide +kernel
theorem dd_T_abortWith_52 : decode mt_T_abortWith.2.1 52 = .ok (.getfield 20, 3) := by decide +kernel
theorem dd_T_abortWith_55 : decode mt_T_abortWith.2.1 55 = .ok (.iconst 1, 1) := by decide +kernel
theorem dd_T_abortWith_56 : decode mt_T_abortWith.2.1 56 = .ok (.if_icmp .ne 7, 3) := by decide +kernel
theorem dd_T_abortWith_59 : decode mt_T_abortWith.2.1 59 = .ok (.iconst 1, 1) := by decide +kernel
theorem dd_T_abortWith_60 : decode mt_T_abortWith.2.1 60 = .ok (.goto 4, 3) := by decide +kernel
theorem dd_T_abortWith_63 : decode mt_T_abortWith.2.1 63 = .ok (.iconst 0, 1) := by decide +kernel
theorem dd_T_abortWith_64 : decode mt_T_abortWith.2.1 64 = .ok (.putfield 82, 3) := by decide +kernel
theorem dd_T_abortWith_67 : decode mt_T_abortWith.2.1 67 = .ok (.aload_n 0, 1) := by decide +kernel
theorem dd_T_abortWith_68 : decode mt_T_abortWith.2.1 68 = .ok (.getfield 82, 3) := by decide +kernel
theorem dd_T_abortWith_71 : decode mt_T_abortWith.2.1 71 = .ok (.ifCond .ne 8, 3) := by decide +kernel
theorem dd_T_abortWith_74 : decode mt_T_abortWith.2.1 74 = .ok (.aload_n 0, 1) := by decide +kernel
theorem dd_T_abortWith_75 : decode mt_T_abortWith.2.1 75 = .ok (.iload_n 1, 1) := by decide +kernel
theorem dd_T_abortWith_76 : decode mt_T_abortWith.2.1 76 = .ok (.invokevirtual 85, 3) := by decide +kernel
theorem dd_T_abortWith_79 : decode mt_T_abortWith.2.1 79 = .ok (.return_, 1) := by decide +kernel
theorem dd_T_failOrBreak_0 : decode mt_T_failOrBreak.2.1 0 = .ok (.aload_n 0, 1) := by decide +kernel
theorem dd_T_failOrBreak_1 : decode mt_T_failOrBreak.2.1 1 = .ok (.getfield 20, 3) := by decide +kernel
theorem dd_T_failOrBreak_4 : decode mt_T_failOrBreak.2.1 4 = .ok (.ifCond .ne 8, 3) := by decide +kernel
theorem dd_T_failOrBreak_7 : decode mt_T_failOrBreak.2.1 7 = .ok (.aload_n 0, 1) := by decide +kernel
theorem dd_T_failOrBreak_8 : decode mt_T_failOrBreak.2.1 8 = .ok (.iload_n 1, 1) := by decide +kernel
theorem dd_T_failOrBreak_9 : decode mt_T_failOrBreak.2.1 9 = .ok (.putfield 52, 3) := by decide +kernel
theorem dd_T_failOrBreak_12 : decode mt_T_failOrBreak.2.1 12 = .ok (.aload_n 0, 1) := by decide +kernel
theorem dd_T_failOrBreak_13 : decode mt_T_failOrBreak.2.1 13 = .ok (.invokevirtual 88, 3) := by decide +kernel
theorem dd_T_failOrBreak_16 : decode mt_T_failOrBreak.2.1 16 = .ok (.return_, 1) := by decide +kernel
theorem dd_T_written_0 : decode mt_T_written.2.1 0 = .ok (.aload_n 0, 1) := by decide +kernel
theorem dd_T_written_1 : decode mt_T_written.2.1 1 = .ok (.getfield 30, 3) := by decide +kernel
theorem dd_T_written_4 : decode mt_T_written.2.1 4 = .ok (.invokevirtual 91, 3) := by decide +kernel
theorem dd_T_written_7 : decode mt_T_written.2.1 7 = .ok (.pop, 1) := by decide +kernel
theorem dd_T_written_8 : decode mt_T_written.2.1 8 = .ok (.aload_n 0, 1) := by decide +kernel
theorem dd_T_written_9 : decode mt_T_written.2.1 9 = .ok (.getfield 14, 3) := by decide +kernel
theorem dd_T_written_12 : decode mt_T_written.2.1 12 = .ok (.invokevirtual 95, 3) := by decide +kernel
theorem dd_T_written_15 : decode mt_T_written.2.1 15 = .ok (.istore_n 2, 1) := by decide +kernel
theorem dd_T_written_16 : decode mt_T_written.2.1 16 = .ok (.iload_n 1, 1) := by decide +kernel
theorem dd_T_written_17 : decode mt_T_written.2.1 17 = .ok (.iconst (-1), 1) := by decide +kernel
theorem dd_T_written_18 : decode mt_T_written.2.1 18 = .ok (.if_icmp .ne 25, 3) := by decide +kernel
theorem dd_T_written_21 : decode mt_T_written.2.1 21 = .ok (.aload_n 0, 1) := by decide +kernel
theorem dd_T_written_22 : decode mt_T_written.2.1 22 = .ok (.getfield 34, 3) := by decide +kernel
theorem dd_T_written_25 : decode mt_T_written.2.1 25 = .ok (.bipush 9, 2) := by decide +kernel
theorem dd_T_written_27 : decode mt_T_written.2.1 27 = .ok (.aload_n 0, 1) := by decide +kernel
theorem dd_T_written_28 : decode mt_T_written.2.1 28 = .ok (.getfield 27, 3) := by decide +kernel
theorem dd_T_written_31 : decode mt_T_written.2.1 31 = .ok (.iload_n 2, 1) := by decide +kernel
theorem dd_T_written_32 : decode mt_T_written.2.1 32 = .ok (.iconst 0, 1) := by decide +kernel
theorem dd_T_written_33 : decode mt_T_written.2.1 33 = .ok (.invokevirtual 55, 3) := by decide +kernel
theorem dd_T_written_36 : decode mt_T_written.2.1 36 = .ok (.aload_n 0, 1) := by decide +kernel
theorem dd_T_written_37 : decode mt_T_written.2.1 37 = .ok (.invokevirtual 73, 3) := by decide +kernel
theorem dd_T_written_40 : decode mt_T_written.2.1 40 = .ok (.goto 23, 3) := by decide +kernel
theorem dd_T_written_43 : decode mt_T_written.2.1 43 = .ok (.aload_n 0, 1) := by decide +kernel
theorem dd_T_written_44 : decode mt_T_written.2.1 44 = .ok (.getfield 34, 3) := by decide +kernel
theorem dd_T_written_47 : decode mt_T_written.2.1 47 = .ok (.bipush 10, 2) := by decide +kernel
theorem dd_T_written_49 : decode mt_T_written.2.1 49 = .ok (.aload_n 0, 1) := by decide +kernel
theorem dd_T_written_50 : decode mt_T_written.2.1 50 = .ok (.getfield 27, 3) := by decide +kernel
theorem dd_T_written_53 : decode mt_T_written.2.1 53 = .ok (.iload_n 2, 1) := by decide +kernel
theorem dd_T_written_54 : decode mt_T_written.2.1 54 = .ok (.iload_n 1, 1) := by decide +kernel
theorem dd_T_written_55 : decode mt_T_written.2.1 55 = .ok (.invokevirtual 55, 3) := by decide +kernel
theorem dd_T_written_58 : decode mt_T_written.2.1 58 = .ok (.aload_n 0, 1) := by decide +kernel
theorem dd_T_written_59 : decode mt_T_written.2.1 59 = .ok (.iload_n 1, 1) := by decide +kernel
theorem dd_T_written_60 : decode mt_T_written.2.1 60 = .ok (.invokevirtual 96, 3) := by decide +kernel
theorem dd_T_written_63 : decode mt_T_written.2.1 63 = .ok (.return_, 1) := by decide +kernel
theorem dd_T_noteAborted_0 : decode mt_T_noteAborted.2.1 0 = .ok (.iload_n 1, 1) := by decide +kernel
theorem dd_T_noteAborted_1 : decode mt_T_noteAborted.2.1 1 = .ok (.iconst (-1), 1) := by decide +kernel
theorem dd_T_noteAborted_2 : decode mt_T_noteAborted.2.1 2 = .ok (.if_icmp .ne 21, 3) := by decide +kernel
theorem dd_T_noteAborted_5 : decode mt_T_noteAborted.2.1 5 = .ok (.aload_n 0, 1) := by decide +kernel
theorem dd_T_noteAborted_6 : decode mt_T_noteAborted.2.1 6 = .ok (.getfield 34, 3) := by decide +kernel
theorem dd_T_noteAborted_9 : decode mt_T_noteAborted.2.1 9 = .ok (.bipush 13, 2) := by decide +kernel
theorem dd_T_noteAborted_11 : decode mt_T_noteAborted.2.1 11 = .ok (.aload_n 0, 1) := by decide +kernel
theorem dd_T_noteAborted_12 : decode mt_T_noteAborted.2.1 12 = .ok (.getfield 27, 3) := by decide +kernel
theorem dd_T_noteAborted_15 : decode mt_T_noteAborted.2.1 15 = .ok (.iconst 0, 1) := by decide +kernel
theorem dd_T_noteAborted_16 : decode mt_T_noteAborted.2.1 16 = .ok (.iconst 0, 1) := by decide +kernel
theorem dd_T_noteAborted_17 : decode mt_T_noteAborted.2.1 17 = .ok (.invokevirtual 55, 3) := by decide +kernel
theorem dd_T_noteAborted_20 : decode mt_T_noteAborted.2.1 20 = .ok (.goto 18, 3) := by decide +kernel
theorem dd_T_noteAborted_23 : decode mt_T_noteAborted.2.1 23 = .ok (.aload_n 0, 1) := by decide +kernel
theorem dd_T_noteAborted_24 : decode mt_T_noteAborted.2.1 24 = .ok (.getfield 34, 3) := by decide +kernel
theorem dd_T_noteAborted_27 : decode mt_T_noteAborted.2.1 27 = .ok (.bipush 14, 2) := by decide +kernel
theorem dd_T_noteAborted_29 : decode mt_T_noteAborted.2.1 29 = .ok (.aload_n 0, 1) := by decide +kernel
theorem dd_T_noteAborted_30 : decode mt_T_noteAborted.2.1 30 = .ok (.getfield 27, 3) := by decide +kernel
theorem dd_T_noteAborted_33 : decode mt_T_noteAborted.2.1 33 = .ok (.iload_n 1, 1) := by decide +kernel
theorem dd_T_noteAborted_34 : decode mt_T_noteAborted.2.1 34 = .ok (.iconst 0, 1) := by decide +kernel
theorem dd_T_noteAborted_35 : decode mt_T_noteAborted.2.1 35 = .ok (.invokevirtual 55, 3) := by decide +kernel
theorem dd_T_noteAborted_38 : decode mt_T_noteAborted.2.1 38 = .ok (.return_, 1) := by decide +kernel
theorem dd_T_endAbort_0 : decode mt_T_endAbort.2.1 0 = .ok (.aload_n 0, 1) := by decide +kernel
theorem dd_T_endAbort_1 : decode mt_T_endAbort.2.1 1 = .ok (.getfield 76, 3) := by decide +kernel
theorem dd_T_endAbort_4 : decode mt_T_endAbort.2.1 4 = .ok (.ifCond .eq 13, 3) := by decide +kernel
theorem dd_T_endAbort_7 : decode mt_T_endAbort.2.1 7 = .ok (.aload_n 0, 1) := by decide +kernel
theorem dd_T_endAbort_8 : decode mt_T_endAbort.2.1 8 = .ok (.iconst 0, 1) := by decide +kernel
theorem dd_T_endAbort_9 : decode mt_T_endAbort.2.1 9 = .ok (.putfield 76, 3) := by decide +kernel
theorem dd_T_endAbort_12 : decode mt_T_endAbort.2.1 12 = .ok (.aload_n 0, 1) := by decide +kernel
theorem dd_T_endAbort_13 : decode mt_T_endAbort.2.1 13 = .ok (.iload_n 1, 1) := by decide +kernel
theorem dd_T_endAbort_14 : decode mt_T_endAbort.2.1 14 = .ok (.invokevirtual 102, 3) := by decide +kernel
theorem dd_T_endAbort_17 : decode mt_T_endAbort.2.1 17 = .ok (.return_, 1) := by decide +kernel
theorem dd_T_wasShut_0 : decode mt_T_wasShut.2.1 0 = .ok (.iload_n 1, 1) := by decide +kernel
theorem dd_T_wasShut_1 : decode mt_T_wasShut.2.1 1 = .ok (.iconst (-1), 1) := by decide +kernel
theorem dd_T_wasShut_2 : decode mt_T_wasShut.2.1 2 = .ok (.if_icmp .ne 31, 3) := by decide +kernel
theorem dd_T_wasShut_5 : decode mt_T_wasShut.2.1 5 = .ok (.aload_n 0, 1) := by decide +kernel
theorem dd_T_wasShut_6 : decode mt_T_wasShut.2.1 6 = .ok (.getfield 34, 3) := by decide +kernel
theorem dd_T_wasShut_9 : decode mt_T_wasShut.2.1 9 = .ok (.bipush 11, 2) := by decide +kernel
theorem dd_T_wasShut_11 : decode mt_T_wasShut.2.1 11 = .ok (.aload_n 0, 1) := by decide +kernel
theorem dd_T_wasShut_12 : decode mt_T_wasShut.2.1 12 = .ok (.getfield 27, 3) := by decide +kernel
theorem dd_T_wasShut_15 : decode mt_T_wasShut.2.1 15 = .ok (.iconst 0, 1) := by decide +kernel
theorem dd_T_wasShut_16 : decode mt_T_wasShut.2.1 16 = .ok (.iconst 0, 1) := by decide +kernel
theorem dd_T_wasShut_17 : decode mt_T_wasShut.2.1 17 = .ok (.invokevirtual 55, 3) := by decide +kernel
theorem dd_T_wasShut_20 : decode mt_T_wasShut.2.1 20 = .ok (.aload_n 0, 1) := by decide +kernel
theorem dd_T_wasShut_21 : decode mt_T_wasShut.2.1 21 = .ok (.iload_n 1, 1) := by decide +kernel
theorem dd_T_wasShut_22 : decode mt_T_wasShut.2.1 22 = .ok (.invokevirtual 99, 3) := by decide +kernel
theorem dd_T_wasShut_25 : decode mt_T_wasShut.2.1 25 = .ok (.aload_n 0, 1) := by decide +kernel
theorem dd_T_wasShut_26 : decode mt_T_wasShut.2.1 26 = .ok (.iconst 3, 1) := by decide +kernel
theorem dd_T_wasShut_27 : decode mt_T_wasShut.2.1 27 = .ok (.putfield 20, 3) := by decide +kernel
theorem dd_T_wasShut_30 : decode mt_T_wasShut.2.1 30 = .ok (.goto 28, 3) := by decide +kernel
theorem dd_T_wasShut_33 : decode mt_T_wasShut.2.1 33 = .ok (.aload_n 0, 1) := by decide +kernel
theorem dd_T_wasShut_34 : decode mt_T_wasShut.2.1 34 = .ok (.getfield 34, 3) := by decide +kernel
theorem dd_T_wasShut_37 : decode mt_T_wasShut.2.1 37 = .ok (.bipush 12, 2) := by decide +kernel
theorem dd_T_wasShut_39 : decode mt_T_wasShut.2.1 39 = .ok (.aload_n 0, 1) := by decide +kernel
theorem dd_T_wasShut_40 : decode mt_T_wasShut.2.1 40 = .ok (.getfield 27, 3) := by decide +kernel
theorem dd_T_wasShut_43 : decode mt_T_wasShut.2.1 43 = .ok (.iload_n 1, 1) := by decide +kernel
theorem dd_T_wasShut_44 : decode mt_T_wasShut.2.1 44 = .ok (.iconst 0, 1) := by decide +kernel
theorem dd_T_wasShut_45 : decode mt_T_wasShut.2.1 45 = .ok (.invokevirtual 55, 3) := by decide +kernel
theorem dd_T_wasShut_48 : decode mt_T_wasShut.2.1 48 = .ok (.aload_n 0, 1) := by decide +kernel
theorem dd_T_wasShut_49 : decode mt_T_wasShut.2.1 49 = .ok (.iload_n 1, 1) := by decide +kernel
theorem dd_T_wasShut_50 : decode mt_T_wasShut.2.1 50 = .ok (.invokevirtual 99, 3) := by decide +kernel
theorem dd_T_wasShut_53 : decode mt_T_wasShut.2.1 53 = .ok (.aload_n 0, 1) := by decide +kernel
theorem dd_T_wasShut_54 : decode mt_T_wasShut.2.1 54 = .ok (.iload_n 1, 1) := by decide +kernel
theorem dd_T_wasShut_55 : decode mt_T_wasShut.2.1 55 = .ok (.invokevirtual 96, 3) := by decide +kernel
theorem dd_T_wasShut_58 : decode mt_T_wasShut.2.1 58 = .ok (.return_, 1) := by decide +kernel
theorem dd_T_wasAborted_0 : decode mt_T_wasAborted.2.1 0 = .ok (.aload_n 0, 1) := by decide +kernel
theorem dd_T_wasAborted_1 : decode mt_T_wasAborted.2.1 1 = .ok (.iload_n 1, 1) := by decide +kernel
theorem dd_T_wasAborted_2 : decode mt_T_wasAborted.2.1 2 = .ok (.invokevirtual 102, 3) := by decide +kernel
theorem dd_T_wasAborted_5 : decode mt_T_wasAborted.2.1 5 = .ok (.aload_n 0, 1) := by decide +kernel
theorem dd_T_wasAborted_6 : decode mt_T_wasAborted.2.1 6 = .ok (.invokevirtual 105, 3) := by decide +kernel
theorem dd_T_wasAborted_9 : decode mt_T_wasAborted.2.1 9 = .ok (.return_, 1) := by decide +kernel
end
section
def fc_T_init (t : xo_N) (x1 : Int32) (x2 : Option xo_N) (x3 : Option xo_N) (H : xo_H) : Option (xo_H) :=
  xo_nw 3 H (t.1 + 4, t.2) fun H1 =>
  (fc_R_init (t.1 + 4, t.2) (16 : Int32) H1).bind fun H3 =>
  xo_pp 7 3 H3 (some t) (some (t.1 + 4, t.2)) fun H4 =>
  xo_pf 7 4 H4 (some t) (0 : Int32) fun H5 =>
  xo_pf 7 7 H5 (some t) (0 : Int32) fun H6 =>
  xo_pf 7 0 H6 (some t) x1 fun H7 =>
  xo_pp 7 1 H7 (some t) x2 fun H8 =>
  xo_pp 7 2 H8 (some t) x3 fun H9 =>
  some H9

set_option maxRecDepth 100000 in
set_option maxHeartbeats 4000000 in
theorem kb_T_init (t : xo_N) (x1 : Int32) (x2 : Option xo_N) (x3 : Option xo_N) (H : xo_H) (r : xo_H) : xo_X mt_T_init 2 19 xo_jv r 0 [(0, .inr (some t)), (1, .inl x1), (2, .inr x2), (3, .inr x3)] [] H (fc_T_init t x1 x2 x3 H) := by
  unfold fc_T_init
  refine xo_aload_n (pc' := 1) dd_T_init_0 rfl 0 rfl rfl ?_
  refine xo_oinit (pc' := 4) dd_T_init_1 wo_T_3 wo_inst wo_code (by decide) (Nat.le_of_ble_eq_true rfl) rfl ?_
  refine xo_aload_n (pc' := 5) dd_T_init_4 rfl 0 rfl rfl ?_
  refine xo_new (pc' := 8) dd_T_init_5 co_T_9 rfl rfl rfl fun H1 => ?_
  refine xo_dup (pc' := 9) dd_T_init_8 rfl ?_
  refine xo_bipush (pc' := 11) (v := (16 : Int32)) dd_T_init_9 (by decide) rfl ?_
  refine xo_callIv (as := [.inl (16 : Int32)]) (n := (t.1 + 4, t.2)) (st := [.inr (some (t.1 + 4, t.2)), .inr (some t)]) (pc' := 14) dd_T_init_11 cv_R_init ml_T_11 rfl ⟨by decide, by decide⟩ rfl rfl rfl (Nat.le_of_ble_eq_true rfl) rfl (fun q h => kc_R_init (t.1 + 4, t.2) (16 : Int32) H1 q h) fun H3 => ?_
  refine xo_putPF (pc' := 17) dd_T_init_14 fF_T_14 rfl (by decide) (by decide +kernel : parseFieldDescriptor "LFlowKernel$Row;" = some (.object "FlowKernel$Row")) (Or.inl ⟨_, rfl⟩) rfl fun H4 => ?_
  refine xo_aload_n (pc' := 18) dd_T_init_17 rfl 0 rfl rfl ?_
  refine xo_iconst (pc' := 19) (v := (0 : Int32)) dd_T_init_18 (by decide) rfl ?_
  refine xo_putI (pc' := 22) dd_T_init_19 ff_T_20 rfl fun H5 => ?_
  refine xo_aload_n (pc' := 23) dd_T_init_22 rfl 0 rfl rfl ?_
  refine xo_iconst (pc' := 24) (v := (0 : Int32)) dd_T_init_23 (by decide) rfl ?_
  refine xo_putI (pc' := 27) dd_T_init_24 ff_T_24 rfl fun H6 => ?_
  refine xo_aload_n (pc' := 28) dd_T_init_27 rfl 0 rfl rfl ?_
  refine xo_iload_n (pc' := 29) dd_T_init_28 rfl 1 rfl rfl ?_
  refine xo_putIF (pc' := 32) dd_T_init_29 fF_T_27 rfl rfl fun H7 => ?_
  refine xo_aload_n (pc' := 33) dd_T_init_32 rfl 0 rfl rfl ?_
  refine xo_aload_n (pc' := 34) dd_T_init_33 rfl 2 rfl rfl ?_
  refine xo_putPF (pc' := 37) dd_T_init_34 fF_T_30 rfl (by decide) (by decide +kernel : parseFieldDescriptor "LFlowKernel$ChunkRow;" = some (.object "FlowKernel$ChunkRow")) (Or.inl ⟨_, rfl⟩) rfl fun H8 => ?_
  refine xo_aload_n (pc' := 38) dd_T_init_37 rfl 0 rfl rfl ?_
  refine xo_aload_n (pc' := 39) dd_T_init_38 rfl 3 rfl rfl ?_
  refine xo_putPF (pc' := 42) dd_T_init_39 fF_T_34 rfl (by decide) (by decide +kernel : parseFieldDescriptor "LFlowKernel$EventLog;" = some (.object "FlowKernel$EventLog")) (Or.inl ⟨_, rfl⟩) rfl fun H9 => ?_
  exact xo_vret dd_T_init_42 rfl
set_option maxRecDepth 100000 in
set_option maxHeartbeats 4000000 in
theorem kc_T_init (t : xo_N) (x1 : Int32) (x2 : Option xo_N) (x3 : Option xo_N) (H : xo_H) (r : xo_H) (hk : fc_T_init t x1 x2 x3 H = some r) : xo_M mt_T_init [.inr (some t), .inl x1, .inr x2, .inr x3] H (xo_jv r) :=
  xo_entry hk (by decide +kernel) (Nat.le_of_ble_eq_true rfl) (kb_T_init t x1 x2 x3 H r)
def fc_T_hasError (t : xo_N) (H : xo_H) : Option (Int32 × xo_H) :=
  xo_gf 7 4 H (some t) fun v1 =>
  if v1 = (1 : Int32) then (xo_gb (1 : Int32) (some ((1 : Int32), H)))
  else (xo_gf 7 4 H (some t) fun v2 =>
  if v2 = (2 : Int32) then (xo_gb (1 : Int32) (some ((1 : Int32), H)))
  else (xo_gb (0 : Int32) (some ((0 : Int32), H))))

set_option maxRecDepth 100000 in
set_option maxHeartbeats 4000000 in
theorem kb_T_hasError (t : xo_N) (H : xo_H) (r : Int32 × xo_H) : xo_X mt_T_hasError 0 0 xo_ji r 0 [(0, .inr (some t))] [] H (fc_T_hasError t H) := by
  unfold fc_T_hasError
  refine xo_aload_n (pc' := 1) dd_T_hasError_0 rfl 0 rfl rfl ?_
  refine xo_getI (pc' := 4) dd_T_hasError_1 ff_T_20 (by decide) rfl fun v1 => ?_
  refine xo_iconst (pc' := 5) (v := (1 : Int32)) dd_T_hasError_4 (by decide) rfl ?_
  refine xo_icmp_eq (pc' := 8) (tgt := 16) dd_T_hasError_5 rfl rfl ?_ ?_
  · refine xo_iconst (pc' := 17) (v := (1 : Int32)) dd_T_hasError_16 (by decide) rfl ?_
    refine xo_goto (pc' := 21) dd_T_hasError_17 rfl ?_
    exact xo_zret dd_T_hasError_21 rfl
  · refine xo_aload_n (pc' := 9) dd_T_hasError_8 rfl 0 rfl rfl ?_
    refine xo_getI (pc' := 12) dd_T_hasError_9 ff_T_20 (by decide) rfl fun v2 => ?_
    refine xo_iconst (pc' := 13) (v := (2 : Int32)) dd_T_hasError_12 (by decide) rfl ?_
    refine xo_icmp_ne (pc' := 16) (tgt := 20) dd_T_hasError_13 rfl rfl ?_ ?_
    · refine xo_iconst (pc' := 21) (v := (0 : Int32)) dd_T_hasError_20 (by decide) rfl ?_
      exact xo_zret dd_T_hasError_21 rfl
    · refine xo_iconst (pc' := 17) (v := (1 : Int32)) dd_T_hasError_16 (by decide) rfl ?_
      refine xo_goto (pc' := 21) dd_T_hasError_17 rfl ?_
      exact xo_zret dd_T_hasError_21 rfl
set_option maxRecDepth 100000 in
set_option maxHeartbeats 4000000 in
theorem kc_T_hasError (t : xo_N) (H : xo_H) (r : Int32 × xo_H) (hk : fc_T_hasError t H = some r) : xo_M mt_T_hasError [.inr (some t)] H (xo_ji r) :=
  xo_entry hk (by decide +kernel) (Nat.le_of_ble_eq_true rfl) (kb_T_hasError t H r)
def fc_T_isShutOrToBe (t : xo_N) (H : xo_H) : Option (Int32 × xo_H) :=
  xo_gf 7 11 H (some t) fun v1 =>
  if v1 = 0 then (xo_gf 7 7 H (some t) fun v2 =>
  if v2 = (4 : Int32) then (xo_gb (1 : Int32) (some ((1 : Int32), H)))
  else (xo_gf 7 4 H (some t) fun v3 =>
  if v3 = (3 : Int32) then (xo_gb (1 : Int32) (some ((1 : Int32), H)))
  else (xo_gb (0 : Int32) (some ((0 : Int32), H)))))
  else (xo_gb (1 : Int32) (some ((1 : Int32), H)))

set_option maxRecDepth 100000 in
set_option maxHeartbeats 4000000 in
theorem kb_T_isShutOrToBe (t : xo_N) (H : xo_H) (r : Int32 × xo_H) : xo_X mt_T_isShutOrToBe 0 0 xo_ji r 0 [(0, .inr (some t))] [] H (fc_T_isShutOrToBe t H) := by
  unfold fc_T_isShutOrToBe
  refine xo_aload_n (pc' := 1) dd_T_isShutOrToBe_0 rfl 0 rfl rfl ?_
  refine xo_getI (pc' := 4) dd_T_isShutOrToBe_1 ff_T_38 (by decide) rfl fun v1 => ?_
  refine xo_if_ne (pc' := 7) (tgt := 23) dd_T_isShutOrToBe_4 rfl rfl ?_ ?_
  · refine xo_iconst (pc' := 24) (v := (1 : Int32)) dd_T_isShutOrToBe_23 (by decide) rfl ?_
    refine xo_goto (pc' := 28) dd_T_isShutOrToBe_24 rfl ?_
    exact xo_zret dd_T_isShutOrToBe_28 rfl
  · refine xo_aload_n (pc' := 8) dd_T_isShutOrToBe_7 rfl 0 rfl rfl ?_
    refine xo_getI (pc' := 11) dd_T_isShutOrToBe_8 ff_T_24 (by decide) rfl fun v2 => ?_
    refine xo_iconst (pc' := 12) (v := (4 : Int32)) dd_T_isShutOrToBe_11 (by decide) rfl ?_
    refine xo_icmp_eq (pc' := 15) (tgt := 23) dd_T_isShutOrToBe_12 rfl rfl ?_ ?_
    · refine xo_iconst (pc' := 24) (v := (1 : Int32)) dd_T_isShutOrToBe_23 (by decide) rfl ?_
      refine xo_goto (pc' := 28) dd_T_isShutOrToBe_24 rfl ?_
      exact xo_zret dd_T_isShutOrToBe_28 rfl
    · refine xo_aload_n (pc' := 16) dd_T_isShutOrToBe_15 rfl 0 rfl rfl ?_
      refine xo_getI (pc' := 19) dd_T_isShutOrToBe_16 ff_T_20 (by decide) rfl fun v3 => ?_
      refine xo_iconst (pc' := 20) (v := (3 : Int32)) dd_T_isShutOrToBe_19 (by decide) rfl ?_
      refine xo_icmp_ne (pc' := 23) (tgt := 27) dd_T_isShutOrToBe_20 rfl rfl ?_ ?_
      · refine xo_iconst (pc' := 28) (v := (0 : Int32)) dd_T_isShutOrToBe_27 (by decide) rfl ?_
        exact xo_zret dd_T_isShutOrToBe_28 rfl
      · refine xo_iconst (pc' := 24) (v := (1 : Int32)) dd_T_isShutOrToBe_23 (by decide) rfl ?_
        refine xo_goto (pc' := 28) dd_T_isShutOrToBe_24 rfl ?_
        exact xo_zret dd_T_isShutOrToBe_28 rfl
set_option maxRecDepth 100000 in
set_option maxHeartbeats 4000000 in
theorem kc_T_isShutOrToBe (t : xo_N) (H : xo_H) (r : Int32 × xo_H) (hk : fc_T_isShutOrToBe t H = some r) : xo_M mt_T_isShutOrToBe [.inr (some t)] H (xo_ji r) :=
  xo_entry hk (by decide +kernel) (Nat.le_of_ble_eq_true rfl) (kb_T_isShutOrToBe t H r)
def fc_T_startNext (t : xo_N) (H : xo_H) : Option (xo_H) :=
  xo_gf 7 7 H (some t) fun v1 =>
  if v1 = 0 then (xo_gf 7 4 H (some t) fun v2 =>
  if v2 = 0 then (xo_gp 7 1 H (some t) fun o3 =>
  xo_cl 4 o3 (fun n21 => fc_C_count n21 H) fun r4 =>
  if 0 < r4.1 then (xo_pf 7 7 r4.2 (some t) (3 : Int32) fun H12 =>
  xo_gp 7 2 H12 (some t) fun o13 =>
  xo_gf 7 0 H12 (some t) fun v14 =>
  xo_gp 7 1 H12 (some t) fun o15 =>
  xo_gp 4 0 H12 o15 fun o16 =>
  xo_cl 3 o16 (fun n20 => fc_R_at n20 (0 : Int32) H12) fun r17 =>
  xo_cl 1 o13 (fun n19 => fc_L_note n19 (3 : Int32) v14 r17.1 (0 : Int32) r17.2) fun H18 =>
  some H18)
  else (xo_gf 7 11 r4.2 (some t) fun v5 =>
  if v5 = 0 then (some r4.2)
  else (xo_pz 7 11 r4.2 (some t) (0 : Int32) fun H6 =>
  xo_pf 7 7 H6 (some t) (4 : Int32) fun H7 =>
  xo_gp 7 2 H7 (some t) fun o8 =>
  xo_gf 7 0 H7 (some t) fun v9 =>
  xo_cl 1 o8 (fun n11 => fc_L_note n11 (4 : Int32) v9 (0 : Int32) (0 : Int32) H7) fun H10 =>
  some H10)))
  else (some H))
  else (some H)

set_option maxRecDepth 100000 in
set_option maxHeartbeats 4000000 in
theorem kb_T_startNext (t : xo_N) (H : xo_H) (r : xo_H) : xo_X mt_T_startNext 0 0 xo_jv r 0 [(0, .inr (some t))] [] H (fc_T_startNext t H) := by
  unfold fc_T_startNext
  refine xo_aload_n (pc' := 1) dd_T_startNext_0 rfl 0 rfl rfl ?_
  refine xo_getI (pc' := 4) dd_T_startNext_1 ff_T_24 (by decide) rfl fun v1 => ?_
  refine xo_if_ne (pc' := 7) (tgt := 14) dd_T_startNext_4 rfl rfl ?_ ?_
  · exact xo_vret dd_T_startNext_14 rfl
  · refine xo_aload_n (pc' := 8) dd_T_startNext_7 rfl 0 rfl rfl ?_
    refine xo_getI (pc' := 11) dd_T_startNext_8 ff_T_20 (by decide) rfl fun v2 => ?_
    refine xo_if_eq (pc' := 14) (tgt := 15) dd_T_startNext_11 rfl rfl ?_ ?_
    · refine xo_aload_n (pc' := 16) dd_T_startNext_15 rfl 0 rfl rfl ?_
      refine xo_getP (pc' := 19) dd_T_startNext_16 ff_T_30 (by decide) rfl fun o3 => ?_
      refine xo_callVi (as := []) (o := o3) (st := []) (pc' := 22) dd_T_startNext_19 cv_C_count ml_T_108 rfl rfl ⟨by decide, by decide⟩ rfl rfl rfl (Nat.le_of_ble_eq_true rfl) rfl (fun n q h => kc_C_count n H q h) fun r4 => ?_
      refine xo_if_le (pc' := 25) (tgt := 57) dd_T_startNext_22 rfl rfl ?_ ?_
      · refine xo_aload_n (pc' := 58) dd_T_startNext_57 rfl 0 rfl rfl ?_
        refine xo_getI (pc' := 61) dd_T_startNext_58 ff_T_38 (by decide) rfl fun v5 => ?_
        refine xo_if_eq (pc' := 64) (tgt := 88) dd_T_startNext_61 rfl rfl ?_ ?_
        · exact xo_vret dd_T_startNext_88 rfl
        · refine xo_aload_n (pc' := 65) dd_T_startNext_64 rfl 0 rfl rfl ?_
          refine xo_iconst (pc' := 66) (v := (0 : Int32)) dd_T_startNext_65 (by decide) rfl ?_
          refine xo_putZ (pc' := 69) dd_T_startNext_66 ff_T_38 rfl fun H6 => ?_
          refine xo_aload_n (pc' := 70) dd_T_startNext_69 rfl 0 rfl rfl ?_
          refine xo_iconst (pc' := 71) (v := (4 : Int32)) dd_T_startNext_70 (by decide) rfl ?_
          refine xo_putI (pc' := 74) dd_T_startNext_71 ff_T_24 rfl fun H7 => ?_
          refine xo_aload_n (pc' := 75) dd_T_startNext_74 rfl 0 rfl rfl ?_
          refine xo_getP (pc' := 78) dd_T_startNext_75 ff_T_34 (by decide) rfl fun o8 => ?_
          refine xo_iconst (pc' := 79) (v := (4 : Int32)) dd_T_startNext_78 (by decide) rfl ?_
          refine xo_aload_n (pc' := 80) dd_T_startNext_79 rfl 0 rfl rfl ?_
          refine xo_getI (pc' := 83) dd_T_startNext_80 ff_T_27 (by decide) rfl fun v9 => ?_
          refine xo_iconst (pc' := 84) (v := (0 : Int32)) dd_T_startNext_83 (by decide) rfl ?_
          refine xo_iconst (pc' := 85) (v := (0 : Int32)) dd_T_startNext_84 (by decide) rfl ?_
          refine xo_callVv (as := [.inl (4 : Int32), .inl v9, .inl (0 : Int32), .inl (0 : Int32)]) (o := o8) (st := []) (pc' := 88) dd_T_startNext_85 cv_L_note ml_T_55 rfl rfl ⟨by decide, by decide⟩ rfl rfl rfl (Nat.le_of_ble_eq_true rfl) rfl (fun n q h => kc_L_note n (4 : Int32) v9 (0 : Int32) (0 : Int32) H7 q h) fun H10 => ?_
          exact xo_vret dd_T_startNext_88 rfl
      · refine xo_aload_n (pc' := 26) dd_T_startNext_25 rfl 0 rfl rfl ?_
        refine xo_iconst (pc' := 27) (v := (3 : Int32)) dd_T_startNext_26 (by decide) rfl ?_
        refine xo_putI (pc' := 30) dd_T_startNext_27 ff_T_24 rfl fun H12 => ?_
        refine xo_aload_n (pc' := 31) dd_T_startNext_30 rfl 0 rfl rfl ?_
        refine xo_getP (pc' := 34) dd_T_startNext_31 ff_T_34 (by decide) rfl fun o13 => ?_
        refine xo_iconst (pc' := 35) (v := (3 : Int32)) dd_T_startNext_34 (by decide) rfl ?_
        refine xo_aload_n (pc' := 36) dd_T_startNext_35 rfl 0 rfl rfl ?_
        refine xo_getI (pc' := 39) dd_T_startNext_36 ff_T_27 (by decide) rfl fun v14 => ?_
        refine xo_aload_n (pc' := 40) dd_T_startNext_39 rfl 0 rfl rfl ?_
        refine xo_getP (pc' := 43) dd_T_startNext_40 ff_T_30 (by decide) rfl fun o15 => ?_
        refine xo_getP (pc' := 46) dd_T_startNext_43 ff_T_111 (by decide) rfl fun o16 => ?_
        refine xo_iconst (pc' := 47) (v := (0 : Int32)) dd_T_startNext_46 (by decide) rfl ?_
        refine xo_callVi (as := [.inl (0 : Int32)]) (o := o16) (st := [.inl v14, .inl (3 : Int32), .inr o13]) (pc' := 50) dd_T_startNext_47 cv_R_at ml_T_114 rfl rfl ⟨by decide, by decide⟩ rfl rfl rfl (Nat.le_of_ble_eq_true rfl) rfl (fun n q h => kc_R_at n (0 : Int32) H12 q h) fun r17 => ?_
        refine xo_iconst (pc' := 51) (v := (0 : Int32)) dd_T_startNext_50 (by decide) rfl ?_
        refine xo_callVv (as := [.inl (3 : Int32), .inl v14, .inl r17.1, .inl (0 : Int32)]) (o := o13) (st := []) (pc' := 54) dd_T_startNext_51 cv_L_note ml_T_55 rfl rfl ⟨by decide, by decide⟩ rfl rfl rfl (Nat.le_of_ble_eq_true rfl) rfl (fun n q h => kc_L_note n (3 : Int32) v14 r17.1 (0 : Int32) r17.2 q h) fun H18 => ?_
        refine xo_goto (pc' := 88) dd_T_startNext_54 rfl ?_
        exact xo_vret dd_T_startNext_88 rfl
    · exact xo_vret dd_T_startNext_14 rfl
set_option maxRecDepth 100000 in
set_option maxHeartbeats 4000000 in
theorem kc_T_startNext (t : xo_N) (H : xo_H) (r : xo_H) (hk : fc_T_startNext t H = some r) : xo_M mt_T_startNext [.inr (some t)] H (xo_jv r) :=
  xo_entry hk (by decide +kernel) (Nat.le_of_ble_eq_true rfl) (kb_T_startNext t H r)
def fc_T_accept (t : xo_N) (x1 : Int32) (H : xo_H) : Option (Int32 × xo_H) :=
  xo_gf 7 6 H (some t) fun v1 =>
  xo_pf 7 6 H (some t) (v1 + (1 : Int32)) fun H2 =>
  xo_cl 7 (some t) (fun n29 => fc_T_hasError n29 H2) fun r3 =>
  if r3.1 = 0 then (xo_cl 7 (some t) (fun n21 => fc_T_isShutOrToBe n21 r3.2) fun r4 =>
  if r4.1 = 0 then (xo_gp 7 1 r4.2 (some t) fun o5 =>
  xo_cl 4 o5 (fun n14 => fc_C_add n14 x1 r4.2) fun H6 =>
  xo_gp 7 3 H6 (some t) fun o7 =>
  xo_gf 7 6 H6 (some t) fun v8 =>
  xo_cl 3 o7 (fun n13 => fc_R_add n13 v8 H6) fun H9 =>
  xo_cl 7 (some t) (fun n12 => fc_T_startNext n12 H9) fun H10 =>
  xo_gf 7 6 H10 (some t) fun v11 =>
  some (v11, H10))
  else (xo_gp 7 2 r4.2 (some t) fun o15 =>
  xo_gf 7 0 r4.2 (some t) fun v16 =>
  xo_gf 7 6 r4.2 (some t) fun v17 =>
  xo_cl 1 o15 (fun n20 => fc_L_note n20 (10 : Int32) v16 v17 (100 : Int32) r4.2) fun H18 =>
  xo_gf 7 6 H18 (some t) fun v19 =>
  some (v19, H18)))
  else (xo_gp 7 2 r3.2 (some t) fun o22 =>
  xo_gf 7 0 r3.2 (some t) fun v23 =>
  xo_gf 7 6 r3.2 (some t) fun v24 =>
  xo_gf 7 5 r3.2 (some t) fun v25 =>
  xo_cl 1 o22 (fun n28 => fc_L_note n28 (10 : Int32) v23 v24 v25 r3.2) fun H26 =>
  xo_gf 7 6 H26 (some t) fun v27 =>
  some (v27, H26))

set_option maxRecDepth 100000 in
set_option maxHeartbeats 4000000 in
theorem kb_T_accept (t : xo_N) (x1 : Int32) (H : xo_H) (r : Int32 × xo_H) : xo_X mt_T_accept 0 0 xo_ji r 0 [(0, .inr (some t)), (1, .inl x1)] [] H (fc_T_accept t x1 H) := by
  unfold fc_T_accept
  refine xo_aload_n (pc' := 1) dd_T_accept_0 rfl 0 rfl rfl ?_
  refine xo_dup (pc' := 2) dd_T_accept_1 rfl ?_
  refine xo_getI (pc' := 5) dd_T_accept_2 ff_T_46 (by decide) rfl fun v1 => ?_
  refine xo_iconst (pc' := 6) (v := (1 : Int32)) dd_T_accept_5 (by decide) rfl ?_
  refine xo_iadd (pc' := 7) dd_T_accept_6 rfl ?_
  refine xo_putI (pc' := 10) dd_T_accept_7 ff_T_46 rfl fun H2 => ?_
  refine xo_aload_n (pc' := 11) dd_T_accept_10 rfl 0 rfl rfl ?_
  refine xo_callVi (as := []) (o := (some t)) (st := []) (pc' := 14) dd_T_accept_11 cv_T_hasError ml_T_49 rfl rfl ⟨by decide, by decide⟩ rfl rfl rfl (Nat.le_of_ble_eq_true rfl) rfl (fun n q h => kc_T_hasError n H2 q h) fun r3 => ?_
  refine xo_if_eq (pc' := 17) (tgt := 41) dd_T_accept_14 rfl rfl ?_ ?_
  · refine xo_aload_n (pc' := 42) dd_T_accept_41 rfl 0 rfl rfl ?_
    refine xo_callVi (as := []) (o := (some t)) (st := []) (pc' := 45) dd_T_accept_42 cv_T_isShutOrToBe ml_T_42 rfl rfl ⟨by decide, by decide⟩ rfl rfl rfl (Nat.le_of_ble_eq_true rfl) rfl (fun n q h => kc_T_isShutOrToBe n r3.2 q h) fun r4 => ?_
    refine xo_if_eq (pc' := 48) (tgt := 70) dd_T_accept_45 rfl rfl ?_ ?_
    · refine xo_aload_n (pc' := 71) dd_T_accept_70 rfl 0 rfl rfl ?_
      refine xo_getP (pc' := 74) dd_T_accept_71 ff_T_30 (by decide) rfl fun o5 => ?_
      refine xo_iload_n (pc' := 75) dd_T_accept_74 rfl 1 rfl rfl ?_
      refine xo_callVv (as := [.inl x1]) (o := o5) (st := []) (pc' := 78) dd_T_accept_75 cv_C_add ml_T_61 rfl rfl ⟨by decide, by decide⟩ rfl rfl rfl (Nat.le_of_ble_eq_true rfl) rfl (fun n q h => kc_C_add n x1 r4.2 q h) fun H6 => ?_
      refine xo_aload_n (pc' := 79) dd_T_accept_78 rfl 0 rfl rfl ?_
      refine xo_getP (pc' := 82) dd_T_accept_79 ff_T_14 (by decide) rfl fun o7 => ?_
      refine xo_aload_n (pc' := 83) dd_T_accept_82 rfl 0 rfl rfl ?_
      refine xo_getI (pc' := 86) dd_T_accept_83 ff_T_46 (by decide) rfl fun v8 => ?_
      refine xo_callVv (as := [.inl v8]) (o := o7) (st := []) (pc' := 89) dd_T_accept_86 cv_R_add ml_T_66 rfl rfl ⟨by decide, by decide⟩ rfl rfl rfl (Nat.le_of_ble_eq_true rfl) rfl (fun n q h => kc_R_add n v8 H6 q h) fun H9 => ?_
      refine xo_aload_n (pc' := 90) dd_T_accept_89 rfl 0 rfl rfl ?_
      refine xo_callVv (as := []) (o := (some t)) (st := []) (pc' := 93) dd_T_accept_90 cv_T_startNext ml_T_67 rfl rfl ⟨by decide, by decide⟩ rfl rfl rfl (Nat.le_of_ble_eq_true rfl) rfl (fun n q h => kc_T_startNext n H9 q h) fun H10 => ?_
      refine xo_aload_n (pc' := 94) dd_T_accept_93 rfl 0 rfl rfl ?_
      refine xo_getI (pc' := 97) dd_T_accept_94 ff_T_46 (by decide) rfl fun v11 => ?_
      exact xo_iret dd_T_accept_97 rfl
    · refine xo_aload_n (pc' := 49) dd_T_accept_48 rfl 0 rfl rfl ?_
      refine xo_getP (pc' := 52) dd_T_accept_49 ff_T_34 (by decide) rfl fun o15 => ?_
      refine xo_bipush (pc' := 54) (v := (10 : Int32)) dd_T_accept_52 (by decide) rfl ?_
      refine xo_aload_n (pc' := 55) dd_T_accept_54 rfl 0 rfl rfl ?_
      refine xo_getI (pc' := 58) dd_T_accept_55 ff_T_27 (by decide) rfl fun v16 => ?_
      refine xo_aload_n (pc' := 59) dd_T_accept_58 rfl 0 rfl rfl ?_
      refine xo_getI (pc' := 62) dd_T_accept_59 ff_T_46 (by decide) rfl fun v17 => ?_
      refine xo_bipush (pc' := 64) (v := (100 : Int32)) dd_T_accept_62 (by decide) rfl ?_
      refine xo_callVv (as := [.inl (10 : Int32), .inl v16, .inl v17, .inl (100 : Int32)]) (o := o15) (st := []) (pc' := 67) dd_T_accept_64 cv_L_note ml_T_55 rfl rfl ⟨by decide, by decide⟩ rfl rfl rfl (Nat.le_of_ble_eq_true rfl) rfl (fun n q h => kc_L_note n (10 : Int32) v16 v17 (100 : Int32) r4.2 q h) fun H18 => ?_
      refine xo_goto (pc' := 93) dd_T_accept_67 rfl ?_
      refine xo_aload_n (pc' := 94) dd_T_accept_93 rfl 0 rfl rfl ?_
      refine xo_getI (pc' := 97) dd_T_accept_94 ff_T_46 (by decide) rfl fun v19 => ?_
      exact xo_iret dd_T_accept_97 rfl
  · refine xo_aload_n (pc' := 18) dd_T_accept_17 rfl 0 rfl rfl ?_
    refine xo_getP (pc' := 21) dd_T_accept_18 ff_T_34 (by decide) rfl fun o22 => ?_
    refine xo_bipush (pc' := 23) (v := (10 : Int32)) dd_T_accept_21 (by decide) rfl ?_
    refine xo_aload_n (pc' := 24) dd_T_accept_23 rfl 0 rfl rfl ?_
    refine xo_getI (pc' := 27) dd_T_accept_24 ff_T_27 (by decide) rfl fun v23 => ?_
    refine xo_aload_n (pc' := 28) dd_T_accept_27 rfl 0 rfl rfl ?_
    refine xo_getI (pc' := 31) dd_T_accept_28 ff_T_46 (by decide) rfl fun v24 => ?_
    refine xo_aload_n (pc' := 32) dd_T_accept_31 rfl 0 rfl rfl ?_
    refine xo_getI (pc' := 35) dd_T_accept_32 ff_T_52 (by decide) rfl fun v25 => ?_
    refine xo_callVv (as := [.inl (10 : Int32), .inl v23, .inl v24, .inl v25]) (o := o22) (st := []) (pc' := 38) dd_T_accept_35 cv_L_note ml_T_55 rfl rfl ⟨by decide, by decide⟩ rfl rfl rfl (Nat.le_of_ble_eq_true rfl) rfl (fun n q h => kc_L_note n (10 : Int32) v23 v24 v25 r3.2 q h) fun H26 => ?_
    refine xo_goto (pc' := 93) dd_T_accept_38 rfl ?_
    refine xo_aload_n (pc' := 94) dd_T_accept_93 rfl 0 rfl rfl ?_
    refine xo_getI (pc' := 97) dd_T_accept_94 ff_T_46 (by decide) rfl fun v27 => ?_
    exact xo_iret dd_T_accept_97 rfl
set_option maxRecDepth 100000 in
set_option maxHeartbeats 4000000 in
theorem kc_T_accept (t : xo_N) (x1 : Int32) (H : xo_H) (r : Int32 × xo_H) (hk : fc_T_accept t x1 H = some r) : xo_M mt_T_accept [.inr (some t), .inl x1] H (xo_ji r) :=
  xo_entry hk (by decide +kernel) (Nat.le_of_ble_eq_true rfl) (kb_T_accept t x1 H r)
def fc_T_canShutDown (t : xo_N) (H : xo_H) : Option (Int32 × xo_H) :=
  xo_gf 7 4 H (some t) fun v1 =>
  if v1 = (2 : Int32) then (xo_gb (0 : Int32) (some ((0 : Int32), H)))
  else (xo_cl 7 (some t) (fun n3 => fc_T_isShutOrToBe n3 H) fun r2 =>
  if r2.1 = 0 then (xo_gb (1 : Int32) (some ((1 : Int32), r2.2)))
  else (xo_gb (0 : Int32) (some ((0 : Int32), r2.2))))

set_option maxRecDepth 100000 in
set_option maxHeartbeats 4000000 in
theorem kb_T_canShutDown (t : xo_N) (H : xo_H) (r : Int32 × xo_H) : xo_X mt_T_canShutDown 0 0 xo_ji r 0 [(0, .inr (some t))] [] H (fc_T_canShutDown t H) := by
  unfold fc_T_canShutDown
  refine xo_aload_n (pc' := 1) dd_T_canShutDown_0 rfl 0 rfl rfl ?_
  refine xo_getI (pc' := 4) dd_T_canShutDown_1 ff_T_20 (by decide) rfl fun v1 => ?_
  refine xo_iconst (pc' := 5) (v := (2 : Int32)) dd_T_canShutDown_4 (by decide) rfl ?_
  refine xo_icmp_eq (pc' := 8) (tgt := 19) dd_T_canShutDown_5 rfl rfl ?_ ?_
  · refine xo_iconst (pc' := 20) (v := (0 : Int32)) dd_T_canShutDown_19 (by decide) rfl ?_
    exact xo_zret dd_T_canShutDown_20 rfl
  · refine xo_aload_n (pc' := 9) dd_T_canShutDown_8 rfl 0 rfl rfl ?_
    refine xo_callVi (as := []) (o := (some t)) (st := []) (pc' := 12) dd_T_canShutDown_9 cv_T_isShutOrToBe ml_T_42 rfl rfl ⟨by decide, by decide⟩ rfl rfl rfl (Nat.le_of_ble_eq_true rfl) rfl (fun n q h => kc_T_isShutOrToBe n H q h) fun r2 => ?_
    refine xo_if_ne (pc' := 15) (tgt := 19) dd_T_canShutDown_12 rfl rfl ?_ ?_
    · refine xo_iconst (pc' := 20) (v := (0 : Int32)) dd_T_canShutDown_19 (by decide) rfl ?_
      exact xo_zret dd_T_canShutDown_20 rfl
    · refine xo_iconst (pc' := 16) (v := (1 : Int32)) dd_T_canShutDown_15 (by decide) rfl ?_
      refine xo_goto (pc' := 20) dd_T_canShutDown_16 rfl ?_
      exact xo_zret dd_T_canShutDown_20 rfl
set_option maxRecDepth 100000 in
set_option maxHeartbeats 4000000 in
theorem kc_T_canShutDown (t : xo_N) (H : xo_H) (r : Int32 × xo_H) (hk : fc_T_canShutDown t H = some r) : xo_M mt_T_canShutDown [.inr (some t)] H (xo_ji r) :=
  xo_entry hk (by decide +kernel) (Nat.le_of_ble_eq_true rfl) (kb_T_canShutDown t H r)
def fc_T_startAbort (t : xo_N) (H : xo_H) : Option (xo_H) :=
  xo_pz 7 9 H (some t) (0 : Int32) fun H1 =>
  xo_gf 7 10 H1 (some t) fun v2 =>
  if v2 = 0 then (xo_pf 7 7 H1 (some t) (5 : Int32) fun H3 =>
  xo_gp 7 2 H3 (some t) fun o4 =>
  xo_gf 7 0 H3 (some t) fun v5 =>
  xo_gf 7 8 H3 (some t) fun v6 =>
  xo_cl 1 o4 (fun n8 => fc_L_note n8 (5 : Int32) v5 v6 (0 : Int32) H3) fun H7 =>
  some H7)
  else (xo_gp 7 2 H1 (some t) fun o9 =>
  xo_gf 7 0 H1 (some t) fun v10 =>
  xo_gf 7 5 H1 (some t) fun v11 =>
  xo_cl 1 o9 (fun n13 => fc_L_note n13 (14 : Int32) v10 v11 (0 : Int32) H1) fun H12 =>
  some H12)

set_option maxRecDepth 100000 in
set_option maxHeartbeats 4000000 in
theorem kb_T_startAbort (t : xo_N) (H : xo_H) (r : xo_H) : xo_X mt_T_startAbort 0 0 xo_jv r 0 [(0, .inr (some t))] [] H (fc_T_startAbort t H) := by
  unfold fc_T_startAbort
  refine xo_aload_n (pc' := 1) dd_T_startAbort_0 rfl 0 rfl rfl ?_
  refine xo_iconst (pc' := 2) (v := (0 : Int32)) dd_T_startAbort_1 (by decide) rfl ?_
  refine xo_putZ (pc' := 5) dd_T_startAbort_2 ff_T_76 rfl fun H1 => ?_
  refine xo_aload_n (pc' := 6) dd_T_startAbort_5 rfl 0 rfl rfl ?_
  refine xo_getI (pc' := 9) dd_T_startAbort_6 ff_T_82 (by decide) rfl fun v2 => ?_
  refine xo_if_eq (pc' := 12) (tgt := 33) dd_T_startAbort_9 rfl rfl ?_ ?_
  · refine xo_aload_n (pc' := 34) dd_T_startAbort_33 rfl 0 rfl rfl ?_
    refine xo_iconst (pc' := 35) (v := (5 : Int32)) dd_T_startAbort_34 (by decide) rfl ?_
    refine xo_putI (pc' := 38) dd_T_startAbort_35 ff_T_24 rfl fun H3 => ?_
    refine xo_aload_n (pc' := 39) dd_T_startAbort_38 rfl 0 rfl rfl ?_
    refine xo_getP (pc' := 42) dd_T_startAbort_39 ff_T_34 (by decide) rfl fun o4 => ?_
    refine xo_iconst (pc' := 43) (v := (5 : Int32)) dd_T_startAbort_42 (by decide) rfl ?_
    refine xo_aload_n (pc' := 44) dd_T_startAbort_43 rfl 0 rfl rfl ?_
    refine xo_getI (pc' := 47) dd_T_startAbort_44 ff_T_27 (by decide) rfl fun v5 => ?_
    refine xo_aload_n (pc' := 48) dd_T_startAbort_47 rfl 0 rfl rfl ?_
    refine xo_getI (pc' := 51) dd_T_startAbort_48 ff_T_79 (by decide) rfl fun v6 => ?_
    refine xo_iconst (pc' := 52) (v := (0 : Int32)) dd_T_startAbort_51 (by decide) rfl ?_
    refine xo_callVv (as := [.inl (5 : Int32), .inl v5, .inl v6, .inl (0 : Int32)]) (o := o4) (st := []) (pc' := 55) dd_T_startAbort_52 cv_L_note ml_T_55 rfl rfl ⟨by decide, by decide⟩ rfl rfl rfl (Nat.le_of_ble_eq_true rfl) rfl (fun n q h => kc_L_note n (5 : Int32) v5 v6 (0 : Int32) H3 q h) fun H7 => ?_
    exact xo_vret dd_T_startAbort_55 rfl
  · refine xo_aload_n (pc' := 13) dd_T_startAbort_12 rfl 0 rfl rfl ?_
    refine xo_getP (pc' := 16) dd_T_startAbort_13 ff_T_34 (by decide) rfl fun o9 => ?_
    refine xo_bipush (pc' := 18) (v := (14 : Int32)) dd_T_startAbort_16 (by decide) rfl ?_
    refine xo_aload_n (pc' := 19) dd_T_startAbort_18 rfl 0 rfl rfl ?_
    refine xo_getI (pc' := 22) dd_T_startAbort_19 ff_T_27 (by decide) rfl fun v10 => ?_
    refine xo_aload_n (pc' := 23) dd_T_startAbort_22 rfl 0 rfl rfl ?_
    refine xo_getI (pc' := 26) dd_T_startAbort_23 ff_T_52 (by decide) rfl fun v11 => ?_
    refine xo_iconst (pc' := 27) (v := (0 : Int32)) dd_T_startAbort_26 (by decide) rfl ?_
    refine xo_callVv (as := [.inl (14 : Int32), .inl v10, .inl v11, .inl (0 : Int32)]) (o := o9) (st := []) (pc' := 30) dd_T_startAbort_27 cv_L_note ml_T_55 rfl rfl ⟨by decide, by decide⟩ rfl rfl rfl (Nat.le_of_ble_eq_true rfl) rfl (fun n q h => kc_L_note n (14 : Int32) v10 v11 (0 : Int32) H1 q h) fun H12 => ?_
    refine xo_goto (pc' := 55) dd_T_startAbort_30 rfl ?_
    exact xo_vret dd_T_startAbort_55 rfl
set_option maxRecDepth 100000 in
set_option maxHeartbeats 4000000 in
theorem kc_T_startAbort (t : xo_N) (H : xo_H) (r : xo_H) (hk : fc_T_startAbort t H = some r) : xo_M mt_T_startAbort [.inr (some t)] H (xo_jv r) :=
  xo_entry hk (by decide +kernel) (Nat.le_of_ble_eq_true rfl) (kb_T_startAbort t H r)
def fc_T_loseEnd (t : xo_N) (H : xo_H) : Option (xo_H) :=
  xo_gf 7 11 H (some t) fun v1 =>
  if v1 = 0 then (some H)
  else (xo_pz 7 11 H (some t) (0 : Int32) fun H2 =>
  xo_gp 7 2 H2 (some t) fun o3 =>
  xo_gf 7 0 H2 (some t) fun v4 =>
  xo_gf 7 5 H2 (some t) fun v5 =>
  xo_cl 1 o3 (fun n7 => fc_L_note n7 (12 : Int32) v4 v5 (0 : Int32) H2) fun H6 =>
  some H6)

set_option maxRecDepth 100000 in
set_option maxHeartbeats 4000000 in
theorem kb_T_loseEnd (t : xo_N) (H : xo_H) (r : xo_H) : xo_X mt_T_loseEnd 0 0 xo_jv r 0 [(0, .inr (some t))] [] H (fc_T_loseEnd t H) := by
  unfold fc_T_loseEnd
  refine xo_aload_n (pc' := 1) dd_T_loseEnd_0 rfl 0 rfl rfl ?_
  refine xo_getI (pc' := 4) dd_T_loseEnd_1 ff_T_38 (by decide) rfl fun v1 => ?_
  refine xo_if_eq (pc' := 7) (tgt := 30) dd_T_loseEnd_4 rfl rfl ?_ ?_
  · exact xo_vret dd_T_loseEnd_30 rfl
  · refine xo_aload_n (pc' := 8) dd_T_loseEnd_7 rfl 0 rfl rfl ?_
    refine xo_iconst (pc' := 9) (v := (0 : Int32)) dd_T_loseEnd_8 (by decide) rfl ?_
    refine xo_putZ (pc' := 12) dd_T_loseEnd_9 ff_T_38 rfl fun H2 => ?_
    refine xo_aload_n (pc' := 13) dd_T_loseEnd_12 rfl 0 rfl rfl ?_
    refine xo_getP (pc' := 16) dd_T_loseEnd_13 ff_T_34 (by decide) rfl fun o3 => ?_
    refine xo_bipush (pc' := 18) (v := (12 : Int32)) dd_T_loseEnd_16 (by decide) rfl ?_
    refine xo_aload_n (pc' := 19) dd_T_loseEnd_18 rfl 0 rfl rfl ?_
    refine xo_getI (pc' := 22) dd_T_loseEnd_19 ff_T_27 (by decide) rfl fun v4 => ?_
    refine xo_aload_n (pc' := 23) dd_T_loseEnd_22 rfl 0 rfl rfl ?_
    refine xo_getI (pc' := 26) dd_T_loseEnd_23 ff_T_52 (by decide) rfl fun v5 => ?_
    refine xo_iconst (pc' := 27) (v := (0 : Int32)) dd_T_loseEnd_26 (by decide) rfl ?_
    refine xo_callVv (as := [.inl (12 : Int32), .inl v4, .inl v5, .inl (0 : Int32)]) (o := o3) (st := []) (pc' := 30) dd_T_loseEnd_27 cv_L_note ml_T_55 rfl rfl ⟨by decide, by decide⟩ rfl rfl rfl (Nat.le_of_ble_eq_true rfl) rfl (fun n q h => kc_L_note n (12 : Int32) v4 v5 (0 : Int32) H2 q h) fun H6 => ?_
    exact xo_vret dd_T_loseEnd_30 rfl
set_option maxRecDepth 100000 in
set_option maxHeartbeats 4000000 in
theorem kc_T_loseEnd (t : xo_N) (H : xo_H) (r : xo_H) (hk : fc_T_loseEnd t H = some r) : xo_M mt_T_loseEnd [.inr (some t)] H (xo_jv r) :=
  xo_entry hk (by decide +kernel) (Nat.le_of_ble_eq_true rfl) (kb_T_loseEnd t H r)
def fb_T_breakDown_74 (t : xo_N) (H : xo_H) : Option (xo_H) :=
  xo_gf 7 7 H (some t) fun v1 =>
  if v1 = (5 : Int32) then (some H)
  else (xo_cl 7 (some t) (fun n3 => fc_T_loseEnd n3 H) fun H2 =>
  some H2)

def fb_T_breakDown_7 : Nat → xo_N → Int32 → xo_H → Option (xo_H)
  | 0, _, _, _ => none
  | fu + 1, t, x1, H =>
  xo_gp 7 3 H (some t) fun o1 =>
  xo_gf 3 2 H o1 fun v2 =>
  if x1 < v2 then (xo_gp 7 2 H (some t) fun o12 =>
  xo_gf 7 0 H (some t) fun v13 =>
  xo_gp 7 3 H (some t) fun o14 =>
  xo_cl 3 o14 (fun n19 => fc_R_at n19 x1 H) fun r15 =>
  xo_gf 7 5 r15.2 (some t) fun v16 =>
  xo_cl 1 o12 (fun n18 => fc_L_note n18 (10 : Int32) v13 r15.1 v16 r15.2) fun H17 =>
  fb_T_breakDown_7 fu t (x1 + (1 : Int32)) H17)
  else (xo_gp 7 3 H (some t) fun o3 =>
  xo_cl 3 o3 (fun n11 => fc_R_clear n11 H) fun H4 =>
  xo_gp 7 1 H4 (some t) fun o5 =>
  xo_cl 4 o5 (fun n10 => fc_C_clear n10 H4) fun H6 =>
  xo_gf 7 9 H6 (some t) fun v7 =>
  if v7 = 0 then (fb_T_breakDown_74 t H6)
  else (xo_cl 7 (some t) (fun n9 => fc_T_startAbort n9 H6) fun H8 =>
  fb_T_breakDown_74 t H8))

def fc_T_breakDown (t : xo_N) (H : xo_H) : Option (xo_H) :=
  xo_pf 7 4 H (some t) (2 : Int32) fun H1 =>
  fb_T_breakDown_7 1000 t (0 : Int32) H1

set_option maxRecDepth 100000 in
set_option maxHeartbeats 4000000 in
theorem kb_T_breakDown_74 (t : xo_N) (H : xo_H) (r : xo_H) : xo_X mt_T_breakDown 0 0 xo_jv r 74 [(0, .inr (some t))] [] H (fb_T_breakDown_74 t H) := by
  unfold fb_T_breakDown_74
  refine xo_aload_n (pc' := 75) dd_T_breakDown_74 rfl 0 rfl rfl ?_
  refine xo_getI (pc' := 78) dd_T_breakDown_75 ff_T_24 (by decide) rfl fun v1 => ?_
  refine xo_iconst (pc' := 79) (v := (5 : Int32)) dd_T_breakDown_78 (by decide) rfl ?_
  refine xo_icmp_eq (pc' := 82) (tgt := 86) dd_T_breakDown_79 rfl rfl ?_ ?_
  · exact xo_vret dd_T_breakDown_86 rfl
  · refine xo_aload_n (pc' := 83) dd_T_breakDown_82 rfl 0 rfl rfl ?_
    refine xo_callVv (as := []) (o := (some t)) (st := []) (pc' := 86) dd_T_breakDown_83 cv_T_loseEnd ml_T_105 rfl rfl ⟨by decide, by decide⟩ rfl rfl rfl (Nat.le_of_ble_eq_true rfl) rfl (fun n q h => kc_T_loseEnd n H q h) fun H2 => ?_
    exact xo_vret dd_T_breakDown_86 rfl
set_option maxRecDepth 100000 in
set_option maxHeartbeats 4000000 in
theorem kb_T_breakDown_7 : ∀ (fu : Nat) (t : xo_N) (x1 : Int32) (H : xo_H) (r : xo_H), xo_X mt_T_breakDown 0 0 xo_jv r 7 [(0, .inr (some t)), (1, .inl x1)] [] H (fb_T_breakDown_7 fu t x1 H) := by
  intro fu
  induction fu with
  | zero => intros; exact xo_no
  | succ fu ih =>
    intro t x1 H r
    rw [fb_T_breakDown_7]
    refine xo_iload_n (pc' := 8) dd_T_breakDown_7 rfl 1 rfl rfl ?_
    refine xo_aload_n (pc' := 9) dd_T_breakDown_8 rfl 0 rfl rfl ?_
    refine xo_getP (pc' := 12) dd_T_breakDown_9 ff_T_14 (by decide) rfl fun o1 => ?_
    refine xo_getI (pc' := 15) dd_T_breakDown_12 ff_T_118 (by decide) rfl fun v2 => ?_
    refine xo_icmp_ge (pc' := 18) (tgt := 49) dd_T_breakDown_15 rfl rfl ?_ ?_
    · refine xo_aload_n (pc' := 50) dd_T_breakDown_49 rfl 0 rfl rfl ?_
      refine xo_getP (pc' := 53) dd_T_breakDown_50 ff_T_14 (by decide) rfl fun o3 => ?_
      refine xo_callVv (as := []) (o := o3) (st := []) (pc' := 56) dd_T_breakDown_53 cv_R_clear ml_T_120 rfl rfl ⟨by decide, by decide⟩ rfl rfl rfl (Nat.le_of_ble_eq_true rfl) rfl (fun n q h => kc_R_clear n H q h) fun H4 => ?_
      refine xo_aload_n (pc' := 57) dd_T_breakDown_56 rfl 0 rfl rfl ?_
      refine xo_getP (pc' := 60) dd_T_breakDown_57 ff_T_30 (by decide) rfl fun o5 => ?_
      refine xo_callVv (as := []) (o := o5) (st := []) (pc' := 63) dd_T_breakDown_60 cv_C_clear ml_T_123 rfl rfl ⟨by decide, by decide⟩ rfl rfl rfl (Nat.le_of_ble_eq_true rfl) rfl (fun n q h => kc_C_clear n H4 q h) fun H6 => ?_
      refine xo_aload_n (pc' := 64) dd_T_breakDown_63 rfl 0 rfl rfl ?_
      refine xo_getI (pc' := 67) dd_T_breakDown_64 ff_T_76 (by decide) rfl fun v7 => ?_
      refine xo_if_eq (pc' := 70) (tgt := 74) dd_T_breakDown_67 rfl rfl ?_ ?_
      · refine xo_sub [0] rfl ?_
        exact kb_T_breakDown_74 t H6 r
      · refine xo_aload_n (pc' := 71) dd_T_breakDown_70 rfl 0 rfl rfl ?_
        refine xo_callVv (as := []) (o := (some t)) (st := []) (pc' := 74) dd_T_breakDown_71 cv_T_startAbort ml_T_124 rfl rfl ⟨by decide, by decide⟩ rfl rfl rfl (Nat.le_of_ble_eq_true rfl) rfl (fun n q h => kc_T_startAbort n H6 q h) fun H8 => ?_
        refine xo_sub [0] rfl ?_
        exact kb_T_breakDown_74 t H8 r
    · refine xo_aload_n (pc' := 19) dd_T_breakDown_18 rfl 0 rfl rfl ?_
      refine xo_getP (pc' := 22) dd_T_breakDown_19 ff_T_34 (by decide) rfl fun o12 => ?_
      refine xo_bipush (pc' := 24) (v := (10 : Int32)) dd_T_breakDown_22 (by decide) rfl ?_
      refine xo_aload_n (pc' := 25) dd_T_breakDown_24 rfl 0 rfl rfl ?_
      refine xo_getI (pc' := 28) dd_T_breakDown_25 ff_T_27 (by decide) rfl fun v13 => ?_
      refine xo_aload_n (pc' := 29) dd_T_breakDown_28 rfl 0 rfl rfl ?_
      refine xo_getP (pc' := 32) dd_T_breakDown_29 ff_T_14 (by decide) rfl fun o14 => ?_
      refine xo_iload_n (pc' := 33) dd_T_breakDown_32 rfl 1 rfl rfl ?_
      refine xo_callVi (as := [.inl x1]) (o := o14) (st := [.inl v13, .inl (10 : Int32), .inr o12]) (pc' := 36) dd_T_breakDown_33 cv_R_at ml_T_114 rfl rfl ⟨by decide, by decide⟩ rfl rfl rfl (Nat.le_of_ble_eq_true rfl) rfl (fun n q h => kc_R_at n x1 H q h) fun r15 => ?_
      refine xo_aload_n (pc' := 37) dd_T_breakDown_36 rfl 0 rfl rfl ?_
      refine xo_getI (pc' := 40) dd_T_breakDown_37 ff_T_52 (by decide) rfl fun v16 => ?_
      refine xo_callVv (as := [.inl (10 : Int32), .inl v13, .inl r15.1, .inl v16]) (o := o12) (st := []) (pc' := 43) dd_T_breakDown_40 cv_L_note ml_T_55 rfl rfl ⟨by decide, by decide⟩ rfl rfl rfl (Nat.le_of_ble_eq_true rfl) rfl (fun n q h => kc_L_note n (10 : Int32) v13 r15.1 v16 r15.2 q h) fun H17 => ?_
      refine xo_iinc (pc' := 46) dd_T_breakDown_43 1 rfl (xo_ii (m := (1 : Int32)) (by decide)) (by decide) rfl rfl ?_
      refine xo_goto (pc' := 7) dd_T_breakDown_46 rfl ?_
      refine xo_sub [1, 0] rfl ?_
      exact ih t (x1 + (1 : Int32)) H17 r
set_option maxRecDepth 100000 in
set_option maxHeartbeats 4000000 in
theorem kb_T_breakDown (t : xo_N) (H : xo_H) (r : xo_H) : xo_X mt_T_breakDown 0 0 xo_jv r 0 [(0, .inr (some t))] [] H (fc_T_breakDown t H) := by
  unfold fc_T_breakDown
  refine xo_aload_n (pc' := 1) dd_T_breakDown_0 rfl 0 rfl rfl ?_
  refine xo_iconst (pc' := 2) (v := (2 : Int32)) dd_T_breakDown_1 (by decide) rfl ?_
  refine xo_putI (pc' := 5) dd_T_breakDown_2 ff_T_20 rfl fun H1 => ?_
  refine xo_iconst (pc' := 6) (v := (0 : Int32)) dd_T_breakDown_5 (by decide) rfl ?_
  refine xo_istore_n (pc' := 7) dd_T_breakDown_6 rfl (by decide) rfl rfl ?_
  refine xo_sub [1, 0] rfl ?_
  exact kb_T_breakDown_7 1000 t (0 : Int32) H1 r
set_option maxRecDepth 100000 in
set_option maxHeartbeats 4000000 in
theorem kc_T_breakDown (t : xo_N) (H : xo_H) (r : xo_H) (hk : fc_T_breakDown t H = some r) : xo_M mt_T_breakDown [.inr (some t)] H (xo_jv r) :=
  xo_entry hk (by decide +kernel) (Nat.le_of_ble_eq_true rfl) (kb_T_breakDown t H r)
def fb_T_goOn_22 (t : xo_N) (H : xo_H) : Option (xo_H) :=
  xo_cl 7 (some t) (fun n2 => fc_T_startNext n2 H) fun H1 =>
  some H1

def fc_T_goOn (t : xo_N) (H : xo_H) : Option (xo_H) :=
  xo_gf 7 7 H (some t) fun v1 =>
  if v1 = 0 then (xo_gf 7 4 H (some t) fun v2 =>
  if v2 = (1 : Int32) then (xo_cl 7 (some t) (fun n4 => fc_T_breakDown n4 H) fun H3 =>
  some H3)
  else (fb_T_goOn_22 t H))
  else (fb_T_goOn_22 t H)

set_option maxRecDepth 100000 in
set_option maxHeartbeats 4000000 in
theorem kb_T_goOn_22 (t : xo_N) (H : xo_H) (r : xo_H) : xo_X mt_T_goOn 0 0 xo_jv r 22 [(0, .inr (some t))] [] H (fb_T_goOn_22 t H) := by
  unfold fb_T_goOn_22
  refine xo_aload_n (pc' := 23) dd_T_goOn_22 rfl 0 rfl rfl ?_
  refine xo_callVv (as := []) (o := (some t)) (st := []) (pc' := 26) dd_T_goOn_23 cv_T_startNext ml_T_67 rfl rfl ⟨by decide, by decide⟩ rfl rfl rfl (Nat.le_of_ble_eq_true rfl) rfl (fun n q h => kc_T_startNext n H q h) fun H1 => ?_
  exact xo_vret dd_T_goOn_26 rfl
set_option maxRecDepth 100000 in
set_option maxHeartbeats 4000000 in
theorem kb_T_goOn (t : xo_N) (H : xo_H) (r : xo_H) : xo_X mt_T_goOn 0 0 xo_jv r 0 [(0, .inr (some t))] [] H (fc_T_goOn t H) := by
  unfold fc_T_goOn
  refine xo_aload_n (pc' := 1) dd_T_goOn_0 rfl 0 rfl rfl ?_
  refine xo_getI (pc' := 4) dd_T_goOn_1 ff_T_24 (by decide) rfl fun v1 => ?_
  refine xo_if_ne (pc' := 7) (tgt := 22) dd_T_goOn_4 rfl rfl ?_ ?_
  · exact kb_T_goOn_22 t H r
  · refine xo_aload_n (pc' := 8) dd_T_goOn_7 rfl 0 rfl rfl ?_
    refine xo_getI (pc' := 11) dd_T_goOn_8 ff_T_20 (by decide) rfl fun v2 => ?_
    refine xo_iconst (pc' := 12) (v := (1 : Int32)) dd_T_goOn_11 (by decide) rfl ?_
    refine xo_icmp_ne (pc' := 15) (tgt := 22) dd_T_goOn_12 rfl rfl ?_ ?_
    · exact kb_T_goOn_22 t H r
    · refine xo_aload_n (pc' := 16) dd_T_goOn_15 rfl 0 rfl rfl ?_
      refine xo_callVv (as := []) (o := (some t)) (st := []) (pc' := 19) dd_T_goOn_16 cv_T_breakDown ml_T_88 rfl rfl ⟨by decide, by decide⟩ rfl rfl rfl (Nat.le_of_ble_eq_true rfl) rfl (fun n q h => kc_T_breakDown n H q h) fun H3 => ?_
      refine xo_goto (pc' := 26) dd_T_goOn_19 rfl ?_
      exact xo_vret dd_T_goOn_26 rfl
set_option maxRecDepth 100000 in
set_option maxHeartbeats 4000000 in
theorem kc_T_goOn (t : xo_N) (H : xo_H) (r : xo_H) (hk : fc_T_goOn t H = some r) : xo_M mt_T_goOn [.inr (some t)] H (xo_jv r) :=
  xo_entry hk (by decide +kernel) (Nat.le_of_ble_eq_true rfl) (kb_T_goOn t H r)
def fc_T_shutDown (t : xo_N) (H : xo_H) : Option (xo_H) :=
  xo_cl 7 (some t) (fun n5 => fc_T_canShutDown n5 H) fun r1 =>
  if r1.1 = 0 then (some r1.2)
  else (xo_pz 7 11 r1.2 (some t) (1 : Int32) fun H2 =>
  xo_cl 7 (some t) (fun n4 => fc_T_goOn n4 H2) fun H3 =>
  some H3)

set_option maxRecDepth 100000 in
set_option maxHeartbeats 4000000 in
theorem kb_T_shutDown (t : xo_N) (H : xo_H) (r : xo_H) : xo_X mt_T_shutDown 0 0 xo_jv r 0 [(0, .inr (some t))] [] H (fc_T_shutDown t H) := by
  unfold fc_T_shutDown
  refine xo_aload_n (pc' := 1) dd_T_shutDown_0 rfl 0 rfl rfl ?_
  refine xo_callVi (as := []) (o := (some t)) (st := []) (pc' := 4) dd_T_shutDown_1 cv_T_canShutDown ml_T_70 rfl rfl ⟨by decide, by decide⟩ rfl rfl rfl (Nat.le_of_ble_eq_true rfl) rfl (fun n q h => kc_T_canShutDown n H q h) fun r1 => ?_
  refine xo_if_eq (pc' := 7) (tgt := 16) dd_T_shutDown_4 rfl rfl ?_ ?_
  · exact xo_vret dd_T_shutDown_16 rfl
  · refine xo_aload_n (pc' := 8) dd_T_shutDown_7 rfl 0 rfl rfl ?_
    refine xo_iconst (pc' := 9) (v := (1 : Int32)) dd_T_shutDown_8 (by decide) rfl ?_
    refine xo_putZ (pc' := 12) dd_T_shutDown_9 ff_T_38 rfl fun H2 => ?_
    refine xo_aload_n (pc' := 13) dd_T_shutDown_12 rfl 0 rfl rfl ?_
    refine xo_callVv (as := []) (o := (some t)) (st := []) (pc' := 16) dd_T_shutDown_13 cv_T_goOn ml_T_73 rfl rfl ⟨by decide, by decide⟩ rfl rfl rfl (Nat.le_of_ble_eq_true rfl) rfl (fun n q h => kc_T_goOn n H2 q h) fun H3 => ?_
    exact xo_vret dd_T_shutDown_16 rfl
set_option maxRecDepth 100000 in
set_option maxHeartbeats 4000000 in
theorem kc_T_shutDown (t : xo_N) (H : xo_H) (r : xo_H) (hk : fc_T_shutDown t H = some r) : xo_M mt_T_shutDown [.inr (some t)] H (xo_jv r) :=
  xo_entry hk (by decide +kernel) (Nat.le_of_ble_eq_true rfl) (kb_T_shutDown t H r)
def fc_T_startFailing (t : xo_N) (x1 : Int32) (H : xo_H) : Option (xo_H) :=
  xo_pf 7 4 H (some t) (1 : Int32) fun H1 =>
  xo_pf 7 5 H1 (some t) x1 fun H2 =>
  xo_gf 7 7 H2 (some t) fun v3 =>
  if v3 = 0 then (xo_cl 7 (some t) (fun n5 => fc_T_breakDown n5 H2) fun H4 =>
  some H4)
  else (some H2)

set_option maxRecDepth 100000 in
set_option maxHeartbeats 4000000 in
theorem kb_T_startFailing (t : xo_N) (x1 : Int32) (H : xo_H) (r : xo_H) : xo_X mt_T_startFailing 0 0 xo_jv r 0 [(0, .inr (some t)), (1, .inl x1)] [] H (fc_T_startFailing t x1 H) := by
  unfold fc_T_startFailing
  refine xo_aload_n (pc' := 1) dd_T_startFailing_0 rfl 0 rfl rfl ?_
  refine xo_iconst (pc' := 2) (v := (1 : Int32)) dd_T_startFailing_1 (by decide) rfl ?_
  refine xo_putI (pc' := 5) dd_T_startFailing_2 ff_T_20 rfl fun H1 => ?_
  refine xo_aload_n (pc' := 6) dd_T_startFailing_5 rfl 0 rfl rfl ?_
  refine xo_iload_n (pc' := 7) dd_T_startFailing_6 rfl 1 rfl rfl ?_
  refine xo_putI (pc' := 10) dd_T_startFailing_7 ff_T_52 rfl fun H2 => ?_
  refine xo_aload_n (pc' := 11) dd_T_startFailing_10 rfl 0 rfl rfl ?_
  refine xo_getI (pc' := 14) dd_T_startFailing_11 ff_T_24 (by decide) rfl fun v3 => ?_
  refine xo_if_ne (pc' := 17) (tgt := 21) dd_T_startFailing_14 rfl rfl ?_ ?_
  · exact xo_vret dd_T_startFailing_21 rfl
  · refine xo_aload_n (pc' := 18) dd_T_startFailing_17 rfl 0 rfl rfl ?_
    refine xo_callVv (as := []) (o := (some t)) (st := []) (pc' := 21) dd_T_startFailing_18 cv_T_breakDown ml_T_88 rfl rfl ⟨by decide, by decide⟩ rfl rfl rfl (Nat.le_of_ble_eq_true rfl) rfl (fun n q h => kc_T_breakDown n H2 q h) fun H4 => ?_
    exact xo_vret dd_T_startFailing_21 rfl
set_option maxRecDepth 100000 in
set_option maxHeartbeats 4000000 in
theorem kc_T_startFailing (t : xo_N) (x1 : Int32) (H : xo_H) (r : xo_H) (hk : fc_T_startFailing t x1 H = some r) : xo_M mt_T_startFailing [.inr (some t), .inl x1] H (xo_jv r) :=
  xo_entry hk (by decide +kernel) (Nat.le_of_ble_eq_true rfl) (kb_T_startFailing t x1 H r)
def fb_T_abortWith_64 (t : xo_N) (x1 : Int32) (s1 : Int32) (H : xo_H) : Option (xo_H) :=
  xo_pz 7 10 H (some t) s1 fun H1 =>
  xo_gf 7 10 H1 (some t) fun v2 =>
  if v2 = 0 then (xo_cl 7 (some t) (fun n4 => fc_T_startFailing n4 x1 H1) fun H3 =>
  some H3)
  else (some H1)

def fb_T_abortWith_16 (t : xo_N) (H : xo_H) : Option (xo_H) :=
  xo_gp 7 2 H (some t) fun o1 =>
  xo_gf 7 0 H (some t) fun v2 =>
  xo_cl 1 o1 (fun n4 => fc_L_note n4 (13 : Int32) v2 (0 : Int32) (0 : Int32) H) fun H3 =>
  some H3

def fc_T_abortWith (t : xo_N) (x1 : Int32) (H : xo_H) : Option (xo_H) :=
  xo_gf 7 4 H (some t) fun v1 =>
  if v1 = (3 : Int32) then (fb_T_abortWith_16 t H)
  else (xo_gf 7 4 H (some t) fun v2 =>
  if v2 = (2 : Int32) then (fb_T_abortWith_16 t H)
  else (xo_gf 7 9 H (some t) fun v3 =>
  if v3 = 0 then (xo_pz 7 9 H (some t) (1 : Int32) fun H4 =>
  xo_pf 7 8 H4 (some t) x1 fun H5 =>
  xo_gf 7 4 H5 (some t) fun v6 =>
  if v6 = (1 : Int32) then (fb_T_abortWith_64 t x1 (1 : Int32) H5)
  else (fb_T_abortWith_64 t x1 (0 : Int32) H5))
  else (some H)))

set_option maxRecDepth 100000 in
set_option maxHeartbeats 4000000 in
theorem kb_T_abortWith_64 (t : xo_N) (x1 : Int32) (s1 : Int32) (H : xo_H) (r : xo_H) : xo_X mt_T_abortWith 0 0 xo_jv r 64 [(0, .inr (some t)), (1, .inl x1)] [.inl s1, .inr (some t)] H (fb_T_abortWith_64 t x1 s1 H) := by
  unfold fb_T_abortWith_64
  refine xo_putZ (pc' := 67) dd_T_abortWith_64 ff_T_82 rfl fun H1 => ?_
  refine xo_aload_n (pc' := 68) dd_T_abortWith_67 rfl 0 rfl rfl ?_
  refine xo_getI (pc' := 71) dd_T_abortWith_68 ff_T_82 (by decide) rfl fun v2 => ?_
  refine xo_if_ne (pc' := 74) (tgt := 79) dd_T_abortWith_71 rfl rfl ?_ ?_
  · exact xo_vret dd_T_abortWith_79 rfl
  · refine xo_aload_n (pc' := 75) dd_T_abortWith_74 rfl 0 rfl rfl ?_
    refine xo_iload_n (pc' := 76) dd_T_abortWith_75 rfl 1 rfl rfl ?_
    refine xo_callVv (as := [.inl x1]) (o := (some t)) (st := []) (pc' := 79) dd_T_abortWith_76 cv_T_startFailing ml_T_85 rfl rfl ⟨by decide, by decide⟩ rfl rfl rfl (Nat.le_of_ble_eq_true rfl) rfl (fun n q h => kc_T_startFailing n x1 H1 q h) fun H3 => ?_
    exact xo_vret dd_T_abortWith_79 rfl
set_option maxRecDepth 100000 in
set_option maxHeartbeats 4000000 in
theorem kb_T_abortWith_16 (t : xo_N) (H : xo_H) (r : xo_H) : xo_X mt_T_abortWith 0 0 xo_jv r 16 [(0, .inr (some t))] [] H (fb_T_abortWith_16 t H) := by
  unfold fb_T_abortWith_16
  refine xo_aload_n (pc' := 17) dd_T_abortWith_16 rfl 0 rfl rfl ?_
  refine xo_getP (pc' := 20) dd_T_abortWith_17 ff_T_34 (by decide) rfl fun o1 => ?_
  refine xo_bipush (pc' := 22) (v := (13 : Int32)) dd_T_abortWith_20 (by decide) rfl ?_
  refine xo_aload_n (pc' := 23) dd_T_abortWith_22 rfl 0 rfl rfl ?_
  refine xo_getI (pc' := 26) dd_T_abortWith_23 ff_T_27 (by decide) rfl fun v2 => ?_
  refine xo_iconst (pc' := 27) (v := (0 : Int32)) dd_T_abortWith_26 (by decide) rfl ?_
  refine xo_iconst (pc' := 28) (v := (0 : Int32)) dd_T_abortWith_27 (by decide) rfl ?_
  refine xo_callVv (as := [.inl (13 : Int32), .inl v2, .inl (0 : Int32), .inl (0 : Int32)]) (o := o1) (st := []) (pc' := 31) dd_T_abortWith_28 cv_L_note ml_T_55 rfl rfl ⟨by decide, by decide⟩ rfl rfl rfl (Nat.le_of_ble_eq_true rfl) rfl (fun n q h => kc_L_note n (13 : Int32) v2 (0 : Int32) (0 : Int32) H q h) fun H3 => ?_
  exact xo_vret dd_T_abortWith_31 rfl
set_option maxRecDepth 100000 in
set_option maxHeartbeats 4000000 in
theorem kb_T_abortWith (t : xo_N) (x1 : Int32) (H : xo_H) (r : xo_H) : xo_X mt_T_abortWith 0 0 xo_jv r 0 [(0, .inr (some t)), (1, .inl x1)] [] H (fc_T_abortWith t x1 H) := by
  unfold fc_T_abortWith
  refine xo_aload_n (pc' := 1) dd_T_abortWith_0 rfl 0 rfl rfl ?_
  refine xo_getI (pc' := 4) dd_T_abortWith_1 ff_T_20 (by decide) rfl fun v1 => ?_
  refine xo_iconst (pc' := 5) (v := (3 : Int32)) dd_T_abortWith_4 (by decide) rfl ?_
  refine xo_icmp_eq (pc' := 8) (tgt := 16) dd_T_abortWith_5 rfl rfl ?_ ?_
  · refine xo_sub [0] rfl ?_
    exact kb_T_abortWith_16 t H r
  · refine xo_aload_n (pc' := 9) dd_T_abortWith_8 rfl 0 rfl rfl ?_
    refine xo_getI (pc' := 12) dd_T_abortWith_9 ff_T_20 (by decide) rfl fun v2 => ?_
    refine xo_iconst (pc' := 13) (v := (2 : Int32)) dd_T_abortWith_12 (by decide) rfl ?_
    refine xo_icmp_ne (pc' := 16) (tgt := 32) dd_T_abortWith_13 rfl rfl ?_ ?_
    · refine xo_aload_n (pc' := 33) dd_T_abortWith_32 rfl 0 rfl rfl ?_
      refine xo_getI (pc' := 36) dd_T_abortWith_33 ff_T_76 (by decide) rfl fun v3 => ?_
      refine xo_if_eq (pc' := 39) (tgt := 40) dd_T_abortWith_36 rfl rfl ?_ ?_
      · refine xo_aload_n (pc' := 41) dd_T_abortWith_40 rfl 0 rfl rfl ?_
        refine xo_iconst (pc' := 42) (v := (1 : Int32)) dd_T_abortWith_41 (by decide) rfl ?_
        refine xo_putZ (pc' := 45) dd_T_abortWith_42 ff_T_76 rfl fun H4 => ?_
        refine xo_aload_n (pc' := 46) dd_T_abortWith_45 rfl 0 rfl rfl ?_
        refine xo_iload_n (pc' := 47) dd_T_abortWith_46 rfl 1 rfl rfl ?_
        refine xo_putI (pc' := 50) dd_T_abortWith_47 ff_T_79 rfl fun H5 => ?_
        refine xo_aload_n (pc' := 51) dd_T_abortWith_50 rfl 0 rfl rfl ?_
        refine xo_aload_n (pc' := 52) dd_T_abortWith_51 rfl 0 rfl rfl ?_
        refine xo_getI (pc' := 55) dd_T_abortWith_52 ff_T_20 (by decide) rfl fun v6 => ?_
        refine xo_iconst (pc' := 56) (v := (1 : Int32)) dd_T_abortWith_55 (by decide) rfl ?_
        refine xo_icmp_ne (pc' := 59) (tgt := 63) dd_T_abortWith_56 rfl rfl ?_ ?_
        · refine xo_iconst (pc' := 64) (v := (0 : Int32)) dd_T_abortWith_63 (by decide) rfl ?_
          exact kb_T_abortWith_64 t x1 (0 : Int32) H5 r
        · refine xo_iconst (pc' := 60) (v := (1 : Int32)) dd_T_abortWith_59 (by decide) rfl ?_
          refine xo_goto (pc' := 64) dd_T_abortWith_60 rfl ?_
          exact kb_T_abortWith_64 t x1 (1 : Int32) H5 r
      · exact xo_vret dd_T_abortWith_39 rfl
    · refine xo_sub [0] rfl ?_
      exact kb_T_abortWith_16 t H r
set_option maxRecDepth 100000 in
set_option maxHeartbeats 4000000 in
theorem kc_T_abortWith (t : xo_N) (x1 : Int32) (H : xo_H) (r : xo_H) (hk : fc_T_abortWith t x1 H = some r) : xo_M mt_T_abortWith [.inr (some t), .inl x1] H (xo_jv r) :=
  xo_entry hk (by decide +kernel) (Nat.le_of_ble_eq_true rfl) (kb_T_abortWith t x1 H r)
def fb_T_failOrBreak_12 (t : xo_N) (H : xo_H) : Option (xo_H) :=
  xo_cl 7 (some t) (fun n2 => fc_T_breakDown n2 H) fun H1 =>
  some H1

def fc_T_failOrBreak (t : xo_N) (x1 : Int32) (H : xo_H) : Option (xo_H) :=
  xo_gf 7 4 H (some t) fun v1 =>
  if v1 = 0 then (xo_pf 7 5 H (some t) x1 fun H2 =>
  fb_T_failOrBreak_12 t H2)
  else (fb_T_failOrBreak_12 t H)

set_option maxRecDepth 100000 in
set_option maxHeartbeats 4000000 in
theorem kb_T_failOrBreak_12 (t : xo_N) (H : xo_H) (r : xo_H) : xo_X mt_T_failOrBreak 0 0 xo_jv r 12 [(0, .inr (some t))] [] H (fb_T_failOrBreak_12 t H) := by
  unfold fb_T_failOrBreak_12
  refine xo_aload_n (pc' := 13) dd_T_failOrBreak_12 rfl 0 rfl rfl ?_
  refine xo_callVv (as := []) (o := (some t)) (st := []) (pc' := 16) dd_T_failOrBreak_13 cv_T_breakDown ml_T_88 rfl rfl ⟨by decide, by decide⟩ rfl rfl rfl (Nat.le_of_ble_eq_true rfl) rfl (fun n q h => kc_T_breakDown n H q h) fun H1 => ?_
  exact xo_vret dd_T_failOrBreak_16 rfl
set_option maxRecDepth 100000 in
set_option maxHeartbeats 4000000 in
theorem kb_T_failOrBreak (t : xo_N) (x1 : Int32) (H : xo_H) (r : xo_H) : xo_X mt_T_failOrBreak 0 0 xo_jv r 0 [(0, .inr (some t)), (1, .inl x1)] [] H (fc_T_failOrBreak t x1 H) := by
  unfold fc_T_failOrBreak
  refine xo_aload_n (pc' := 1) dd_T_failOrBreak_0 rfl 0 rfl rfl ?_
  refine xo_getI (pc' := 4) dd_T_failOrBreak_1 ff_T_20 (by decide) rfl fun v1 => ?_
  refine xo_if_ne (pc' := 7) (tgt := 12) dd_T_failOrBreak_4 rfl rfl ?_ ?_
  · refine xo_sub [0] rfl ?_
    exact kb_T_failOrBreak_12 t H r
  · refine xo_aload_n (pc' := 8) dd_T_failOrBreak_7 rfl 0 rfl rfl ?_
    refine xo_iload_n (pc' := 9) dd_T_failOrBreak_8 rfl 1 rfl rfl ?_
    refine xo_putI (pc' := 12) dd_T_failOrBreak_9 ff_T_52 rfl fun H2 => ?_
    refine xo_sub [0] rfl ?_
    exact kb_T_failOrBreak_12 t H2 r
set_option maxRecDepth 100000 in
set_option maxHeartbeats 4000000 in
theorem kc_T_failOrBreak (t : xo_N) (x1 : Int32) (H : xo_H) (r : xo_H) (hk : fc_T_failOrBreak t x1 H = some r) : xo_M mt_T_failOrBreak [.inr (some t), .inl x1] H (xo_jv r) :=
  xo_entry hk (by decide +kernel) (Nat.le_of_ble_eq_true rfl) (kb_T_failOrBreak t x1 H r)
def fc_T_written (t : xo_N) (x1 : Int32) (H : xo_H) : Option (xo_H) :=
  xo_gp 7 1 H (some t) fun o1 =>
  xo_cl 4 o1 (fun n18 => fc_C_takeFirst n18 H) fun r2 =>
  xo_gp 7 3 r2.2 (some t) fun o3 =>
  xo_cl 3 o3 (fun n17 => fc_R_takeFirst n17 r2.2) fun r4 =>
  if x1 = (-1 : Int32) then (xo_gp 7 2 r4.2 (some t) fun o11 =>
  xo_gf 7 0 r4.2 (some t) fun v12 =>
  xo_cl 1 o11 (fun n16 => fc_L_note n16 (9 : Int32) v12 r4.1 (0 : Int32) r4.2) fun H13 =>
  xo_cl 7 (some t) (fun n15 => fc_T_goOn n15 H13) fun H14 =>
  some H14)
  else (xo_gp 7 2 r4.2 (some t) fun o5 =>
  xo_gf 7 0 r4.2 (some t) fun v6 =>
  xo_cl 1 o5 (fun n10 => fc_L_note n10 (10 : Int32) v6 r4.1 x1 r4.2) fun H7 =>
  xo_cl 7 (some t) (fun n9 => fc_T_failOrBreak n9 x1 H7) fun H8 =>
  some H8)

set_option maxRecDepth 100000 in
set_option maxHeartbeats 4000000 in
theorem kb_T_written (t : xo_N) (x1 : Int32) (H : xo_H) (r : xo_H) : xo_X mt_T_written 0 0 xo_jv r 0 [(0, .inr (some t)), (1, .inl x1)] [] H (fc_T_written t x1 H) := by
  unfold fc_T_written
  refine xo_aload_n (pc' := 1) dd_T_written_0 rfl 0 rfl rfl ?_
  refine xo_getP (pc' := 4) dd_T_written_1 ff_T_30 (by decide) rfl fun o1 => ?_
  refine xo_callVi (as := []) (o := o1) (st := []) (pc' := 7) dd_T_written_4 cv_C_takeFirst ml_T_91 rfl rfl ⟨by decide, by decide⟩ rfl rfl rfl (Nat.le_of_ble_eq_true rfl) rfl (fun n q h => kc_C_takeFirst n H q h) fun r2 => ?_
  refine xo_pop (pc' := 8) dd_T_written_7 rfl ?_
  refine xo_aload_n (pc' := 9) dd_T_written_8 rfl 0 rfl rfl ?_
  refine xo_getP (pc' := 12) dd_T_written_9 ff_T_14 (by decide) rfl fun o3 => ?_
  refine xo_callVi (as := []) (o := o3) (st := []) (pc' := 15) dd_T_written_12 cv_R_takeFirst ml_T_95 rfl rfl ⟨by decide, by decide⟩ rfl rfl rfl (Nat.le_of_ble_eq_true rfl) rfl (fun n q h => kc_R_takeFirst n r2.2 q h) fun r4 => ?_
  refine xo_istore_n (pc' := 16) dd_T_written_15 rfl (by decide) rfl rfl ?_
  refine xo_iload_n (pc' := 17) dd_T_written_16 rfl 2 rfl rfl ?_
  refine xo_iconst (pc' := 18) (v := (-1 : Int32)) dd_T_written_17 (by decide) rfl ?_
  refine xo_icmp_ne (pc' := 21) (tgt := 43) dd_T_written_18 rfl rfl ?_ ?_
  · refine xo_aload_n (pc' := 44) dd_T_written_43 rfl 1 rfl rfl ?_
    refine xo_getP (pc' := 47) dd_T_written_44 ff_T_34 (by decide) rfl fun o5 => ?_
    refine xo_bipush (pc' := 49) (v := (10 : Int32)) dd_T_written_47 (by decide) rfl ?_
    refine xo_aload_n (pc' := 50) dd_T_written_49 rfl 1 rfl rfl ?_
    refine xo_getI (pc' := 53) dd_T_written_50 ff_T_27 (by decide) rfl fun v6 => ?_
    refine xo_iload_n (pc' := 54) dd_T_written_53 rfl 0 rfl rfl ?_
    refine xo_iload_n (pc' := 55) dd_T_written_54 rfl 2 rfl rfl ?_
    refine xo_callVv (as := [.inl (10 : Int32), .inl v6, .inl r4.1, .inl x1]) (o := o5) (st := []) (pc' := 58) dd_T_written_55 cv_L_note ml_T_55 rfl rfl ⟨by decide, by decide⟩ rfl rfl rfl (Nat.le_of_ble_eq_true rfl) rfl (fun n q h => kc_L_note n (10 : Int32) v6 r4.1 x1 r4.2 q h) fun H7 => ?_
    refine xo_aload_n (pc' := 59) dd_T_written_58 rfl 1 rfl rfl ?_
    refine xo_iload_n (pc' := 60) dd_T_written_59 rfl 2 rfl rfl ?_
    refine xo_callVv (as := [.inl x1]) (o := (some t)) (st := []) (pc' := 63) dd_T_written_60 cv_T_failOrBreak ml_T_96 rfl rfl ⟨by decide, by decide⟩ rfl rfl rfl (Nat.le_of_ble_eq_true rfl) rfl (fun n q h => kc_T_failOrBreak n x1 H7 q h) fun H8 => ?_
    exact xo_vret dd_T_written_63 rfl
  · refine xo_aload_n (pc' := 22) dd_T_written_21 rfl 1 rfl rfl ?_
    refine xo_getP (pc' := 25) dd_T_written_22 ff_T_34 (by decide) rfl fun o11 => ?_
    refine xo_bipush (pc' := 27) (v := (9 : Int32)) dd_T_written_25 (by decide) rfl ?_
    refine xo_aload_n (pc' := 28) dd_T_written_27 rfl 1 rfl rfl ?_
    refine xo_getI (pc' := 31) dd_T_written_28 ff_T_27 (by decide) rfl fun v12 => ?_
    refine xo_iload_n (pc' := 32) dd_T_written_31 rfl 0 rfl rfl ?_
    refine xo_iconst (pc' := 33) (v := (0 : Int32)) dd_T_written_32 (by decide) rfl ?_
    refine xo_callVv (as := [.inl (9 : Int32), .inl v12, .inl r4.1, .inl (0 : Int32)]) (o := o11) (st := []) (pc' := 36) dd_T_written_33 cv_L_note ml_T_55 rfl rfl ⟨by decide, by decide⟩ rfl rfl rfl (Nat.le_of_ble_eq_true rfl) rfl (fun n q h => kc_L_note n (9 : Int32) v12 r4.1 (0 : Int32) r4.2 q h) fun H13 => ?_
    refine xo_aload_n (pc' := 37) dd_T_written_36 rfl 1 rfl rfl ?_
    refine xo_callVv (as := []) (o := (some t)) (st := []) (pc' := 40) dd_T_written_37 cv_T_goOn ml_T_73 rfl rfl ⟨by decide, by decide⟩ rfl rfl rfl (Nat.le_of_ble_eq_true rfl) rfl (fun n q h => kc_T_goOn n H13 q h) fun H14 => ?_
    refine xo_goto (pc' := 63) dd_T_written_40 rfl ?_
    exact xo_vret dd_T_written_63 rfl
set_option maxRecDepth 100000 in
set_option maxHeartbeats 4000000 in
theorem kc_T_written (t : xo_N) (x1 : Int32) (H : xo_H) (r : xo_H) (hk : fc_T_written t x1 H = some r) : xo_M mt_T_written [.inr (some t), .inl x1] H (xo_jv r) :=
  xo_entry hk (by decide +kernel) (Nat.le_of_ble_eq_true rfl) (kb_T_written t x1 H r)
def fc_T_noteAborted (t : xo_N) (x1 : Int32) (H : xo_H) : Option (xo_H) :=
  if x1 = (-1 : Int32) then (xo_gp 7 2 H (some t) fun o5 =>
  xo_gf 7 0 H (some t) fun v6 =>
  xo_cl 1 o5 (fun n8 => fc_L_note n8 (13 : Int32) v6 (0 : Int32) (0 : Int32) H) fun H7 =>
  some H7)
  else (xo_gp 7 2 H (some t) fun o1 =>
  xo_gf 7 0 H (some t) fun v2 =>
  xo_cl 1 o1 (fun n4 => fc_L_note n4 (14 : Int32) v2 x1 (0 : Int32) H) fun H3 =>
  some H3)

set_option maxRecDepth 100000 in
set_option maxHeartbeats 4000000 in
theorem kb_T_noteAborted (t : xo_N) (x1 : Int32) (H : xo_H) (r : xo_H) : xo_X mt_T_noteAborted 0 0 xo_jv r 0 [(0, .inr (some t)), (1, .inl x1)] [] H (fc_T_noteAborted t x1 H) := by
  unfold fc_T_noteAborted
  refine xo_iload_n (pc' := 1) dd_T_noteAborted_0 rfl 1 rfl rfl ?_
  refine xo_iconst (pc' := 2) (v := (-1 : Int32)) dd_T_noteAborted_1 (by decide) rfl ?_
  refine xo_icmp_ne (pc' := 5) (tgt := 23) dd_T_noteAborted_2 rfl rfl ?_ ?_
  · refine xo_aload_n (pc' := 24) dd_T_noteAborted_23 rfl 0 rfl rfl ?_
    refine xo_getP (pc' := 27) dd_T_noteAborted_24 ff_T_34 (by decide) rfl fun o1 => ?_
    refine xo_bipush (pc' := 29) (v := (14 : Int32)) dd_T_noteAborted_27 (by decide) rfl ?_
    refine xo_aload_n (pc' := 30) dd_T_noteAborted_29 rfl 0 rfl rfl ?_
    refine xo_getI (pc' := 33) dd_T_noteAborted_30 ff_T_27 (by decide) rfl fun v2 => ?_
    refine xo_iload_n (pc' := 34) dd_T_noteAborted_33 rfl 1 rfl rfl ?_
    refine xo_iconst (pc' := 35) (v := (0 : Int32)) dd_T_noteAborted_34 (by decide) rfl ?_
    refine xo_callVv (as := [.inl (14 : Int32), .inl v2, .inl x1, .inl (0 : Int32)]) (o := o1) (st := []) (pc' := 38) dd_T_noteAborted_35 cv_L_note ml_T_55 rfl rfl ⟨by decide, by decide⟩ rfl rfl rfl (Nat.le_of_ble_eq_true rfl) rfl (fun n q h => kc_L_note n (14 : Int32) v2 x1 (0 : Int32) H q h) fun H3 => ?_
    exact xo_vret dd_T_noteAborted_38 rfl
  · refine xo_aload_n (pc' := 6) dd_T_noteAborted_5 rfl 0 rfl rfl ?_
    refine xo_getP (pc' := 9) dd_T_noteAborted_6 ff_T_34 (by decide) rfl fun o5 => ?_
    refine xo_bipush (pc' := 11) (v := (13 : Int32)) dd_T_noteAborted_9 (by decide) rfl ?_
    refine xo_aload_n (pc' := 12) dd_T_noteAborted_11 rfl 0 rfl rfl ?_
    refine xo_getI (pc' := 15) dd_T_noteAborted_12 ff_T_27 (by decide) rfl fun v6 => ?_
    refine xo_iconst (pc' := 16) (v := (0 : Int32)) dd_T_noteAborted_15 (by decide) rfl ?_
    refine xo_iconst (pc' := 17) (v := (0 : Int32)) dd_T_noteAborted_16 (by decide) rfl ?_
    refine xo_callVv (as := [.inl (13 : Int32), .inl v6, .inl (0 : Int32), .inl (0 : Int32)]) (o := o5) (st := []) (pc' := 20) dd_T_noteAborted_17 cv_L_note ml_T_55 rfl rfl ⟨by decide, by decide⟩ rfl rfl rfl (Nat.le_of_ble_eq_true rfl) rfl (fun n q h => kc_L_note n (13 : Int32) v6 (0 : Int32) (0 : Int32) H q h) fun H7 => ?_
    refine xo_goto (pc' := 38) dd_T_noteAborted_20 rfl ?_
    exact xo_vret dd_T_noteAborted_38 rfl
set_option maxRecDepth 100000 in
set_option maxHeartbeats 4000000 in
theorem kc_T_noteAborted (t : xo_N) (x1 : Int32) (H : xo_H) (r : xo_H) (hk : fc_T_noteAborted t x1 H = some r) : xo_M mt_T_noteAborted [.inr (some t), .inl x1] H (xo_jv r) :=
  xo_entry hk (by decide +kernel) (Nat.le_of_ble_eq_true rfl) (kb_T_noteAborted t x1 H r)
def fc_T_endAbort (t : xo_N) (x1 : Int32) (H : xo_H) : Option (xo_H) :=
  xo_gf 7 9 H (some t) fun v1 =>
  if v1 = 0 then (some H)
  else (xo_pz 7 9 H (some t) (0 : Int32) fun H2 =>
  xo_cl 7 (some t) (fun n4 => fc_T_noteAborted n4 x1 H2) fun H3 =>
  some H3)

set_option maxRecDepth 100000 in
set_option maxHeartbeats 4000000 in
theorem kb_T_endAbort (t : xo_N) (x1 : Int32) (H : xo_H) (r : xo_H) : xo_X mt_T_endAbort 0 0 xo_jv r 0 [(0, .inr (some t)), (1, .inl x1)] [] H (fc_T_endAbort t x1 H) := by
  unfold fc_T_endAbort
  refine xo_aload_n (pc' := 1) dd_T_endAbort_0 rfl 0 rfl rfl ?_
  refine xo_getI (pc' := 4) dd_T_endAbort_1 ff_T_76 (by decide) rfl fun v1 => ?_
  refine xo_if_eq (pc' := 7) (tgt := 17) dd_T_endAbort_4 rfl rfl ?_ ?_
  · exact xo_vret dd_T_endAbort_17 rfl
  · refine xo_aload_n (pc' := 8) dd_T_endAbort_7 rfl 0 rfl rfl ?_
    refine xo_iconst (pc' := 9) (v := (0 : Int32)) dd_T_endAbort_8 (by decide) rfl ?_
    refine xo_putZ (pc' := 12) dd_T_endAbort_9 ff_T_76 rfl fun H2 => ?_
    refine xo_aload_n (pc' := 13) dd_T_endAbort_12 rfl 0 rfl rfl ?_
    refine xo_iload_n (pc' := 14) dd_T_endAbort_13 rfl 1 rfl rfl ?_
    refine xo_callVv (as := [.inl x1]) (o := (some t)) (st := []) (pc' := 17) dd_T_endAbort_14 cv_T_noteAborted ml_T_102 rfl rfl ⟨by decide, by decide⟩ rfl rfl rfl (Nat.le_of_ble_eq_true rfl) rfl (fun n q h => kc_T_noteAborted n x1 H2 q h) fun H3 => ?_
    exact xo_vret dd_T_endAbort_17 rfl
set_option maxRecDepth 100000 in
set_option maxHeartbeats 4000000 in
theorem kc_T_endAbort (t : xo_N) (x1 : Int32) (H : xo_H) (r : xo_H) (hk : fc_T_endAbort t x1 H = some r) : xo_M mt_T_endAbort [.inr (some t), .inl x1] H (xo_jv r) :=
  xo_entry hk (by decide +kernel) (Nat.le_of_ble_eq_true rfl) (kb_T_endAbort t x1 H r)
def fc_T_wasShut (t : xo_N) (x1 : Int32) (H : xo_H) : Option (xo_H) :=
  if x1 = (-1 : Int32) then (xo_gp 7 2 H (some t) fun o9 =>
  xo_gf 7 0 H (some t) fun v10 =>
  xo_cl 1 o9 (fun n15 => fc_L_note n15 (11 : Int32) v10 (0 : Int32) (0 : Int32) H) fun H11 =>
  xo_cl 7 (some t) (fun n14 => fc_T_endAbort n14 x1 H11) fun H12 =>
  xo_pf 7 4 H12 (some t) (3 : Int32) fun H13 =>
  some H13)
  else (xo_gp 7 2 H (some t) fun o1 =>
  xo_gf 7 0 H (some t) fun v2 =>
  xo_cl 1 o1 (fun n8 => fc_L_note n8 (12 : Int32) v2 x1 (0 : Int32) H) fun H3 =>
  xo_cl 7 (some t) (fun n7 => fc_T_endAbort n7 x1 H3) fun H4 =>
  xo_cl 7 (some t) (fun n6 => fc_T_failOrBreak n6 x1 H4) fun H5 =>
  some H5)

set_option maxRecDepth 100000 in
set_option maxHeartbeats 4000000 in
theorem kb_T_wasShut (t : xo_N) (x1 : Int32) (H : xo_H) (r : xo_H) : xo_X mt_T_wasShut 0 0 xo_jv r 0 [(0, .inr (some t)), (1, .inl x1)] [] H (fc_T_wasShut t x1 H) := by
  unfold fc_T_wasShut
  refine xo_iload_n (pc' := 1) dd_T_wasShut_0 rfl 1 rfl rfl ?_
  refine xo_iconst (pc' := 2) (v := (-1 : Int32)) dd_T_wasShut_1 (by decide) rfl ?_
  refine xo_icmp_ne (pc' := 5) (tgt := 33) dd_T_wasShut_2 rfl rfl ?_ ?_
  · refine xo_aload_n (pc' := 34) dd_T_wasShut_33 rfl 0 rfl rfl ?_
    refine xo_getP (pc' := 37) dd_T_wasShut_34 ff_T_34 (by decide) rfl fun o1 => ?_
    refine xo_bipush (pc' := 39) (v := (12 : Int32)) dd_T_wasShut_37 (by decide) rfl ?_
    refine xo_aload_n (pc' := 40) dd_T_wasShut_39 rfl 0 rfl rfl ?_
    refine xo_getI (pc' := 43) dd_T_wasShut_40 ff_T_27 (by decide) rfl fun v2 => ?_
    refine xo_iload_n (pc' := 44) dd_T_wasShut_43 rfl 1 rfl rfl ?_
    refine xo_iconst (pc' := 45) (v := (0 : Int32)) dd_T_wasShut_44 (by decide) rfl ?_
    refine xo_callVv (as := [.inl (12 : Int32), .inl v2, .inl x1, .inl (0 : Int32)]) (o := o1) (st := []) (pc' := 48) dd_T_wasShut_45 cv_L_note ml_T_55 rfl rfl ⟨by decide, by decide⟩ rfl rfl rfl (Nat.le_of_ble_eq_true rfl) rfl (fun n q h => kc_L_note n (12 : Int32) v2 x1 (0 : Int32) H q h) fun H3 => ?_
    refine xo_aload_n (pc' := 49) dd_T_wasShut_48 rfl 0 rfl rfl ?_
    refine xo_iload_n (pc' := 50) dd_T_wasShut_49 rfl 1 rfl rfl ?_
    refine xo_callVv (as := [.inl x1]) (o := (some t)) (st := []) (pc' := 53) dd_T_wasShut_50 cv_T_endAbort ml_T_99 rfl rfl ⟨by decide, by decide⟩ rfl rfl rfl (Nat.le_of_ble_eq_true rfl) rfl (fun n q h => kc_T_endAbort n x1 H3 q h) fun H4 => ?_
    refine xo_aload_n (pc' := 54) dd_T_wasShut_53 rfl 0 rfl rfl ?_
    refine xo_iload_n (pc' := 55) dd_T_wasShut_54 rfl 1 rfl rfl ?_
    refine xo_callVv (as := [.inl x1]) (o := (some t)) (st := []) (pc' := 58) dd_T_wasShut_55 cv_T_failOrBreak ml_T_96 rfl rfl ⟨by decide, by decide⟩ rfl rfl rfl (Nat.le_of_ble_eq_true rfl) rfl (fun n q h => kc_T_failOrBreak n x1 H4 q h) fun H5 => ?_
    exact xo_vret dd_T_wasShut_58 rfl
  · refine xo_aload_n (pc' := 6) dd_T_wasShut_5 rfl 0 rfl rfl ?_
    refine xo_getP (pc' := 9) dd_T_wasShut_6 ff_T_34 (by decide) rfl fun o9 => ?_
    refine xo_bipush (pc' := 11) (v := (11 : Int32)) dd_T_wasShut_9 (by decide) rfl ?_
    refine xo_aload_n (pc' := 12) dd_T_wasShut_11 rfl 0 rfl rfl ?_
    refine xo_getI (pc' := 15) dd_T_wasShut_12 ff_T_27 (by decide) rfl fun v10 => ?_
    refine xo_iconst (pc' := 16) (v := (0 : Int32)) dd_T_wasShut_15 (by decide) rfl ?_
    refine xo_iconst (pc' := 17) (v := (0 : Int32)) dd_T_wasShut_16 (by decide) rfl ?_
    refine xo_callVv (as := [.inl (11 : Int32), .inl v10, .inl (0 : Int32), .inl (0 : Int32)]) (o := o9) (st := []) (pc' := 20) dd_T_wasShut_17 cv_L_note ml_T_55 rfl rfl ⟨by decide, by decide⟩ rfl rfl rfl (Nat.le_of_ble_eq_true rfl) rfl (fun n q h => kc_L_note n (11 : Int32) v10 (0 : Int32) (0 : Int32) H q h) fun H11 => ?_
    refine xo_aload_n (pc' := 21) dd_T_wasShut_20 rfl 0 rfl rfl ?_
    refine xo_iload_n (pc' := 22) dd_T_wasShut_21 rfl 1 rfl rfl ?_
    refine xo_callVv (as := [.inl x1]) (o := (some t)) (st := []) (pc' := 25) dd_T_wasShut_22 cv_T_endAbort ml_T_99 rfl rfl ⟨by decide, by decide⟩ rfl rfl rfl (Nat.le_of_ble_eq_true rfl) rfl (fun n q h => kc_T_endAbort n x1 H11 q h) fun H12 => ?_
    refine xo_aload_n (pc' := 26) dd_T_wasShut_25 rfl 0 rfl rfl ?_
    refine xo_iconst (pc' := 27) (v := (3 : Int32)) dd_T_wasShut_26 (by decide) rfl ?_
    refine xo_putI (pc' := 30) dd_T_wasShut_27 ff_T_20 rfl fun H13 => ?_
    refine xo_goto (pc' := 58) dd_T_wasShut_30 rfl ?_
    exact xo_vret dd_T_wasShut_58 rfl
set_option maxRecDepth 100000 in
set_option maxHeartbeats 4000000 in
theorem kc_T_wasShut (t : xo_N) (x1 : Int32) (H : xo_H) (r : xo_H) (hk : fc_T_wasShut t x1 H = some r) : xo_M mt_T_wasShut [.inr (some t), .inl x1] H (xo_jv r) :=
  xo_entry hk (by decide +kernel) (Nat.le_of_ble_eq_true rfl) (kb_T_wasShut t x1 H r)
def fc_T_wasAborted (t : xo_N) (x1 : Int32) (H : xo_H) : Option (xo_H) :=
  xo_cl 7 (some t) (fun n4 => fc_T_noteAborted n4 x1 H) fun H1 =>
  xo_cl 7 (some t) (fun n3 => fc_T_loseEnd n3 H1) fun H2 =>
  some H2

set_option maxRecDepth 100000 in
set_option maxHeartbeats 4000000 in
theorem kb_T_wasAborted (t : xo_N) (x1 : Int32) (H : xo_H) (r : xo_H) : xo_X mt_T_wasAborted 0 0 xo_jv r 0 [(0, .inr (some t)), (1, .inl x1)] [] H (fc_T_wasAborted t x1 H) := by
  unfold fc_T_wasAborted
  refine xo_aload_n (pc' := 1) dd_T_wasAborted_0 rfl 0 rfl rfl ?_
  refine xo_iload_n (pc' := 2) dd_T_wasAborted_1 rfl 1 rfl rfl ?_
  refine xo_callVv (as := [.inl x1]) (o := (some t)) (st := []) (pc' := 5) dd_T_wasAborted_2 cv_T_noteAborted ml_T_102 rfl rfl ⟨by decide, by decide⟩ rfl rfl rfl (Nat.le_of_ble_eq_true rfl) rfl (fun n q h => kc_T_noteAborted n x1 H q h) fun H1 => ?_
  refine xo_aload_n (pc' := 6) dd_T_wasAborted_5 rfl 0 rfl rfl ?_
  refine xo_callVv (as := []) (o := (some t)) (st := []) (pc' := 9) dd_T_wasAborted_6 cv_T_loseEnd ml_T_105 rfl rfl ⟨by decide, by decide⟩ rfl rfl rfl (Nat.le_of_ble_eq_true rfl) rfl (fun n q h => kc_T_loseEnd n H1 q h) fun H2 => ?_
  exact xo_vret dd_T_wasAborted_9 rfl
set_option maxRecDepth 100000 in
set_option maxHeartbeats 4000000 in
theorem kc_T_wasAborted (t : xo_N) (x1 : Int32) (H : xo_H) (r : xo_H) (hk : fc_T_wasAborted t x1 H = some r) : xo_M mt_T_wasAborted [.inr (some t), .inl x1] H (xo_jv r) :=
  xo_entry hk (by decide +kernel) (Nat.le_of_ble_eq_true rfl) (kb_T_wasAborted t x1 H r)
end
section
theorem dd_K_init_0 : decode mt_K_init.2.1 0 = .ok (.aload_n 0, 1) := by decide +kernel
theorem dd_K_init_1 : decode mt_K_init.2.1 1 = .ok (.invokespecial 3, 3) := by decide +kernel
theorem dd_K_init_4 : decode mt_K_init.2.1 4 = .ok (.aload_n 0, 1) := by decide +kernel
theorem dd_K_init_5 : decode mt_K_init.2.1 5 = .ok (.new 9, 3) := by decide +kernel
theorem dd_K_init_8 : decode mt_K_init.2.1 8 = .ok (.dup, 1) := by decide +kernel
theorem dd_K_init_9 : decode mt_K_init.2.1 9 = .ok (.invokespecial 11, 3) := by decide +kernel
theorem dd_K_init_12 : decode mt_K_init.2.1 12 = .ok (.putfield 12, 3) := by decide +kernel
theorem dd_K_init_15 : decode mt_K_init.2.1 15 = .ok (.aload_n 0, 1) := by decide +kernel
theorem dd_K_init_16 : decode mt_K_init.2.1 16 = .ok (.new 16, 3) := by decide +kernel
theorem dd_K_init_19 : decode mt_K_init.2.1 19 = .ok (.dup, 1) := by decide +kernel
theorem dd_K_init_20 : decode mt_K_init.2.1 20 = .ok (.invokespecial 18, 3) := by decide +kernel
theorem dd_K_init_23 : decode mt_K_init.2.1 23 = .ok (.putfield 19, 3) := by decide +kernel
theorem dd_K_init_26 : decode mt_K_init.2.1 26 = .ok (.aload_n 0, 1) := by decide +kernel
theorem dd_K_init_27 : decode mt_K_init.2.1 27 = .ok (.bipush 6, 2) := by decide +kernel
theorem dd_K_init_29 : decode mt_K_init.2.1 29 = .ok (.anewarray 23, 3) := by decide +kernel
theorem dd_K_init_32 : decode mt_K_init.2.1 32 = .ok (.putfield 25, 3) := by decide +kernel
theorem dd_K_init_35 : decode mt_K_init.2.1 35 = .ok (.aload_n 0, 1) := by decide +kernel
theorem dd_K_init_36 : decode mt_K_init.2.1 36 = .ok (.iconst 2, 1) := by decide +kernel
theorem dd_K_init_37 : decode mt_K_init.2.1 37 = .ok (.anewarray 29, 3) := by decide +kernel
theorem dd_K_init_40 : decode mt_K_init.2.1 40 = .ok (.putfield 31, 3) := by decide +kernel
theorem dd_K_init_43 : decode mt_K_init.2.1 43 = .ok (.aload_n 0, 1) := by decide +kernel
theorem dd_K_init_44 : decode mt_K_init.2.1 44 = .ok (.iconst 2, 1) := by decide +kernel
theorem dd_K_init_45 : decode mt_K_init.2.1 45 = .ok (.anewarray 35, 3) := by decide +kernel
theorem dd_K_init_48 : decode mt_K_init.2.1 48 = .ok (.putfield 37, 3) := by decide +kernel
theorem dd_K_init_51 : decode mt_K_init.2.1 51 = .ok (.return_, 1) := by decide +kernel
theorem dd_K_isMark_0 : decode mt_K_isMark.2.1 0 = .ok (.iload_n 0, 1) := by decide +kernel
theorem dd_K_isMark_1 : decode mt_K_isMark.2.1 1 = .ok (.ifCond .lt 13, 3) := by decide +kernel
theorem dd_K_isMark_4 : decode mt_K_isMark.2.1 4 = .ok (.iload_n 0, 1) := by decide +kernel
theorem dd_K_isMark_5 : decode mt_K_isMark.2.1 5 = .ok (.bipush 20, 2) := by decide +kernel
theorem dd_K_isMark_7 : decode mt_K_isMark.2.1 7 = .ok (.if_icmp .gt 7, 3) := by decide +kernel
theorem dd_K_isMark_10 : decode mt_K_isMark.2.1 10 = .ok (.iconst 1, 1) := by decide +kernel
theorem dd_K_isMark_11 : decode mt_K_isMark.2.1 11 = .ok (.goto 4, 3) := by decide +kernel
theorem dd_K_isMark_14 : decode mt_K_isMark.2.1 14 = .ok (.iconst 0, 1) := by decide +kernel
theorem dd_K_isMark_15 : decode mt_K_isMark.2.1 15 = .ok (.ireturn, 1) := by decide +kernel
theorem dd_K_addGiver_0 : decode mt_K_addGiver.2.1 0 = .ok (.new 23, 3) := by decide +kernel
theorem dd_K_addGiver_3 : decode mt_K_addGiver.2.1 3 = .ok (.dup, 1) := by decide +kernel
theorem dd_K_addGiver_4 : decode mt_K_addGiver.2.1 4 = .ok (.aload_n 0, 1) := by decide +kernel
theorem dd_K_addGiver_5 : decode mt_K_addGiver.2.1 5 = .ok (.getfield 45, 3) := by decide +kernel
theorem dd_K_addGiver_8 : decode mt_K_addGiver.2.1 8 = .ok (.new 66, 3) := by decide +kernel
theorem dd_K_addGiver_11 : decode mt_K_addGiver.2.1 11 = .ok (.dup, 1) := by decide +kernel
theorem dd_K_addGiver_12 : decode mt_K_addGiver.2.1 12 = .ok (.iload_n 1, 1) := by decide +kernel
theorem dd_K_addGiver_13 : decode mt_K_addGiver.2.1 13 = .ok (.iload_n 2, 1) := by decide +kernel
theorem dd_K_addGiver_14 : decode mt_K_addGiver.2.1 14 = .ok (.invokespecial 68, 3) := by decide +kernel
theorem dd_K_addGiver_17 : decode mt_K_addGiver.2.1 17 = .ok (.aload_n 0, 1) := by decide +kernel
theorem dd_K_addGiver_18 : decode mt_K_addGiver.2.1 18 = .ok (.getfield 12, 3) := by decide +kernel
theorem dd_K_addGiver_21 : decode mt_K_addGiver.2.1 21 = .ok (.invokespecial 244, 3) := by decide +kernel
theorem dd_K_addGiver_24 : decode mt_K_addGiver.2.1 24 = .ok (.astore_n 3, 1) := by decide +kernel
theorem dd_K_addGiver_25 : decode mt_K_addGiver.2.1 25 = .ok (.aload_n 0, 1) := by decide +kernel
theorem dd_K_addGiver_26 : decode mt_K_addGiver.2.1 26 = .ok (.getfield 25, 3) := by decide +kernel
theorem dd_K_addGiver_29 : decode mt_K_addGiver.2.1 29 = .ok (.aload_n 0, 1) := by decide +kernel
theorem dd_K_addGiver_30 : decode mt_K_addGiver.2.1 30 = .ok (.getfield 45, 3) := by decide +kernel
theorem dd_K_addGiver_33 : decode mt_K_addGiver.2.1 33 = .ok (.aload_n 3, 1) := by decide +kernel
theorem dd_K_addGiver_34 : decode mt_K_addGiver.2.1 34 = .ok (.aastore, 1) := by decide +kernel
theorem dd_K_addGiver_35 : decode mt_K_addGiver.2.1 35 = .ok (.aload_n 0, 1) := by decide +kernel
theorem dd_K_addGiver_36 : decode mt_K_addGiver.2.1 36 = .ok (.dup, 1) := by decide +kernel
theorem dd_K_addGiver_37 : decode mt_K_addGiver.2.1 37 = .ok (.getfield 45, 3) := by decide +kernel
theorem dd_K_addGiver_40 : decode mt_K_addGiver.2.1 40 = .ok (.iconst 1, 1) := by decide +kernel
theorem dd_K_addGiver_41 : decode mt_K_addGiver.2.1 41 = .ok (.iadd, 1) := by decide +kernel
theorem dd_K_addGiver_42 : decode mt_K_addGiver.2.1 42 = .ok (.putfield 45, 3) := by decide +kernel
theorem dd_K_addGiver_45 : decode mt_K_addGiver.2.1 45 = .ok (.aload_n 3, 1) := by decide +kernel
theorem dd_K_addGiver_46 : decode mt_K_addGiver.2.1 46 = .ok (.areturn, 1) := by decide +kernel
theorem dd_K_askRoot_0 : decode mt_K_askRoot.2.1 0 = .ok (.aload_n 1, 1) := by decide +kernel
theorem dd_K_askRoot_1 : decode mt_K_askRoot.2.1 1 = .ok (.getfield 281, 3) := by decide +kernel
theorem dd_K_askRoot_4 : decode mt_K_askRoot.2.1 4 = .ok (.astore_n 2, 1) := by decide +kernel
theorem dd_K_askRoot_5 : decode mt_K_askRoot.2.1 5 = .ok (.aload_n 1, 1) := by decide +kernel
theorem dd_K_askRoot_6 : decode mt_K_askRoot.2.1 6 = .ok (.aload_n 2, 1) := by decide +kernel
theorem dd_K_askRoot_7 : decode mt_K_askRoot.2.1 7 = .ok (.getfield 110, 3) := by decide +kernel
theorem dd_K_askRoot_10 : decode mt_K_askRoot.2.1 10 = .ok (.ifCond .ne 7, 3) := by decide +kernel
theorem dd_K_askRoot_13 : decode mt_K_askRoot.2.1 13 = .ok (.iconst 1, 1) := by decide +kernel
theorem dd_K_askRoot_14 : decode mt_K_askRoot.2.1 14 = .ok (.goto 4, 3) := by decide +kernel
theorem dd_K_askRoot_17 : decode mt_K_askRoot.2.1 17 = .ok (.iconst 0, 1) := by decide +kernel
theorem dd_K_askRoot_18 : decode mt_K_askRoot.2.1 18 = .ok (.putfield 273, 3) := by decide +kernel
theorem dd_K_askRoot_21 : decode mt_K_askRoot.2.1 21 = .ok (.aload_n 1, 1) := by decide +kernel
theorem dd_K_askRoot_22 : decode mt_K_askRoot.2.1 22 = .ok (.getfield 273, 3) := by decide +kernel
theorem dd_K_askRoot_25 : decode mt_K_askRoot.2.1 25 = .ok (.ifCond .ne 17, 3) := by decide +kernel
theorem dd_K_askRoot_28 : decode mt_K_askRoot.2.1 28 = .ok (.aload_n 2, 1) := by decide +kernel
theorem dd_K_askRoot_29 : decode mt_K_askRoot.2.1 29 = .ok (.getfield 110, 3) := by decide +kernel
theorem dd_K_askRoot_32 : decode mt_K_askRoot.2.1 32 = .ok (.iconst 2, 1) := by decide +kernel
theorem dd_K_askRoot_33 : decode mt_K_askRoot.2.1 33 = .ok (.if_icmp .ne 7, 3) := by decide +kernel
theorem dd_K_askRoot_36 : decode mt_K_askRoot.2.1 36 = .ok (.iconst 1, 1) := by decide +kernel
theorem dd_K_askRoot_37 : decode mt_K_askRoot.2.1 37 = .ok (.goto 4, 3) := by decide +kernel
theorem dd_K_askRoot_40 : decode mt_K_askRoot.2.1 40 = .ok (.iconst 0, 1) := by decide +kernel
theorem dd_K_askRoot_41 : decode mt_K_askRoot.2.1 41 = .ok (.ireturn, 1) := by decide +kernel
theorem dd_K_askRoot_42 : decode mt_K_askRoot.2.1 42 = .ok (.aload_n 2, 1) := by decide +kernel
theorem dd_K_askRoot_43 : decode mt_K_askRoot.2.1 43 = .ok (.getfield 83, 3) := by decide +kernel
theorem dd_K_askRoot_46 : decode mt_K_askRoot.2.1 46 = .ok (.invokevirtual 87, 3) := by decide +kernel
theorem dd_K_askRoot_49 : decode mt_K_askRoot.2.1 49 = .ok (.ifCond .le 7, 3) := by decide +kernel
theorem dd_K_askRoot_52 : decode mt_K_askRoot.2.1 52 = .ok (.iconst 1, 1) := by decide +kernel
theorem dd_K_askRoot_53 : decode mt_K_askRoot.2.1 53 = .ok (.goto 4, 3) := by decide +kernel
theorem dd_K_askRoot_56 : decode mt_K_askRoot.2.1 56 = .ok (.iconst 0, 1) := by decide +kernel
theorem dd_K_askRoot_57 : decode mt_K_askRoot.2.1 57 = .ok (.istore_n 3, 1) := by decide +kernel
theorem dd_K_askRoot_58 : decode mt_K_askRoot.2.1 58 = .ok (.iconst 0, 1) := by decide +kernel
theorem dd_K_askRoot_59 : decode mt_K_askRoot.2.1 59 = .ok (.istore 4, 2) := by decide +kernel
theorem dd_K_askRoot_61 : decode mt_K_askRoot.2.1 61 = .ok (.iload_n 3, 1) := by decide +kernel
theorem dd_K_askRoot_62 : decode mt_K_askRoot.2.1 62 = .ok (.ifCond .eq 19, 3) := by decide +kernel
theorem dd_K_askRoot_65 : decode mt_K_askRoot.2.1 65 = .ok (.aload_n 2, 1) := by decide +kernel
theorem dd_K_askRoot_66 : decode mt_K_askRoot.2.1 66 = .ok (.getfield 83, 3) := by decide +kernel
theorem dd_K_askRoot_69 : decode mt_K_askRoot.2.1 69 = .ok (.invokevirtual 262, 3) := by decide +kernel
theorem dd_K_askRoot_72 : decode mt_K_askRoot.2.1 72 = .ok (.istore 4, 2) := by decide +kernel
theorem dd_K_askRoot_74 : decode mt_K_askRoot.2.1 74 = .ok (.aload_n 2, 1) := by decide +kernel
theorem dd_K_askRoot_75 : decode mt_K_askRoot.2.1 75 = .ok (.invokevirtual 263, 3) := by decide +kernel
theorem dd_K_askRoot_78 : decode mt_K_askRoot.2.1 78 = .ok (.goto 11, 3) := by decide +kernel
theorem dd_K_askRoot_81 : decode mt_K_askRoot.2.1 81 = .ok (.aload_n 2, 1) := by decide +kernel
theorem dd_K_askRoot_82 : decode mt_K_askRoot.2.1 82 = .ok (.getfield 91, 3) := by decide +kernel
theorem dd_K_askRoot_85 : decode mt_K_askRoot.2.1 85 = .ok (.iconst 0, 1) := by decide +kernel
theorem dd_K_askRoot_86 : decode mt_K_askRoot.2.1 86 = .ok (.invokevirtual 266, 3) := by decide +kernel
theorem dd_K_askRoot_89 : decode mt_K_askRoot.2.1 89 = .ok (.aload_n 2, 1) := by decide +kernel
theorem dd_K_askRoot_90 : decode mt_K_askRoot.2.1 90 = .ok (.invokevirtual 270, 3) := by decide +kernel
theorem dd_K_askRoot_93 : decode mt_K_askRoot.2.1 93 = .ok (.ifCond .eq 17, 3) := by decide +kernel
theorem dd_K_askRoot_96 : decode mt_K_askRoot.2.1 96 = .ok (.aload_n 0, 1) := by decide +kernel
theorem dd_K_askRoot_97 : decode mt_K_askRoot.2.1 97 = .ok (.getfield 12, 3) := by decide +kernel
theorem dd_K_askRoot_100 : decode mt_K_askRoot.2.1 100 = .ok (.iconst 1, 1) := by decide +kernel
theorem dd_K_askRoot_101 : decode mt_K_askRoot.2.1 101 = .ok (.aload_n 2, 1) := by decide +kernel
theorem dd_K_askRoot_102 : decode mt_K_askRoot.2.1 102 = .ok (.getfield 60, 3) := by decide +kernel
theorem dd_K_askRoot_105 : decode mt_K_askRoot.2.1 105 = .ok (.iconst 0, 1) := by decide +kernel
theorem dd_K_askRoot_106 : decode mt_K_askRoot.2.1 106 = .ok (.iconst 0, 1) := by decide +kernel
theorem dd_K_askRoot_107 : decode mt_K_askRoot.2.1 107 = .ok (.invokevirtual 254, 3) := by decide +kernel
theorem dd_K_askRoot_110 : decode mt_K_askRoot.2.1 110 = .ok (.iload_n 3, 1) := by decide +kernel
theorem dd_K_askRoot_111 : decode mt_K_askRoot.2.1 111 = .ok (.ifCond .eq 17, 3) := by decide +kernel
theorem dd_K_askRoot_114 : decode mt_K_askRoot.2.1 114 = .ok (.aload_n 0, 1) := by decide +kernel
theorem dd_K_askRoot_115 : decode mt_K_askRoot.2.1 115 = .ok (.getfield 19, 3) := by decide +kernel
theorem dd_K_askRoot_118 : decode mt_K_askRoot.2.1 118 = .ok (.iconst 2, 1) := by decide +kernel
theorem dd_K_askRoot_119 : decode mt_K_askRoot.2.1 119 = .ok (.aload_n 2, 1) := by decide +kernel
theorem dd_K_askRoot_120 : decode mt_K_askRoot.2.1 120 = .ok (.getfield 60, 3) := by decide +kernel
theorem dd_K_askRoot_123 : decode mt_K_askRoot.2.1 123 = .ok (.iload 4, 2) := by decide +kernel
theorem dd_K_askRoot_125 : decode mt_K_askRoot.2.1 125 = .ok (.invokevirtual 129, 3) := by decide +kernel
theorem dd_K_askRoot_128 : decode mt_K_askRoot.2.1 128 = .ok (.iconst 1, 1) := by decide +kernel
theorem dd_K_askRoot_129 : decode mt_K_askRoot.2.1 129 = .ok (.ireturn, 1) := by decide +kernel
theorem dd_K_endBranches_0 : decode mt_K_endBranches.2.1 0 = .ok (.aload_n 1, 1) := by decide +kernel
theorem dd_K_endBranches_1 : decode mt_K_endBranches.2.1 1 = .ok (.iconst 0, 1) := by decide +kernel
theorem dd_K_endBranches_2 : decode mt_K_endBranches.2.1 2 = .ok (.putfield 273, 3) := by decide +kernel
theorem dd_K_endBranches_5 : decode mt_K_endBranches.2.1 5 = .ok (.aload_n 1, 1) := by decide +kernel
theorem dd_K_endBranches_6 : decode mt_K_endBranches.2.1 6 = .ok (.getfield 285, 3) := by decide +kernel
theorem dd_K_endBranches_9 : decode mt_K_endBranches.2.1 9 = .ok (.astore_n 2, 1) := by decide +kernel
theorem dd_K_endBranches_10 : decode mt_K_endBranches.2.1 10 = .ok (.aload_n 2, 1) := by decide +kernel
theorem dd_K_endBranches_11 : decode mt_K_endBranches.2.1 11 = .ok (.arraylength, 1) := by decide +kernel
theorem dd_K_endBranches_12 : decode mt_K_endBranches.2.1 12 = .ok (.istore_n 3, 1) := by decide +kernel
theorem dd_K_endBranches_13 : decode mt_K_endBranches.2.1 13 = .ok (.iconst 0, 1) := by decide +kernel
theorem dd_K_endBranches_14 : decode mt_K_endBranches.2.1 14 = .ok (.istore 4, 2) := by decide +kernel
theorem dd_K_endBranches_16 : decode mt_K_endBranches.2.1 16 = .ok (.iload 4, 2) := by decide +kernel
theorem dd_K_endBranches_18 : decode mt_K_endBranches.2.1 18 = .ok (.iload_n 3, 1) := by decide +kernel
theorem dd_K_endBranches_19 : decode mt_K_endBranches.2.1 19 = .ok (.if_icmp .ge 51, 3) := by decide +kernel
theorem dd_K_endBranches_22 : decode mt_K_endBranches.2.1 22 = .ok (.aload_n 2, 1) := by decide +kernel
theorem dd_K_endBranches_23 : decode mt_K_endBranches.2.1 23 = .ok (.iload 4, 2) := by decide +kernel
theorem dd_K_endBranches_25 : decode mt_K_endBranches.2.1 25 = .ok (.aaload, 1) := by decide +kernel
theorem dd_K_endBranches_26 : decode mt_K_endBranches.2.1 26 = .ok (.astore 5, 2) := by decide +kernel
theorem dd_K_endBranches_28 : decode mt_K_endBranches.2.1 28 = .ok (.aload 5, 2) := by decide +kernel
theorem dd_K_endBranches_30 : decode mt_K_endBranches.2.1 30 = .ok (.invokevirtual 79, 3) := by decide +kernel
theorem dd_K_endBranches_33 : decode mt_K_endBranches.2.1 33 = .ok (.ifCond .eq 31, 3) := by decide +kernel
theorem dd_K_endBranches_36 : decode mt_K_endBranches.2.1 36 = .ok (.aload 5, 2) := by decide +kernel
theorem dd_K_endBranches_38 : decode mt_K_endBranches.2.1 38 = .ok (.iconst 1, 1) := by decide +kernel
theorem dd_K_endBranches_39 : decode mt_K_endBranches.2.1 39 = .ok (.putfield 103, 3) := by decide +kernel
theorem dd_K_endBranches_42 : decode mt_K_endBranches.2.1 42 = .ok (.aload 5, 2) := by decide +kernel
theorem dd_K_endBranches_44 : decode mt_K_endBranches.2.1 44 = .ok (.getfield 83, 3) := by decide +kernel
theorem dd_K_endBranches_47 : decode mt_K_endBranches.2.1 47 = .ok (.invokevirtual 87, 3) := by decide +kernel
theorem dd_K_endBranches_50 : decode mt_K_endBranches.2.1 50 = .ok (.ifCond .ne 14, 3) := by decide +kernel
theorem dd_K_endBranches_53 : decode mt_K_endBranches.2.1 53 = .ok (.aload 5, 2) := by decide +kernel
theorem dd_K_endBranches_55 : decode mt_K_endBranches.2.1 55 = .ok (.iconst 1, 1) := by decide +kernel
theorem dd_K_endBranches_56 : decode mt_K_endBranches.2.1 56 = .ok (.putfield 110, 3) := by decide +kernel
theorem dd_K_endBranches_59 : decode mt_K_endBranches.2.1 59 = .ok (.aload 5, 2) := by decide +kernel
theorem dd_K_endBranches_61 : decode mt_K_endBranches.2.1 61 = .ok (.invokevirtual 267, 3) := by decide +kernel
theorem dd_K_endBranches_64 : decode mt_K_endBranches.2.1 64 = .ok (.iinc 4 1, 3) := by decide +kernel
theorem dd_K_endBranches_67 : decode mt_K_endBranches.2.1 67 = .ok (.goto (-51), 3) := by decide +kernel
theorem dd_K_endBranches_70 : decode mt_K_endBranches.2.1 70 = .ok (.return_, 1) := by decide +kernel
theorem dd_K_pullIfNeeded_0 : decode mt_K_pullIfNeeded.2.1 0 = .ok (.aload_n 1, 1) := by decide +kernel
theorem dd_K_pullIfNeeded_1 : decode mt_K_pullIfNeeded.2.1 1 = .ok (.invokevirtual 270, 3) := by decide +kernel
theorem dd_K_pullIfNeeded_4 : decode mt_K_pullIfNeeded.2.1 4 = .ok (.ifCond .ne 4, 3) := by decide +kernel
theorem dd_K_pullIfNeeded_7 : decode mt_K_pullIfNeeded.2.1 7 = .ok (.return_, 1) := by decide +kernel
theorem dd_K_pullIfNeeded_8 : decode mt_K_pullIfNeeded.2.1 8 = .ok (.aload_n 1, 1) := by decide +kernel
theorem dd_K_pullIfNeeded_9 : decode mt_K_pullIfNeeded.2.1 9 = .ok (.getfield 191, 3) := by decide +kernel
theorem dd_K_pullIfNeeded_12 : decode mt_K_pullIfNeeded.2.1 12 = .ok (.astore_n 2, 1) := by decide +kernel
theorem dd_K_pullIfNeeded_13 : decode mt_K_pullIfNeeded.2.1 13 = .ok (.aload_n 2, 1) := by decide +kernel
theorem dd_K_pullIfNeeded_14 : decode mt_K_pullIfNeeded.2.1 14 = .ok (.ifnonnull 18, 3) := by decide +kernel
theorem dd_K_pullIfNeeded_17 : decode mt_K_pullIfNeeded.2.1 17 = .ok (.aload_n 0, 1) := by decide +kernel
theorem dd_K_pullIfNeeded_18 : decode mt_K_pullIfNeeded.2.1 18 = .ok (.getfield 12, 3) := by decide +kernel
theorem dd_K_pullIfNeeded_21 : decode mt_K_pullIfNeeded.2.1 21 = .ok (.iconst 1, 1) := by decide +kernel
theorem dd_K_pullIfNeeded_22 : decode mt_K_pullIfNeeded.2.1 22 = .ok (.aload_n 1, 1) := by decide +kernel
theorem dd_K_pullIfNeeded_23 : decode mt_K_pullIfNeeded.2.1 23 = .ok (.getfield 60, 3) := by decide +kernel
theorem dd_K_pullIfNeeded_26 : decode mt_K_pullIfNeeded.2.1 26 = .ok (.iconst 0, 1) := by decide +kernel
theorem dd_K_pullIfNeeded_27 : decode mt_K_pullIfNeeded.2.1 27 = .ok (.iconst 0, 1) := by decide +kernel
theorem dd_K_pullIfNeeded_28 : decode mt_K_pullIfNeeded.2.1 28 = .ok (.invokevirtual 254, 3) := by decide +kernel
theorem dd_K_pullIfNeeded_31 : decode mt_K_pullIfNeeded.2.1 31 = .ok (.return_, 1) := by decide +kernel
theorem dd_K_pullIfNeeded_32 : decode mt_K_pullIfNeeded.2.1 32 = .ok (.aload_n 2, 1) := by decide +kernel
theorem dd_K_pullIfNeeded_33 : decode mt_K_pullIfNeeded.2.1 33 = .ok (.getfield 273, 3) := by decide +kernel
theorem dd_K_pullIfNeeded_36 : decode mt_K_pullIfNeeded.2.1 36 = .ok (.ifCond .eq 11, 3) := by decide +kernel
theorem dd_K_pullIfNeeded_39 : decode mt_K_pullIfNeeded.2.1 39 = .ok (.aload_n 2, 1) := by decide +kernel
theorem dd_K_pullIfNeeded_40 : decode mt_K_pullIfNeeded.2.1 40 = .ok (.iconst 1, 1) := by decide +kernel
theorem dd_K_pullIfNeeded_41 : decode mt_K_pullIfNeeded.2.1 41 = .ok (.putfield 276, 3) := by decide +kernel
theorem dd_K_pullIfNeeded_44 : decode mt_K_pullIfNeeded.2.1 44 = .ok (.goto 16, 3) := by decide +kernel
theorem dd_K_pullIfNeeded_47 : decode mt_K_pullIfNeeded.2.1 47 = .ok (.aload_n 0, 1) := by decide +kernel
theorem dd_K_pullIfNeeded_48 : decode mt_K_pullIfNeeded.2.1 48 = .ok (.aload_n 2, 1) := by decide +kernel
theorem dd_K_pullIfNeeded_49 : decode mt_K_pullIfNeeded.2.1 49 = .ok (.invokevirtual 277, 3) := by decide +kernel
theorem dd_K_pullIfNeeded_52 : decode mt_K_pullIfNeeded.2.1 52 = .ok (.ifCond .ne 8, 3) := by decide +kernel
theorem dd_K_pullIfNeeded_55 : decode mt_K_pullIfNeeded.2.1 55 = .ok (.aload_n 0, 1) := by decide +kernel
theorem dd_K_pullIfNeeded_56 : decode mt_K_pullIfNeeded.2.1 56 = .ok (.aload_n 2, 1) := by decide +kernel
theorem dd_K_pullIfNeeded_57 : decode mt_K_pullIfNeeded.2.1 57 = .ok (.invokevirtual 203, 3) := by decide +kernel
theorem dd_K_pullIfNeeded_60 : decode mt_K_pullIfNeeded.2.1 60 = .ok (.aload_n 0, 1) := by decide +kernel
theorem dd_K_pullIfNeeded_61 : decode mt_K_pullIfNeeded.2.1 61 = .ok (.getfield 19, 3) := by decide +kernel
theorem dd_K_pullIfNeeded_64 : decode mt_K_pullIfNeeded.2.1 64 = .ok (.iconst 1, 1) := by decide +kernel
theorem dd_K_pullIfNeeded_65 : decode mt_K_pullIfNeeded.2.1 65 = .ok (.aload_n 1, 1) := by decide +kernel
theorem dd_K_pullIfNeeded_66 : decode mt_K_pullIfNeeded.2.1 66 = .ok (.getfield 60, 3) := by decide +kernel
theorem dd_K_pullIfNeeded_69 : decode mt_K_pullIfNeeded.2.1 69 = .ok (.iconst (-1), 1) := by decide +kernel
theorem dd_K_pullIfNeeded_70 : decode mt_K_pullIfNeeded.2.1 70 = .ok (.invokevirtual 129, 3) := by decide +kernel
theorem dd_K_pullIfNeeded_73 : decode mt_K_pullIfNeeded.2.1 73 = .ok (.return_, 1) := by decide +kernel
theorem dd_K_pipeAt_0 : decode mt_K_pipeAt.2.1 0 = .ok (.iload_n 1, 1) := by decide +kernel
theorem dd_K_pipeAt_1 : decode mt_K_pipeAt.2.1 1 = .ok (.ifCond .lt 20, 3) := by decide +kernel
theorem dd_K_pipeAt_4 : decode mt_K_pipeAt.2.1 4 = .ok (.iload_n 1, 1) := by decide +kernel
theorem dd_K_pipeAt_5 : decode mt_K_pipeAt.2.1 5 = .ok (.aload_n 0, 1) := by decide +kernel
theorem dd_K_pipeAt_6 : decode mt_K_pipeAt.2.1 6 = .ok (.getfield 180, 3) := by decide +kernel
theorem dd_K_pipeAt_9 : decode mt_K_pipeAt.2.1 9 = .ok (.if_icmp .ge 12, 3) := by decide +kernel
theorem dd_K_pipeAt_12 : decode mt_K_pipeAt.2.1 12 = .ok (.aload_n 0, 1) := by decide +kernel
theorem dd_K_pipeAt_13 : decode mt_K_pipeAt.2.1 13 = .ok (.getfield 37, 3) := by decide +kernel
theorem dd_K_pipeAt_16 : decode mt_K_pipeAt.2.1 16 = .ok (.iload_n 1, 1) := by decide +kernel
theorem dd_K_pipeAt_17 : decode mt_K_pipeAt.2.1 17 = .ok (.aaload, 1) := by decide +kernel
theorem dd_K_pipeAt_18 : decode mt_K_pipeAt.2.1 18 = .ok (.goto 4, 3) := by decide +kernel
theorem dd_K_pipeAt_21 : decode mt_K_pipeAt.2.1 21 = .ok (.aconst_null, 1) := by decide +kernel
theorem dd_K_pipeAt_22 : decode mt_K_pipeAt.2.1 22 = .ok (.areturn, 1) := by decide +kernel
theorem dd_K_awaitPumps_0 : decode mt_K_awaitPumps.2.1 0 = .ok (.iconst 0, 1) := by decide +kernel
theorem dd_K_awaitPumps_1 : decode mt_K_awaitPumps.2.1 1 = .ok (.istore_n 1, 1) := by decide +kernel
theorem dd_K_awaitPumps_2 : decode mt_K_awaitPumps.2.1 2 = .ok (.iload_n 1, 1) := by decide +kernel
theorem dd_K_awaitPumps_3 : decode mt_K_awaitPumps.2.1 3 = .ok (.aload_n 0, 1) := by decide +kernel
theorem dd_K_awaitPumps_4 : decode mt_K_awaitPumps.2.1 4 = .ok (.getfield 180, 3) := by decide +kernel
theorem dd_K_awaitPumps_7 : decode mt_K_awaitPumps.2.1 7 = .ok (.if_icmp .ge 50, 3) := by decide +kernel
theorem dd_K_awaitPumps_10 : decode mt_K_awaitPumps.2.1 10 = .ok (.aload_n 0, 1) := by decide +kernel
theorem dd_K_awaitPumps_11 : decode mt_K_awaitPumps.2.1 11 = .ok (.iload_n 1, 1) := by decide +kernel
theorem dd_K_awaitPumps_12 : decode mt_K_awaitPumps.2.1 12 = .ok (.invokevirtual 300, 3) := by decide +kernel
theorem dd_K_awaitPumps_15 : decode mt_K_awaitPumps.2.1 15 = .ok (.astore_n 2, 1) := by decide +kernel
theorem dd_K_awaitPumps_16 : decode mt_K_awaitPumps.2.1 16 = .ok (.aload_n 2, 1) := by decide +kernel
theorem dd_K_awaitPumps_17 : decode mt_K_awaitPumps.2.1 17 = .ok (.ifnull 34, 3) := by decide +kernel
theorem dd_K_awaitPumps_20 : decode mt_K_awaitPumps.2.1 20 = .ok (.aload_n 2, 1) := by decide +kernel
theorem dd_K_awaitPumps_21 : decode mt_K_awaitPumps.2.1 21 = .ok (.getfield 304, 3) := by decide +kernel
theorem dd_K_awaitPumps_24 : decode mt_K_awaitPumps.2.1 24 = .ok (.ifCond .ne 27, 3) := by decide +kernel
theorem dd_K_awaitPumps_27 : decode mt_K_awaitPumps.2.1 27 = .ok (.aload_n 0, 1) := by decide +kernel
theorem dd_K_awaitPumps_28 : decode mt_K_awaitPumps.2.1 28 = .ok (.getfield 19, 3) := by decide +kernel
theorem dd_K_awaitPumps_31 : decode mt_K_awaitPumps.2.1 31 = .ok (.bipush 6, 2) := by decide +kernel
theorem dd_K_awaitPumps_33 : decode mt_K_awaitPumps.2.1 33 = .ok (.iload_n 1, 1) := by decide +kernel
theorem dd_K_awaitPumps_34 : decode mt_K_awaitPumps.2.1 34 = .ok (.invokevirtual 122, 3) := by decide +kernel
theorem dd_K_awaitPumps_37 : decode mt_K_awaitPumps.2.1 37 = .ok (.ifCond .ne 14, 3) := by decide +kernel
theorem dd_K_awaitPumps_40 : decode mt_K_awaitPumps.2.1 40 = .ok (.aload_n 0, 1) := by decide +kernel
theorem dd_K_awaitPumps_41 : decode mt_K_awaitPumps.2.1 41 = .ok (.getfield 19, 3) := by decide +kernel
theorem dd_K_awaitPumps_44 : decode mt_K_awaitPumps.2.1 44 = .ok (.bipush 6, 2) := by decide +kernel
theorem dd_K_awaitPumps_46 : decode mt_K_awaitPumps.2.1 46 = .ok (.iload_n 1, 1) := by decide +kernel
theorem dd_K_awaitPumps_47 : decode mt_K_awaitPumps.2.1 47 = .ok (.iconst 0, 1) := by decide +kernel
theorem dd_K_awaitPumps_48 : decode mt_K_awaitPumps.2.1 48 = .ok (.invokevirtual 129, 3) := by decide +kernel
theorem dd_K_awaitPumps_51 : decode mt_K_awaitPumps.2.1 51 = .ok (.iinc 1 1, 3) := by decide +kernel
theorem dd_K_awaitPumps_54 : decode mt_K_awaitPumps.2.1 54 = .ok (.goto (-52), 3) := by decide +kernel
theorem dd_K_awaitPumps_57 : decode mt_K_awaitPumps.2.1 57 = .ok (.return_, 1) := by decide +kernel
theorem dd_K_giver_0 : decode mt_K_giver.2.1 0 = .ok (.iload_n 1, 1) := by decide +kernel
theorem dd_K_giver_1 : decode mt_K_giver.2.1 1 = .ok (.invokestatic 41, 3) := by decide +kernel
theorem dd_K_giver_4 : decode mt_K_giver.2.1 4 = .ok (.ifCond .ne 5, 3) := by decide +kernel
theorem dd_K_giver_7 : decode mt_K_giver.2.1 7 = .ok (.iconst (-1), 1) := by decide +kernel
theorem dd_K_giver_8 : decode mt_K_giver.2.1 8 = .ok (.ireturn, 1) := by decide +kernel
theorem dd_K_giver_9 : decode mt_K_giver.2.1 9 = .ok (.aload_n 0, 1) := by decide +kernel
theorem dd_K_giver_10 : decode mt_K_giver.2.1 10 = .ok (.getfield 45, 3) := by decide +kernel
theorem dd_K_giver_13 : decode mt_K_giver.2.1 13 = .ok (.bipush 6, 2) := by decide +kernel
theorem dd_K_giver_15 : decode mt_K_giver.2.1 15 = .ok (.if_icmp .lt 6, 3) := by decide +kernel
theorem dd_K_giver_18 : decode mt_K_giver.2.1 18 = .ok (.bipush (-2), 2) := by decide +kernel
theorem dd_K_giver_20 : decode mt_K_giver.2.1 20 = .ok (.ireturn, 1) := by decide +kernel
theorem dd_K_giver_21 : decode mt_K_giver.2.1 21 = .ok (.aload_n 0, 1) := by decide +kernel
theorem dd_K_giver_22 : decode mt_K_giver.2.1 22 = .ok (.iload_n 1, 1) := by decide +kernel
theorem dd_K_giver_23 : decode mt_K_giver.2.1 23 = .ok (.iload_n 2, 1) := by decide +kernel
theorem dd_K_giver_24 : decode mt_K_giver.2.1 24 = .ok (.invokevirtual 49, 3) := by decide +kernel
theorem dd_K_giver_27 : decode mt_K_giver.2.1 27 = .ok (.astore_n 3, 1) := by decide +kernel
theorem dd_K_giver_28 : decode mt_K_giver.2.1 28 = .ok (.aload_n 0, 1) := by decide +kernel
theorem dd_K_giver_29 : decode mt_K_giver.2.1 29 = .ok (.aload_n 3, 1) := by decide +kernel
theorem dd_K_giver_30 : decode mt_K_giver.2.1 30 = .ok (.invokevirtual 53, 3) := by decide +kernel
theorem dd_K_giver_33 : decode mt_K_giver.2.1 33 = .ok (.aload_n 0, 1) := by decide +kernel
theorem dd_K_giver_34 : decode mt_K_giver.2.1 34 = .ok (.invokevirtual 57, 3) := by decide +kernel
theorem dd_K_giver_37 : decode mt_K_giver.2.1 37 = .ok (.aload_n 3, 1) := by decide +kernel
theorem dd_K_giver_38 : decode mt_K_giver.2.1 38 = .ok (.getfield 60, 3) := by decide +kernel
theorem dd_K_giver_41 : decode mt_K_giver.2.1 41 = .ok (.ireturn, 1) := by decide +kernel
theorem dd_K_taker_0 : decode mt_K_taker.2.1 0 = .ok (.iload_n 1, 1) := by decide +kernel
theorem dd_K_taker_1 : decode mt_K_taker.2.1 1 = .ok (.invokestatic 41, 3) := by decide +kernel
theorem dd_K_taker_4 : decode mt_K_taker.2.1 4 = .ok (.ifCond .ne 5, 3) := by decide +kernel
theorem dd_K_taker_7 : decode mt_K_taker.2.1 7 = .ok (.iconst (-1), 1) := by decide +kernel
theorem dd_K_taker_8 : decode mt_K_taker.2.1 8 = .ok (.ireturn, 1) := by decide +kernel
theorem dd_K_taker_9 : decode mt_K_taker.2.1 9 = .ok (.aload_n 0, 1) := by decide +kernel
theorem dd_K_taker_10 : decode mt_K_taker.2.1 10 = .ok (.getfield 63, 3) := by decide +kernel
theorem dd_K_taker_13 : decode mt_K_taker.2.1 13 = .ok (.iconst 2, 1) := by decide +kernel
theorem dd_K_taker_14 : decode mt_K_taker.2.1 14 = .ok (.if_icmp .lt 6, 3) := by decide +kernel
theorem dd_K_taker_17 : decode mt_K_taker.2.1 17 = .ok (.bipush (-2), 2) := by decide +kernel
theorem dd_K_taker_19 : decode mt_K_taker.2.1 19 = .ok (.ireturn, 1) := by decide +kernel
theorem dd_K_taker_20 : decode mt_K_taker.2.1 20 = .ok (.new 29, 3) := by decide +kernel
theorem dd_K_taker_23 : decode mt_K_taker.2.1 23 = .ok (.dup, 1) := by decide +kernel
theorem dd_K_taker_24 : decode mt_K_taker.2.1 24 = .ok (.aload_n 0, 1) := by decide +kernel
theorem dd_K_taker_25 : decode mt_K_taker.2.1 25 = .ok (.getfield 63, 3) := by decide +kernel
theorem dd_K_taker_28 : decode mt_K_taker.2.1 28 = .ok (.new 66, 3) := by decide +kernel
theorem dd_K_taker_31 : decode mt_K_taker.2.1 31 = .ok (.dup, 1) := by decide +kernel
theorem dd_K_taker_32 : decode mt_K_taker.2.1 32 = .ok (.iload_n 1, 1) := by decide +kernel
theorem dd_K_taker_33 : decode mt_K_taker.2.1 33 = .ok (.iload_n 2, 1) := by decide +kernel
theorem dd_K_taker_34 : decode mt_K_taker.2.1 34 = .ok (.invokespecial 68, 3) := by decide +kernel
theorem dd_K_taker_37 : decode mt_K_taker.2.1 37 = .ok (.aload_n 0, 1) := by decide +kernel
theorem dd_K_taker_38 : decode mt_K_taker.2.1 38 = .ok (.getfield 12, 3) := by decide +kernel
theorem dd_K_taker_41 : decode mt_K_taker.2.1 41 = .ok (.invokespecial 71, 3) := by decide +kernel
theorem dd_K_taker_44 : decode mt_K_taker.2.1 44 = .ok (.astore_n 3, 1) := by decide +kernel
theorem dd_K_taker_45 : decode mt_K_taker.2.1 45 = .ok (.aload_n 0, 1) := by decide +kernel
theorem dd_K_taker_46 : decode mt_K_taker.2.1 46 = .ok (.getfield 31, 3) := by decide +kernel
theorem dd_K_taker_49 : decode mt_K_taker.2.1 49 = .ok (.aload_n 0, 1) := by decide +kernel
theorem dd_K_taker_50 : decode mt_K_taker.2.1 50 = .ok (.getfield 63, 3) := by decide +kernel
theorem dd_K_taker_53 : decode mt_K_taker.2.1 53 = .ok (.aload_n 3, 1) := by decide +kernel
theorem dd_K_taker_54 : decode mt_K_taker.2.1 54 = .ok (.aastore, 1) := by decide +kernel
theorem dd_K_taker_55 : decode mt_K_taker.2.1 55 = .ok (.aload_n 0, 1) := by decide +kernel
theorem dd_K_taker_56 : decode mt_K_taker.2.1 56 = .ok (.dup, 1) := by decide +kernel
theorem dd_K_taker_57 : decode mt_K_taker.2.1 57 = .ok (.getfield 63, 3) := by decide +kernel
theorem dd_K_taker_60 : decode mt_K_taker.2.1 60 = .ok (.iconst 1, 1) := by decide +kernel
theorem dd_K_taker_61 : decode mt_K_taker.2.1 61 = .ok (.iadd, 1) := by decide +kernel
theorem dd_K_taker_62 : decode mt_K_taker.2.1 62 = .ok (.putfield 63, 3) := by decide +kernel
theorem dd_K_taker_65 : decode mt_K_taker.2.1 65 = .ok (.aload_n 0, 1) := by decide +kernel
theorem dd_K_taker_66 : decode mt_K_taker.2.1 66 = .ok (.invokevirtual 57, 3) := by decide +kernel
theorem dd_K_taker_69 : decode mt_K_taker.2.1 69 = .ok (.aload_n 3, 1) := by decide +kernel
theorem dd_K_taker_70 : decode mt_K_taker.2.1 70 = .ok (.getfield 74, 3) := by decide +kernel
theorem dd_K_taker_73 : decode mt_K_taker.2.1 73 = .ok (.ireturn, 1) := by decide +kernel
theorem dd_K_giverAt_0 : decode mt_K_giverAt.2.1 0 = .ok (.iload_n 1, 1) := by decide +kernel
theorem dd_K_giverAt_1 : decode mt_K_giverAt.2.1 1 = .ok (.ifCond .lt 20, 3) := by decide +kernel
theorem dd_K_giverAt_4 : decode mt_K_giverAt.2.1 4 = .ok (.iload_n 1, 1) := by decide +kernel
theorem dd_K_giverAt_5 : decode mt_K_giverAt.2.1 5 = .ok (.aload_n 0, 1) := by decide +kernel
theorem dd_K_giverAt_6 : decode mt_K_giverAt.2.1 6 = .ok (.getfield 45, 3) := by decide +kernel
theorem dd_K_giverAt_9 : decode mt_K_giverAt.2.1 9 = .ok (.if_icmp .ge 12, 3) := by decide +kernel
theorem dd_K_giverAt_12 : decode mt_K_giverAt.2.1 12 = .ok (.aload_n 0, 1) := by decide +kernel
theorem dd_K_giverAt_13 : decode mt_K_giverAt.2.1 13 = .ok (.getfield 25, 3) := by decide +kernel
theorem dd_K_giverAt_16 : decode mt_K_giverAt.2.1 16 = .ok (.iload_n 1, 1) := by decide +kernel
theorem dd_K_giverAt_17 : decode mt_K_giverAt.2.1 17 = .ok (.aaload, 1) := by decide +kernel
theorem dd_K_giverAt_18 : decode mt_K_giverAt.2.1 18 = .ok (.goto 4, 3) := by decide +kernel
theorem dd_K_giverAt_21 : decode mt_K_giverAt.2.1 21 = .ok (.aconst_null, 1) := by decide +kernel
theorem dd_K_giverAt_22 : decode mt_K_giverAt.2.1 22 = .ok (.areturn, 1) := by decide +kernel
theorem dd_K_rootAt_0 : decode mt_K_rootAt.2.1 0 = .ok (.aload_n 0, 1) := by decide +kernel
theorem dd_K_rootAt_1 : decode mt_K_rootAt.2.1 1 = .ok (.iload_n 1, 1) := by decide +kernel
theorem dd_K_rootAt_2 : decode mt_K_rootAt.2.1 2 = .ok (.invokevirtual 133, 3) := by decide +kernel
theorem dd_K_rootAt_5 : decode mt_K_rootAt.2.1 5 = .ok (.astore_n 2, 1) := by decide +kernel
theorem dd_K_rootAt_6 : decode mt_K_rootAt.2.1 6 = .ok (.aload_n 2, 1) := by decide +kernel
theorem dd_K_rootAt_7 : decode mt_K_rootAt.2.1 7 = .ok (.ifnull 14, 3) := by decide +kernel
theorem dd_K_rootAt_10 : decode mt_K_rootAt.2.1 10 = .ok (.aload_n 2, 1) := by decide +kernel
theorem dd_K_rootAt_11 : decode mt_K_rootAt.2.1 11 = .ok (.getfield 191, 3) := by decide +kernel
theorem dd_K_rootAt_14 : decode mt_K_rootAt.2.1 14 = .ok (.ifnonnull 7, 3) := by decide +kernel
theorem dd_K_rootAt_17 : decode mt_K_rootAt.2.1 17 = .ok (.aload_n 2, 1) := by decide +kernel
theorem dd_K_rootAt_18 : decode mt_K_rootAt.2.1 18 = .ok (.goto 4, 3) := by decide +kernel
theorem dd_K_rootAt_21 : decode mt_K_rootAt.2.1 21 = .ok (.aconst_null, 1) := by decide +kernel
theorem dd_K_rootAt_22 : decode mt_K_rootAt.2.1 22 = .ok (.areturn, 1) := by decide +kernel
theorem dd_K_answerChunk_0 : decode mt_K_answerChunk.2.1 0 = .ok (.iload_n 2, 1) := by decide +kernel
theorem dd_K_answerChunk_1 : decode mt_K_answerChunk.2.1 1 = .ok (.ifCond .eq 21, 3) := by decide +kernel
theorem dd_K_answerChunk_4 : decode mt_K_answerChunk.2.1 4 = .ok (.aload_n 0, 1) := by decide +kernel
theorem dd_K_answerChunk_5 : decode mt_K_answerChunk.2.1 5 = .ok (.getfield 12, 3) := by decide +kernel
theorem dd_K_answerChunk_8 : decode mt_K_answerChunk.2.1 8 = .ok (.bipush 6, 2) := by decide +kernel
theorem dd_K_answerChunk_10 : decode mt_K_answerChunk.2.1 10 = .ok (.aload_n 1, 1) := by decide +kernel
theorem dd_K_answerChunk_11 : decode mt_K_answerChunk.2.1 11 = .ok (.getfield 60, 3) := by decide +kernel
theorem dd_K_answerChunk_14 : decode mt_K_answerChunk.2.1 14 = .ok (.iload_n 2, 1) := by decide +kernel
theorem dd_K_answerChunk_15 : decode mt_K_answerChunk.2.1 15 = .ok (.iload_n 3, 1) := by decide +kernel
theorem dd_K_answerChunk_16 : decode mt_K_answerChunk.2.1 16 = .ok (.invokevirtual 254, 3) := by decide +kernel
theorem dd_K_answerChunk_19 : decode mt_K_answerChunk.2.1 19 = .ok (.goto 45, 3) := by decide +kernel
theorem dd_K_answerChunk_22 : decode mt_K_answerChunk.2.1 22 = .ok (.aload_n 1, 1) := by decide +kernel
theorem dd_K_answerChunk_23 : decode mt_K_answerChunk.2.1 23 = .ok (.getfield 200, 3) := by decide +kernel
theorem dd_K_answerChunk_26 : decode mt_K_answerChunk.2.1 26 = .ok (.ifnull 19, 3) := by decide +kernel
theorem dd_K_answerChunk_29 : decode mt_K_answerChunk.2.1 29 = .ok (.aload_n 0, 1) := by decide +kernel
theorem dd_K_answerChunk_30 : decode mt_K_answerChunk.2.1 30 = .ok (.getfield 19, 3) := by decide +kernel
theorem dd_K_answerChunk_33 : decode mt_K_answerChunk.2.1 33 = .ok (.iconst 2, 1) := by decide +kernel
theorem dd_K_answerChunk_34 : decode mt_K_answerChunk.2.1 34 = .ok (.aload_n 1, 1) := by decide +kernel
theorem dd_K_answerChunk_35 : decode mt_K_answerChunk.2.1 35 = .ok (.getfield 60, 3) := by decide +kernel
theorem dd_K_answerChunk_38 : decode mt_K_answerChunk.2.1 38 = .ok (.iload_n 3, 1) := by decide +kernel
theorem dd_K_answerChunk_39 : decode mt_K_answerChunk.2.1 39 = .ok (.invokevirtual 129, 3) := by decide +kernel
theorem dd_K_answerChunk_42 : decode mt_K_answerChunk.2.1 42 = .ok (.goto 22, 3) := by decide +kernel
theorem dd_K_answerChunk_45 : decode mt_K_answerChunk.2.1 45 = .ok (.aload_n 1, 1) := by decide +kernel
theorem dd_K_answerChunk_46 : decode mt_K_answerChunk.2.1 46 = .ok (.getfield 186, 3) := by decide +kernel
theorem dd_K_answerChunk_49 : decode mt_K_answerChunk.2.1 49 = .ok (.ifnull 15, 3) := by decide +kernel
theorem dd_K_answerChunk_52 : decode mt_K_answerChunk.2.1 52 = .ok (.aload_n 1, 1) := by decide +kernel
theorem dd_K_answerChunk_53 : decode mt_K_answerChunk.2.1 53 = .ok (.getfield 186, 3) := by decide +kernel
theorem dd_K_answerChunk_56 : decode mt_K_answerChunk.2.1 56 = .ok (.getfield 258, 3) := by decide +kernel
theorem dd_K_answerChunk_59 : decode mt_K_answerChunk.2.1 59 = .ok (.iload_n 3, 1) := by decide +kernel
theorem dd_K_answerChunk_60 : decode mt_K_answerChunk.2.1 60 = .ok (.invokevirtual 156, 3) := by decide +kernel
theorem dd_K_answerChunk_63 : decode mt_K_answerChunk.2.1 63 = .ok (.pop, 1) := by decide +kernel
theorem dd_K_answerChunk_64 : decode mt_K_answerChunk.2.1 64 = .ok (.return_, 1) := by decide +kernel
theorem dd_K_takeIn_0 : decode mt_K_takeIn.2.1 0 = .ok (.aload_n 1, 1) := by decide +kernel
theorem dd_K_takeIn_1 : decode mt_K_takeIn.2.1 1 = .ok (.getfield 91, 3) := by decide +kernel
theorem dd_K_takeIn_4 : decode mt_K_takeIn.2.1 4 = .ok (.getfield 95, 3) := by decide +kernel
theorem dd_K_takeIn_7 : decode mt_K_takeIn.2.1 7 = .ok (.ifCond .le 19, 3) := by decide +kernel
theorem dd_K_takeIn_10 : decode mt_K_takeIn.2.1 10 = .ok (.aload_n 0, 1) := by decide +kernel
theorem dd_K_takeIn_11 : decode mt_K_takeIn.2.1 11 = .ok (.aload_n 1, 1) := by decide +kernel
theorem dd_K_takeIn_12 : decode mt_K_takeIn.2.1 12 = .ok (.aload_n 1, 1) := by decide +kernel
theorem dd_K_takeIn_13 : decode mt_K_takeIn.2.1 13 = .ok (.getfield 91, 3) := by decide +kernel
theorem dd_K_takeIn_16 : decode mt_K_takeIn.2.1 16 = .ok (.invokevirtual 245, 3) := by decide +kernel
theorem dd_K_takeIn_19 : decode mt_K_takeIn.2.1 19 = .ok (.iload_n 2, 1) := by decide +kernel
theorem dd_K_takeIn_20 : decode mt_K_takeIn.2.1 20 = .ok (.invokevirtual 248, 3) := by decide +kernel
theorem dd_K_takeIn_23 : decode mt_K_takeIn.2.1 23 = .ok (.goto 11, 3) := by decide +kernel
theorem dd_K_takeIn_26 : decode mt_K_takeIn.2.1 26 = .ok (.aload_n 1, 1) := by decide +kernel
theorem dd_K_takeIn_27 : decode mt_K_takeIn.2.1 27 = .ok (.getfield 83, 3) := by decide +kernel
theorem dd_K_takeIn_30 : decode mt_K_takeIn.2.1 30 = .ok (.iload_n 2, 1) := by decide +kernel
theorem dd_K_takeIn_31 : decode mt_K_takeIn.2.1 31 = .ok (.invokevirtual 252, 3) := by decide +kernel
theorem dd_K_takeIn_34 : decode mt_K_takeIn.2.1 34 = .ok (.aload_n 0, 1) := by decide +kernel
theorem dd_K_takeIn_35 : decode mt_K_takeIn.2.1 35 = .ok (.aload_n 1, 1) := by decide +kernel
theorem dd_K_takeIn_36 : decode mt_K_takeIn.2.1 36 = .ok (.invokevirtual 53, 3) := by decide +kernel
theorem dd_K_takeIn_39 : decode mt_K_takeIn.2.1 39 = .ok (.return_, 1) := by decide +kernel
theorem dd_K_put_0 : decode mt_K_put.2.1 0 = .ok (.aload_n 0, 1) := by decide +kernel
theorem dd_K_put_1 : decode mt_K_put.2.1 1 = .ok (.iload_n 1, 1) := by decide +kernel
theorem dd_K_put_2 : decode mt_K_put.2.1 2 = .ok (.invokevirtual 75, 3) := by decide +kernel
theorem dd_K_put_5 : decode mt_K_put.2.1 5 = .ok (.astore_n 3, 1) := by decide +kernel
theorem dd_K_put_6 : decode mt_K_put.2.1 6 = .ok (.aload_n 3, 1) := by decide +kernel
theorem dd_K_put_7 : decode mt_K_put.2.1 7 = .ok (.ifnull 10, 3) := by decide +kernel
theorem dd_K_put_10 : decode mt_K_put.2.1 10 = .ok (.aload_n 3, 1) := by decide +kernel
theorem dd_K_put_11 : decode mt_K_put.2.1 11 = .ok (.invokevirtual 79, 3) := by decide +kernel
theorem dd_K_put_14 : decode mt_K_put.2.1 14 = .ok (.ifCond .ne 5, 3) := by decide +kernel
theorem dd_K_put_17 : decode mt_K_put.2.1 17 = .ok (.iconst 0, 1) := by decide +kernel
theorem dd_K_put_18 : decode mt_K_put.2.1 18 = .ok (.ireturn, 1) := by decide +kernel
theorem dd_K_put_19 : decode mt_K_put.2.1 19 = .ok (.aload_n 3, 1) := by decide +kernel
theorem dd_K_put_20 : decode mt_K_put.2.1 20 = .ok (.getfield 83, 3) := by decide +kernel
theorem dd_K_put_23 : decode mt_K_put.2.1 23 = .ok (.invokevirtual 87, 3) := by decide +kernel
theorem dd_K_put_26 : decode mt_K_put.2.1 26 = .ok (.bipush 16, 2) := by decide +kernel
theorem dd_K_put_28 : decode mt_K_put.2.1 28 = .ok (.if_icmp .lt 15, 3) := by decide +kernel
theorem dd_K_put_31 : decode mt_K_put.2.1 31 = .ok (.aload_n 3, 1) := by decide +kernel
theorem dd_K_put_32 : decode mt_K_put.2.1 32 = .ok (.getfield 91, 3) := by decide +kernel
theorem dd_K_put_35 : decode mt_K_put.2.1 35 = .ok (.getfield 95, 3) := by decide +kernel
theorem dd_K_put_38 : decode mt_K_put.2.1 38 = .ok (.ifCond .ne 5, 3) := by decide +kernel
theorem dd_K_put_41 : decode mt_K_put.2.1 41 = .ok (.iconst 0, 1) := by decide +kernel
theorem dd_K_put_42 : decode mt_K_put.2.1 42 = .ok (.ireturn, 1) := by decide +kernel
theorem dd_K_put_43 : decode mt_K_put.2.1 43 = .ok (.aload_n 0, 1) := by decide +kernel
theorem dd_K_put_44 : decode mt_K_put.2.1 44 = .ok (.aload_n 3, 1) := by decide +kernel
theorem dd_K_put_45 : decode mt_K_put.2.1 45 = .ok (.iload_n 2, 1) := by decide +kernel
theorem dd_K_put_46 : decode mt_K_put.2.1 46 = .ok (.invokevirtual 99, 3) := by decide +kernel
theorem dd_K_put_49 : decode mt_K_put.2.1 49 = .ok (.aload_n 0, 1) := by decide +kernel
theorem dd_K_put_50 : decode mt_K_put.2.1 50 = .ok (.invokevirtual 57, 3) := by decide +kernel
theorem dd_K_put_53 : decode mt_K_put.2.1 53 = .ok (.iconst 1, 1) := by decide +kernel
theorem dd_K_put_54 : decode mt_K_put.2.1 54 = .ok (.ireturn, 1) := by decide +kernel
theorem dd_K_closeGiver_0 : decode mt_K_closeGiver.2.1 0 = .ok (.aload_n 1, 1) := by decide +kernel
theorem dd_K_closeGiver_1 : decode mt_K_closeGiver.2.1 1 = .ok (.getfield 200, 3) := by decide +kernel
theorem dd_K_closeGiver_4 : decode mt_K_closeGiver.2.1 4 = .ok (.ifnull 17, 3) := by decide +kernel
theorem dd_K_closeGiver_7 : decode mt_K_closeGiver.2.1 7 = .ok (.aload_n 1, 1) := by decide +kernel
theorem dd_K_closeGiver_8 : decode mt_K_closeGiver.2.1 8 = .ok (.getfield 91, 3) := by decide +kernel
theorem dd_K_closeGiver_11 : decode mt_K_closeGiver.2.1 11 = .ok (.getfield 95, 3) := by decide +kernel
theorem dd_K_closeGiver_14 : decode mt_K_closeGiver.2.1 14 = .ok (.ifCond .le 7, 3) := by decide +kernel
theorem dd_K_closeGiver_17 : decode mt_K_closeGiver.2.1 17 = .ok (.iconst 1, 1) := by decide +kernel
theorem dd_K_closeGiver_18 : decode mt_K_closeGiver.2.1 18 = .ok (.goto 4, 3) := by decide +kernel
theorem dd_K_closeGiver_21 : decode mt_K_closeGiver.2.1 21 = .ok (.iconst 0, 1) := by decide +kernel
theorem dd_K_closeGiver_22 : decode mt_K_closeGiver.2.1 22 = .ok (.istore_n 2, 1) := by decide +kernel
theorem dd_K_closeGiver_23 : decode mt_K_closeGiver.2.1 23 = .ok (.aload_n 1, 1) := by decide +kernel
theorem dd_K_closeGiver_24 : decode mt_K_closeGiver.2.1 24 = .ok (.iconst 1, 1) := by decide +kernel
theorem dd_K_closeGiver_25 : decode mt_K_closeGiver.2.1 25 = .ok (.putfield 110, 3) := by decide +kernel
theorem dd_K_closeGiver_28 : decode mt_K_closeGiver.2.1 28 = .ok (.aload_n 1, 1) := by decide +kernel
theorem dd_K_closeGiver_29 : decode mt_K_closeGiver.2.1 29 = .ok (.invokevirtual 267, 3) := by decide +kernel
theorem dd_K_closeGiver_32 : decode mt_K_closeGiver.2.1 32 = .ok (.iload_n 2, 1) := by decide +kernel
theorem dd_K_closeGiver_33 : decode mt_K_closeGiver.2.1 33 = .ok (.ifCond .eq 11, 3) := by decide +kernel
theorem dd_K_closeGiver_36 : decode mt_K_closeGiver.2.1 36 = .ok (.aload_n 0, 1) := by decide +kernel
theorem dd_K_closeGiver_37 : decode mt_K_closeGiver.2.1 37 = .ok (.aload_n 1, 1) := by decide +kernel
theorem dd_K_closeGiver_38 : decode mt_K_closeGiver.2.1 38 = .ok (.getfield 200, 3) := by decide +kernel
theorem dd_K_closeGiver_41 : decode mt_K_closeGiver.2.1 41 = .ok (.invokevirtual 203, 3) := by decide +kernel
theorem dd_K_closeGiver_44 : decode mt_K_closeGiver.2.1 44 = .ok (.return_, 1) := by decide +kernel
theorem dd_K_end_0 : decode mt_K_end.2.1 0 = .ok (.aload_n 0, 1) := by decide +kernel
theorem dd_K_end_1 : decode mt_K_end.2.1 1 = .ok (.iload_n 1, 1) := by decide +kernel
theorem dd_K_end_2 : decode mt_K_end.2.1 2 = .ok (.invokevirtual 75, 3) := by decide +kernel
theorem dd_K_end_5 : decode mt_K_end.2.1 5 = .ok (.astore_n 2, 1) := by decide +kernel
theorem dd_K_end_6 : decode mt_K_end.2.1 6 = .ok (.aload_n 2, 1) := by decide +kernel
theorem dd_K_end_7 : decode mt_K_end.2.1 7 = .ok (.ifnull 10, 3) := by decide +kernel
theorem dd_K_end_10 : decode mt_K_end.2.1 10 = .ok (.aload_n 2, 1) := by decide +kernel
theorem dd_K_end_11 : decode mt_K_end.2.1 11 = .ok (.invokevirtual 79, 3) := by decide +kernel
theorem dd_K_end_14 : decode mt_K_end.2.1 14 = .ok (.ifCond .ne 5, 3) := by decide +kernel
theorem dd_K_end_17 : decode mt_K_end.2.1 17 = .ok (.iconst 0, 1) := by decide +kernel
theorem dd_K_end_18 : decode mt_K_end.2.1 18 = .ok (.ireturn, 1) := by decide +kernel
theorem dd_K_end_19 : decode mt_K_end.2.1 19 = .ok (.aload_n 2, 1) := by decide +kernel
theorem dd_K_end_20 : decode mt_K_end.2.1 20 = .ok (.iconst 1, 1) := by decide +kernel
theorem dd_K_end_21 : decode mt_K_end.2.1 21 = .ok (.putfield 103, 3) := by decide +kernel
theorem dd_K_end_24 : decode mt_K_end.2.1 24 = .ok (.aload_n 2, 1) := by decide +kernel
theorem dd_K_end_25 : decode mt_K_end.2.1 25 = .ok (.getfield 83, 3) := by decide +kernel
theorem dd_K_end_28 : decode mt_K_end.2.1 28 = .ok (.invokevirtual 87, 3) := by decide +kernel
theorem dd_K_end_31 : decode mt_K_end.2.1 31 = .ok (.ifCond .ne 8, 3) := by decide +kernel
theorem dd_K_end_34 : decode mt_K_end.2.1 34 = .ok (.aload_n 0, 1) := by decide +kernel
theorem dd_K_end_35 : decode mt_K_end.2.1 35 = .ok (.aload_n 2, 1) := by decide +kernel
theorem dd_K_end_36 : decode mt_K_end.2.1 36 = .ok (.invokevirtual 107, 3) := by decide +kernel
theorem dd_K_end_39 : decode mt_K_end.2.1 39 = .ok (.aload_n 0, 1) := by decide +kernel
theorem dd_K_end_40 : decode mt_K_end.2.1 40 = .ok (.invokevirtual 57, 3) := by decide +kernel
theorem dd_K_end_43 : decode mt_K_end.2.1 43 = .ok (.iconst 1, 1) := by decide +kernel
theorem dd_K_end_44 : decode mt_K_end.2.1 44 = .ok (.ireturn, 1) := by decide +kernel
theorem dd_K_isError_0 : decode mt_K_isError.2.1 0 = .ok (.iload_n 0, 1) := by decide +kernel
theorem dd_K_isError_1 : decode mt_K_isError.2.1 1 = .ok (.ifCond .lt 13, 3) := by decide +kernel
theorem dd_K_isError_4 : decode mt_K_isError.2.1 4 = .ok (.iload_n 0, 1) := by decide +kernel
theorem dd_K_isError_5 : decode mt_K_isError.2.1 5 = .ok (.bipush 99, 2) := by decide +kernel
theorem dd_K_isError_7 : decode mt_K_isError.2.1 7 = .ok (.if_icmp .gt 7, 3) := by decide +kernel
theorem dd_K_isError_10 : decode mt_K_isError.2.1 10 = .ok (.iconst 1, 1) := by decide +kernel
theorem dd_K_isError_11 : decode mt_K_isError.2.1 11 = .ok (.goto 4, 3) := by decide +kernel
theorem dd_K_isError_14 : decode mt_K_isError.2.1 14 = .ok (.iconst 0, 1) := by decide +kernel
theorem dd_K_isError_15 : decode mt_K_isError.2.1 15 = .ok (.ireturn, 1) := by decide +kernel
theorem dd_K_failBranches_0 : decode mt_K_failBranches.2.1 0 = .ok (.aload_n 1, 1) := by decide +kernel
theorem dd_K_failBranches_1 : decode mt_K_failBranches.2.1 1 = .ok (.getfield 285, 3) := by decide +kernel
theorem dd_K_failBranches_4 : decode mt_K_failBranches.2.1 4 = .ok (.astore_n 3, 1) := by decide +kernel
theorem dd_K_failBranches_5 : decode mt_K_failBranches.2.1 5 = .ok (.aload_n 3, 1) := by decide +kernel
theorem dd_K_failBranches_6 : decode mt_K_failBranches.2.1 6 = .ok (.arraylength, 1) := by decide +kernel
theorem dd_K_failBranches_7 : decode mt_K_failBranches.2.1 7 = .ok (.istore 4, 2) := by decide +kernel
theorem dd_K_failBranches_9 : decode mt_K_failBranches.2.1 9 = .ok (.iconst 0, 1) := by decide +kernel
theorem dd_K_failBranches_10 : decode mt_K_failBranches.2.1 10 = .ok (.istore 5, 2) := by decide +kernel
theorem dd_K_failBranches_12 : decode mt_K_failBranches.2.1 12 = .ok (.iload 5, 2) := by decide +kernel
theorem dd_K_failBranches_14 : decode mt_K_failBranches.2.1 14 = .ok (.iload 4, 2) := by decide +kernel
theorem dd_K_failBranches_16 : decode mt_K_failBranches.2.1 16 = .ok (.if_icmp .ge 21, 3) := by decide +kernel
theorem dd_K_failBranches_19 : decode mt_K_failBranches.2.1 19 = .ok (.aload_n 3, 1) := by decide +kernel
theorem dd_K_failBranches_20 : decode mt_K_failBranches.2.1 20 = .ok (.iload 5, 2) := by decide +kernel
theorem dd_K_failBranches_22 : decode mt_K_failBranches.2.1 22 = .ok (.aaload, 1) := by decide +kernel
theorem dd_K_failBranches_23 : decode mt_K_failBranches.2.1 23 = .ok (.astore 6, 2) := by decide +kernel
theorem dd_K_failBranches_25 : decode mt_K_failBranches.2.1 25 = .ok (.aload 6, 2) := by decide +kernel
theorem dd_K_failBranches_27 : decode mt_K_failBranches.2.1 27 = .ok (.iload_n 2, 1) := by decide +kernel
theorem dd_K_failBranches_28 : decode mt_K_failBranches.2.1 28 = .ok (.invokevirtual 288, 3) := by decide +kernel
theorem dd_K_failBranches_31 : decode mt_K_failBranches.2.1 31 = .ok (.iinc 5 1, 3) := by decide +kernel
theorem dd_K_failBranches_34 : decode mt_K_failBranches.2.1 34 = .ok (.goto (-22), 3) := by decide +kernel
theorem dd_K_failBranches_37 : decode mt_K_failBranches.2.1 37 = .ok (.return_, 1) := by decide +kernel
theorem dd_K_failGiver_0 : decode mt_K_failGiver.2.1 0 = .ok (.aload_n 1, 1) := by decide +kernel
theorem dd_K_failGiver_1 : decode mt_K_failGiver.2.1 1 = .ok (.getfield 110, 3) := by decide +kernel
theorem dd_K_failGiver_4 : decode mt_K_failGiver.2.1 4 = .ok (.ifCond .eq 4, 3) := by decide +kernel
theorem dd_K_failGiver_7 : decode mt_K_failGiver.2.1 7 = .ok (.return_, 1) := by decide +kernel
theorem dd_K_failGiver_8 : decode mt_K_failGiver.2.1 8 = .ok (.aload_n 1, 1) := by decide +kernel
theorem dd_K_failGiver_9 : decode mt_K_failGiver.2.1 9 = .ok (.getfield 200, 3) := by decide +kernel
theorem dd_K_failGiver_12 : decode mt_K_failGiver.2.1 12 = .ok (.astore_n 3, 1) := by decide +kernel
theorem dd_K_failGiver_13 : decode mt_K_failGiver.2.1 13 = .ok (.aload_n 3, 1) := by decide +kernel
theorem dd_K_failGiver_14 : decode mt_K_failGiver.2.1 14 = .ok (.ifnull 18, 3) := by decide +kernel
theorem dd_K_failGiver_17 : decode mt_K_failGiver.2.1 17 = .ok (.aload_n 1, 1) := by decide +kernel
theorem dd_K_failGiver_18 : decode mt_K_failGiver.2.1 18 = .ok (.getfield 91, 3) := by decide +kernel
theorem dd_K_failGiver_21 : decode mt_K_failGiver.2.1 21 = .ok (.getfield 95, 3) := by decide +kernel
theorem dd_K_failGiver_24 : decode mt_K_failGiver.2.1 24 = .ok (.ifCond .le 8, 3) := by decide +kernel
theorem dd_K_failGiver_27 : decode mt_K_failGiver.2.1 27 = .ok (.aload_n 3, 1) := by decide +kernel
theorem dd_K_failGiver_28 : decode mt_K_failGiver.2.1 28 = .ok (.iconst 0, 1) := by decide +kernel
theorem dd_K_failGiver_29 : decode mt_K_failGiver.2.1 29 = .ok (.putfield 273, 3) := by decide +kernel
theorem dd_K_failGiver_32 : decode mt_K_failGiver.2.1 32 = .ok (.aload_n 1, 1) := by decide +kernel
theorem dd_K_failGiver_33 : decode mt_K_failGiver.2.1 33 = .ok (.iload_n 2, 1) := by decide +kernel
theorem dd_K_failGiver_34 : decode mt_K_failGiver.2.1 34 = .ok (.invokevirtual 288, 3) := by decide +kernel
theorem dd_K_failGiver_37 : decode mt_K_failGiver.2.1 37 = .ok (.aload_n 3, 1) := by decide +kernel
theorem dd_K_failGiver_38 : decode mt_K_failGiver.2.1 38 = .ok (.ifnull 9, 3) := by decide +kernel
theorem dd_K_failGiver_41 : decode mt_K_failGiver.2.1 41 = .ok (.aload_n 0, 1) := by decide +kernel
theorem dd_K_failGiver_42 : decode mt_K_failGiver.2.1 42 = .ok (.aload_n 3, 1) := by decide +kernel
theorem dd_K_failGiver_43 : decode mt_K_failGiver.2.1 43 = .ok (.iload_n 2, 1) := by decide +kernel
theorem dd_K_failGiver_44 : decode mt_K_failGiver.2.1 44 = .ok (.invokevirtual 210, 3) := by decide +kernel
theorem dd_K_failGiver_47 : decode mt_K_failGiver.2.1 47 = .ok (.return_, 1) := by decide +kernel
theorem dd_K_fail_0 : decode mt_K_fail.2.1 0 = .ok (.aload_n 0, 1) := by decide +kernel
theorem dd_K_fail_1 : decode mt_K_fail.2.1 1 = .ok (.iload_n 1, 1) := by decide +kernel
theorem dd_K_fail_2 : decode mt_K_fail.2.1 2 = .ok (.invokevirtual 75, 3) := by decide +kernel
theorem dd_K_fail_5 : decode mt_K_fail.2.1 5 = .ok (.astore_n 3, 1) := by decide +kernel
theorem dd_K_fail_6 : decode mt_K_fail.2.1 6 = .ok (.aload_n 3, 1) := by decide +kernel
theorem dd_K_fail_7 : decode mt_K_fail.2.1 7 = .ok (.ifnull 17, 3) := by decide +kernel
theorem dd_K_fail_10 : decode mt_K_fail.2.1 10 = .ok (.aload_n 3, 1) := by decide +kernel
theorem dd_K_fail_11 : decode mt_K_fail.2.1 11 = .ok (.getfield 110, 3) := by decide +kernel
theorem dd_K_fail_14 : decode mt_K_fail.2.1 14 = .ok (.ifCond .ne 10, 3) := by decide +kernel
theorem dd_K_fail_17 : decode mt_K_fail.2.1 17 = .ok (.iload_n 2, 1) := by decide +kernel
theorem dd_K_fail_18 : decode mt_K_fail.2.1 18 = .ok (.invokestatic 113, 3) := by decide +kernel
theorem dd_K_fail_21 : decode mt_K_fail.2.1 21 = .ok (.ifCond .ne 5, 3) := by decide +kernel
theorem dd_K_fail_24 : decode mt_K_fail.2.1 24 = .ok (.iconst 0, 1) := by decide +kernel
theorem dd_K_fail_25 : decode mt_K_fail.2.1 25 = .ok (.ireturn, 1) := by decide +kernel
theorem dd_K_fail_26 : decode mt_K_fail.2.1 26 = .ok (.aload_n 0, 1) := by decide +kernel
theorem dd_K_fail_27 : decode mt_K_fail.2.1 27 = .ok (.aload_n 3, 1) := by decide +kernel
theorem dd_K_fail_28 : decode mt_K_fail.2.1 28 = .ok (.iload_n 2, 1) := by decide +kernel
theorem dd_K_fail_29 : decode mt_K_fail.2.1 29 = .ok (.invokevirtual 116, 3) := by decide +kernel
theorem dd_K_fail_32 : decode mt_K_fail.2.1 32 = .ok (.aload_n 0, 1) := by decide +kernel
theorem dd_K_fail_33 : decode mt_K_fail.2.1 33 = .ok (.invokevirtual 57, 3) := by decide +kernel
theorem dd_K_fail_36 : decode mt_K_fail.2.1 36 = .ok (.iconst 1, 1) := by decide +kernel
theorem dd_K_fail_37 : decode mt_K_fail.2.1 37 = .ok (.ireturn, 1) := by decide +kernel
theorem dd_K_isErrorOrNone_0 : decode mt_K_isErrorOrNone.2.1 0 = .ok (.iload_n 0, 1) := by decide +kernel
theorem dd_K_isErrorOrNone_1 : decode mt_K_isErrorOrNone.2.1 1 = .ok (.iconst (-1), 1) := by decide +kernel
theorem dd_K_isErrorOrNone_2 : decode mt_K_isErrorOrNone.2.1 2 = .ok (.if_icmp .eq 10, 3) := by decide +kernel
theorem dd_K_isErrorOrNone_5 : decode mt_K_isErrorOrNone.2.1 5 = .ok (.iload_n 0, 1) := by decide +kernel
theorem dd_K_isErrorOrNone_6 : decode mt_K_isErrorOrNone.2.1 6 = .ok (.invokestatic 113, 3) := by decide +kernel
theorem dd_K_isErrorOrNone_9 : decode mt_K_isErrorOrNone.2.1 9 = .ok (.ifCond .eq 7, 3) := by decide +kernel
theorem dd_K_isErrorOrNone_12 : decode mt_K_isErrorOrNone.2.1 12 = .ok (.iconst 1, 1) := by decide +kernel
theorem dd_K_isErrorOrNone_13 : decode mt_K_isErrorOrNone.2.1 13 = .ok (.goto 4, 3) := by decide +kernel
theorem dd_K_isErrorOrNone_16 : decode mt_K_isErrorOrNone.2.1 16 = .ok (.iconst 0, 1) := by decide +kernel
theorem dd_K_isErrorOrNone_17 : decode mt_K_isErrorOrNone.2.1 17 = .ok (.ireturn, 1) := by decide +kernel
theorem dd_K_pulled_0 : decode mt_K_pulled.2.1 0 = .ok (.aload_n 0, 1) := by decide +kernel
theorem dd_K_pulled_1 : decode mt_K_pulled.2.1 1 = .ok (.iload_n 1, 1) := by decide +kernel
theorem dd_K_pulled_2 : decode mt_K_pulled.2.1 2 = .ok (.invokevirtual 75, 3) := by decide +kernel
theorem dd_K_pulled_5 : decode mt_K_pulled.2.1 5 = .ok (.astore_n 3, 1) := by decide +kernel
theorem dd_K_pulled_6 : decode mt_K_pulled.2.1 6 = .ok (.aload_n 3, 1) := by decide +kernel
theorem dd_K_pulled_7 : decode mt_K_pulled.2.1 7 = .ok (.ifnull 22, 3) := by decide +kernel
theorem dd_K_pulled_10 : decode mt_K_pulled.2.1 10 = .ok (.aload_n 3, 1) := by decide +kernel
theorem dd_K_pulled_11 : decode mt_K_pulled.2.1 11 = .ok (.getfield 119, 3) := by decide +kernel
theorem dd_K_pulled_14 : decode mt_K_pulled.2.1 14 = .ok (.ifCond .eq 15, 3) := by decide +kernel
theorem dd_K_pulled_17 : decode mt_K_pulled.2.1 17 = .ok (.aload_n 0, 1) := by decide +kernel
theorem dd_K_pulled_18 : decode mt_K_pulled.2.1 18 = .ok (.getfield 19, 3) := by decide +kernel
theorem dd_K_pulled_21 : decode mt_K_pulled.2.1 21 = .ok (.iconst 1, 1) := by decide +kernel
theorem dd_K_pulled_22 : decode mt_K_pulled.2.1 22 = .ok (.iload_n 1, 1) := by decide +kernel
theorem dd_K_pulled_23 : decode mt_K_pulled.2.1 23 = .ok (.invokevirtual 122, 3) := by decide +kernel
theorem dd_K_pulled_26 : decode mt_K_pulled.2.1 26 = .ok (.ifCond .eq 5, 3) := by decide +kernel
theorem dd_K_pulled_29 : decode mt_K_pulled.2.1 29 = .ok (.iconst 0, 1) := by decide +kernel
theorem dd_K_pulled_30 : decode mt_K_pulled.2.1 30 = .ok (.ireturn, 1) := by decide +kernel
theorem dd_K_pulled_31 : decode mt_K_pulled.2.1 31 = .ok (.iload_n 2, 1) := by decide +kernel
theorem dd_K_pulled_32 : decode mt_K_pulled.2.1 32 = .ok (.invokestatic 126, 3) := by decide +kernel
theorem dd_K_pulled_35 : decode mt_K_pulled.2.1 35 = .ok (.ifCond .ne 5, 3) := by decide +kernel
theorem dd_K_pulled_38 : decode mt_K_pulled.2.1 38 = .ok (.iconst 0, 1) := by decide +kernel
theorem dd_K_pulled_39 : decode mt_K_pulled.2.1 39 = .ok (.ireturn, 1) := by decide +kernel
theorem dd_K_pulled_40 : decode mt_K_pulled.2.1 40 = .ok (.aload_n 0, 1) := by decide +kernel
theorem dd_K_pulled_41 : decode mt_K_pulled.2.1 41 = .ok (.getfield 19, 3) := by decide +kernel
theorem dd_K_pulled_44 : decode mt_K_pulled.2.1 44 = .ok (.iconst 1, 1) := by decide +kernel
theorem dd_K_pulled_45 : decode mt_K_pulled.2.1 45 = .ok (.iload_n 1, 1) := by decide +kernel
theorem dd_K_pulled_46 : decode mt_K_pulled.2.1 46 = .ok (.iload_n 2, 1) := by decide +kernel
theorem dd_K_pulled_47 : decode mt_K_pulled.2.1 47 = .ok (.invokevirtual 129, 3) := by decide +kernel
theorem dd_K_pulled_50 : decode mt_K_pulled.2.1 50 = .ok (.aload_n 0, 1) := by decide +kernel
theorem dd_K_pulled_51 : decode mt_K_pulled.2.1 51 = .ok (.invokevirtual 57, 3) := by decide +kernel
theorem dd_K_pulled_54 : decode mt_K_pulled.2.1 54 = .ok (.iconst 1, 1) := by decide +kernel
theorem dd_K_pulled_55 : decode mt_K_pulled.2.1 55 = .ok (.ireturn, 1) := by decide +kernel
theorem dd_K_request_0 : decode mt_K_request.2.1 0 = .ok (.aload_n 1, 1) := by decide +kernel
theorem dd_K_request_1 : decode mt_K_request.2.1 1 = .ok (.getfield 83, 3) := by decide +kernel
theorem dd_K_request_4 : decode mt_K_request.2.1 4 = .ok (.invokevirtual 87, 3) := by decide +kernel
theorem dd_K_request_7 : decode mt_K_request.2.1 7 = .ok (.ifCond .le 28, 3) := by decide +kernel
theorem dd_K_request_10 : decode mt_K_request.2.1 10 = .ok (.aload_n 1, 1) := by decide +kernel
theorem dd_K_request_11 : decode mt_K_request.2.1 11 = .ok (.getfield 83, 3) := by decide +kernel
theorem dd_K_request_14 : decode mt_K_request.2.1 14 = .ok (.invokevirtual 262, 3) := by decide +kernel
theorem dd_K_request_17 : decode mt_K_request.2.1 17 = .ok (.istore_n 3, 1) := by decide +kernel
theorem dd_K_request_18 : decode mt_K_request.2.1 18 = .ok (.aload_n 1, 1) := by decide +kernel
theorem dd_K_request_19 : decode mt_K_request.2.1 19 = .ok (.invokevirtual 263, 3) := by decide +kernel
theorem dd_K_request_22 : decode mt_K_request.2.1 22 = .ok (.aload_n 0, 1) := by decide +kernel
theorem dd_K_request_23 : decode mt_K_request.2.1 23 = .ok (.aload_n 1, 1) := by decide +kernel
theorem dd_K_request_24 : decode mt_K_request.2.1 24 = .ok (.invokevirtual 53, 3) := by decide +kernel
theorem dd_K_request_27 : decode mt_K_request.2.1 27 = .ok (.aload_n 0, 1) := by decide +kernel
theorem dd_K_request_28 : decode mt_K_request.2.1 28 = .ok (.aload_n 1, 1) := by decide +kernel
theorem dd_K_request_29 : decode mt_K_request.2.1 29 = .ok (.iload_n 2, 1) := by decide +kernel
theorem dd_K_request_30 : decode mt_K_request.2.1 30 = .ok (.iload_n 3, 1) := by decide +kernel
theorem dd_K_request_31 : decode mt_K_request.2.1 31 = .ok (.invokevirtual 248, 3) := by decide +kernel
theorem dd_K_request_34 : decode mt_K_request.2.1 34 = .ok (.return_, 1) := by decide +kernel
theorem dd_K_request_35 : decode mt_K_request.2.1 35 = .ok (.aload_n 1, 1) := by decide +kernel
theorem dd_K_request_36 : decode mt_K_request.2.1 36 = .ok (.getfield 91, 3) := by decide +kernel
theorem dd_K_request_39 : decode mt_K_request.2.1 39 = .ok (.iload_n 2, 1) := by decide +kernel
theorem dd_K_request_40 : decode mt_K_request.2.1 40 = .ok (.invokevirtual 266, 3) := by decide +kernel
theorem dd_K_request_43 : decode mt_K_request.2.1 43 = .ok (.aload_n 1, 1) := by decide +kernel
theorem dd_K_request_44 : decode mt_K_request.2.1 44 = .ok (.getfield 110, 3) := by decide +kernel
theorem dd_K_request_47 : decode mt_K_request.2.1 47 = .ok (.ifCond .ne 11, 3) := by decide +kernel
theorem dd_K_request_50 : decode mt_K_request.2.1 50 = .ok (.aload_n 0, 1) := by decide +kernel
theorem dd_K_request_51 : decode mt_K_request.2.1 51 = .ok (.aload_n 1, 1) := by decide +kernel
theorem dd_K_request_52 : decode mt_K_request.2.1 52 = .ok (.invokevirtual 53, 3) := by decide +kernel
theorem dd_K_request_55 : decode mt_K_request.2.1 55 = .ok (.goto 7, 3) := by decide +kernel
theorem dd_K_request_58 : decode mt_K_request.2.1 58 = .ok (.aload_n 1, 1) := by decide +kernel
theorem dd_K_request_59 : decode mt_K_request.2.1 59 = .ok (.invokevirtual 267, 3) := by decide +kernel
theorem dd_K_request_62 : decode mt_K_request.2.1 62 = .ok (.return_, 1) := by decide +kernel
end
section
def fc_K_init (t : xo_N) (H : xo_H) : Option (xo_H) :=
  xo_nw 1 H (1, 0) fun H1 =>
  (fc_L_init (1, 0) H1).bind fun H3 =>
  xo_pp 0 0 H3 (some t) (some (1, 0)) fun H4 =>
  xo_nw 2 H4 (5, 0) fun H5 =>
  (fc_J_init (5, 0) H5).bind fun H7 =>
  xo_pp 0 1 H7 (some t) (some (5, 0)) fun H8 =>
  xo_na 2 H8 (12, 0) 6 (6 : Int32) fun H9 =>
  xo_pp 0 2 H9 (some t) (some (12, 0)) fun H11 =>
  xo_na 3 H11 (13, 0) 2 (2 : Int32) fun H12 =>
  xo_pp 0 3 H12 (some t) (some (13, 0)) fun H14 =>
  xo_na 4 H14 (14, 0) 2 (2 : Int32) fun H15 =>
  xo_pp 0 4 H15 (some t) (some (14, 0)) fun H17 =>
  some H17

set_option maxRecDepth 100000 in
set_option maxHeartbeats 4000000 in
theorem kb_K_init (t : xo_N) (H : xo_H) (r : xo_H) : xo_X mt_K_init 14 266 xo_jv r 0 [(0, .inr (some t))] [] H (fc_K_init t H) := by
  unfold fc_K_init
  refine xo_aload_n (pc' := 1) dd_K_init_0 rfl 0 rfl rfl ?_
  refine xo_oinit (pc' := 4) dd_K_init_1 wo_K_3 wo_inst wo_code (by decide) (Nat.le_of_ble_eq_true rfl) rfl ?_
  refine xo_aload_n (pc' := 5) dd_K_init_4 rfl 0 rfl rfl ?_
  refine xo_new (pc' := 8) dd_K_init_5 co_K_9 rfl rfl rfl fun H1 => ?_
  refine xo_dup (pc' := 9) dd_K_init_8 rfl ?_
  refine xo_callIv (as := []) (n := (1, 0)) (st := [.inr (some (1, 0)), .inr (some t)]) (pc' := 12) dd_K_init_9 cv_L_init ml_K_11 rfl ⟨by decide, by decide⟩ rfl rfl rfl (Nat.le_of_ble_eq_true rfl) rfl (fun q h => kc_L_init (1, 0) H1 q h) fun H3 => ?_
  refine xo_putPF (pc' := 15) dd_K_init_12 fF_K_12 rfl (by decide) (by decide +kernel : parseFieldDescriptor "LFlowKernel$EventLog;" = some (.object "FlowKernel$EventLog")) (Or.inl ⟨_, rfl⟩) rfl fun H4 => ?_
  refine xo_aload_n (pc' := 16) dd_K_init_15 rfl 0 rfl rfl ?_
  refine xo_new (pc' := 19) dd_K_init_16 co_K_16 rfl rfl rfl fun H5 => ?_
  refine xo_dup (pc' := 20) dd_K_init_19 rfl ?_
  refine xo_callIv (as := []) (n := (5, 0)) (st := [.inr (some (5, 0)), .inr (some t)]) (pc' := 23) dd_K_init_20 cv_J_init ml_K_18 rfl ⟨by decide, by decide⟩ rfl rfl rfl (Nat.le_of_ble_eq_true rfl) rfl (fun q h => kc_J_init (5, 0) H5 q h) fun H7 => ?_
  refine xo_putPF (pc' := 26) dd_K_init_23 fF_K_19 rfl (by decide) (by decide +kernel : parseFieldDescriptor "LFlowKernel$JobRow;" = some (.object "FlowKernel$JobRow")) (Or.inl ⟨_, rfl⟩) rfl fun H8 => ?_
  refine xo_aload_n (pc' := 27) dd_K_init_26 rfl 0 rfl rfl ?_
  refine xo_bipush (pc' := 29) (v := (6 : Int32)) dd_K_init_27 (by decide) rfl ?_
  refine xo_anew (pc' := 32) dd_K_init_29 (by decide) wl_K_23 (by decide) rfl rfl rfl fun H9 => ?_
  refine xo_putPF (pc' := 35) dd_K_init_32 fF_K_25 rfl (by decide) (by decide +kernel : parseFieldDescriptor "[LFlowKernel$Giver;" = some (.array (.object "FlowKernel$Giver"))) (Or.inr ⟨_, rfl⟩) rfl fun H11 => ?_
  refine xo_aload_n (pc' := 36) dd_K_init_35 rfl 0 rfl rfl ?_
  refine xo_iconst (pc' := 37) (v := (2 : Int32)) dd_K_init_36 (by decide) rfl ?_
  refine xo_anew (pc' := 40) dd_K_init_37 (by decide) wl_K_29 (by decide) rfl rfl rfl fun H12 => ?_
  refine xo_putPF (pc' := 43) dd_K_init_40 fF_K_31 rfl (by decide) (by decide +kernel : parseFieldDescriptor "[LFlowKernel$Taker;" = some (.array (.object "FlowKernel$Taker"))) (Or.inr ⟨_, rfl⟩) rfl fun H14 => ?_
  refine xo_aload_n (pc' := 44) dd_K_init_43 rfl 0 rfl rfl ?_
  refine xo_iconst (pc' := 45) (v := (2 : Int32)) dd_K_init_44 (by decide) rfl ?_
  refine xo_anew (pc' := 48) dd_K_init_45 (by decide) wl_K_35 (by decide) rfl rfl rfl fun H15 => ?_
  refine xo_putPF (pc' := 51) dd_K_init_48 fF_K_37 rfl (by decide) (by decide +kernel : parseFieldDescriptor "[LFlowKernel$Pipe;" = some (.array (.object "FlowKernel$Pipe"))) (Or.inr ⟨_, rfl⟩) rfl fun H17 => ?_
  exact xo_vret dd_K_init_51 rfl
set_option maxRecDepth 100000 in
set_option maxHeartbeats 4000000 in
theorem kc_K_init (t : xo_N) (H : xo_H) (r : xo_H) (hk : fc_K_init t H = some r) : xo_M mt_K_init [.inr (some t)] H (xo_jv r) :=
  xo_entry hk (by decide +kernel) (Nat.le_of_ble_eq_true rfl) (kb_K_init t H r)
def fc_K_isMark (x0 : Int32) (H : xo_H) : Option (Int32 × xo_H) :=
  if x0 < 0 then (xo_gb (0 : Int32) (some ((0 : Int32), H)))
  else (if (20 : Int32) < x0 then (xo_gb (0 : Int32) (some ((0 : Int32), H)))
  else (xo_gb (1 : Int32) (some ((1 : Int32), H))))

set_option maxRecDepth 100000 in
set_option maxHeartbeats 4000000 in
theorem kb_K_isMark (x0 : Int32) (H : xo_H) (r : Int32 × xo_H) : xo_X mt_K_isMark 0 0 xo_ji r 0 [(0, .inl x0)] [] H (fc_K_isMark x0 H) := by
  unfold fc_K_isMark
  refine xo_iload_n (pc' := 1) dd_K_isMark_0 rfl 0 rfl rfl ?_
  refine xo_if_lt (pc' := 4) (tgt := 14) dd_K_isMark_1 rfl rfl ?_ ?_
  · refine xo_iconst (pc' := 15) (v := (0 : Int32)) dd_K_isMark_14 (by decide) rfl ?_
    exact xo_zret dd_K_isMark_15 rfl
  · refine xo_iload_n (pc' := 5) dd_K_isMark_4 rfl 0 rfl rfl ?_
    refine xo_bipush (pc' := 7) (v := (20 : Int32)) dd_K_isMark_5 (by decide) rfl ?_
    refine xo_icmp_gt (pc' := 10) (tgt := 14) dd_K_isMark_7 rfl rfl ?_ ?_
    · refine xo_iconst (pc' := 15) (v := (0 : Int32)) dd_K_isMark_14 (by decide) rfl ?_
      exact xo_zret dd_K_isMark_15 rfl
    · refine xo_iconst (pc' := 11) (v := (1 : Int32)) dd_K_isMark_10 (by decide) rfl ?_
      refine xo_goto (pc' := 15) dd_K_isMark_11 rfl ?_
      exact xo_zret dd_K_isMark_15 rfl
set_option maxRecDepth 100000 in
set_option maxHeartbeats 4000000 in
theorem kc_K_isMark (x0 : Int32) (H : xo_H) (r : Int32 × xo_H) (hk : fc_K_isMark x0 H = some r) : xo_M mt_K_isMark [.inl x0] H (xo_ji r) :=
  xo_entry hk (by decide +kernel) (Nat.le_of_ble_eq_true rfl) (kb_K_isMark x0 H r)
def fc_K_addGiver (t : xo_N) (x1 : Int32) (x2 : Int32) (H : xo_H) : Option (Option xo_N × xo_H) :=
  xo_nw 5 H (20, (H.1 t 5).toNatClampNeg) fun H1 =>
  xo_gf 0 5 H1 (some t) fun v3 =>
  xo_nw 4 H1 (21, (H1.1 t 5).toNatClampNeg) fun H4 =>
  (fc_C_init (21, (H1.1 t 5).toNatClampNeg) x1 x2 H4).bind fun H6 =>
  xo_gp 0 0 H6 (some t) fun o7 =>
  (fc_G_init (20, (H.1 t 5).toNatClampNeg) v3 (some (21, (H1.1 t 5).toNatClampNeg)) o7 H6).bind fun H8 =>
  xo_gp 0 2 H8 (some t) fun o9 =>
  xo_gf 0 5 H8 (some t) fun v10 =>
  xo_aq 2 5 H8 o9 v10 (some (20, (H.1 t 5).toNatClampNeg)) fun H11 =>
  xo_gf 0 5 H11 (some t) fun v12 =>
  xo_pf 0 5 H11 (some t) (v12 + (1 : Int32)) fun H13 =>
  some ((some (20, (H.1 t 5).toNatClampNeg)), H13)

set_option maxRecDepth 100000 in
set_option maxHeartbeats 4000000 in
theorem kb_K_addGiver (t : xo_N) (x1 : Int32) (x2 : Int32) (H : xo_H) (r : Option xo_N × xo_H) : xo_X mt_K_addGiver 6 56 xo_jp r 0 [(0, .inr (some t)), (1, .inl x1), (2, .inl x2)] [] H (fc_K_addGiver t x1 x2 H) := by
  unfold fc_K_addGiver
  refine xo_new (pc' := 3) dd_K_addGiver_0 co_K_23 rfl rfl rfl fun H1 => ?_
  refine xo_dup (pc' := 4) dd_K_addGiver_3 rfl ?_
  refine xo_aload_n (pc' := 5) dd_K_addGiver_4 rfl 0 rfl rfl ?_
  refine xo_getI (pc' := 8) dd_K_addGiver_5 ff_K_45 (by decide) rfl fun v3 => ?_
  refine xo_new (pc' := 11) dd_K_addGiver_8 co_K_66 rfl rfl rfl fun H4 => ?_
  refine xo_dup (pc' := 12) dd_K_addGiver_11 rfl ?_
  refine xo_iload_n (pc' := 13) dd_K_addGiver_12 rfl 1 rfl rfl ?_
  refine xo_iload_n (pc' := 14) dd_K_addGiver_13 rfl 2 rfl rfl ?_
  refine xo_callIv (as := [.inl x1, .inl x2]) (n := (21, (H1.1 t 5).toNatClampNeg)) (st := [.inr (some (21, (H1.1 t 5).toNatClampNeg)), .inl v3, .inr (some (20, (H.1 t 5).toNatClampNeg)), .inr (some (20, (H.1 t 5).toNatClampNeg))]) (pc' := 17) dd_K_addGiver_14 cv_C_init ml_K_68 rfl ⟨by decide, by decide⟩ rfl rfl rfl (Nat.le_of_ble_eq_true rfl) rfl (fun q h => kc_C_init (21, (H1.1 t 5).toNatClampNeg) x1 x2 H4 q h) fun H6 => ?_
  refine xo_aload_n (pc' := 18) dd_K_addGiver_17 rfl 0 rfl rfl ?_
  refine xo_getP (pc' := 21) dd_K_addGiver_18 ff_K_12 (by decide) rfl fun o7 => ?_
  refine xo_callIv (as := [.inl v3, .inr (some (21, (H1.1 t 5).toNatClampNeg)), .inr o7]) (n := (20, (H.1 t 5).toNatClampNeg)) (st := [.inr (some (20, (H.1 t 5).toNatClampNeg))]) (pc' := 24) dd_K_addGiver_21 cv_G_init ml_K_244 rfl ⟨by decide, by decide⟩ rfl rfl rfl (Nat.le_of_ble_eq_true rfl) rfl (fun q h => kc_G_init (20, (H.1 t 5).toNatClampNeg) v3 (some (21, (H1.1 t 5).toNatClampNeg)) o7 H6 q h) fun H8 => ?_
  refine xo_astore_n (pc' := 25) dd_K_addGiver_24 rfl (by decide) rfl rfl ?_
  refine xo_aload_n (pc' := 26) dd_K_addGiver_25 rfl 1 rfl rfl ?_
  refine xo_getP (pc' := 29) dd_K_addGiver_26 ff_K_25 (by decide) rfl fun o9 => ?_
  refine xo_aload_n (pc' := 30) dd_K_addGiver_29 rfl 1 rfl rfl ?_
  refine xo_getI (pc' := 33) dd_K_addGiver_30 ff_K_45 (by decide) rfl fun v10 => ?_
  refine xo_aload_n (pc' := 34) dd_K_addGiver_33 rfl 0 rfl rfl ?_
  refine xo_aast (pc' := 35) dd_K_addGiver_34 (by decide) rfl rfl rfl fun H11 => ?_
  refine xo_aload_n (pc' := 36) dd_K_addGiver_35 rfl 1 rfl rfl ?_
  refine xo_dup (pc' := 37) dd_K_addGiver_36 rfl ?_
  refine xo_getI (pc' := 40) dd_K_addGiver_37 ff_K_45 (by decide) rfl fun v12 => ?_
  refine xo_iconst (pc' := 41) (v := (1 : Int32)) dd_K_addGiver_40 (by decide) rfl ?_
  refine xo_iadd (pc' := 42) dd_K_addGiver_41 rfl ?_
  refine xo_putI (pc' := 45) dd_K_addGiver_42 ff_K_45 rfl fun H13 => ?_
  refine xo_aload_n (pc' := 46) dd_K_addGiver_45 rfl 0 rfl rfl ?_
  exact xo_aret dd_K_addGiver_46 rfl
set_option maxRecDepth 100000 in
set_option maxHeartbeats 4000000 in
theorem kc_K_addGiver (t : xo_N) (x1 : Int32) (x2 : Int32) (H : xo_H) (r : Option xo_N × xo_H) (hk : fc_K_addGiver t x1 x2 H = some r) : xo_M mt_K_addGiver [.inr (some t), .inl x1, .inl x2] H (xo_jp r) :=
  xo_entry hk (by decide +kernel) (Nat.le_of_ble_eq_true rfl) (kb_K_addGiver t x1 x2 H r)
def fb_K_askRoot_110 (t : xo_N) (x2 : Option xo_N) (x3 : Int32) (x4 : Int32) (H : xo_H) : Option (Int32 × xo_H) :=
  if x3 = 0 then (xo_gb (1 : Int32) (some ((1 : Int32), H)))
  else (xo_gp 0 1 H (some t) fun o1 =>
  xo_gf 5 0 H x2 fun v2 =>
  xo_cl 2 o1 (fun n4 => fc_J_add n4 (2 : Int32) v2 x4 H) fun H3 =>
  xo_gb (1 : Int32) (some ((1 : Int32), H3)))

def fb_K_askRoot_89 (t : xo_N) (x2 : Option xo_N) (x3 : Int32) (x4 : Int32) (H : xo_H) : Option (Int32 × xo_H) :=
  xo_cl 5 x2 (fun n6 => fc_G_startsPulling n6 H) fun r1 =>
  if r1.1 = 0 then (fb_K_askRoot_110 t x2 x3 x4 r1.2)
  else (xo_gp 0 0 r1.2 (some t) fun o2 =>
  xo_gf 5 0 r1.2 x2 fun v3 =>
  xo_cl 1 o2 (fun n5 => fc_L_note n5 (1 : Int32) v3 (0 : Int32) (0 : Int32) r1.2) fun H4 =>
  fb_K_askRoot_110 t x2 x3 x4 H4)

def fb_K_askRoot_57 (t : xo_N) (x2 : Option xo_N) (s0 : Int32) (H : xo_H) : Option (Int32 × xo_H) :=
  if s0 = 0 then (xo_gp 5 3 H x2 fun o1 =>
  xo_cl 3 o1 (fun n3 => fc_R_add n3 (0 : Int32) H) fun H2 =>
  fb_K_askRoot_89 t x2 s0 (0 : Int32) H2)
  else (xo_gp 5 1 H x2 fun o4 =>
  xo_cl 4 o4 (fun n8 => fc_C_takeFirst n8 H) fun r5 =>
  xo_cl 5 x2 (fun n7 => fc_G_closeIfDrained n7 r5.2) fun H6 =>
  fb_K_askRoot_89 t x2 s0 r5.1 H6)

def fb_K_askRoot_18 (t : xo_N) (x1 : Option xo_N) (x2 : Option xo_N) (s0 : Option xo_N) (s1 : Int32) (H : xo_H) : Option (Int32 × xo_H) :=
  xo_pz 6 2 H s0 s1 fun H1 =>
  xo_gf 6 2 H1 x1 fun v2 =>
  if v2 = 0 then (xo_gf 5 4 H1 x2 fun v6 =>
  if v6 = (2 : Int32) then (xo_gb (1 : Int32) (some ((1 : Int32), H1)))
  else (xo_gb (0 : Int32) (some ((0 : Int32), H1))))
  else (xo_gp 5 1 H1 x2 fun o3 =>
  xo_cl 4 o3 (fun n5 => fc_C_count n5 H1) fun r4 =>
  if 0 < r4.1 then (fb_K_askRoot_57 t x2 (1 : Int32) r4.2)
  else (fb_K_askRoot_57 t x2 (0 : Int32) r4.2))

def fc_K_askRoot (t : xo_N) (x1 : Option xo_N) (H : xo_H) : Option (Int32 × xo_H) :=
  xo_gp 6 0 H x1 fun o1 =>
  xo_gf 5 4 H o1 fun v2 =>
  if v2 = 0 then (fb_K_askRoot_18 t x1 o1 x1 (1 : Int32) H)
  else (fb_K_askRoot_18 t x1 o1 x1 (0 : Int32) H)

set_option maxRecDepth 100000 in
set_option maxHeartbeats 4000000 in
theorem kb_K_askRoot_110 (t : xo_N) (x2 : Option xo_N) (x3 : Int32) (x4 : Int32) (H : xo_H) (r : Int32 × xo_H) : xo_X mt_K_askRoot 0 0 xo_ji r 110 [(0, .inr (some t)), (2, .inr x2), (3, .inl x3), (4, .inl x4)] [] H (fb_K_askRoot_110 t x2 x3 x4 H) := by
  unfold fb_K_askRoot_110
  refine xo_iload_n (pc' := 111) dd_K_askRoot_110 rfl 2 rfl rfl ?_
  refine xo_if_eq (pc' := 114) (tgt := 128) dd_K_askRoot_111 rfl rfl ?_ ?_
  · refine xo_iconst (pc' := 129) (v := (1 : Int32)) dd_K_askRoot_128 (by decide) rfl ?_
    exact xo_zret dd_K_askRoot_129 rfl
  · refine xo_aload_n (pc' := 115) dd_K_askRoot_114 rfl 0 rfl rfl ?_
    refine xo_getP (pc' := 118) dd_K_askRoot_115 ff_K_19 (by decide) rfl fun o1 => ?_
    refine xo_iconst (pc' := 119) (v := (2 : Int32)) dd_K_askRoot_118 (by decide) rfl ?_
    refine xo_aload_n (pc' := 120) dd_K_askRoot_119 rfl 1 rfl rfl ?_
    refine xo_getI (pc' := 123) dd_K_askRoot_120 ff_K_60 (by decide) rfl fun v2 => ?_
    refine xo_iload (pc' := 125) dd_K_askRoot_123 3 rfl rfl ?_
    refine xo_callVv (as := [.inl (2 : Int32), .inl v2, .inl x4]) (o := o1) (st := []) (pc' := 128) dd_K_askRoot_125 cv_J_add ml_K_129 rfl rfl ⟨by decide, by decide⟩ rfl rfl rfl (Nat.le_of_ble_eq_true rfl) rfl (fun n q h => kc_J_add n (2 : Int32) v2 x4 H q h) fun H3 => ?_
    refine xo_iconst (pc' := 129) (v := (1 : Int32)) dd_K_askRoot_128 (by decide) rfl ?_
    exact xo_zret dd_K_askRoot_129 rfl
set_option maxRecDepth 100000 in
set_option maxHeartbeats 4000000 in
theorem kb_K_askRoot_89 (t : xo_N) (x2 : Option xo_N) (x3 : Int32) (x4 : Int32) (H : xo_H) (r : Int32 × xo_H) : xo_X mt_K_askRoot 0 0 xo_ji r 89 [(0, .inr (some t)), (2, .inr x2), (3, .inl x3), (4, .inl x4)] [] H (fb_K_askRoot_89 t x2 x3 x4 H) := by
  unfold fb_K_askRoot_89
  refine xo_aload_n (pc' := 90) dd_K_askRoot_89 rfl 1 rfl rfl ?_
  refine xo_callVi (as := []) (o := x2) (st := []) (pc' := 93) dd_K_askRoot_90 cv_G_startsPulling ml_K_270 rfl rfl ⟨by decide, by decide⟩ rfl rfl rfl (Nat.le_of_ble_eq_true rfl) rfl (fun n q h => kc_G_startsPulling n H q h) fun r1 => ?_
  refine xo_if_eq (pc' := 96) (tgt := 110) dd_K_askRoot_93 rfl rfl ?_ ?_
  · exact kb_K_askRoot_110 t x2 x3 x4 r1.2 r
  · refine xo_aload_n (pc' := 97) dd_K_askRoot_96 rfl 0 rfl rfl ?_
    refine xo_getP (pc' := 100) dd_K_askRoot_97 ff_K_12 (by decide) rfl fun o2 => ?_
    refine xo_iconst (pc' := 101) (v := (1 : Int32)) dd_K_askRoot_100 (by decide) rfl ?_
    refine xo_aload_n (pc' := 102) dd_K_askRoot_101 rfl 1 rfl rfl ?_
    refine xo_getI (pc' := 105) dd_K_askRoot_102 ff_K_60 (by decide) rfl fun v3 => ?_
    refine xo_iconst (pc' := 106) (v := (0 : Int32)) dd_K_askRoot_105 (by decide) rfl ?_
    refine xo_iconst (pc' := 107) (v := (0 : Int32)) dd_K_askRoot_106 (by decide) rfl ?_
    refine xo_callVv (as := [.inl (1 : Int32), .inl v3, .inl (0 : Int32), .inl (0 : Int32)]) (o := o2) (st := []) (pc' := 110) dd_K_askRoot_107 cv_L_note ml_K_254 rfl rfl ⟨by decide, by decide⟩ rfl rfl rfl (Nat.le_of_ble_eq_true rfl) rfl (fun n q h => kc_L_note n (1 : Int32) v3 (0 : Int32) (0 : Int32) r1.2 q h) fun H4 => ?_
    exact kb_K_askRoot_110 t x2 x3 x4 H4 r
set_option maxRecDepth 100000 in
set_option maxHeartbeats 4000000 in
theorem kb_K_askRoot_57 (t : xo_N) (x2 : Option xo_N) (s0 : Int32) (H : xo_H) (r : Int32 × xo_H) : xo_X mt_K_askRoot 0 0 xo_ji r 57 [(0, .inr (some t)), (2, .inr x2)] [.inl s0] H (fb_K_askRoot_57 t x2 s0 H) := by
  unfold fb_K_askRoot_57
  refine xo_istore_n (pc' := 58) dd_K_askRoot_57 rfl (by decide) rfl rfl ?_
  refine xo_iconst (pc' := 59) (v := (0 : Int32)) dd_K_askRoot_58 (by decide) rfl ?_
  refine xo_istore (pc' := 61) dd_K_askRoot_59 (by decide) rfl rfl ?_
  refine xo_iload_n (pc' := 62) dd_K_askRoot_61 rfl 1 rfl rfl ?_
  refine xo_if_eq (pc' := 65) (tgt := 81) dd_K_askRoot_62 rfl rfl ?_ ?_
  · refine xo_aload_n (pc' := 82) dd_K_askRoot_81 rfl 3 rfl rfl ?_
    refine xo_getP (pc' := 85) dd_K_askRoot_82 ff_K_91 (by decide) rfl fun o1 => ?_
    refine xo_iconst (pc' := 86) (v := (0 : Int32)) dd_K_askRoot_85 (by decide) rfl ?_
    refine xo_callVv (as := [.inl (0 : Int32)]) (o := o1) (st := []) (pc' := 89) dd_K_askRoot_86 cv_R_add ml_K_266 rfl rfl ⟨by decide, by decide⟩ rfl rfl rfl (Nat.le_of_ble_eq_true rfl) rfl (fun n q h => kc_R_add n (0 : Int32) H q h) fun H2 => ?_
    refine xo_sub [2, 3, 1, 0] rfl ?_
    exact kb_K_askRoot_89 t x2 s0 (0 : Int32) H2 r
  · refine xo_aload_n (pc' := 66) dd_K_askRoot_65 rfl 3 rfl rfl ?_
    refine xo_getP (pc' := 69) dd_K_askRoot_66 ff_K_83 (by decide) rfl fun o4 => ?_
    refine xo_callVi (as := []) (o := o4) (st := []) (pc' := 72) dd_K_askRoot_69 cv_C_takeFirst ml_K_262 rfl rfl ⟨by decide, by decide⟩ rfl rfl rfl (Nat.le_of_ble_eq_true rfl) rfl (fun n q h => kc_C_takeFirst n H q h) fun r5 => ?_
    refine xo_istore (pc' := 74) dd_K_askRoot_72 (by decide) rfl rfl ?_
    refine xo_aload_n (pc' := 75) dd_K_askRoot_74 rfl 3 rfl rfl ?_
    refine xo_callVv (as := []) (o := x2) (st := []) (pc' := 78) dd_K_askRoot_75 cv_G_closeIfDrained ml_K_263 rfl rfl ⟨by decide, by decide⟩ rfl rfl rfl (Nat.le_of_ble_eq_true rfl) rfl (fun n q h => kc_G_closeIfDrained n r5.2 q h) fun H6 => ?_
    refine xo_goto (pc' := 89) dd_K_askRoot_78 rfl ?_
    refine xo_sub [2, 3, 1, 0] rfl ?_
    exact kb_K_askRoot_89 t x2 s0 r5.1 H6 r
set_option maxRecDepth 100000 in
set_option maxHeartbeats 4000000 in
theorem kb_K_askRoot_18 (t : xo_N) (x1 : Option xo_N) (x2 : Option xo_N) (s0 : Option xo_N) (s1 : Int32) (H : xo_H) (r : Int32 × xo_H) : xo_X mt_K_askRoot 0 0 xo_ji r 18 [(0, .inr (some t)), (1, .inr x1), (2, .inr x2)] [.inl s1, .inr s0] H (fb_K_askRoot_18 t x1 x2 s0 s1 H) := by
  unfold fb_K_askRoot_18
  refine xo_putZ (pc' := 21) dd_K_askRoot_18 ff_K_273 rfl fun H1 => ?_
  refine xo_aload_n (pc' := 22) dd_K_askRoot_21 rfl 1 rfl rfl ?_
  refine xo_getI (pc' := 25) dd_K_askRoot_22 ff_K_273 (by decide) rfl fun v2 => ?_
  refine xo_if_ne (pc' := 28) (tgt := 42) dd_K_askRoot_25 rfl rfl ?_ ?_
  · refine xo_aload_n (pc' := 43) dd_K_askRoot_42 rfl 2 rfl rfl ?_
    refine xo_getP (pc' := 46) dd_K_askRoot_43 ff_K_83 (by decide) rfl fun o3 => ?_
    refine xo_callVi (as := []) (o := o3) (st := []) (pc' := 49) dd_K_askRoot_46 cv_C_count ml_K_87 rfl rfl ⟨by decide, by decide⟩ rfl rfl rfl (Nat.le_of_ble_eq_true rfl) rfl (fun n q h => kc_C_count n H1 q h) fun r4 => ?_
    refine xo_if_le (pc' := 52) (tgt := 56) dd_K_askRoot_49 rfl rfl ?_ ?_
    · refine xo_iconst (pc' := 57) (v := (0 : Int32)) dd_K_askRoot_56 (by decide) rfl ?_
      refine xo_sub [0, 2] rfl ?_
      exact kb_K_askRoot_57 t x2 (0 : Int32) r4.2 r
    · refine xo_iconst (pc' := 53) (v := (1 : Int32)) dd_K_askRoot_52 (by decide) rfl ?_
      refine xo_goto (pc' := 57) dd_K_askRoot_53 rfl ?_
      refine xo_sub [0, 2] rfl ?_
      exact kb_K_askRoot_57 t x2 (1 : Int32) r4.2 r
  · refine xo_aload_n (pc' := 29) dd_K_askRoot_28 rfl 2 rfl rfl ?_
    refine xo_getI (pc' := 32) dd_K_askRoot_29 ff_K_110 (by decide) rfl fun v6 => ?_
    refine xo_iconst (pc' := 33) (v := (2 : Int32)) dd_K_askRoot_32 (by decide) rfl ?_
    refine xo_icmp_ne (pc' := 36) (tgt := 40) dd_K_askRoot_33 rfl rfl ?_ ?_
    · refine xo_iconst (pc' := 41) (v := (0 : Int32)) dd_K_askRoot_40 (by decide) rfl ?_
      exact xo_zret dd_K_askRoot_41 rfl
    · refine xo_iconst (pc' := 37) (v := (1 : Int32)) dd_K_askRoot_36 (by decide) rfl ?_
      refine xo_goto (pc' := 41) dd_K_askRoot_37 rfl ?_
      exact xo_zret dd_K_askRoot_41 rfl
set_option maxRecDepth 100000 in
set_option maxHeartbeats 4000000 in
theorem kb_K_askRoot (t : xo_N) (x1 : Option xo_N) (H : xo_H) (r : Int32 × xo_H) : xo_X mt_K_askRoot 0 0 xo_ji r 0 [(0, .inr (some t)), (1, .inr x1)] [] H (fc_K_askRoot t x1 H) := by
  unfold fc_K_askRoot
  refine xo_aload_n (pc' := 1) dd_K_askRoot_0 rfl 1 rfl rfl ?_
  refine xo_getP (pc' := 4) dd_K_askRoot_1 ff_K_281 (by decide) rfl fun o1 => ?_
  refine xo_astore_n (pc' := 5) dd_K_askRoot_4 rfl (by decide) rfl rfl ?_
  refine xo_aload_n (pc' := 6) dd_K_askRoot_5 rfl 2 rfl rfl ?_
  refine xo_aload_n (pc' := 7) dd_K_askRoot_6 rfl 0 rfl rfl ?_
  refine xo_getI (pc' := 10) dd_K_askRoot_7 ff_K_110 (by decide) rfl fun v2 => ?_
  refine xo_if_ne (pc' := 13) (tgt := 17) dd_K_askRoot_10 rfl rfl ?_ ?_
  · refine xo_iconst (pc' := 18) (v := (0 : Int32)) dd_K_askRoot_17 (by decide) rfl ?_
    refine xo_sub [1, 2, 0] rfl ?_
    exact kb_K_askRoot_18 t x1 o1 x1 (0 : Int32) H r
  · refine xo_iconst (pc' := 14) (v := (1 : Int32)) dd_K_askRoot_13 (by decide) rfl ?_
    refine xo_goto (pc' := 18) dd_K_askRoot_14 rfl ?_
    refine xo_sub [1, 2, 0] rfl ?_
    exact kb_K_askRoot_18 t x1 o1 x1 (1 : Int32) H r
set_option maxRecDepth 100000 in
set_option maxHeartbeats 4000000 in
theorem kc_K_askRoot (t : xo_N) (x1 : Option xo_N) (H : xo_H) (r : Int32 × xo_H) (hk : fc_K_askRoot t x1 H = some r) : xo_M mt_K_askRoot [.inr (some t), .inr x1] H (xo_ji r) :=
  xo_entry hk (by decide +kernel) (Nat.le_of_ble_eq_true rfl) (kb_K_askRoot t x1 H r)
def fb_K_endBranches_16 : Nat → Option xo_N → Int32 → Int32 → xo_H → Option (xo_H)
  | 0, _, _, _, _ => none
  | fu + 1, x2, x3, x4, H =>
  if x4 < x3 then (xo_ap 2 H x2 x4 fun o1 =>
  xo_cl 5 o1 (fun n10 => fc_G_isGoing n10 H) fun r2 =>
  if r2.1 = 0 then (fb_K_endBranches_16 fu x2 x3 (x4 + (1 : Int32)) r2.2)
  else (xo_pz 5 7 r2.2 o1 (1 : Int32) fun H3 =>
  xo_gp 5 1 H3 o1 fun o4 =>
  xo_cl 4 o4 (fun n9 => fc_C_count n9 H3) fun r5 =>
  if r5.1 = 0 then (xo_pf 5 4 r5.2 o1 (1 : Int32) fun H6 =>
  xo_cl 5 o1 (fun n8 => fc_G_answerAll n8 H6) fun H7 =>
  fb_K_endBranches_16 fu x2 x3 (x4 + (1 : Int32)) H7)
  else (fb_K_endBranches_16 fu x2 x3 (x4 + (1 : Int32)) r5.2)))
  else (some H)

def fc_K_endBranches (t : xo_N) (x1 : Option xo_N) (H : xo_H) : Option (xo_H) :=
  xo_pz 6 2 H x1 (0 : Int32) fun H1 =>
  xo_gp 6 1 H1 x1 fun o2 =>
  xo_ln o2 fun v3 =>
  fb_K_endBranches_16 1000 o2 v3 (0 : Int32) H1

set_option maxRecDepth 100000 in
set_option maxHeartbeats 4000000 in
theorem kb_K_endBranches_16 : ∀ (fu : Nat) (x2 : Option xo_N) (x3 : Int32) (x4 : Int32) (H : xo_H) (r : xo_H), xo_X mt_K_endBranches 0 0 xo_jv r 16 [(2, .inr x2), (3, .inl x3), (4, .inl x4)] [] H (fb_K_endBranches_16 fu x2 x3 x4 H) := by
  intro fu
  induction fu with
  | zero => intros; exact xo_no
  | succ fu ih =>
    intro x2 x3 x4 H r
    rw [fb_K_endBranches_16]
    refine xo_iload (pc' := 18) dd_K_endBranches_16 2 rfl rfl ?_
    refine xo_iload_n (pc' := 19) dd_K_endBranches_18 rfl 1 rfl rfl ?_
    refine xo_icmp_ge (pc' := 22) (tgt := 70) dd_K_endBranches_19 rfl rfl ?_ ?_
    · exact xo_vret dd_K_endBranches_70 rfl
    · refine xo_aload_n (pc' := 23) dd_K_endBranches_22 rfl 0 rfl rfl ?_
      refine xo_iload (pc' := 25) dd_K_endBranches_23 2 rfl rfl ?_
      refine xo_aald (pc' := 26) dd_K_endBranches_25 (by decide) rfl fun o1 => ?_
      refine xo_astore (pc' := 28) dd_K_endBranches_26 (by decide) rfl rfl ?_
      refine xo_aload (pc' := 30) dd_K_endBranches_28 0 rfl rfl ?_
      refine xo_callVi (as := []) (o := o1) (st := []) (pc' := 33) dd_K_endBranches_30 cv_G_isGoing ml_K_79 rfl rfl ⟨by decide, by decide⟩ rfl rfl rfl (Nat.le_of_ble_eq_true rfl) rfl (fun n q h => kc_G_isGoing n H q h) fun r2 => ?_
      refine xo_if_eq (pc' := 36) (tgt := 64) dd_K_endBranches_33 rfl rfl ?_ ?_
      · refine xo_iinc (pc' := 67) dd_K_endBranches_64 3 rfl (xo_ii (m := (1 : Int32)) (by decide)) (by decide) rfl rfl ?_
        refine xo_goto (pc' := 16) dd_K_endBranches_67 rfl ?_
        refine xo_sub [2, 3, 0] rfl ?_
        exact ih x2 x3 (x4 + (1 : Int32)) r2.2 r
      · refine xo_aload (pc' := 38) dd_K_endBranches_36 0 rfl rfl ?_
        refine xo_iconst (pc' := 39) (v := (1 : Int32)) dd_K_endBranches_38 (by decide) rfl ?_
        refine xo_putZ (pc' := 42) dd_K_endBranches_39 ff_K_103 rfl fun H3 => ?_
        refine xo_aload (pc' := 44) dd_K_endBranches_42 0 rfl rfl ?_
        refine xo_getP (pc' := 47) dd_K_endBranches_44 ff_K_83 (by decide) rfl fun o4 => ?_
        refine xo_callVi (as := []) (o := o4) (st := []) (pc' := 50) dd_K_endBranches_47 cv_C_count ml_K_87 rfl rfl ⟨by decide, by decide⟩ rfl rfl rfl (Nat.le_of_ble_eq_true rfl) rfl (fun n q h => kc_C_count n H3 q h) fun r5 => ?_
        refine xo_if_ne (pc' := 53) (tgt := 64) dd_K_endBranches_50 rfl rfl ?_ ?_
        · refine xo_iinc (pc' := 67) dd_K_endBranches_64 3 rfl (xo_ii (m := (1 : Int32)) (by decide)) (by decide) rfl rfl ?_
          refine xo_goto (pc' := 16) dd_K_endBranches_67 rfl ?_
          refine xo_sub [2, 3, 0] rfl ?_
          exact ih x2 x3 (x4 + (1 : Int32)) r5.2 r
        · refine xo_aload (pc' := 55) dd_K_endBranches_53 0 rfl rfl ?_
          refine xo_iconst (pc' := 56) (v := (1 : Int32)) dd_K_endBranches_55 (by decide) rfl ?_
          refine xo_putI (pc' := 59) dd_K_endBranches_56 ff_K_110 rfl fun H6 => ?_
          refine xo_aload (pc' := 61) dd_K_endBranches_59 0 rfl rfl ?_
          refine xo_callVv (as := []) (o := o1) (st := []) (pc' := 64) dd_K_endBranches_61 cv_G_answerAll ml_K_267 rfl rfl ⟨by decide, by decide⟩ rfl rfl rfl (Nat.le_of_ble_eq_true rfl) rfl (fun n q h => kc_G_answerAll n H6 q h) fun H7 => ?_
          refine xo_iinc (pc' := 67) dd_K_endBranches_64 3 rfl (xo_ii (m := (1 : Int32)) (by decide)) (by decide) rfl rfl ?_
          refine xo_goto (pc' := 16) dd_K_endBranches_67 rfl ?_
          refine xo_sub [2, 3, 0] rfl ?_
          exact ih x2 x3 (x4 + (1 : Int32)) H7 r
set_option maxRecDepth 100000 in
set_option maxHeartbeats 4000000 in
theorem kb_K_endBranches (t : xo_N) (x1 : Option xo_N) (H : xo_H) (r : xo_H) : xo_X mt_K_endBranches 0 0 xo_jv r 0 [(0, .inr (some t)), (1, .inr x1)] [] H (fc_K_endBranches t x1 H) := by
  unfold fc_K_endBranches
  refine xo_aload_n (pc' := 1) dd_K_endBranches_0 rfl 1 rfl rfl ?_
  refine xo_iconst (pc' := 2) (v := (0 : Int32)) dd_K_endBranches_1 (by decide) rfl ?_
  refine xo_putZ (pc' := 5) dd_K_endBranches_2 ff_K_273 rfl fun H1 => ?_
  refine xo_aload_n (pc' := 6) dd_K_endBranches_5 rfl 1 rfl rfl ?_
  refine xo_getP (pc' := 9) dd_K_endBranches_6 ff_K_285 (by decide) rfl fun o2 => ?_
  refine xo_astore_n (pc' := 10) dd_K_endBranches_9 rfl (by decide) rfl rfl ?_
  refine xo_aload_n (pc' := 11) dd_K_endBranches_10 rfl 0 rfl rfl ?_
  refine xo_alen (pc' := 12) dd_K_endBranches_11 rfl fun v3 => ?_
  refine xo_istore_n (pc' := 13) dd_K_endBranches_12 rfl (by decide) rfl rfl ?_
  refine xo_iconst (pc' := 14) (v := (0 : Int32)) dd_K_endBranches_13 (by decide) rfl ?_
  refine xo_istore (pc' := 16) dd_K_endBranches_14 (by decide) rfl rfl ?_
  refine xo_sub [2, 1, 0] rfl ?_
  exact kb_K_endBranches_16 1000 o2 v3 (0 : Int32) H1 r
set_option maxRecDepth 100000 in
set_option maxHeartbeats 4000000 in
theorem kc_K_endBranches (t : xo_N) (x1 : Option xo_N) (H : xo_H) (r : xo_H) (hk : fc_K_endBranches t x1 H = some r) : xo_M mt_K_endBranches [.inr (some t), .inr x1] H (xo_jv r) :=
  xo_entry hk (by decide +kernel) (Nat.le_of_ble_eq_true rfl) (kb_K_endBranches t x1 H r)
def fb_K_pullIfNeeded_60 (t : xo_N) (x1 : Option xo_N) (H : xo_H) : Option (xo_H) :=
  xo_gp 0 1 H (some t) fun o1 =>
  xo_gf 5 0 H x1 fun v2 =>
  xo_cl 2 o1 (fun n4 => fc_J_add n4 (1 : Int32) v2 (-1 : Int32) H) fun H3 =>
  some H3

def fc_K_pullIfNeeded (t : xo_N) (x1 : Option xo_N) (H : xo_H) : Option (xo_H) :=
  xo_cl 5 x1 (fun n13 => fc_G_startsPulling n13 H) fun r1 =>
  if r1.1 = 0 then (some r1.2)
  else (xo_gp 5 11 r1.2 x1 fun o2 =>
  if o2 = none then (xo_gp 0 0 r1.2 (some t) fun o9 =>
  xo_gf 5 0 r1.2 x1 fun v10 =>
  xo_cl 1 o9 (fun n12 => fc_L_note n12 (1 : Int32) v10 (0 : Int32) (0 : Int32) r1.2) fun H11 =>
  some H11)
  else (xo_gf 6 2 r1.2 o2 fun v3 =>
  if v3 = 0 then (xo_cl 0 (some t) (fun n7 => fc_K_askRoot n7 o2 r1.2) fun r4 =>
  if r4.1 = 0 then (xo_cl 0 (some t) (fun n6 => fc_K_endBranches n6 o2 r4.2) fun H5 =>
  fb_K_pullIfNeeded_60 t x1 H5)
  else (fb_K_pullIfNeeded_60 t x1 r4.2))
  else (xo_pz 6 3 r1.2 o2 (1 : Int32) fun H8 =>
  fb_K_pullIfNeeded_60 t x1 H8)))

set_option maxRecDepth 100000 in
set_option maxHeartbeats 4000000 in
theorem kb_K_pullIfNeeded_60 (t : xo_N) (x1 : Option xo_N) (H : xo_H) (r : xo_H) : xo_X mt_K_pullIfNeeded 0 0 xo_jv r 60 [(0, .inr (some t)), (1, .inr x1)] [] H (fb_K_pullIfNeeded_60 t x1 H) := by
  unfold fb_K_pullIfNeeded_60
  refine xo_aload_n (pc' := 61) dd_K_pullIfNeeded_60 rfl 0 rfl rfl ?_
  refine xo_getP (pc' := 64) dd_K_pullIfNeeded_61 ff_K_19 (by decide) rfl fun o1 => ?_
  refine xo_iconst (pc' := 65) (v := (1 : Int32)) dd_K_pullIfNeeded_64 (by decide) rfl ?_
  refine xo_aload_n (pc' := 66) dd_K_pullIfNeeded_65 rfl 1 rfl rfl ?_
  refine xo_getI (pc' := 69) dd_K_pullIfNeeded_66 ff_K_60 (by decide) rfl fun v2 => ?_
  refine xo_iconst (pc' := 70) (v := (-1 : Int32)) dd_K_pullIfNeeded_69 (by decide) rfl ?_
  refine xo_callVv (as := [.inl (1 : Int32), .inl v2, .inl (-1 : Int32)]) (o := o1) (st := []) (pc' := 73) dd_K_pullIfNeeded_70 cv_J_add ml_K_129 rfl rfl ⟨by decide, by decide⟩ rfl rfl rfl (Nat.le_of_ble_eq_true rfl) rfl (fun n q h => kc_J_add n (1 : Int32) v2 (-1 : Int32) H q h) fun H3 => ?_
  exact xo_vret dd_K_pullIfNeeded_73 rfl
set_option maxRecDepth 100000 in
set_option maxHeartbeats 4000000 in
theorem kb_K_pullIfNeeded (t : xo_N) (x1 : Option xo_N) (H : xo_H) (r : xo_H) : xo_X mt_K_pullIfNeeded 0 0 xo_jv r 0 [(0, .inr (some t)), (1, .inr x1)] [] H (fc_K_pullIfNeeded t x1 H) := by
  unfold fc_K_pullIfNeeded
  refine xo_aload_n (pc' := 1) dd_K_pullIfNeeded_0 rfl 1 rfl rfl ?_
  refine xo_callVi (as := []) (o := x1) (st := []) (pc' := 4) dd_K_pullIfNeeded_1 cv_G_startsPulling ml_K_270 rfl rfl ⟨by decide, by decide⟩ rfl rfl rfl (Nat.le_of_ble_eq_true rfl) rfl (fun n q h => kc_G_startsPulling n H q h) fun r1 => ?_
  refine xo_if_ne (pc' := 7) (tgt := 8) dd_K_pullIfNeeded_4 rfl rfl ?_ ?_
  · refine xo_aload_n (pc' := 9) dd_K_pullIfNeeded_8 rfl 1 rfl rfl ?_
    refine xo_getP (pc' := 12) dd_K_pullIfNeeded_9 ff_K_191 (by decide) rfl fun o2 => ?_
    refine xo_astore_n (pc' := 13) dd_K_pullIfNeeded_12 rfl (by decide) rfl rfl ?_
    refine xo_aload_n (pc' := 14) dd_K_pullIfNeeded_13 rfl 0 rfl rfl ?_
    refine xo_ifnonnull (pc' := 17) (tgt := 32) dd_K_pullIfNeeded_14 rfl rfl ?_ ?_
    · refine xo_aload_n (pc' := 33) dd_K_pullIfNeeded_32 rfl 0 rfl rfl ?_
      refine xo_getI (pc' := 36) dd_K_pullIfNeeded_33 ff_K_273 (by decide) rfl fun v3 => ?_
      refine xo_if_eq (pc' := 39) (tgt := 47) dd_K_pullIfNeeded_36 rfl rfl ?_ ?_
      · refine xo_aload_n (pc' := 48) dd_K_pullIfNeeded_47 rfl 1 rfl rfl ?_
        refine xo_aload_n (pc' := 49) dd_K_pullIfNeeded_48 rfl 0 rfl rfl ?_
        refine xo_callVi (as := [.inr o2]) (o := (some t)) (st := []) (pc' := 52) dd_K_pullIfNeeded_49 cv_K_askRoot ml_K_277 rfl rfl ⟨by decide, by decide⟩ rfl rfl rfl (Nat.le_of_ble_eq_true rfl) rfl (fun n q h => kc_K_askRoot n o2 r1.2 q h) fun r4 => ?_
        refine xo_if_ne (pc' := 55) (tgt := 60) dd_K_pullIfNeeded_52 rfl rfl ?_ ?_
        · refine xo_sub [1, 2] rfl ?_
          exact kb_K_pullIfNeeded_60 t x1 r4.2 r
        · refine xo_aload_n (pc' := 56) dd_K_pullIfNeeded_55 rfl 1 rfl rfl ?_
          refine xo_aload_n (pc' := 57) dd_K_pullIfNeeded_56 rfl 0 rfl rfl ?_
          refine xo_callVv (as := [.inr o2]) (o := (some t)) (st := []) (pc' := 60) dd_K_pullIfNeeded_57 cv_K_endBranches ml_K_203 rfl rfl ⟨by decide, by decide⟩ rfl rfl rfl (Nat.le_of_ble_eq_true rfl) rfl (fun n q h => kc_K_endBranches n o2 r4.2 q h) fun H5 => ?_
          refine xo_sub [1, 2] rfl ?_
          exact kb_K_pullIfNeeded_60 t x1 H5 r
      · refine xo_aload_n (pc' := 40) dd_K_pullIfNeeded_39 rfl 0 rfl rfl ?_
        refine xo_iconst (pc' := 41) (v := (1 : Int32)) dd_K_pullIfNeeded_40 (by decide) rfl ?_
        refine xo_putZ (pc' := 44) dd_K_pullIfNeeded_41 ff_K_276 rfl fun H8 => ?_
        refine xo_goto (pc' := 60) dd_K_pullIfNeeded_44 rfl ?_
        refine xo_sub [1, 2] rfl ?_
        exact kb_K_pullIfNeeded_60 t x1 H8 r
    · refine xo_aload_n (pc' := 18) dd_K_pullIfNeeded_17 rfl 1 rfl rfl ?_
      refine xo_getP (pc' := 21) dd_K_pullIfNeeded_18 ff_K_12 (by decide) rfl fun o9 => ?_
      refine xo_iconst (pc' := 22) (v := (1 : Int32)) dd_K_pullIfNeeded_21 (by decide) rfl ?_
      refine xo_aload_n (pc' := 23) dd_K_pullIfNeeded_22 rfl 2 rfl rfl ?_
      refine xo_getI (pc' := 26) dd_K_pullIfNeeded_23 ff_K_60 (by decide) rfl fun v10 => ?_
      refine xo_iconst (pc' := 27) (v := (0 : Int32)) dd_K_pullIfNeeded_26 (by decide) rfl ?_
      refine xo_iconst (pc' := 28) (v := (0 : Int32)) dd_K_pullIfNeeded_27 (by decide) rfl ?_
      refine xo_callVv (as := [.inl (1 : Int32), .inl v10, .inl (0 : Int32), .inl (0 : Int32)]) (o := o9) (st := []) (pc' := 31) dd_K_pullIfNeeded_28 cv_L_note ml_K_254 rfl rfl ⟨by decide, by decide⟩ rfl rfl rfl (Nat.le_of_ble_eq_true rfl) rfl (fun n q h => kc_L_note n (1 : Int32) v10 (0 : Int32) (0 : Int32) r1.2 q h) fun H11 => ?_
      exact xo_vret dd_K_pullIfNeeded_31 rfl
  · exact xo_vret dd_K_pullIfNeeded_7 rfl
set_option maxRecDepth 100000 in
set_option maxHeartbeats 4000000 in
theorem kc_K_pullIfNeeded (t : xo_N) (x1 : Option xo_N) (H : xo_H) (r : xo_H) (hk : fc_K_pullIfNeeded t x1 H = some r) : xo_M mt_K_pullIfNeeded [.inr (some t), .inr x1] H (xo_jv r) :=
  xo_entry hk (by decide +kernel) (Nat.le_of_ble_eq_true rfl) (kb_K_pullIfNeeded t x1 H r)
def fc_K_pipeAt (t : xo_N) (x1 : Int32) (H : xo_H) : Option (Option xo_N × xo_H) :=
  if x1 < 0 then (some (none, H))
  else (xo_gf 0 7 H (some t) fun v1 =>
  if x1 < v1 then (xo_gp 0 4 H (some t) fun o2 =>
  xo_ap 4 H o2 x1 fun o3 =>
  some (o3, H))
  else (some (none, H)))

set_option maxRecDepth 100000 in
set_option maxHeartbeats 4000000 in
theorem kb_K_pipeAt (t : xo_N) (x1 : Int32) (H : xo_H) (r : Option xo_N × xo_H) : xo_X mt_K_pipeAt 0 0 xo_jp r 0 [(0, .inr (some t)), (1, .inl x1)] [] H (fc_K_pipeAt t x1 H) := by
  unfold fc_K_pipeAt
  refine xo_iload_n (pc' := 1) dd_K_pipeAt_0 rfl 1 rfl rfl ?_
  refine xo_if_lt (pc' := 4) (tgt := 21) dd_K_pipeAt_1 rfl rfl ?_ ?_
  · refine xo_null (pc' := 22) dd_K_pipeAt_21 rfl ?_
    exact xo_aret dd_K_pipeAt_22 rfl
  · refine xo_iload_n (pc' := 5) dd_K_pipeAt_4 rfl 1 rfl rfl ?_
    refine xo_aload_n (pc' := 6) dd_K_pipeAt_5 rfl 0 rfl rfl ?_
    refine xo_getI (pc' := 9) dd_K_pipeAt_6 ff_K_180 (by decide) rfl fun v1 => ?_
    refine xo_icmp_ge (pc' := 12) (tgt := 21) dd_K_pipeAt_9 rfl rfl ?_ ?_
    · refine xo_null (pc' := 22) dd_K_pipeAt_21 rfl ?_
      exact xo_aret dd_K_pipeAt_22 rfl
    · refine xo_aload_n (pc' := 13) dd_K_pipeAt_12 rfl 0 rfl rfl ?_
      refine xo_getP (pc' := 16) dd_K_pipeAt_13 ff_K_37 (by decide) rfl fun o2 => ?_
      refine xo_iload_n (pc' := 17) dd_K_pipeAt_16 rfl 1 rfl rfl ?_
      refine xo_aald (pc' := 18) dd_K_pipeAt_17 (by decide) rfl fun o3 => ?_
      refine xo_goto (pc' := 22) dd_K_pipeAt_18 rfl ?_
      exact xo_aret dd_K_pipeAt_22 rfl
set_option maxRecDepth 100000 in
set_option maxHeartbeats 4000000 in
theorem kc_K_pipeAt (t : xo_N) (x1 : Int32) (H : xo_H) (r : Option xo_N × xo_H) (hk : fc_K_pipeAt t x1 H = some r) : xo_M mt_K_pipeAt [.inr (some t), .inl x1] H (xo_jp r) :=
  xo_entry hk (by decide +kernel) (Nat.le_of_ble_eq_true rfl) (kb_K_pipeAt t x1 H r)
def fb_K_awaitPumps_2 : Nat → xo_N → Int32 → xo_H → Option (xo_H)
  | 0, _, _, _ => none
  | fu + 1, t, x1, H =>
  xo_gf 0 7 H (some t) fun v1 =>
  if x1 < v1 then (xo_cl 0 (some t) (fun n10 => fc_K_pipeAt n10 x1 H) fun r2 =>
  if r2.1 = none then (fb_K_awaitPumps_2 fu t (x1 + (1 : Int32)) r2.2)
  else (xo_gf 8 6 r2.2 r2.1 fun v3 =>
  if v3 = 0 then (xo_gp 0 1 r2.2 (some t) fun o4 =>
  xo_cl 2 o4 (fun n9 => fc_J_holds n9 (6 : Int32) x1 r2.2) fun r5 =>
  if r5.1 = 0 then (xo_gp 0 1 r5.2 (some t) fun o6 =>
  xo_cl 2 o6 (fun n8 => fc_J_add n8 (6 : Int32) x1 (0 : Int32) r5.2) fun H7 =>
  fb_K_awaitPumps_2 fu t (x1 + (1 : Int32)) H7)
  else (fb_K_awaitPumps_2 fu t (x1 + (1 : Int32)) r5.2))
  else (fb_K_awaitPumps_2 fu t (x1 + (1 : Int32)) r2.2)))
  else (some H)

def fc_K_awaitPumps (t : xo_N) (H : xo_H) : Option (xo_H) :=
  fb_K_awaitPumps_2 1000 t (0 : Int32) H

set_option maxRecDepth 100000 in
set_option maxHeartbeats 4000000 in
theorem kb_K_awaitPumps_2 : ∀ (fu : Nat) (t : xo_N) (x1 : Int32) (H : xo_H) (r : xo_H), xo_X mt_K_awaitPumps 0 0 xo_jv r 2 [(0, .inr (some t)), (1, .inl x1)] [] H (fb_K_awaitPumps_2 fu t x1 H) := by
  intro fu
  induction fu with
  | zero => intros; exact xo_no
  | succ fu ih =>
    intro t x1 H r
    rw [fb_K_awaitPumps_2]
    refine xo_iload_n (pc' := 3) dd_K_awaitPumps_2 rfl 1 rfl rfl ?_
    refine xo_aload_n (pc' := 4) dd_K_awaitPumps_3 rfl 0 rfl rfl ?_
    refine xo_getI (pc' := 7) dd_K_awaitPumps_4 ff_K_180 (by decide) rfl fun v1 => ?_
    refine xo_icmp_ge (pc' := 10) (tgt := 57) dd_K_awaitPumps_7 rfl rfl ?_ ?_
    · exact xo_vret dd_K_awaitPumps_57 rfl
    · refine xo_aload_n (pc' := 11) dd_K_awaitPumps_10 rfl 0 rfl rfl ?_
      refine xo_iload_n (pc' := 12) dd_K_awaitPumps_11 rfl 1 rfl rfl ?_
      refine xo_callVp (as := [.inl x1]) (o := (some t)) (st := []) (pc' := 15) dd_K_awaitPumps_12 cv_K_pipeAt ml_K_300 rfl rfl ⟨by decide, by decide⟩ rfl rfl rfl (Nat.le_of_ble_eq_true rfl) rfl (fun n q h => kc_K_pipeAt n x1 H q h) fun r2 => ?_
      refine xo_astore_n (pc' := 16) dd_K_awaitPumps_15 rfl (by decide) rfl rfl ?_
      refine xo_aload_n (pc' := 17) dd_K_awaitPumps_16 rfl 0 rfl rfl ?_
      refine xo_ifnull (pc' := 20) (tgt := 51) dd_K_awaitPumps_17 rfl rfl ?_ ?_
      · refine xo_iinc (pc' := 54) dd_K_awaitPumps_51 2 rfl (xo_ii (m := (1 : Int32)) (by decide)) (by decide) rfl rfl ?_
        refine xo_goto (pc' := 2) dd_K_awaitPumps_54 rfl ?_
        refine xo_sub [2, 0] rfl ?_
        exact ih t (x1 + (1 : Int32)) r2.2 r
      · refine xo_aload_n (pc' := 21) dd_K_awaitPumps_20 rfl 0 rfl rfl ?_
        refine xo_getI (pc' := 24) dd_K_awaitPumps_21 ff_K_304 (by decide) rfl fun v3 => ?_
        refine xo_if_ne (pc' := 27) (tgt := 51) dd_K_awaitPumps_24 rfl rfl ?_ ?_
        · refine xo_iinc (pc' := 54) dd_K_awaitPumps_51 2 rfl (xo_ii (m := (1 : Int32)) (by decide)) (by decide) rfl rfl ?_
          refine xo_goto (pc' := 2) dd_K_awaitPumps_54 rfl ?_
          refine xo_sub [2, 0] rfl ?_
          exact ih t (x1 + (1 : Int32)) r2.2 r
        · refine xo_aload_n (pc' := 28) dd_K_awaitPumps_27 rfl 1 rfl rfl ?_
          refine xo_getP (pc' := 31) dd_K_awaitPumps_28 ff_K_19 (by decide) rfl fun o4 => ?_
          refine xo_bipush (pc' := 33) (v := (6 : Int32)) dd_K_awaitPumps_31 (by decide) rfl ?_
          refine xo_iload_n (pc' := 34) dd_K_awaitPumps_33 rfl 2 rfl rfl ?_
          refine xo_callVi (as := [.inl (6 : Int32), .inl x1]) (o := o4) (st := []) (pc' := 37) dd_K_awaitPumps_34 cv_J_holds ml_K_122 rfl rfl ⟨by decide, by decide⟩ rfl rfl rfl (Nat.le_of_ble_eq_true rfl) rfl (fun n q h => kc_J_holds n (6 : Int32) x1 r2.2 q h) fun r5 => ?_
          refine xo_if_ne (pc' := 40) (tgt := 51) dd_K_awaitPumps_37 rfl rfl ?_ ?_
          · refine xo_iinc (pc' := 54) dd_K_awaitPumps_51 2 rfl (xo_ii (m := (1 : Int32)) (by decide)) (by decide) rfl rfl ?_
            refine xo_goto (pc' := 2) dd_K_awaitPumps_54 rfl ?_
            refine xo_sub [2, 0] rfl ?_
            exact ih t (x1 + (1 : Int32)) r5.2 r
          · refine xo_aload_n (pc' := 41) dd_K_awaitPumps_40 rfl 1 rfl rfl ?_
            refine xo_getP (pc' := 44) dd_K_awaitPumps_41 ff_K_19 (by decide) rfl fun o6 => ?_
            refine xo_bipush (pc' := 46) (v := (6 : Int32)) dd_K_awaitPumps_44 (by decide) rfl ?_
            refine xo_iload_n (pc' := 47) dd_K_awaitPumps_46 rfl 2 rfl rfl ?_
            refine xo_iconst (pc' := 48) (v := (0 : Int32)) dd_K_awaitPumps_47 (by decide) rfl ?_
            refine xo_callVv (as := [.inl (6 : Int32), .inl x1, .inl (0 : Int32)]) (o := o6) (st := []) (pc' := 51) dd_K_awaitPumps_48 cv_J_add ml_K_129 rfl rfl ⟨by decide, by decide⟩ rfl rfl rfl (Nat.le_of_ble_eq_true rfl) rfl (fun n q h => kc_J_add n (6 : Int32) x1 (0 : Int32) r5.2 q h) fun H7 => ?_
            refine xo_iinc (pc' := 54) dd_K_awaitPumps_51 2 rfl (xo_ii (m := (1 : Int32)) (by decide)) (by decide) rfl rfl ?_
            refine xo_goto (pc' := 2) dd_K_awaitPumps_54 rfl ?_
            refine xo_sub [2, 0] rfl ?_
            exact ih t (x1 + (1 : Int32)) H7 r
set_option maxRecDepth 100000 in
set_option maxHeartbeats 4000000 in
theorem kb_K_awaitPumps (t : xo_N) (H : xo_H) (r : xo_H) : xo_X mt_K_awaitPumps 0 0 xo_jv r 0 [(0, .inr (some t))] [] H (fc_K_awaitPumps t H) := by
  unfold fc_K_awaitPumps
  refine xo_iconst (pc' := 1) (v := (0 : Int32)) dd_K_awaitPumps_0 (by decide) rfl ?_
  refine xo_istore_n (pc' := 2) dd_K_awaitPumps_1 rfl (by decide) rfl rfl ?_
  refine xo_sub [1, 0] rfl ?_
  exact kb_K_awaitPumps_2 1000 t (0 : Int32) H r
set_option maxRecDepth 100000 in
set_option maxHeartbeats 4000000 in
theorem kc_K_awaitPumps (t : xo_N) (H : xo_H) (r : xo_H) (hk : fc_K_awaitPumps t H = some r) : xo_M mt_K_awaitPumps [.inr (some t)] H (xo_jv r) :=
  xo_entry hk (by decide +kernel) (Nat.le_of_ble_eq_true rfl) (kb_K_awaitPumps t H r)
def fc_K_giver (t : xo_N) (x1 : Int32) (x2 : Int32) (H : xo_H) : Option (Int32 × xo_H) :=
  (fc_K_isMark x1 H).bind fun r1 =>
  if r1.1 = 0 then (some ((-1 : Int32), r1.2))
  else (xo_gf 0 5 r1.2 (some t) fun v2 =>
  if v2 < (6 : Int32) then (xo_cl 0 (some t) (fun n9 => fc_K_addGiver n9 x1 x2 r1.2) fun r3 =>
  xo_cl 0 (some t) (fun n8 => fc_K_pullIfNeeded n8 r3.1 r3.2) fun H4 =>
  xo_cl 0 (some t) (fun n7 => fc_K_awaitPumps n7 H4) fun H5 =>
  xo_gf 5 0 H5 r3.1 fun v6 =>
  some (v6, H5))
  else (some ((-2 : Int32), r1.2)))

set_option maxRecDepth 100000 in
set_option maxHeartbeats 4000000 in
theorem kb_K_giver (t : xo_N) (x1 : Int32) (x2 : Int32) (H : xo_H) (r : Int32 × xo_H) : xo_X mt_K_giver 6 56 xo_ji r 0 [(0, .inr (some t)), (1, .inl x1), (2, .inl x2)] [] H (fc_K_giver t x1 x2 H) := by
  unfold fc_K_giver
  refine xo_iload_n (pc' := 1) dd_K_giver_0 rfl 1 rfl rfl ?_
  refine xo_callSi (as := [.inl x1]) (st := []) (pc' := 4) dd_K_giver_1 cv_K_isMark ml_K_41 rfl ⟨by decide, by decide⟩ rfl rfl rfl (Nat.le_of_ble_eq_true rfl) rfl (fun q h => kc_K_isMark x1 H q h) fun r1 => ?_
  refine xo_if_ne (pc' := 7) (tgt := 9) dd_K_giver_4 rfl rfl ?_ ?_
  · refine xo_aload_n (pc' := 10) dd_K_giver_9 rfl 0 rfl rfl ?_
    refine xo_getI (pc' := 13) dd_K_giver_10 ff_K_45 (by decide) rfl fun v2 => ?_
    refine xo_bipush (pc' := 15) (v := (6 : Int32)) dd_K_giver_13 (by decide) rfl ?_
    refine xo_icmp_lt (pc' := 18) (tgt := 21) dd_K_giver_15 rfl rfl ?_ ?_
    · refine xo_aload_n (pc' := 22) dd_K_giver_21 rfl 0 rfl rfl ?_
      refine xo_iload_n (pc' := 23) dd_K_giver_22 rfl 1 rfl rfl ?_
      refine xo_iload_n (pc' := 24) dd_K_giver_23 rfl 2 rfl rfl ?_
      refine xo_callVp (as := [.inl x1, .inl x2]) (o := (some t)) (st := []) (pc' := 27) dd_K_giver_24 cv_K_addGiver ml_K_49 rfl rfl ⟨by decide, by decide⟩ rfl rfl rfl (Nat.le_of_ble_eq_true rfl) rfl (fun n q h => kc_K_addGiver n x1 x2 r1.2 q h) fun r3 => ?_
      refine xo_astore_n (pc' := 28) dd_K_giver_27 rfl (by decide) rfl rfl ?_
      refine xo_aload_n (pc' := 29) dd_K_giver_28 rfl 1 rfl rfl ?_
      refine xo_aload_n (pc' := 30) dd_K_giver_29 rfl 0 rfl rfl ?_
      refine xo_callVv (as := [.inr r3.1]) (o := (some t)) (st := []) (pc' := 33) dd_K_giver_30 cv_K_pullIfNeeded ml_K_53 rfl rfl ⟨by decide, by decide⟩ rfl rfl rfl (Nat.le_of_ble_eq_true rfl) rfl (fun n q h => kc_K_pullIfNeeded n r3.1 r3.2 q h) fun H4 => ?_
      refine xo_aload_n (pc' := 34) dd_K_giver_33 rfl 1 rfl rfl ?_
      refine xo_callVv (as := []) (o := (some t)) (st := []) (pc' := 37) dd_K_giver_34 cv_K_awaitPumps ml_K_57 rfl rfl ⟨by decide, by decide⟩ rfl rfl rfl (Nat.le_of_ble_eq_true rfl) rfl (fun n q h => kc_K_awaitPumps n H4 q h) fun H5 => ?_
      refine xo_aload_n (pc' := 38) dd_K_giver_37 rfl 0 rfl rfl ?_
      refine xo_getI (pc' := 41) dd_K_giver_38 ff_K_60 (by decide) rfl fun v6 => ?_
      exact xo_iret dd_K_giver_41 rfl
    · refine xo_bipush (pc' := 20) (v := (-2 : Int32)) dd_K_giver_18 (by decide) rfl ?_
      exact xo_iret dd_K_giver_20 rfl
  · refine xo_iconst (pc' := 8) (v := (-1 : Int32)) dd_K_giver_7 (by decide) rfl ?_
    exact xo_iret dd_K_giver_8 rfl
set_option maxRecDepth 100000 in
set_option maxHeartbeats 4000000 in
theorem kc_K_giver (t : xo_N) (x1 : Int32) (x2 : Int32) (H : xo_H) (r : Int32 × xo_H) (hk : fc_K_giver t x1 x2 H = some r) : xo_M mt_K_giver [.inr (some t), .inl x1, .inl x2] H (xo_ji r) :=
  xo_entry hk (by decide +kernel) (Nat.le_of_ble_eq_true rfl) (kb_K_giver t x1 x2 H r)
def fc_K_taker (t : xo_N) (x1 : Int32) (x2 : Int32) (H : xo_H) : Option (Int32 × xo_H) :=
  (fc_K_isMark x1 H).bind fun r1 =>
  if r1.1 = 0 then (some ((-1 : Int32), r1.2))
  else (xo_gf 0 6 r1.2 (some t) fun v2 =>
  if v2 < (2 : Int32) then (xo_nw 7 r1.2 (30, (r1.2.1 t 6).toNatClampNeg) fun H3 =>
  xo_gf 0 6 H3 (some t) fun v5 =>
  xo_nw 4 H3 (31, (H3.1 t 6).toNatClampNeg) fun H6 =>
  (fc_C_init (31, (H3.1 t 6).toNatClampNeg) x1 x2 H6).bind fun H8 =>
  xo_gp 0 0 H8 (some t) fun o9 =>
  (fc_T_init (30, (r1.2.1 t 6).toNatClampNeg) v5 (some (31, (H3.1 t 6).toNatClampNeg)) o9 H8).bind fun H10 =>
  xo_gp 0 3 H10 (some t) fun o11 =>
  xo_gf 0 6 H10 (some t) fun v12 =>
  xo_aq 3 7 H10 o11 v12 (some (30, (r1.2.1 t 6).toNatClampNeg)) fun H13 =>
  xo_gf 0 6 H13 (some t) fun v14 =>
  xo_pf 0 6 H13 (some t) (v14 + (1 : Int32)) fun H15 =>
  xo_cl 0 (some t) (fun n18 => fc_K_awaitPumps n18 H15) fun H16 =>
  xo_gf 7 0 H16 (some (30, (r1.2.1 t 6).toNatClampNeg)) fun v17 =>
  some (v17, H16))
  else (some ((-2 : Int32), r1.2)))

set_option maxRecDepth 100000 in
set_option maxHeartbeats 4000000 in
theorem kb_K_taker (t : xo_N) (x1 : Int32) (x2 : Int32) (H : xo_H) (r : Int32 × xo_H) : xo_X mt_K_taker 6 55 xo_ji r 0 [(0, .inr (some t)), (1, .inl x1), (2, .inl x2)] [] H (fc_K_taker t x1 x2 H) := by
  unfold fc_K_taker
  refine xo_iload_n (pc' := 1) dd_K_taker_0 rfl 1 rfl rfl ?_
  refine xo_callSi (as := [.inl x1]) (st := []) (pc' := 4) dd_K_taker_1 cv_K_isMark ml_K_41 rfl ⟨by decide, by decide⟩ rfl rfl rfl (Nat.le_of_ble_eq_true rfl) rfl (fun q h => kc_K_isMark x1 H q h) fun r1 => ?_
  refine xo_if_ne (pc' := 7) (tgt := 9) dd_K_taker_4 rfl rfl ?_ ?_
  · refine xo_aload_n (pc' := 10) dd_K_taker_9 rfl 0 rfl rfl ?_
    refine xo_getI (pc' := 13) dd_K_taker_10 ff_K_63 (by decide) rfl fun v2 => ?_
    refine xo_iconst (pc' := 14) (v := (2 : Int32)) dd_K_taker_13 (by decide) rfl ?_
    refine xo_icmp_lt (pc' := 17) (tgt := 20) dd_K_taker_14 rfl rfl ?_ ?_
    · refine xo_new (pc' := 23) dd_K_taker_20 co_K_29 rfl rfl rfl fun H3 => ?_
      refine xo_dup (pc' := 24) dd_K_taker_23 rfl ?_
      refine xo_aload_n (pc' := 25) dd_K_taker_24 rfl 0 rfl rfl ?_
      refine xo_getI (pc' := 28) dd_K_taker_25 ff_K_63 (by decide) rfl fun v5 => ?_
      refine xo_new (pc' := 31) dd_K_taker_28 co_K_66 rfl rfl rfl fun H6 => ?_
      refine xo_dup (pc' := 32) dd_K_taker_31 rfl ?_
      refine xo_iload_n (pc' := 33) dd_K_taker_32 rfl 1 rfl rfl ?_
      refine xo_iload_n (pc' := 34) dd_K_taker_33 rfl 2 rfl rfl ?_
      refine xo_callIv (as := [.inl x1, .inl x2]) (n := (31, (H3.1 t 6).toNatClampNeg)) (st := [.inr (some (31, (H3.1 t 6).toNatClampNeg)), .inl v5, .inr (some (30, (r1.2.1 t 6).toNatClampNeg)), .inr (some (30, (r1.2.1 t 6).toNatClampNeg))]) (pc' := 37) dd_K_taker_34 cv_C_init ml_K_68 rfl ⟨by decide, by decide⟩ rfl rfl rfl (Nat.le_of_ble_eq_true rfl) rfl (fun q h => kc_C_init (31, (H3.1 t 6).toNatClampNeg) x1 x2 H6 q h) fun H8 => ?_
      refine xo_aload_n (pc' := 38) dd_K_taker_37 rfl 0 rfl rfl ?_
      refine xo_getP (pc' := 41) dd_K_taker_38 ff_K_12 (by decide) rfl fun o9 => ?_
      refine xo_callIv (as := [.inl v5, .inr (some (31, (H3.1 t 6).toNatClampNeg)), .inr o9]) (n := (30, (r1.2.1 t 6).toNatClampNeg)) (st := [.inr (some (30, (r1.2.1 t 6).toNatClampNeg))]) (pc' := 44) dd_K_taker_41 cv_T_init ml_K_71 rfl ⟨by decide, by decide⟩ rfl rfl rfl (Nat.le_of_ble_eq_true rfl) rfl (fun q h => kc_T_init (30, (r1.2.1 t 6).toNatClampNeg) v5 (some (31, (H3.1 t 6).toNatClampNeg)) o9 H8 q h) fun H10 => ?_
      refine xo_astore_n (pc' := 45) dd_K_taker_44 rfl (by decide) rfl rfl ?_
      refine xo_aload_n (pc' := 46) dd_K_taker_45 rfl 1 rfl rfl ?_
      refine xo_getP (pc' := 49) dd_K_taker_46 ff_K_31 (by decide) rfl fun o11 => ?_
      refine xo_aload_n (pc' := 50) dd_K_taker_49 rfl 1 rfl rfl ?_
      refine xo_getI (pc' := 53) dd_K_taker_50 ff_K_63 (by decide) rfl fun v12 => ?_
      refine xo_aload_n (pc' := 54) dd_K_taker_53 rfl 0 rfl rfl ?_
      refine xo_aast (pc' := 55) dd_K_taker_54 (by decide) rfl rfl rfl fun H13 => ?_
      refine xo_aload_n (pc' := 56) dd_K_taker_55 rfl 1 rfl rfl ?_
      refine xo_dup (pc' := 57) dd_K_taker_56 rfl ?_
      refine xo_getI (pc' := 60) dd_K_taker_57 ff_K_63 (by decide) rfl fun v14 => ?_
      refine xo_iconst (pc' := 61) (v := (1 : Int32)) dd_K_taker_60 (by decide) rfl ?_
      refine xo_iadd (pc' := 62) dd_K_taker_61 rfl ?_
      refine xo_putI (pc' := 65) dd_K_taker_62 ff_K_63 rfl fun H15 => ?_
      refine xo_aload_n (pc' := 66) dd_K_taker_65 rfl 1 rfl rfl ?_
      refine xo_callVv (as := []) (o := (some t)) (st := []) (pc' := 69) dd_K_taker_66 cv_K_awaitPumps ml_K_57 rfl rfl ⟨by decide, by decide⟩ rfl rfl rfl (Nat.le_of_ble_eq_true rfl) rfl (fun n q h => kc_K_awaitPumps n H15 q h) fun H16 => ?_
      refine xo_aload_n (pc' := 70) dd_K_taker_69 rfl 0 rfl rfl ?_
      refine xo_getI (pc' := 73) dd_K_taker_70 ff_K_74 (by decide) rfl fun v17 => ?_
      exact xo_iret dd_K_taker_73 rfl
    · refine xo_bipush (pc' := 19) (v := (-2 : Int32)) dd_K_taker_17 (by decide) rfl ?_
      exact xo_iret dd_K_taker_19 rfl
  · refine xo_iconst (pc' := 8) (v := (-1 : Int32)) dd_K_taker_7 (by decide) rfl ?_
    exact xo_iret dd_K_taker_8 rfl
set_option maxRecDepth 100000 in
set_option maxHeartbeats 4000000 in
theorem kc_K_taker (t : xo_N) (x1 : Int32) (x2 : Int32) (H : xo_H) (r : Int32 × xo_H) (hk : fc_K_taker t x1 x2 H = some r) : xo_M mt_K_taker [.inr (some t), .inl x1, .inl x2] H (xo_ji r) :=
  xo_entry hk (by decide +kernel) (Nat.le_of_ble_eq_true rfl) (kb_K_taker t x1 x2 H r)
def fc_K_giverAt (t : xo_N) (x1 : Int32) (H : xo_H) : Option (Option xo_N × xo_H) :=
  if x1 < 0 then (some (none, H))
  else (xo_gf 0 5 H (some t) fun v1 =>
  if x1 < v1 then (xo_gp 0 2 H (some t) fun o2 =>
  xo_ap 2 H o2 x1 fun o3 =>
  some (o3, H))
  else (some (none, H)))

set_option maxRecDepth 100000 in
set_option maxHeartbeats 4000000 in
theorem kb_K_giverAt (t : xo_N) (x1 : Int32) (H : xo_H) (r : Option xo_N × xo_H) : xo_X mt_K_giverAt 0 0 xo_jp r 0 [(0, .inr (some t)), (1, .inl x1)] [] H (fc_K_giverAt t x1 H) := by
  unfold fc_K_giverAt
  refine xo_iload_n (pc' := 1) dd_K_giverAt_0 rfl 1 rfl rfl ?_
  refine xo_if_lt (pc' := 4) (tgt := 21) dd_K_giverAt_1 rfl rfl ?_ ?_
  · refine xo_null (pc' := 22) dd_K_giverAt_21 rfl ?_
    exact xo_aret dd_K_giverAt_22 rfl
  · refine xo_iload_n (pc' := 5) dd_K_giverAt_4 rfl 1 rfl rfl ?_
    refine xo_aload_n (pc' := 6) dd_K_giverAt_5 rfl 0 rfl rfl ?_
    refine xo_getI (pc' := 9) dd_K_giverAt_6 ff_K_45 (by decide) rfl fun v1 => ?_
    refine xo_icmp_ge (pc' := 12) (tgt := 21) dd_K_giverAt_9 rfl rfl ?_ ?_
    · refine xo_null (pc' := 22) dd_K_giverAt_21 rfl ?_
      exact xo_aret dd_K_giverAt_22 rfl
    · refine xo_aload_n (pc' := 13) dd_K_giverAt_12 rfl 0 rfl rfl ?_
      refine xo_getP (pc' := 16) dd_K_giverAt_13 ff_K_25 (by decide) rfl fun o2 => ?_
      refine xo_iload_n (pc' := 17) dd_K_giverAt_16 rfl 1 rfl rfl ?_
      refine xo_aald (pc' := 18) dd_K_giverAt_17 (by decide) rfl fun o3 => ?_
      refine xo_goto (pc' := 22) dd_K_giverAt_18 rfl ?_
      exact xo_aret dd_K_giverAt_22 rfl
set_option maxRecDepth 100000 in
set_option maxHeartbeats 4000000 in
theorem kc_K_giverAt (t : xo_N) (x1 : Int32) (H : xo_H) (r : Option xo_N × xo_H) (hk : fc_K_giverAt t x1 H = some r) : xo_M mt_K_giverAt [.inr (some t), .inl x1] H (xo_jp r) :=
  xo_entry hk (by decide +kernel) (Nat.le_of_ble_eq_true rfl) (kb_K_giverAt t x1 H r)
def fc_K_rootAt (t : xo_N) (x1 : Int32) (H : xo_H) : Option (Option xo_N × xo_H) :=
  xo_cl 0 (some t) (fun n3 => fc_K_giverAt n3 x1 H) fun r1 =>
  if r1.1 = none then (some (none, r1.2))
  else (xo_gp 5 11 r1.2 r1.1 fun o2 =>
  if o2 = none then (some (r1.1, r1.2))
  else (some (none, r1.2)))

set_option maxRecDepth 100000 in
set_option maxHeartbeats 4000000 in
theorem kb_K_rootAt (t : xo_N) (x1 : Int32) (H : xo_H) (r : Option xo_N × xo_H) : xo_X mt_K_rootAt 0 0 xo_jp r 0 [(0, .inr (some t)), (1, .inl x1)] [] H (fc_K_rootAt t x1 H) := by
  unfold fc_K_rootAt
  refine xo_aload_n (pc' := 1) dd_K_rootAt_0 rfl 0 rfl rfl ?_
  refine xo_iload_n (pc' := 2) dd_K_rootAt_1 rfl 1 rfl rfl ?_
  refine xo_callVp (as := [.inl x1]) (o := (some t)) (st := []) (pc' := 5) dd_K_rootAt_2 cv_K_giverAt ml_K_133 rfl rfl ⟨by decide, by decide⟩ rfl rfl rfl (Nat.le_of_ble_eq_true rfl) rfl (fun n q h => kc_K_giverAt n x1 H q h) fun r1 => ?_
  refine xo_astore_n (pc' := 6) dd_K_rootAt_5 rfl (by decide) rfl rfl ?_
  refine xo_aload_n (pc' := 7) dd_K_rootAt_6 rfl 0 rfl rfl ?_
  refine xo_ifnull (pc' := 10) (tgt := 21) dd_K_rootAt_7 rfl rfl ?_ ?_
  · refine xo_null (pc' := 22) dd_K_rootAt_21 rfl ?_
    exact xo_aret dd_K_rootAt_22 rfl
  · refine xo_aload_n (pc' := 11) dd_K_rootAt_10 rfl 0 rfl rfl ?_
    refine xo_getP (pc' := 14) dd_K_rootAt_11 ff_K_191 (by decide) rfl fun o2 => ?_
    refine xo_ifnonnull (pc' := 17) (tgt := 21) dd_K_rootAt_14 rfl rfl ?_ ?_
    · refine xo_null (pc' := 22) dd_K_rootAt_21 rfl ?_
      exact xo_aret dd_K_rootAt_22 rfl
    · refine xo_aload_n (pc' := 18) dd_K_rootAt_17 rfl 0 rfl rfl ?_
      refine xo_goto (pc' := 22) dd_K_rootAt_18 rfl ?_
      exact xo_aret dd_K_rootAt_22 rfl
set_option maxRecDepth 100000 in
set_option maxHeartbeats 4000000 in
theorem kc_K_rootAt (t : xo_N) (x1 : Int32) (H : xo_H) (r : Option xo_N × xo_H) (hk : fc_K_rootAt t x1 H = some r) : xo_M mt_K_rootAt [.inr (some t), .inl x1] H (xo_jp r) :=
  xo_entry hk (by decide +kernel) (Nat.le_of_ble_eq_true rfl) (kb_K_rootAt t x1 H r)
def fc_K_answerChunk (t : xo_N) (x1 : Option xo_N) (x2 : Int32) (x3 : Int32) (H : xo_H) : Option (xo_H) :=
  if x2 = 0 then (xo_gp 5 12 H x1 fun o1 =>
  if o1 = none then (xo_gp 5 13 H x1 fun o2 =>
  if o2 = none then (some H)
  else (xo_gp 5 13 H x1 fun o3 =>
  xo_gp 8 2 H o3 fun o4 =>
  xo_cl 7 o4 (fun n6 => fc_T_accept n6 x3 H) fun r5 =>
  some r5.2))
  else (xo_gp 0 1 H (some t) fun o7 =>
  xo_gf 5 0 H x1 fun v8 =>
  xo_cl 2 o7 (fun n10 => fc_J_add n10 (2 : Int32) v8 x3 H) fun H9 =>
  some H9))
  else (xo_gp 0 0 H (some t) fun o11 =>
  xo_gf 5 0 H x1 fun v12 =>
  xo_cl 1 o11 (fun n14 => fc_L_note n14 (6 : Int32) v12 x2 x3 H) fun H13 =>
  some H13)

set_option maxRecDepth 100000 in
set_option maxHeartbeats 4000000 in
theorem kb_K_answerChunk (t : xo_N) (x1 : Option xo_N) (x2 : Int32) (x3 : Int32) (H : xo_H) (r : xo_H) : xo_X mt_K_answerChunk 0 0 xo_jv r 0 [(0, .inr (some t)), (1, .inr x1), (2, .inl x2), (3, .inl x3)] [] H (fc_K_answerChunk t x1 x2 x3 H) := by
  unfold fc_K_answerChunk
  refine xo_iload_n (pc' := 1) dd_K_answerChunk_0 rfl 2 rfl rfl ?_
  refine xo_if_eq (pc' := 4) (tgt := 22) dd_K_answerChunk_1 rfl rfl ?_ ?_
  · refine xo_aload_n (pc' := 23) dd_K_answerChunk_22 rfl 1 rfl rfl ?_
    refine xo_getP (pc' := 26) dd_K_answerChunk_23 ff_K_200 (by decide) rfl fun o1 => ?_
    refine xo_ifnull (pc' := 29) (tgt := 45) dd_K_answerChunk_26 rfl rfl ?_ ?_
    · refine xo_aload_n (pc' := 46) dd_K_answerChunk_45 rfl 1 rfl rfl ?_
      refine xo_getP (pc' := 49) dd_K_answerChunk_46 ff_K_186 (by decide) rfl fun o2 => ?_
      refine xo_ifnull (pc' := 52) (tgt := 64) dd_K_answerChunk_49 rfl rfl ?_ ?_
      · exact xo_vret dd_K_answerChunk_64 rfl
      · refine xo_aload_n (pc' := 53) dd_K_answerChunk_52 rfl 1 rfl rfl ?_
        refine xo_getP (pc' := 56) dd_K_answerChunk_53 ff_K_186 (by decide) rfl fun o3 => ?_
        refine xo_getP (pc' := 59) dd_K_answerChunk_56 ff_K_258 (by decide) rfl fun o4 => ?_
        refine xo_iload_n (pc' := 60) dd_K_answerChunk_59 rfl 3 rfl rfl ?_
        refine xo_callVi (as := [.inl x3]) (o := o4) (st := []) (pc' := 63) dd_K_answerChunk_60 cv_T_accept ml_K_156 rfl rfl ⟨by decide, by decide⟩ rfl rfl rfl (Nat.le_of_ble_eq_true rfl) rfl (fun n q h => kc_T_accept n x3 H q h) fun r5 => ?_
        refine xo_pop (pc' := 64) dd_K_answerChunk_63 rfl ?_
        exact xo_vret dd_K_answerChunk_64 rfl
    · refine xo_aload_n (pc' := 30) dd_K_answerChunk_29 rfl 0 rfl rfl ?_
      refine xo_getP (pc' := 33) dd_K_answerChunk_30 ff_K_19 (by decide) rfl fun o7 => ?_
      refine xo_iconst (pc' := 34) (v := (2 : Int32)) dd_K_answerChunk_33 (by decide) rfl ?_
      refine xo_aload_n (pc' := 35) dd_K_answerChunk_34 rfl 1 rfl rfl ?_
      refine xo_getI (pc' := 38) dd_K_answerChunk_35 ff_K_60 (by decide) rfl fun v8 => ?_
      refine xo_iload_n (pc' := 39) dd_K_answerChunk_38 rfl 3 rfl rfl ?_
      refine xo_callVv (as := [.inl (2 : Int32), .inl v8, .inl x3]) (o := o7) (st := []) (pc' := 42) dd_K_answerChunk_39 cv_J_add ml_K_129 rfl rfl ⟨by decide, by decide⟩ rfl rfl rfl (Nat.le_of_ble_eq_true rfl) rfl (fun n q h => kc_J_add n (2 : Int32) v8 x3 H q h) fun H9 => ?_
      refine xo_goto (pc' := 64) dd_K_answerChunk_42 rfl ?_
      exact xo_vret dd_K_answerChunk_64 rfl
  · refine xo_aload_n (pc' := 5) dd_K_answerChunk_4 rfl 0 rfl rfl ?_
    refine xo_getP (pc' := 8) dd_K_answerChunk_5 ff_K_12 (by decide) rfl fun o11 => ?_
    refine xo_bipush (pc' := 10) (v := (6 : Int32)) dd_K_answerChunk_8 (by decide) rfl ?_
    refine xo_aload_n (pc' := 11) dd_K_answerChunk_10 rfl 1 rfl rfl ?_
    refine xo_getI (pc' := 14) dd_K_answerChunk_11 ff_K_60 (by decide) rfl fun v12 => ?_
    refine xo_iload_n (pc' := 15) dd_K_answerChunk_14 rfl 2 rfl rfl ?_
    refine xo_iload_n (pc' := 16) dd_K_answerChunk_15 rfl 3 rfl rfl ?_
    refine xo_callVv (as := [.inl (6 : Int32), .inl v12, .inl x2, .inl x3]) (o := o11) (st := []) (pc' := 19) dd_K_answerChunk_16 cv_L_note ml_K_254 rfl rfl ⟨by decide, by decide⟩ rfl rfl rfl (Nat.le_of_ble_eq_true rfl) rfl (fun n q h => kc_L_note n (6 : Int32) v12 x2 x3 H q h) fun H13 => ?_
    refine xo_goto (pc' := 64) dd_K_answerChunk_19 rfl ?_
    exact xo_vret dd_K_answerChunk_64 rfl
set_option maxRecDepth 100000 in
set_option maxHeartbeats 4000000 in
theorem kc_K_answerChunk (t : xo_N) (x1 : Option xo_N) (x2 : Int32) (x3 : Int32) (H : xo_H) (r : xo_H) (hk : fc_K_answerChunk t x1 x2 x3 H = some r) : xo_M mt_K_answerChunk [.inr (some t), .inr x1, .inl x2, .inl x3] H (xo_jv r) :=
  xo_entry hk (by decide +kernel) (Nat.le_of_ble_eq_true rfl) (kb_K_answerChunk t x1 x2 x3 H r)
def fb_K_takeIn_34 (t : xo_N) (x1 : Option xo_N) (H : xo_H) : Option (xo_H) :=
  xo_cl 0 (some t) (fun n2 => fc_K_pullIfNeeded n2 x1 H) fun H1 =>
  some H1

def fc_K_takeIn (t : xo_N) (x1 : Option xo_N) (x2 : Int32) (H : xo_H) : Option (xo_H) :=
  xo_gp 5 3 H x1 fun o1 =>
  xo_gf 3 2 H o1 fun v2 =>
  if 0 < v2 then (xo_gp 5 3 H x1 fun o6 =>
  xo_cl 3 o6 (fun n10 => fc_R_takeFirst n10 H) fun r7 =>
  xo_cl 0 (some t) (fun n9 => fc_K_answerChunk n9 x1 r7.1 x2 r7.2) fun H8 =>
  fb_K_takeIn_34 t x1 H8)
  else (xo_gp 5 1 H x1 fun o3 =>
  xo_cl 4 o3 (fun n5 => fc_C_add n5 x2 H) fun H4 =>
  fb_K_takeIn_34 t x1 H4)

set_option maxRecDepth 100000 in
set_option maxHeartbeats 4000000 in
theorem kb_K_takeIn_34 (t : xo_N) (x1 : Option xo_N) (H : xo_H) (r : xo_H) : xo_X mt_K_takeIn 0 0 xo_jv r 34 [(0, .inr (some t)), (1, .inr x1)] [] H (fb_K_takeIn_34 t x1 H) := by
  unfold fb_K_takeIn_34
  refine xo_aload_n (pc' := 35) dd_K_takeIn_34 rfl 0 rfl rfl ?_
  refine xo_aload_n (pc' := 36) dd_K_takeIn_35 rfl 1 rfl rfl ?_
  refine xo_callVv (as := [.inr x1]) (o := (some t)) (st := []) (pc' := 39) dd_K_takeIn_36 cv_K_pullIfNeeded ml_K_53 rfl rfl ⟨by decide, by decide⟩ rfl rfl rfl (Nat.le_of_ble_eq_true rfl) rfl (fun n q h => kc_K_pullIfNeeded n x1 H q h) fun H1 => ?_
  exact xo_vret dd_K_takeIn_39 rfl
set_option maxRecDepth 100000 in
set_option maxHeartbeats 4000000 in
theorem kb_K_takeIn (t : xo_N) (x1 : Option xo_N) (x2 : Int32) (H : xo_H) (r : xo_H) : xo_X mt_K_takeIn 0 0 xo_jv r 0 [(0, .inr (some t)), (1, .inr x1), (2, .inl x2)] [] H (fc_K_takeIn t x1 x2 H) := by
  unfold fc_K_takeIn
  refine xo_aload_n (pc' := 1) dd_K_takeIn_0 rfl 1 rfl rfl ?_
  refine xo_getP (pc' := 4) dd_K_takeIn_1 ff_K_91 (by decide) rfl fun o1 => ?_
  refine xo_getI (pc' := 7) dd_K_takeIn_4 ff_K_95 (by decide) rfl fun v2 => ?_
  refine xo_if_le (pc' := 10) (tgt := 26) dd_K_takeIn_7 rfl rfl ?_ ?_
  · refine xo_aload_n (pc' := 27) dd_K_takeIn_26 rfl 1 rfl rfl ?_
    refine xo_getP (pc' := 30) dd_K_takeIn_27 ff_K_83 (by decide) rfl fun o3 => ?_
    refine xo_iload_n (pc' := 31) dd_K_takeIn_30 rfl 2 rfl rfl ?_
    refine xo_callVv (as := [.inl x2]) (o := o3) (st := []) (pc' := 34) dd_K_takeIn_31 cv_C_add ml_K_252 rfl rfl ⟨by decide, by decide⟩ rfl rfl rfl (Nat.le_of_ble_eq_true rfl) rfl (fun n q h => kc_C_add n x2 H q h) fun H4 => ?_
    refine xo_sub [0, 1] rfl ?_
    exact kb_K_takeIn_34 t x1 H4 r
  · refine xo_aload_n (pc' := 11) dd_K_takeIn_10 rfl 0 rfl rfl ?_
    refine xo_aload_n (pc' := 12) dd_K_takeIn_11 rfl 1 rfl rfl ?_
    refine xo_aload_n (pc' := 13) dd_K_takeIn_12 rfl 1 rfl rfl ?_
    refine xo_getP (pc' := 16) dd_K_takeIn_13 ff_K_91 (by decide) rfl fun o6 => ?_
    refine xo_callVi (as := []) (o := o6) (st := [.inr x1, .inr (some t)]) (pc' := 19) dd_K_takeIn_16 cv_R_takeFirst ml_K_245 rfl rfl ⟨by decide, by decide⟩ rfl rfl rfl (Nat.le_of_ble_eq_true rfl) rfl (fun n q h => kc_R_takeFirst n H q h) fun r7 => ?_
    refine xo_iload_n (pc' := 20) dd_K_takeIn_19 rfl 2 rfl rfl ?_
    refine xo_callVv (as := [.inr x1, .inl r7.1, .inl x2]) (o := (some t)) (st := []) (pc' := 23) dd_K_takeIn_20 cv_K_answerChunk ml_K_248 rfl rfl ⟨by decide, by decide⟩ rfl rfl rfl (Nat.le_of_ble_eq_true rfl) rfl (fun n q h => kc_K_answerChunk n x1 r7.1 x2 r7.2 q h) fun H8 => ?_
    refine xo_goto (pc' := 34) dd_K_takeIn_23 rfl ?_
    refine xo_sub [0, 1] rfl ?_
    exact kb_K_takeIn_34 t x1 H8 r
set_option maxRecDepth 100000 in
set_option maxHeartbeats 4000000 in
theorem kc_K_takeIn (t : xo_N) (x1 : Option xo_N) (x2 : Int32) (H : xo_H) (r : xo_H) (hk : fc_K_takeIn t x1 x2 H = some r) : xo_M mt_K_takeIn [.inr (some t), .inr x1, .inl x2] H (xo_jv r) :=
  xo_entry hk (by decide +kernel) (Nat.le_of_ble_eq_true rfl) (kb_K_takeIn t x1 x2 H r)
def fb_K_put_43 (t : xo_N) (x2 : Int32) (x3 : Option xo_N) (H : xo_H) : Option (Int32 × xo_H) :=
  xo_cl 0 (some t) (fun n4 => fc_K_takeIn n4 x3 x2 H) fun H1 =>
  xo_cl 0 (some t) (fun n3 => fc_K_awaitPumps n3 H1) fun H2 =>
  xo_gb (1 : Int32) (some ((1 : Int32), H2))

def fc_K_put (t : xo_N) (x1 : Int32) (x2 : Int32) (H : xo_H) : Option (Int32 × xo_H) :=
  xo_cl 0 (some t) (fun n9 => fc_K_rootAt n9 x1 H) fun r1 =>
  if r1.1 = none then (xo_gb (0 : Int32) (some ((0 : Int32), r1.2)))
  else (xo_cl 5 r1.1 (fun n8 => fc_G_isGoing n8 r1.2) fun r2 =>
  if r2.1 = 0 then (xo_gb (0 : Int32) (some ((0 : Int32), r2.2)))
  else (xo_gp 5 1 r2.2 r1.1 fun o3 =>
  xo_cl 4 o3 (fun n7 => fc_C_count n7 r2.2) fun r4 =>
  if r4.1 < (16 : Int32) then (fb_K_put_43 t x2 r1.1 r4.2)
  else (xo_gp 5 3 r4.2 r1.1 fun o5 =>
  xo_gf 3 2 r4.2 o5 fun v6 =>
  if v6 = 0 then (xo_gb (0 : Int32) (some ((0 : Int32), r4.2)))
  else (fb_K_put_43 t x2 r1.1 r4.2))))

set_option maxRecDepth 100000 in
set_option maxHeartbeats 4000000 in
theorem kb_K_put_43 (t : xo_N) (x2 : Int32) (x3 : Option xo_N) (H : xo_H) (r : Int32 × xo_H) : xo_X mt_K_put 0 0 xo_ji r 43 [(0, .inr (some t)), (2, .inl x2), (3, .inr x3)] [] H (fb_K_put_43 t x2 x3 H) := by
  unfold fb_K_put_43
  refine xo_aload_n (pc' := 44) dd_K_put_43 rfl 0 rfl rfl ?_
  refine xo_aload_n (pc' := 45) dd_K_put_44 rfl 2 rfl rfl ?_
  refine xo_iload_n (pc' := 46) dd_K_put_45 rfl 1 rfl rfl ?_
  refine xo_callVv (as := [.inr x3, .inl x2]) (o := (some t)) (st := []) (pc' := 49) dd_K_put_46 cv_K_takeIn ml_K_99 rfl rfl ⟨by decide, by decide⟩ rfl rfl rfl (Nat.le_of_ble_eq_true rfl) rfl (fun n q h => kc_K_takeIn n x3 x2 H q h) fun H1 => ?_
  refine xo_aload_n (pc' := 50) dd_K_put_49 rfl 0 rfl rfl ?_
  refine xo_callVv (as := []) (o := (some t)) (st := []) (pc' := 53) dd_K_put_50 cv_K_awaitPumps ml_K_57 rfl rfl ⟨by decide, by decide⟩ rfl rfl rfl (Nat.le_of_ble_eq_true rfl) rfl (fun n q h => kc_K_awaitPumps n H1 q h) fun H2 => ?_
  refine xo_iconst (pc' := 54) (v := (1 : Int32)) dd_K_put_53 (by decide) rfl ?_
  exact xo_zret dd_K_put_54 rfl
set_option maxRecDepth 100000 in
set_option maxHeartbeats 4000000 in
theorem kb_K_put (t : xo_N) (x1 : Int32) (x2 : Int32) (H : xo_H) (r : Int32 × xo_H) : xo_X mt_K_put 0 0 xo_ji r 0 [(0, .inr (some t)), (1, .inl x1), (2, .inl x2)] [] H (fc_K_put t x1 x2 H) := by
  unfold fc_K_put
  refine xo_aload_n (pc' := 1) dd_K_put_0 rfl 0 rfl rfl ?_
  refine xo_iload_n (pc' := 2) dd_K_put_1 rfl 1 rfl rfl ?_
  refine xo_callVp (as := [.inl x1]) (o := (some t)) (st := []) (pc' := 5) dd_K_put_2 cv_K_rootAt ml_K_75 rfl rfl ⟨by decide, by decide⟩ rfl rfl rfl (Nat.le_of_ble_eq_true rfl) rfl (fun n q h => kc_K_rootAt n x1 H q h) fun r1 => ?_
  refine xo_astore_n (pc' := 6) dd_K_put_5 rfl (by decide) rfl rfl ?_
  refine xo_aload_n (pc' := 7) dd_K_put_6 rfl 0 rfl rfl ?_
  refine xo_ifnull (pc' := 10) (tgt := 17) dd_K_put_7 rfl rfl ?_ ?_
  · refine xo_iconst (pc' := 18) (v := (0 : Int32)) dd_K_put_17 (by decide) rfl ?_
    exact xo_zret dd_K_put_18 rfl
  · refine xo_aload_n (pc' := 11) dd_K_put_10 rfl 0 rfl rfl ?_
    refine xo_callVi (as := []) (o := r1.1) (st := []) (pc' := 14) dd_K_put_11 cv_G_isGoing ml_K_79 rfl rfl ⟨by decide, by decide⟩ rfl rfl rfl (Nat.le_of_ble_eq_true rfl) rfl (fun n q h => kc_G_isGoing n r1.2 q h) fun r2 => ?_
    refine xo_if_ne (pc' := 17) (tgt := 19) dd_K_put_14 rfl rfl ?_ ?_
    · refine xo_aload_n (pc' := 20) dd_K_put_19 rfl 0 rfl rfl ?_
      refine xo_getP (pc' := 23) dd_K_put_20 ff_K_83 (by decide) rfl fun o3 => ?_
      refine xo_callVi (as := []) (o := o3) (st := []) (pc' := 26) dd_K_put_23 cv_C_count ml_K_87 rfl rfl ⟨by decide, by decide⟩ rfl rfl rfl (Nat.le_of_ble_eq_true rfl) rfl (fun n q h => kc_C_count n r2.2 q h) fun r4 => ?_
      refine xo_bipush (pc' := 28) (v := (16 : Int32)) dd_K_put_26 (by decide) rfl ?_
      refine xo_icmp_lt (pc' := 31) (tgt := 43) dd_K_put_28 rfl rfl ?_ ?_
      · refine xo_sub [1, 3, 0] rfl ?_
        exact kb_K_put_43 t x2 r1.1 r4.2 r
      · refine xo_aload_n (pc' := 32) dd_K_put_31 rfl 0 rfl rfl ?_
        refine xo_getP (pc' := 35) dd_K_put_32 ff_K_91 (by decide) rfl fun o5 => ?_
        refine xo_getI (pc' := 38) dd_K_put_35 ff_K_95 (by decide) rfl fun v6 => ?_
        refine xo_if_ne (pc' := 41) (tgt := 43) dd_K_put_38 rfl rfl ?_ ?_
        · refine xo_sub [1, 3, 0] rfl ?_
          exact kb_K_put_43 t x2 r1.1 r4.2 r
        · refine xo_iconst (pc' := 42) (v := (0 : Int32)) dd_K_put_41 (by decide) rfl ?_
          exact xo_zret dd_K_put_42 rfl
    · refine xo_iconst (pc' := 18) (v := (0 : Int32)) dd_K_put_17 (by decide) rfl ?_
      exact xo_zret dd_K_put_18 rfl
set_option maxRecDepth 100000 in
set_option maxHeartbeats 4000000 in
theorem kc_K_put (t : xo_N) (x1 : Int32) (x2 : Int32) (H : xo_H) (r : Int32 × xo_H) (hk : fc_K_put t x1 x2 H = some r) : xo_M mt_K_put [.inr (some t), .inl x1, .inl x2] H (xo_ji r) :=
  xo_entry hk (by decide +kernel) (Nat.le_of_ble_eq_true rfl) (kb_K_put t x1 x2 H r)
def fb_K_closeGiver_22 (t : xo_N) (x1 : Option xo_N) (s0 : Int32) (H : xo_H) : Option (xo_H) :=
  xo_pf 5 4 H x1 (1 : Int32) fun H1 =>
  xo_cl 5 x1 (fun n6 => fc_G_answerAll n6 H1) fun H2 =>
  if s0 = 0 then (some H2)
  else (xo_gp 5 12 H2 x1 fun o3 =>
  xo_cl 0 (some t) (fun n5 => fc_K_endBranches n5 o3 H2) fun H4 =>
  some H4)

def fc_K_closeGiver (t : xo_N) (x1 : Option xo_N) (H : xo_H) : Option (xo_H) :=
  xo_gp 5 12 H x1 fun o1 =>
  if o1 = none then (fb_K_closeGiver_22 t x1 (0 : Int32) H)
  else (xo_gp 5 3 H x1 fun o2 =>
  xo_gf 3 2 H o2 fun v3 =>
  if 0 < v3 then (fb_K_closeGiver_22 t x1 (1 : Int32) H)
  else (fb_K_closeGiver_22 t x1 (0 : Int32) H))

set_option maxRecDepth 100000 in
set_option maxHeartbeats 4000000 in
theorem kb_K_closeGiver_22 (t : xo_N) (x1 : Option xo_N) (s0 : Int32) (H : xo_H) (r : xo_H) : xo_X mt_K_closeGiver 0 0 xo_jv r 22 [(0, .inr (some t)), (1, .inr x1)] [.inl s0] H (fb_K_closeGiver_22 t x1 s0 H) := by
  unfold fb_K_closeGiver_22
  refine xo_istore_n (pc' := 23) dd_K_closeGiver_22 rfl (by decide) rfl rfl ?_
  refine xo_aload_n (pc' := 24) dd_K_closeGiver_23 rfl 2 rfl rfl ?_
  refine xo_iconst (pc' := 25) (v := (1 : Int32)) dd_K_closeGiver_24 (by decide) rfl ?_
  refine xo_putI (pc' := 28) dd_K_closeGiver_25 ff_K_110 rfl fun H1 => ?_
  refine xo_aload_n (pc' := 29) dd_K_closeGiver_28 rfl 2 rfl rfl ?_
  refine xo_callVv (as := []) (o := x1) (st := []) (pc' := 32) dd_K_closeGiver_29 cv_G_answerAll ml_K_267 rfl rfl ⟨by decide, by decide⟩ rfl rfl rfl (Nat.le_of_ble_eq_true rfl) rfl (fun n q h => kc_G_answerAll n H1 q h) fun H2 => ?_
  refine xo_iload_n (pc' := 33) dd_K_closeGiver_32 rfl 0 rfl rfl ?_
  refine xo_if_eq (pc' := 36) (tgt := 44) dd_K_closeGiver_33 rfl rfl ?_ ?_
  · exact xo_vret dd_K_closeGiver_44 rfl
  · refine xo_aload_n (pc' := 37) dd_K_closeGiver_36 rfl 1 rfl rfl ?_
    refine xo_aload_n (pc' := 38) dd_K_closeGiver_37 rfl 2 rfl rfl ?_
    refine xo_getP (pc' := 41) dd_K_closeGiver_38 ff_K_200 (by decide) rfl fun o3 => ?_
    refine xo_callVv (as := [.inr o3]) (o := (some t)) (st := []) (pc' := 44) dd_K_closeGiver_41 cv_K_endBranches ml_K_203 rfl rfl ⟨by decide, by decide⟩ rfl rfl rfl (Nat.le_of_ble_eq_true rfl) rfl (fun n q h => kc_K_endBranches n o3 H2 q h) fun H4 => ?_
    exact xo_vret dd_K_closeGiver_44 rfl
set_option maxRecDepth 100000 in
set_option maxHeartbeats 4000000 in
theorem kb_K_closeGiver (t : xo_N) (x1 : Option xo_N) (H : xo_H) (r : xo_H) : xo_X mt_K_closeGiver 0 0 xo_jv r 0 [(0, .inr (some t)), (1, .inr x1)] [] H (fc_K_closeGiver t x1 H) := by
  unfold fc_K_closeGiver
  refine xo_aload_n (pc' := 1) dd_K_closeGiver_0 rfl 1 rfl rfl ?_
  refine xo_getP (pc' := 4) dd_K_closeGiver_1 ff_K_200 (by decide) rfl fun o1 => ?_
  refine xo_ifnull (pc' := 7) (tgt := 21) dd_K_closeGiver_4 rfl rfl ?_ ?_
  · refine xo_iconst (pc' := 22) (v := (0 : Int32)) dd_K_closeGiver_21 (by decide) rfl ?_
    exact kb_K_closeGiver_22 t x1 (0 : Int32) H r
  · refine xo_aload_n (pc' := 8) dd_K_closeGiver_7 rfl 1 rfl rfl ?_
    refine xo_getP (pc' := 11) dd_K_closeGiver_8 ff_K_91 (by decide) rfl fun o2 => ?_
    refine xo_getI (pc' := 14) dd_K_closeGiver_11 ff_K_95 (by decide) rfl fun v3 => ?_
    refine xo_if_le (pc' := 17) (tgt := 21) dd_K_closeGiver_14 rfl rfl ?_ ?_
    · refine xo_iconst (pc' := 22) (v := (0 : Int32)) dd_K_closeGiver_21 (by decide) rfl ?_
      exact kb_K_closeGiver_22 t x1 (0 : Int32) H r
    · refine xo_iconst (pc' := 18) (v := (1 : Int32)) dd_K_closeGiver_17 (by decide) rfl ?_
      refine xo_goto (pc' := 22) dd_K_closeGiver_18 rfl ?_
      exact kb_K_closeGiver_22 t x1 (1 : Int32) H r
set_option maxRecDepth 100000 in
set_option maxHeartbeats 4000000 in
theorem kc_K_closeGiver (t : xo_N) (x1 : Option xo_N) (H : xo_H) (r : xo_H) (hk : fc_K_closeGiver t x1 H = some r) : xo_M mt_K_closeGiver [.inr (some t), .inr x1] H (xo_jv r) :=
  xo_entry hk (by decide +kernel) (Nat.le_of_ble_eq_true rfl) (kb_K_closeGiver t x1 H r)
def fb_K_end_39 (t : xo_N) (H : xo_H) : Option (Int32 × xo_H) :=
  xo_cl 0 (some t) (fun n2 => fc_K_awaitPumps n2 H) fun H1 =>
  xo_gb (1 : Int32) (some ((1 : Int32), H1))

def fc_K_end (t : xo_N) (x1 : Int32) (H : xo_H) : Option (Int32 × xo_H) :=
  xo_cl 0 (some t) (fun n10 => fc_K_rootAt n10 x1 H) fun r1 =>
  if r1.1 = none then (xo_gb (0 : Int32) (some ((0 : Int32), r1.2)))
  else (xo_cl 5 r1.1 (fun n9 => fc_G_isGoing n9 r1.2) fun r2 =>
  if r2.1 = 0 then (xo_gb (0 : Int32) (some ((0 : Int32), r2.2)))
  else (xo_pz 5 7 r2.2 r1.1 (1 : Int32) fun H3 =>
  xo_gp 5 1 H3 r1.1 fun o4 =>
  xo_cl 4 o4 (fun n8 => fc_C_count n8 H3) fun r5 =>
  if r5.1 = 0 then (xo_cl 0 (some t) (fun n7 => fc_K_closeGiver n7 r1.1 r5.2) fun H6 =>
  fb_K_end_39 t H6)
  else (fb_K_end_39 t r5.2)))

set_option maxRecDepth 100000 in
set_option maxHeartbeats 4000000 in
theorem kb_K_end_39 (t : xo_N) (H : xo_H) (r : Int32 × xo_H) : xo_X mt_K_end 0 0 xo_ji r 39 [(0, .inr (some t))] [] H (fb_K_end_39 t H) := by
  unfold fb_K_end_39
  refine xo_aload_n (pc' := 40) dd_K_end_39 rfl 0 rfl rfl ?_
  refine xo_callVv (as := []) (o := (some t)) (st := []) (pc' := 43) dd_K_end_40 cv_K_awaitPumps ml_K_57 rfl rfl ⟨by decide, by decide⟩ rfl rfl rfl (Nat.le_of_ble_eq_true rfl) rfl (fun n q h => kc_K_awaitPumps n H q h) fun H1 => ?_
  refine xo_iconst (pc' := 44) (v := (1 : Int32)) dd_K_end_43 (by decide) rfl ?_
  exact xo_zret dd_K_end_44 rfl
set_option maxRecDepth 100000 in
set_option maxHeartbeats 4000000 in
theorem kb_K_end (t : xo_N) (x1 : Int32) (H : xo_H) (r : Int32 × xo_H) : xo_X mt_K_end 0 0 xo_ji r 0 [(0, .inr (some t)), (1, .inl x1)] [] H (fc_K_end t x1 H) := by
  unfold fc_K_end
  refine xo_aload_n (pc' := 1) dd_K_end_0 rfl 0 rfl rfl ?_
  refine xo_iload_n (pc' := 2) dd_K_end_1 rfl 1 rfl rfl ?_
  refine xo_callVp (as := [.inl x1]) (o := (some t)) (st := []) (pc' := 5) dd_K_end_2 cv_K_rootAt ml_K_75 rfl rfl ⟨by decide, by decide⟩ rfl rfl rfl (Nat.le_of_ble_eq_true rfl) rfl (fun n q h => kc_K_rootAt n x1 H q h) fun r1 => ?_
  refine xo_astore_n (pc' := 6) dd_K_end_5 rfl (by decide) rfl rfl ?_
  refine xo_aload_n (pc' := 7) dd_K_end_6 rfl 0 rfl rfl ?_
  refine xo_ifnull (pc' := 10) (tgt := 17) dd_K_end_7 rfl rfl ?_ ?_
  · refine xo_iconst (pc' := 18) (v := (0 : Int32)) dd_K_end_17 (by decide) rfl ?_
    exact xo_zret dd_K_end_18 rfl
  · refine xo_aload_n (pc' := 11) dd_K_end_10 rfl 0 rfl rfl ?_
    refine xo_callVi (as := []) (o := r1.1) (st := []) (pc' := 14) dd_K_end_11 cv_G_isGoing ml_K_79 rfl rfl ⟨by decide, by decide⟩ rfl rfl rfl (Nat.le_of_ble_eq_true rfl) rfl (fun n q h => kc_G_isGoing n r1.2 q h) fun r2 => ?_
    refine xo_if_ne (pc' := 17) (tgt := 19) dd_K_end_14 rfl rfl ?_ ?_
    · refine xo_aload_n (pc' := 20) dd_K_end_19 rfl 0 rfl rfl ?_
      refine xo_iconst (pc' := 21) (v := (1 : Int32)) dd_K_end_20 (by decide) rfl ?_
      refine xo_putZ (pc' := 24) dd_K_end_21 ff_K_103 rfl fun H3 => ?_
      refine xo_aload_n (pc' := 25) dd_K_end_24 rfl 0 rfl rfl ?_
      refine xo_getP (pc' := 28) dd_K_end_25 ff_K_83 (by decide) rfl fun o4 => ?_
      refine xo_callVi (as := []) (o := o4) (st := []) (pc' := 31) dd_K_end_28 cv_C_count ml_K_87 rfl rfl ⟨by decide, by decide⟩ rfl rfl rfl (Nat.le_of_ble_eq_true rfl) rfl (fun n q h => kc_C_count n H3 q h) fun r5 => ?_
      refine xo_if_ne (pc' := 34) (tgt := 39) dd_K_end_31 rfl rfl ?_ ?_
      · refine xo_sub [1] rfl ?_
        exact kb_K_end_39 t r5.2 r
      · refine xo_aload_n (pc' := 35) dd_K_end_34 rfl 1 rfl rfl ?_
        refine xo_aload_n (pc' := 36) dd_K_end_35 rfl 0 rfl rfl ?_
        refine xo_callVv (as := [.inr r1.1]) (o := (some t)) (st := []) (pc' := 39) dd_K_end_36 cv_K_closeGiver ml_K_107 rfl rfl ⟨by decide, by decide⟩ rfl rfl rfl (Nat.le_of_ble_eq_true rfl) rfl (fun n q h => kc_K_closeGiver n r1.1 r5.2 q h) fun H6 => ?_
        refine xo_sub [1] rfl ?_
        exact kb_K_end_39 t H6 r
    · refine xo_iconst (pc' := 18) (v := (0 : Int32)) dd_K_end_17 (by decide) rfl ?_
      exact xo_zret dd_K_end_18 rfl
set_option maxRecDepth 100000 in
set_option maxHeartbeats 4000000 in
theorem kc_K_end (t : xo_N) (x1 : Int32) (H : xo_H) (r : Int32 × xo_H) (hk : fc_K_end t x1 H = some r) : xo_M mt_K_end [.inr (some t), .inl x1] H (xo_ji r) :=
  xo_entry hk (by decide +kernel) (Nat.le_of_ble_eq_true rfl) (kb_K_end t x1 H r)
def fc_K_isError (x0 : Int32) (H : xo_H) : Option (Int32 × xo_H) :=
  if x0 < 0 then (xo_gb (0 : Int32) (some ((0 : Int32), H)))
  else (if (99 : Int32) < x0 then (xo_gb (0 : Int32) (some ((0 : Int32), H)))
  else (xo_gb (1 : Int32) (some ((1 : Int32), H))))

set_option maxRecDepth 100000 in
set_option maxHeartbeats 4000000 in
theorem kb_K_isError (x0 : Int32) (H : xo_H) (r : Int32 × xo_H) : xo_X mt_K_isError 0 0 xo_ji r 0 [(0, .inl x0)] [] H (fc_K_isError x0 H) := by
  unfold fc_K_isError
  refine xo_iload_n (pc' := 1) dd_K_isError_0 rfl 0 rfl rfl ?_
  refine xo_if_lt (pc' := 4) (tgt := 14) dd_K_isError_1 rfl rfl ?_ ?_
  · refine xo_iconst (pc' := 15) (v := (0 : Int32)) dd_K_isError_14 (by decide) rfl ?_
    exact xo_zret dd_K_isError_15 rfl
  · refine xo_iload_n (pc' := 5) dd_K_isError_4 rfl 0 rfl rfl ?_
    refine xo_bipush (pc' := 7) (v := (99 : Int32)) dd_K_isError_5 (by decide) rfl ?_
    refine xo_icmp_gt (pc' := 10) (tgt := 14) dd_K_isError_7 rfl rfl ?_ ?_
    · refine xo_iconst (pc' := 15) (v := (0 : Int32)) dd_K_isError_14 (by decide) rfl ?_
      exact xo_zret dd_K_isError_15 rfl
    · refine xo_iconst (pc' := 11) (v := (1 : Int32)) dd_K_isError_10 (by decide) rfl ?_
      refine xo_goto (pc' := 15) dd_K_isError_11 rfl ?_
      exact xo_zret dd_K_isError_15 rfl
set_option maxRecDepth 100000 in
set_option maxHeartbeats 4000000 in
theorem kc_K_isError (x0 : Int32) (H : xo_H) (r : Int32 × xo_H) (hk : fc_K_isError x0 H = some r) : xo_M mt_K_isError [.inl x0] H (xo_ji r) :=
  xo_entry hk (by decide +kernel) (Nat.le_of_ble_eq_true rfl) (kb_K_isError x0 H r)
def fb_K_failBranches_12 : Nat → Int32 → Option xo_N → Int32 → Int32 → xo_H → Option (xo_H)
  | 0, _, _, _, _, _ => none
  | fu + 1, x2, x3, x4, x5, H =>
  if x5 < x4 then (xo_ap 2 H x3 x5 fun o1 =>
  xo_cl 5 o1 (fun n3 => fc_G_failWith n3 x2 H) fun H2 =>
  fb_K_failBranches_12 fu x2 x3 x4 (x5 + (1 : Int32)) H2)
  else (some H)

def fc_K_failBranches (t : xo_N) (x1 : Option xo_N) (x2 : Int32) (H : xo_H) : Option (xo_H) :=
  xo_gp 6 1 H x1 fun o1 =>
  xo_ln o1 fun v2 =>
  fb_K_failBranches_12 1000 x2 o1 v2 (0 : Int32) H

set_option maxRecDepth 100000 in
set_option maxHeartbeats 4000000 in
theorem kb_K_failBranches_12 : ∀ (fu : Nat) (x2 : Int32) (x3 : Option xo_N) (x4 : Int32) (x5 : Int32) (H : xo_H) (r : xo_H), xo_X mt_K_failBranches 0 0 xo_jv r 12 [(2, .inl x2), (3, .inr x3), (4, .inl x4), (5, .inl x5)] [] H (fb_K_failBranches_12 fu x2 x3 x4 x5 H) := by
  intro fu
  induction fu with
  | zero => intros; exact xo_no
  | succ fu ih =>
    intro x2 x3 x4 x5 H r
    rw [fb_K_failBranches_12]
    refine xo_iload (pc' := 14) dd_K_failBranches_12 3 rfl rfl ?_
    refine xo_iload (pc' := 16) dd_K_failBranches_14 2 rfl rfl ?_
    refine xo_icmp_ge (pc' := 19) (tgt := 37) dd_K_failBranches_16 rfl rfl ?_ ?_
    · exact xo_vret dd_K_failBranches_37 rfl
    · refine xo_aload_n (pc' := 20) dd_K_failBranches_19 rfl 1 rfl rfl ?_
      refine xo_iload (pc' := 22) dd_K_failBranches_20 3 rfl rfl ?_
      refine xo_aald (pc' := 23) dd_K_failBranches_22 (by decide) rfl fun o1 => ?_
      refine xo_astore (pc' := 25) dd_K_failBranches_23 (by decide) rfl rfl ?_
      refine xo_aload (pc' := 27) dd_K_failBranches_25 0 rfl rfl ?_
      refine xo_iload_n (pc' := 28) dd_K_failBranches_27 rfl 1 rfl rfl ?_
      refine xo_callVv (as := [.inl x2]) (o := o1) (st := []) (pc' := 31) dd_K_failBranches_28 cv_G_failWith ml_K_288 rfl rfl ⟨by decide, by decide⟩ rfl rfl rfl (Nat.le_of_ble_eq_true rfl) rfl (fun n q h => kc_G_failWith n x2 H q h) fun H2 => ?_
      refine xo_iinc (pc' := 34) dd_K_failBranches_31 4 rfl (xo_ii (m := (1 : Int32)) (by decide)) (by decide) rfl rfl ?_
      refine xo_goto (pc' := 12) dd_K_failBranches_34 rfl ?_
      refine xo_sub [2, 3, 4, 0] rfl ?_
      exact ih x2 x3 x4 (x5 + (1 : Int32)) H2 r
set_option maxRecDepth 100000 in
set_option maxHeartbeats 4000000 in
theorem kb_K_failBranches (t : xo_N) (x1 : Option xo_N) (x2 : Int32) (H : xo_H) (r : xo_H) : xo_X mt_K_failBranches 0 0 xo_jv r 0 [(0, .inr (some t)), (1, .inr x1), (2, .inl x2)] [] H (fc_K_failBranches t x1 x2 H) := by
  unfold fc_K_failBranches
  refine xo_aload_n (pc' := 1) dd_K_failBranches_0 rfl 1 rfl rfl ?_
  refine xo_getP (pc' := 4) dd_K_failBranches_1 ff_K_285 (by decide) rfl fun o1 => ?_
  refine xo_astore_n (pc' := 5) dd_K_failBranches_4 rfl (by decide) rfl rfl ?_
  refine xo_aload_n (pc' := 6) dd_K_failBranches_5 rfl 0 rfl rfl ?_
  refine xo_alen (pc' := 7) dd_K_failBranches_6 rfl fun v2 => ?_
  refine xo_istore (pc' := 9) dd_K_failBranches_7 (by decide) rfl rfl ?_
  refine xo_iconst (pc' := 10) (v := (0 : Int32)) dd_K_failBranches_9 (by decide) rfl ?_
  refine xo_istore (pc' := 12) dd_K_failBranches_10 (by decide) rfl rfl ?_
  refine xo_sub [5, 2, 1, 0] rfl ?_
  exact kb_K_failBranches_12 1000 x2 o1 v2 (0 : Int32) H r
set_option maxRecDepth 100000 in
set_option maxHeartbeats 4000000 in
theorem kc_K_failBranches (t : xo_N) (x1 : Option xo_N) (x2 : Int32) (H : xo_H) (r : xo_H) (hk : fc_K_failBranches t x1 x2 H = some r) : xo_M mt_K_failBranches [.inr (some t), .inr x1, .inl x2] H (xo_jv r) :=
  xo_entry hk (by decide +kernel) (Nat.le_of_ble_eq_true rfl) (kb_K_failBranches t x1 x2 H r)
def fb_K_failGiver_32 (t : xo_N) (x1 : Option xo_N) (x2 : Int32) (x3 : Option xo_N) (H : xo_H) : Option (xo_H) :=
  xo_cl 5 x1 (fun n4 => fc_G_failWith n4 x2 H) fun H1 =>
  if x3 = none then (some H1)
  else (xo_cl 0 (some t) (fun n3 => fc_K_failBranches n3 x3 x2 H1) fun H2 =>
  some H2)

def fc_K_failGiver (t : xo_N) (x1 : Option xo_N) (x2 : Int32) (H : xo_H) : Option (xo_H) :=
  xo_gf 5 4 H x1 fun v1 =>
  if v1 = 0 then (xo_gp 5 12 H x1 fun o2 =>
  if o2 = none then (fb_K_failGiver_32 t x1 x2 o2 H)
  else (xo_gp 5 3 H x1 fun o3 =>
  xo_gf 3 2 H o3 fun v4 =>
  if 0 < v4 then (xo_pz 6 2 H o2 (0 : Int32) fun H5 =>
  fb_K_failGiver_32 t x1 x2 o2 H5)
  else (fb_K_failGiver_32 t x1 x2 o2 H)))
  else (some H)

set_option maxRecDepth 100000 in
set_option maxHeartbeats 4000000 in
theorem kb_K_failGiver_32 (t : xo_N) (x1 : Option xo_N) (x2 : Int32) (x3 : Option xo_N) (H : xo_H) (r : xo_H) : xo_X mt_K_failGiver 0 0 xo_jv r 32 [(0, .inr (some t)), (1, .inr x1), (2, .inl x2), (3, .inr x3)] [] H (fb_K_failGiver_32 t x1 x2 x3 H) := by
  unfold fb_K_failGiver_32
  refine xo_aload_n (pc' := 33) dd_K_failGiver_32 rfl 1 rfl rfl ?_
  refine xo_iload_n (pc' := 34) dd_K_failGiver_33 rfl 2 rfl rfl ?_
  refine xo_callVv (as := [.inl x2]) (o := x1) (st := []) (pc' := 37) dd_K_failGiver_34 cv_G_failWith ml_K_288 rfl rfl ⟨by decide, by decide⟩ rfl rfl rfl (Nat.le_of_ble_eq_true rfl) rfl (fun n q h => kc_G_failWith n x2 H q h) fun H1 => ?_
  refine xo_aload_n (pc' := 38) dd_K_failGiver_37 rfl 3 rfl rfl ?_
  refine xo_ifnull (pc' := 41) (tgt := 47) dd_K_failGiver_38 rfl rfl ?_ ?_
  · exact xo_vret dd_K_failGiver_47 rfl
  · refine xo_aload_n (pc' := 42) dd_K_failGiver_41 rfl 0 rfl rfl ?_
    refine xo_aload_n (pc' := 43) dd_K_failGiver_42 rfl 3 rfl rfl ?_
    refine xo_iload_n (pc' := 44) dd_K_failGiver_43 rfl 2 rfl rfl ?_
    refine xo_callVv (as := [.inr x3, .inl x2]) (o := (some t)) (st := []) (pc' := 47) dd_K_failGiver_44 cv_K_failBranches ml_K_210 rfl rfl ⟨by decide, by decide⟩ rfl rfl rfl (Nat.le_of_ble_eq_true rfl) rfl (fun n q h => kc_K_failBranches n x3 x2 H1 q h) fun H2 => ?_
    exact xo_vret dd_K_failGiver_47 rfl
set_option maxRecDepth 100000 in
set_option maxHeartbeats 4000000 in
theorem kb_K_failGiver (t : xo_N) (x1 : Option xo_N) (x2 : Int32) (H : xo_H) (r : xo_H) : xo_X mt_K_failGiver 0 0 xo_jv r 0 [(0, .inr (some t)), (1, .inr x1), (2, .inl x2)] [] H (fc_K_failGiver t x1 x2 H) := by
  unfold fc_K_failGiver
  refine xo_aload_n (pc' := 1) dd_K_failGiver_0 rfl 1 rfl rfl ?_
  refine xo_getI (pc' := 4) dd_K_failGiver_1 ff_K_110 (by decide) rfl fun v1 => ?_
  refine xo_if_eq (pc' := 7) (tgt := 8) dd_K_failGiver_4 rfl rfl ?_ ?_
  · refine xo_aload_n (pc' := 9) dd_K_failGiver_8 rfl 1 rfl rfl ?_
    refine xo_getP (pc' := 12) dd_K_failGiver_9 ff_K_200 (by decide) rfl fun o2 => ?_
    refine xo_astore_n (pc' := 13) dd_K_failGiver_12 rfl (by decide) rfl rfl ?_
    refine xo_aload_n (pc' := 14) dd_K_failGiver_13 rfl 0 rfl rfl ?_
    refine xo_ifnull (pc' := 17) (tgt := 32) dd_K_failGiver_14 rfl rfl ?_ ?_
    · refine xo_sub [1, 2, 3, 0] rfl ?_
      exact kb_K_failGiver_32 t x1 x2 o2 H r
    · refine xo_aload_n (pc' := 18) dd_K_failGiver_17 rfl 2 rfl rfl ?_
      refine xo_getP (pc' := 21) dd_K_failGiver_18 ff_K_91 (by decide) rfl fun o3 => ?_
      refine xo_getI (pc' := 24) dd_K_failGiver_21 ff_K_95 (by decide) rfl fun v4 => ?_
      refine xo_if_le (pc' := 27) (tgt := 32) dd_K_failGiver_24 rfl rfl ?_ ?_
      · refine xo_sub [1, 2, 3, 0] rfl ?_
        exact kb_K_failGiver_32 t x1 x2 o2 H r
      · refine xo_aload_n (pc' := 28) dd_K_failGiver_27 rfl 0 rfl rfl ?_
        refine xo_iconst (pc' := 29) (v := (0 : Int32)) dd_K_failGiver_28 (by decide) rfl ?_
        refine xo_putZ (pc' := 32) dd_K_failGiver_29 ff_K_273 rfl fun H5 => ?_
        refine xo_sub [1, 2, 3, 0] rfl ?_
        exact kb_K_failGiver_32 t x1 x2 o2 H5 r
  · exact xo_vret dd_K_failGiver_7 rfl
set_option maxRecDepth 100000 in
set_option maxHeartbeats 4000000 in
theorem kc_K_failGiver (t : xo_N) (x1 : Option xo_N) (x2 : Int32) (H : xo_H) (r : xo_H) (hk : fc_K_failGiver t x1 x2 H = some r) : xo_M mt_K_failGiver [.inr (some t), .inr x1, .inl x2] H (xo_jv r) :=
  xo_entry hk (by decide +kernel) (Nat.le_of_ble_eq_true rfl) (kb_K_failGiver t x1 x2 H r)
def fc_K_fail (t : xo_N) (x1 : Int32) (x2 : Int32) (H : xo_H) : Option (Int32 × xo_H) :=
  xo_cl 0 (some t) (fun n8 => fc_K_rootAt n8 x1 H) fun r1 =>
  if r1.1 = none then (xo_gb (0 : Int32) (some ((0 : Int32), r1.2)))
  else (xo_gf 5 4 r1.2 r1.1 fun v2 =>
  if v2 = 0 then ((fc_K_isError x2 r1.2).bind fun r3 =>
  if r3.1 = 0 then (xo_gb (0 : Int32) (some ((0 : Int32), r3.2)))
  else (xo_cl 0 (some t) (fun n7 => fc_K_failGiver n7 r1.1 x2 r3.2) fun H4 =>
  xo_cl 0 (some t) (fun n6 => fc_K_awaitPumps n6 H4) fun H5 =>
  xo_gb (1 : Int32) (some ((1 : Int32), H5))))
  else (xo_gb (0 : Int32) (some ((0 : Int32), r1.2))))

set_option maxRecDepth 100000 in
set_option maxHeartbeats 4000000 in
theorem kb_K_fail (t : xo_N) (x1 : Int32) (x2 : Int32) (H : xo_H) (r : Int32 × xo_H) : xo_X mt_K_fail 0 0 xo_ji r 0 [(0, .inr (some t)), (1, .inl x1), (2, .inl x2)] [] H (fc_K_fail t x1 x2 H) := by
  unfold fc_K_fail
  refine xo_aload_n (pc' := 1) dd_K_fail_0 rfl 0 rfl rfl ?_
  refine xo_iload_n (pc' := 2) dd_K_fail_1 rfl 1 rfl rfl ?_
  refine xo_callVp (as := [.inl x1]) (o := (some t)) (st := []) (pc' := 5) dd_K_fail_2 cv_K_rootAt ml_K_75 rfl rfl ⟨by decide, by decide⟩ rfl rfl rfl (Nat.le_of_ble_eq_true rfl) rfl (fun n q h => kc_K_rootAt n x1 H q h) fun r1 => ?_
  refine xo_astore_n (pc' := 6) dd_K_fail_5 rfl (by decide) rfl rfl ?_
  refine xo_aload_n (pc' := 7) dd_K_fail_6 rfl 0 rfl rfl ?_
  refine xo_ifnull (pc' := 10) (tgt := 24) dd_K_fail_7 rfl rfl ?_ ?_
  · refine xo_iconst (pc' := 25) (v := (0 : Int32)) dd_K_fail_24 (by decide) rfl ?_
    exact xo_zret dd_K_fail_25 rfl
  · refine xo_aload_n (pc' := 11) dd_K_fail_10 rfl 0 rfl rfl ?_
    refine xo_getI (pc' := 14) dd_K_fail_11 ff_K_110 (by decide) rfl fun v2 => ?_
    refine xo_if_ne (pc' := 17) (tgt := 24) dd_K_fail_14 rfl rfl ?_ ?_
    · refine xo_iconst (pc' := 25) (v := (0 : Int32)) dd_K_fail_24 (by decide) rfl ?_
      exact xo_zret dd_K_fail_25 rfl
    · refine xo_iload_n (pc' := 18) dd_K_fail_17 rfl 3 rfl rfl ?_
      refine xo_callSi (as := [.inl x2]) (st := []) (pc' := 21) dd_K_fail_18 cv_K_isError ml_K_113 rfl ⟨by decide, by decide⟩ rfl rfl rfl (Nat.le_of_ble_eq_true rfl) rfl (fun q h => kc_K_isError x2 r1.2 q h) fun r3 => ?_
      refine xo_if_ne (pc' := 24) (tgt := 26) dd_K_fail_21 rfl rfl ?_ ?_
      · refine xo_aload_n (pc' := 27) dd_K_fail_26 rfl 1 rfl rfl ?_
        refine xo_aload_n (pc' := 28) dd_K_fail_27 rfl 0 rfl rfl ?_
        refine xo_iload_n (pc' := 29) dd_K_fail_28 rfl 3 rfl rfl ?_
        refine xo_callVv (as := [.inr r1.1, .inl x2]) (o := (some t)) (st := []) (pc' := 32) dd_K_fail_29 cv_K_failGiver ml_K_116 rfl rfl ⟨by decide, by decide⟩ rfl rfl rfl (Nat.le_of_ble_eq_true rfl) rfl (fun n q h => kc_K_failGiver n r1.1 x2 r3.2 q h) fun H4 => ?_
        refine xo_aload_n (pc' := 33) dd_K_fail_32 rfl 1 rfl rfl ?_
        refine xo_callVv (as := []) (o := (some t)) (st := []) (pc' := 36) dd_K_fail_33 cv_K_awaitPumps ml_K_57 rfl rfl ⟨by decide, by decide⟩ rfl rfl rfl (Nat.le_of_ble_eq_true rfl) rfl (fun n q h => kc_K_awaitPumps n H4 q h) fun H5 => ?_
        refine xo_iconst (pc' := 37) (v := (1 : Int32)) dd_K_fail_36 (by decide) rfl ?_
        exact xo_zret dd_K_fail_37 rfl
      · refine xo_iconst (pc' := 25) (v := (0 : Int32)) dd_K_fail_24 (by decide) rfl ?_
        exact xo_zret dd_K_fail_25 rfl
set_option maxRecDepth 100000 in
set_option maxHeartbeats 4000000 in
theorem kc_K_fail (t : xo_N) (x1 : Int32) (x2 : Int32) (H : xo_H) (r : Int32 × xo_H) (hk : fc_K_fail t x1 x2 H = some r) : xo_M mt_K_fail [.inr (some t), .inl x1, .inl x2] H (xo_ji r) :=
  xo_entry hk (by decide +kernel) (Nat.le_of_ble_eq_true rfl) (kb_K_fail t x1 x2 H r)
def fc_K_isErrorOrNone (x0 : Int32) (H : xo_H) : Option (Int32 × xo_H) :=
  if x0 = (-1 : Int32) then (xo_gb (1 : Int32) (some ((1 : Int32), H)))
  else ((fc_K_isError x0 H).bind fun r1 =>
  if r1.1 = 0 then (xo_gb (0 : Int32) (some ((0 : Int32), r1.2)))
  else (xo_gb (1 : Int32) (some ((1 : Int32), r1.2))))

set_option maxRecDepth 100000 in
set_option maxHeartbeats 4000000 in
theorem kb_K_isErrorOrNone (x0 : Int32) (H : xo_H) (r : Int32 × xo_H) : xo_X mt_K_isErrorOrNone 0 0 xo_ji r 0 [(0, .inl x0)] [] H (fc_K_isErrorOrNone x0 H) := by
  unfold fc_K_isErrorOrNone
  refine xo_iload_n (pc' := 1) dd_K_isErrorOrNone_0 rfl 0 rfl rfl ?_
  refine xo_iconst (pc' := 2) (v := (-1 : Int32)) dd_K_isErrorOrNone_1 (by decide) rfl ?_
  refine xo_icmp_eq (pc' := 5) (tgt := 12) dd_K_isErrorOrNone_2 rfl rfl ?_ ?_
  · refine xo_iconst (pc' := 13) (v := (1 : Int32)) dd_K_isErrorOrNone_12 (by decide) rfl ?_
    refine xo_goto (pc' := 17) dd_K_isErrorOrNone_13 rfl ?_
    exact xo_zret dd_K_isErrorOrNone_17 rfl
  · refine xo_iload_n (pc' := 6) dd_K_isErrorOrNone_5 rfl 0 rfl rfl ?_
    refine xo_callSi (as := [.inl x0]) (st := []) (pc' := 9) dd_K_isErrorOrNone_6 cv_K_isError ml_K_113 rfl ⟨by decide, by decide⟩ rfl rfl rfl (Nat.le_of_ble_eq_true rfl) rfl (fun q h => kc_K_isError x0 H q h) fun r1 => ?_
    refine xo_if_eq (pc' := 12) (tgt := 16) dd_K_isErrorOrNone_9 rfl rfl ?_ ?_
    · refine xo_iconst (pc' := 17) (v := (0 : Int32)) dd_K_isErrorOrNone_16 (by decide) rfl ?_
      exact xo_zret dd_K_isErrorOrNone_17 rfl
    · refine xo_iconst (pc' := 13) (v := (1 : Int32)) dd_K_isErrorOrNone_12 (by decide) rfl ?_
      refine xo_goto (pc' := 17) dd_K_isErrorOrNone_13 rfl ?_
      exact xo_zret dd_K_isErrorOrNone_17 rfl
set_option maxRecDepth 100000 in
set_option maxHeartbeats 4000000 in
theorem kc_K_isErrorOrNone (x0 : Int32) (H : xo_H) (r : Int32 × xo_H) (hk : fc_K_isErrorOrNone x0 H = some r) : xo_M mt_K_isErrorOrNone [.inl x0] H (xo_ji r) :=
  xo_entry hk (by decide +kernel) (Nat.le_of_ble_eq_true rfl) (kb_K_isErrorOrNone x0 H r)
def fc_K_pulled (t : xo_N) (x1 : Int32) (x2 : Int32) (H : xo_H) : Option (Int32 × xo_H) :=
  xo_cl 0 (some t) (fun n12 => fc_K_rootAt n12 x1 H) fun r1 =>
  if r1.1 = none then (xo_gb (0 : Int32) (some ((0 : Int32), r1.2)))
  else (xo_gf 5 8 r1.2 r1.1 fun v2 =>
  if v2 = 0 then (xo_gb (0 : Int32) (some ((0 : Int32), r1.2)))
  else (xo_gp 0 1 r1.2 (some t) fun o3 =>
  xo_cl 2 o3 (fun n11 => fc_J_holds n11 (1 : Int32) x1 r1.2) fun r4 =>
  if r4.1 = 0 then ((fc_K_isErrorOrNone x2 r4.2).bind fun r5 =>
  if r5.1 = 0 then (xo_gb (0 : Int32) (some ((0 : Int32), r5.2)))
  else (xo_gp 0 1 r5.2 (some t) fun o6 =>
  xo_cl 2 o6 (fun n10 => fc_J_add n10 (1 : Int32) x1 x2 r5.2) fun H7 =>
  xo_cl 0 (some t) (fun n9 => fc_K_awaitPumps n9 H7) fun H8 =>
  xo_gb (1 : Int32) (some ((1 : Int32), H8))))
  else (xo_gb (0 : Int32) (some ((0 : Int32), r4.2)))))

set_option maxRecDepth 100000 in
set_option maxHeartbeats 4000000 in
theorem kb_K_pulled (t : xo_N) (x1 : Int32) (x2 : Int32) (H : xo_H) (r : Int32 × xo_H) : xo_X mt_K_pulled 0 0 xo_ji r 0 [(0, .inr (some t)), (1, .inl x1), (2, .inl x2)] [] H (fc_K_pulled t x1 x2 H) := by
  unfold fc_K_pulled
  refine xo_aload_n (pc' := 1) dd_K_pulled_0 rfl 0 rfl rfl ?_
  refine xo_iload_n (pc' := 2) dd_K_pulled_1 rfl 1 rfl rfl ?_
  refine xo_callVp (as := [.inl x1]) (o := (some t)) (st := []) (pc' := 5) dd_K_pulled_2 cv_K_rootAt ml_K_75 rfl rfl ⟨by decide, by decide⟩ rfl rfl rfl (Nat.le_of_ble_eq_true rfl) rfl (fun n q h => kc_K_rootAt n x1 H q h) fun r1 => ?_
  refine xo_astore_n (pc' := 6) dd_K_pulled_5 rfl (by decide) rfl rfl ?_
  refine xo_aload_n (pc' := 7) dd_K_pulled_6 rfl 0 rfl rfl ?_
  refine xo_ifnull (pc' := 10) (tgt := 29) dd_K_pulled_7 rfl rfl ?_ ?_
  · refine xo_iconst (pc' := 30) (v := (0 : Int32)) dd_K_pulled_29 (by decide) rfl ?_
    exact xo_zret dd_K_pulled_30 rfl
  · refine xo_aload_n (pc' := 11) dd_K_pulled_10 rfl 0 rfl rfl ?_
    refine xo_getI (pc' := 14) dd_K_pulled_11 ff_K_119 (by decide) rfl fun v2 => ?_
    refine xo_if_eq (pc' := 17) (tgt := 29) dd_K_pulled_14 rfl rfl ?_ ?_
    · refine xo_iconst (pc' := 30) (v := (0 : Int32)) dd_K_pulled_29 (by decide) rfl ?_
      exact xo_zret dd_K_pulled_30 rfl
    · refine xo_aload_n (pc' := 18) dd_K_pulled_17 rfl 1 rfl rfl ?_
      refine xo_getP (pc' := 21) dd_K_pulled_18 ff_K_19 (by decide) rfl fun o3 => ?_
      refine xo_iconst (pc' := 22) (v := (1 : Int32)) dd_K_pulled_21 (by decide) rfl ?_
      refine xo_iload_n (pc' := 23) dd_K_pulled_22 rfl 2 rfl rfl ?_
      refine xo_callVi (as := [.inl (1 : Int32), .inl x1]) (o := o3) (st := []) (pc' := 26) dd_K_pulled_23 cv_J_holds ml_K_122 rfl rfl ⟨by decide, by decide⟩ rfl rfl rfl (Nat.le_of_ble_eq_true rfl) rfl (fun n q h => kc_J_holds n (1 : Int32) x1 r1.2 q h) fun r4 => ?_
      refine xo_if_eq (pc' := 29) (tgt := 31) dd_K_pulled_26 rfl rfl ?_ ?_
      · refine xo_iload_n (pc' := 32) dd_K_pulled_31 rfl 3 rfl rfl ?_
        refine xo_callSi (as := [.inl x2]) (st := []) (pc' := 35) dd_K_pulled_32 cv_K_isErrorOrNone ml_K_126 rfl ⟨by decide, by decide⟩ rfl rfl rfl (Nat.le_of_ble_eq_true rfl) rfl (fun q h => kc_K_isErrorOrNone x2 r4.2 q h) fun r5 => ?_
        refine xo_if_ne (pc' := 38) (tgt := 40) dd_K_pulled_35 rfl rfl ?_ ?_
        · refine xo_aload_n (pc' := 41) dd_K_pulled_40 rfl 1 rfl rfl ?_
          refine xo_getP (pc' := 44) dd_K_pulled_41 ff_K_19 (by decide) rfl fun o6 => ?_
          refine xo_iconst (pc' := 45) (v := (1 : Int32)) dd_K_pulled_44 (by decide) rfl ?_
          refine xo_iload_n (pc' := 46) dd_K_pulled_45 rfl 2 rfl rfl ?_
          refine xo_iload_n (pc' := 47) dd_K_pulled_46 rfl 3 rfl rfl ?_
          refine xo_callVv (as := [.inl (1 : Int32), .inl x1, .inl x2]) (o := o6) (st := []) (pc' := 50) dd_K_pulled_47 cv_J_add ml_K_129 rfl rfl ⟨by decide, by decide⟩ rfl rfl rfl (Nat.le_of_ble_eq_true rfl) rfl (fun n q h => kc_J_add n (1 : Int32) x1 x2 r5.2 q h) fun H7 => ?_
          refine xo_aload_n (pc' := 51) dd_K_pulled_50 rfl 1 rfl rfl ?_
          refine xo_callVv (as := []) (o := (some t)) (st := []) (pc' := 54) dd_K_pulled_51 cv_K_awaitPumps ml_K_57 rfl rfl ⟨by decide, by decide⟩ rfl rfl rfl (Nat.le_of_ble_eq_true rfl) rfl (fun n q h => kc_K_awaitPumps n H7 q h) fun H8 => ?_
          refine xo_iconst (pc' := 55) (v := (1 : Int32)) dd_K_pulled_54 (by decide) rfl ?_
          exact xo_zret dd_K_pulled_55 rfl
        · refine xo_iconst (pc' := 39) (v := (0 : Int32)) dd_K_pulled_38 (by decide) rfl ?_
          exact xo_zret dd_K_pulled_39 rfl
      · refine xo_iconst (pc' := 30) (v := (0 : Int32)) dd_K_pulled_29 (by decide) rfl ?_
        exact xo_zret dd_K_pulled_30 rfl
set_option maxRecDepth 100000 in
set_option maxHeartbeats 4000000 in
theorem kc_K_pulled (t : xo_N) (x1 : Int32) (x2 : Int32) (H : xo_H) (r : Int32 × xo_H) (hk : fc_K_pulled t x1 x2 H = some r) : xo_M mt_K_pulled [.inr (some t), .inl x1, .inl x2] H (xo_ji r) :=
  xo_entry hk (by decide +kernel) (Nat.le_of_ble_eq_true rfl) (kb_K_pulled t x1 x2 H r)
def fc_K_request (t : xo_N) (x1 : Option xo_N) (x2 : Int32) (H : xo_H) : Option (xo_H) :=
  xo_gp 5 1 H x1 fun o1 =>
  xo_cl 4 o1 (fun n20 => fc_C_count n20 H) fun r2 =>
  if 0 < r2.1 then (xo_gp 5 1 r2.2 x1 fun o11 =>
  xo_cl 4 o11 (fun n19 => fc_C_takeFirst n19 r2.2) fun r12 =>
  xo_cl 5 x1 (fun n18 => fc_G_closeIfDrained n18 r12.2) fun H13 =>
  xo_cl 0 (some t) (fun n17 => fc_K_pullIfNeeded n17 x1 H13) fun H14 =>
  xo_cl 0 (some t) (fun n16 => fc_K_answerChunk n16 x1 x2 r12.1 H14) fun H15 =>
  some H15)
  else (xo_gp 5 3 r2.2 x1 fun o3 =>
  xo_cl 3 o3 (fun n10 => fc_R_add n10 x2 r2.2) fun H4 =>
  xo_gf 5 4 H4 x1 fun v5 =>
  if v5 = 0 then (xo_cl 0 (some t) (fun n9 => fc_K_pullIfNeeded n9 x1 H4) fun H8 =>
  some H8)
  else (xo_cl 5 x1 (fun n7 => fc_G_answerAll n7 H4) fun H6 =>
  some H6))

set_option maxRecDepth 100000 in
set_option maxHeartbeats 4000000 in
theorem kb_K_request (t : xo_N) (x1 : Option xo_N) (x2 : Int32) (H : xo_H) (r : xo_H) : xo_X mt_K_request 0 0 xo_jv r 0 [(0, .inr (some t)), (1, .inr x1), (2, .inl x2)] [] H (fc_K_request t x1 x2 H) := by
  unfold fc_K_request
  refine xo_aload_n (pc' := 1) dd_K_request_0 rfl 1 rfl rfl ?_
  refine xo_getP (pc' := 4) dd_K_request_1 ff_K_83 (by decide) rfl fun o1 => ?_
  refine xo_callVi (as := []) (o := o1) (st := []) (pc' := 7) dd_K_request_4 cv_C_count ml_K_87 rfl rfl ⟨by decide, by decide⟩ rfl rfl rfl (Nat.le_of_ble_eq_true rfl) rfl (fun n q h => kc_C_count n H q h) fun r2 => ?_
  refine xo_if_le (pc' := 10) (tgt := 35) dd_K_request_7 rfl rfl ?_ ?_
  · refine xo_aload_n (pc' := 36) dd_K_request_35 rfl 1 rfl rfl ?_
    refine xo_getP (pc' := 39) dd_K_request_36 ff_K_91 (by decide) rfl fun o3 => ?_
    refine xo_iload_n (pc' := 40) dd_K_request_39 rfl 2 rfl rfl ?_
    refine xo_callVv (as := [.inl x2]) (o := o3) (st := []) (pc' := 43) dd_K_request_40 cv_R_add ml_K_266 rfl rfl ⟨by decide, by decide⟩ rfl rfl rfl (Nat.le_of_ble_eq_true rfl) rfl (fun n q h => kc_R_add n x2 r2.2 q h) fun H4 => ?_
    refine xo_aload_n (pc' := 44) dd_K_request_43 rfl 1 rfl rfl ?_
    refine xo_getI (pc' := 47) dd_K_request_44 ff_K_110 (by decide) rfl fun v5 => ?_
    refine xo_if_ne (pc' := 50) (tgt := 58) dd_K_request_47 rfl rfl ?_ ?_
    · refine xo_aload_n (pc' := 59) dd_K_request_58 rfl 1 rfl rfl ?_
      refine xo_callVv (as := []) (o := x1) (st := []) (pc' := 62) dd_K_request_59 cv_G_answerAll ml_K_267 rfl rfl ⟨by decide, by decide⟩ rfl rfl rfl (Nat.le_of_ble_eq_true rfl) rfl (fun n q h => kc_G_answerAll n H4 q h) fun H6 => ?_
      exact xo_vret dd_K_request_62 rfl
    · refine xo_aload_n (pc' := 51) dd_K_request_50 rfl 0 rfl rfl ?_
      refine xo_aload_n (pc' := 52) dd_K_request_51 rfl 1 rfl rfl ?_
      refine xo_callVv (as := [.inr x1]) (o := (some t)) (st := []) (pc' := 55) dd_K_request_52 cv_K_pullIfNeeded ml_K_53 rfl rfl ⟨by decide, by decide⟩ rfl rfl rfl (Nat.le_of_ble_eq_true rfl) rfl (fun n q h => kc_K_pullIfNeeded n x1 H4 q h) fun H8 => ?_
      refine xo_goto (pc' := 62) dd_K_request_55 rfl ?_
      exact xo_vret dd_K_request_62 rfl
  · refine xo_aload_n (pc' := 11) dd_K_request_10 rfl 1 rfl rfl ?_
    refine xo_getP (pc' := 14) dd_K_request_11 ff_K_83 (by decide) rfl fun o11 => ?_
    refine xo_callVi (as := []) (o := o11) (st := []) (pc' := 17) dd_K_request_14 cv_C_takeFirst ml_K_262 rfl rfl ⟨by decide, by decide⟩ rfl rfl rfl (Nat.le_of_ble_eq_true rfl) rfl (fun n q h => kc_C_takeFirst n r2.2 q h) fun r12 => ?_
    refine xo_istore_n (pc' := 18) dd_K_request_17 rfl (by decide) rfl rfl ?_
    refine xo_aload_n (pc' := 19) dd_K_request_18 rfl 2 rfl rfl ?_
    refine xo_callVv (as := []) (o := x1) (st := []) (pc' := 22) dd_K_request_19 cv_G_closeIfDrained ml_K_263 rfl rfl ⟨by decide, by decide⟩ rfl rfl rfl (Nat.le_of_ble_eq_true rfl) rfl (fun n q h => kc_G_closeIfDrained n r12.2 q h) fun H13 => ?_
    refine xo_aload_n (pc' := 23) dd_K_request_22 rfl 1 rfl rfl ?_
    refine xo_aload_n (pc' := 24) dd_K_request_23 rfl 2 rfl rfl ?_
    refine xo_callVv (as := [.inr x1]) (o := (some t)) (st := []) (pc' := 27) dd_K_request_24 cv_K_pullIfNeeded ml_K_53 rfl rfl ⟨by decide, by decide⟩ rfl rfl rfl (Nat.le_of_ble_eq_true rfl) rfl (fun n q h => kc_K_pullIfNeeded n x1 H13 q h) fun H14 => ?_
    refine xo_aload_n (pc' := 28) dd_K_request_27 rfl 1 rfl rfl ?_
    refine xo_aload_n (pc' := 29) dd_K_request_28 rfl 2 rfl rfl ?_
    refine xo_iload_n (pc' := 30) dd_K_request_29 rfl 3 rfl rfl ?_
    refine xo_iload_n (pc' := 31) dd_K_request_30 rfl 0 rfl rfl ?_
    refine xo_callVv (as := [.inr x1, .inl x2, .inl r12.1]) (o := (some t)) (st := []) (pc' := 34) dd_K_request_31 cv_K_answerChunk ml_K_248 rfl rfl ⟨by decide, by decide⟩ rfl rfl rfl (Nat.le_of_ble_eq_true rfl) rfl (fun n q h => kc_K_answerChunk n x1 x2 r12.1 H14 q h) fun H15 => ?_
    exact xo_vret dd_K_request_34 rfl
set_option maxRecDepth 100000 in
set_option maxHeartbeats 4000000 in
theorem kc_K_request (t : xo_N) (x1 : Option xo_N) (x2 : Int32) (H : xo_H) (r : xo_H) (hk : fc_K_request t x1 x2 H = some r) : xo_M mt_K_request [.inr (some t), .inr x1, .inl x2] H (xo_jv r) :=
  xo_entry hk (by decide +kernel) (Nat.le_of_ble_eq_true rfl) (kb_K_request t x1 x2 H r)
end
section
theorem dd_K_read_0 : decode mt_K_read.2.1 0 = .ok (.aload_n 0, 1) := by decide +kernel
theorem dd_K_read_1 : decode mt_K_read.2.1 1 = .ok (.iload_n 1, 1) := by decide +kernel
theorem dd_K_read_2 : decode mt_K_read.2.1 2 = .ok (.invokevirtual 133, 3) := by decide +kernel
theorem dd_K_read_5 : decode mt_K_read.2.1 5 = .ok (.astore_n 2, 1) := by decide +kernel
theorem dd_K_read_6 : decode mt_K_read.2.1 6 = .ok (.aload_n 2, 1) := by decide +kernel
theorem dd_K_read_7 : decode mt_K_read.2.1 7 = .ok (.ifnonnull 5, 3) := by decide +kernel
theorem dd_K_read_10 : decode mt_K_read.2.1 10 = .ok (.iconst (-1), 1) := by decide +kernel
theorem dd_K_read_11 : decode mt_K_read.2.1 11 = .ok (.ireturn, 1) := by decide +kernel
theorem dd_K_read_12 : decode mt_K_read.2.1 12 = .ok (.aload_n 2, 1) := by decide +kernel
theorem dd_K_read_13 : decode mt_K_read.2.1 13 = .ok (.invokevirtual 136, 3) := by decide +kernel
theorem dd_K_read_16 : decode mt_K_read.2.1 16 = .ok (.ifCond .eq 6, 3) := by decide +kernel
theorem dd_K_read_19 : decode mt_K_read.2.1 19 = .ok (.bipush (-2), 2) := by decide +kernel
theorem dd_K_read_21 : decode mt_K_read.2.1 21 = .ok (.ireturn, 1) := by decide +kernel
theorem dd_K_read_22 : decode mt_K_read.2.1 22 = .ok (.aload_n 2, 1) := by decide +kernel
theorem dd_K_read_23 : decode mt_K_read.2.1 23 = .ok (.getfield 91, 3) := by decide +kernel
theorem dd_K_read_26 : decode mt_K_read.2.1 26 = .ok (.getfield 95, 3) := by decide +kernel
theorem dd_K_read_29 : decode mt_K_read.2.1 29 = .ok (.bipush 8, 2) := by decide +kernel
theorem dd_K_read_31 : decode mt_K_read.2.1 31 = .ok (.if_icmp .lt 6, 3) := by decide +kernel
theorem dd_K_read_34 : decode mt_K_read.2.1 34 = .ok (.bipush (-3), 2) := by decide +kernel
theorem dd_K_read_36 : decode mt_K_read.2.1 36 = .ok (.ireturn, 1) := by decide +kernel
theorem dd_K_read_37 : decode mt_K_read.2.1 37 = .ok (.aload_n 2, 1) := by decide +kernel
theorem dd_K_read_38 : decode mt_K_read.2.1 38 = .ok (.dup, 1) := by decide +kernel
theorem dd_K_read_39 : decode mt_K_read.2.1 39 = .ok (.getfield 139, 3) := by decide +kernel
theorem dd_K_read_42 : decode mt_K_read.2.1 42 = .ok (.iconst 1, 1) := by decide +kernel
theorem dd_K_read_43 : decode mt_K_read.2.1 43 = .ok (.iadd, 1) := by decide +kernel
theorem dd_K_read_44 : decode mt_K_read.2.1 44 = .ok (.putfield 139, 3) := by decide +kernel
theorem dd_K_read_47 : decode mt_K_read.2.1 47 = .ok (.aload_n 2, 1) := by decide +kernel
theorem dd_K_read_48 : decode mt_K_read.2.1 48 = .ok (.getfield 139, 3) := by decide +kernel
theorem dd_K_read_51 : decode mt_K_read.2.1 51 = .ok (.istore_n 3, 1) := by decide +kernel
theorem dd_K_read_52 : decode mt_K_read.2.1 52 = .ok (.aload_n 0, 1) := by decide +kernel
theorem dd_K_read_53 : decode mt_K_read.2.1 53 = .ok (.aload_n 2, 1) := by decide +kernel
theorem dd_K_read_54 : decode mt_K_read.2.1 54 = .ok (.iload_n 3, 1) := by decide +kernel
theorem dd_K_read_55 : decode mt_K_read.2.1 55 = .ok (.invokevirtual 142, 3) := by decide +kernel
theorem dd_K_read_58 : decode mt_K_read.2.1 58 = .ok (.aload_n 0, 1) := by decide +kernel
theorem dd_K_read_59 : decode mt_K_read.2.1 59 = .ok (.invokevirtual 57, 3) := by decide +kernel
theorem dd_K_read_62 : decode mt_K_read.2.1 62 = .ok (.iload_n 3, 1) := by decide +kernel
theorem dd_K_read_63 : decode mt_K_read.2.1 63 = .ok (.ireturn, 1) := by decide +kernel
theorem dd_K_cancelGiver_0 : decode mt_K_cancelGiver.2.1 0 = .ok (.aload_n 1, 1) := by decide +kernel
theorem dd_K_cancelGiver_1 : decode mt_K_cancelGiver.2.1 1 = .ok (.getfield 110, 3) := by decide +kernel
theorem dd_K_cancelGiver_4 : decode mt_K_cancelGiver.2.1 4 = .ok (.ifCond .eq 4, 3) := by decide +kernel
theorem dd_K_cancelGiver_7 : decode mt_K_cancelGiver.2.1 7 = .ok (.return_, 1) := by decide +kernel
theorem dd_K_cancelGiver_8 : decode mt_K_cancelGiver.2.1 8 = .ok (.aload_n 1, 1) := by decide +kernel
theorem dd_K_cancelGiver_9 : decode mt_K_cancelGiver.2.1 9 = .ok (.getfield 83, 3) := by decide +kernel
theorem dd_K_cancelGiver_12 : decode mt_K_cancelGiver.2.1 12 = .ok (.invokevirtual 291, 3) := by decide +kernel
theorem dd_K_cancelGiver_15 : decode mt_K_cancelGiver.2.1 15 = .ok (.aload_n 0, 1) := by decide +kernel
theorem dd_K_cancelGiver_16 : decode mt_K_cancelGiver.2.1 16 = .ok (.aload_n 1, 1) := by decide +kernel
theorem dd_K_cancelGiver_17 : decode mt_K_cancelGiver.2.1 17 = .ok (.invokevirtual 107, 3) := by decide +kernel
theorem dd_K_cancelGiver_20 : decode mt_K_cancelGiver.2.1 20 = .ok (.aload_n 1, 1) := by decide +kernel
theorem dd_K_cancelGiver_21 : decode mt_K_cancelGiver.2.1 21 = .ok (.getfield 191, 3) := by decide +kernel
theorem dd_K_cancelGiver_24 : decode mt_K_cancelGiver.2.1 24 = .ok (.astore_n 3, 1) := by decide +kernel
theorem dd_K_cancelGiver_25 : decode mt_K_cancelGiver.2.1 25 = .ok (.aload_n 3, 1) := by decide +kernel
theorem dd_K_cancelGiver_26 : decode mt_K_cancelGiver.2.1 26 = .ok (.ifnonnull 18, 3) := by decide +kernel
theorem dd_K_cancelGiver_29 : decode mt_K_cancelGiver.2.1 29 = .ok (.aload_n 0, 1) := by decide +kernel
theorem dd_K_cancelGiver_30 : decode mt_K_cancelGiver.2.1 30 = .ok (.getfield 12, 3) := by decide +kernel
theorem dd_K_cancelGiver_33 : decode mt_K_cancelGiver.2.1 33 = .ok (.iconst 2, 1) := by decide +kernel
theorem dd_K_cancelGiver_34 : decode mt_K_cancelGiver.2.1 34 = .ok (.aload_n 1, 1) := by decide +kernel
theorem dd_K_cancelGiver_35 : decode mt_K_cancelGiver.2.1 35 = .ok (.getfield 60, 3) := by decide +kernel
theorem dd_K_cancelGiver_38 : decode mt_K_cancelGiver.2.1 38 = .ok (.iload_n 2, 1) := by decide +kernel
theorem dd_K_cancelGiver_39 : decode mt_K_cancelGiver.2.1 39 = .ok (.iconst 0, 1) := by decide +kernel
theorem dd_K_cancelGiver_40 : decode mt_K_cancelGiver.2.1 40 = .ok (.invokevirtual 254, 3) := by decide +kernel
theorem dd_K_cancelGiver_43 : decode mt_K_cancelGiver.2.1 43 = .ok (.return_, 1) := by decide +kernel
theorem dd_K_cancelGiver_44 : decode mt_K_cancelGiver.2.1 44 = .ok (.aload_n 1, 1) := by decide +kernel
theorem dd_K_cancelGiver_45 : decode mt_K_cancelGiver.2.1 45 = .ok (.iconst 1, 1) := by decide +kernel
theorem dd_K_cancelGiver_46 : decode mt_K_cancelGiver.2.1 46 = .ok (.putfield 294, 3) := by decide +kernel
theorem dd_K_cancelGiver_49 : decode mt_K_cancelGiver.2.1 49 = .ok (.aload_n 3, 1) := by decide +kernel
theorem dd_K_cancelGiver_50 : decode mt_K_cancelGiver.2.1 50 = .ok (.getfield 281, 3) := by decide +kernel
theorem dd_K_cancelGiver_53 : decode mt_K_cancelGiver.2.1 53 = .ok (.astore 4, 2) := by decide +kernel
theorem dd_K_cancelGiver_55 : decode mt_K_cancelGiver.2.1 55 = .ok (.aload_n 3, 1) := by decide +kernel
theorem dd_K_cancelGiver_56 : decode mt_K_cancelGiver.2.1 56 = .ok (.invokevirtual 297, 3) := by decide +kernel
theorem dd_K_cancelGiver_59 : decode mt_K_cancelGiver.2.1 59 = .ok (.ifCond .eq 40, 3) := by decide +kernel
theorem dd_K_cancelGiver_62 : decode mt_K_cancelGiver.2.1 62 = .ok (.aload 4, 2) := by decide +kernel
theorem dd_K_cancelGiver_64 : decode mt_K_cancelGiver.2.1 64 = .ok (.getfield 110, 3) := by decide +kernel
theorem dd_K_cancelGiver_67 : decode mt_K_cancelGiver.2.1 67 = .ok (.ifCond .ne 32, 3) := by decide +kernel
theorem dd_K_cancelGiver_70 : decode mt_K_cancelGiver.2.1 70 = .ok (.aload 4, 2) := by decide +kernel
theorem dd_K_cancelGiver_72 : decode mt_K_cancelGiver.2.1 72 = .ok (.getfield 83, 3) := by decide +kernel
theorem dd_K_cancelGiver_75 : decode mt_K_cancelGiver.2.1 75 = .ok (.invokevirtual 291, 3) := by decide +kernel
theorem dd_K_cancelGiver_78 : decode mt_K_cancelGiver.2.1 78 = .ok (.aload_n 0, 1) := by decide +kernel
theorem dd_K_cancelGiver_79 : decode mt_K_cancelGiver.2.1 79 = .ok (.aload 4, 2) := by decide +kernel
theorem dd_K_cancelGiver_81 : decode mt_K_cancelGiver.2.1 81 = .ok (.invokevirtual 107, 3) := by decide +kernel
theorem dd_K_cancelGiver_84 : decode mt_K_cancelGiver.2.1 84 = .ok (.aload_n 0, 1) := by decide +kernel
theorem dd_K_cancelGiver_85 : decode mt_K_cancelGiver.2.1 85 = .ok (.getfield 12, 3) := by decide +kernel
theorem dd_K_cancelGiver_88 : decode mt_K_cancelGiver.2.1 88 = .ok (.iconst 2, 1) := by decide +kernel
theorem dd_K_cancelGiver_89 : decode mt_K_cancelGiver.2.1 89 = .ok (.aload 4, 2) := by decide +kernel
theorem dd_K_cancelGiver_91 : decode mt_K_cancelGiver.2.1 91 = .ok (.getfield 60, 3) := by decide +kernel
theorem dd_K_cancelGiver_94 : decode mt_K_cancelGiver.2.1 94 = .ok (.iload_n 2, 1) := by decide +kernel
theorem dd_K_cancelGiver_95 : decode mt_K_cancelGiver.2.1 95 = .ok (.iconst 0, 1) := by decide +kernel
theorem dd_K_cancelGiver_96 : decode mt_K_cancelGiver.2.1 96 = .ok (.invokevirtual 254, 3) := by decide +kernel
theorem dd_K_cancelGiver_99 : decode mt_K_cancelGiver.2.1 99 = .ok (.return_, 1) := by decide +kernel
theorem dd_K_cancel_0 : decode mt_K_cancel.2.1 0 = .ok (.aload_n 0, 1) := by decide +kernel
theorem dd_K_cancel_1 : decode mt_K_cancel.2.1 1 = .ok (.iload_n 1, 1) := by decide +kernel
theorem dd_K_cancel_2 : decode mt_K_cancel.2.1 2 = .ok (.invokevirtual 133, 3) := by decide +kernel
theorem dd_K_cancel_5 : decode mt_K_cancel.2.1 5 = .ok (.astore_n 3, 1) := by decide +kernel
theorem dd_K_cancel_6 : decode mt_K_cancel.2.1 6 = .ok (.aload_n 3, 1) := by decide +kernel
theorem dd_K_cancel_7 : decode mt_K_cancel.2.1 7 = .ok (.ifnull 17, 3) := by decide +kernel
theorem dd_K_cancel_10 : decode mt_K_cancel.2.1 10 = .ok (.aload_n 3, 1) := by decide +kernel
theorem dd_K_cancel_11 : decode mt_K_cancel.2.1 11 = .ok (.invokevirtual 136, 3) := by decide +kernel
theorem dd_K_cancel_14 : decode mt_K_cancel.2.1 14 = .ok (.ifCond .ne 10, 3) := by decide +kernel
theorem dd_K_cancel_17 : decode mt_K_cancel.2.1 17 = .ok (.iload_n 2, 1) := by decide +kernel
theorem dd_K_cancel_18 : decode mt_K_cancel.2.1 18 = .ok (.invokestatic 113, 3) := by decide +kernel
theorem dd_K_cancel_21 : decode mt_K_cancel.2.1 21 = .ok (.ifCond .ne 5, 3) := by decide +kernel
theorem dd_K_cancel_24 : decode mt_K_cancel.2.1 24 = .ok (.iconst 0, 1) := by decide +kernel
theorem dd_K_cancel_25 : decode mt_K_cancel.2.1 25 = .ok (.ireturn, 1) := by decide +kernel
theorem dd_K_cancel_26 : decode mt_K_cancel.2.1 26 = .ok (.aload_n 0, 1) := by decide +kernel
theorem dd_K_cancel_27 : decode mt_K_cancel.2.1 27 = .ok (.aload_n 3, 1) := by decide +kernel
theorem dd_K_cancel_28 : decode mt_K_cancel.2.1 28 = .ok (.iload_n 2, 1) := by decide +kernel
theorem dd_K_cancel_29 : decode mt_K_cancel.2.1 29 = .ok (.invokevirtual 145, 3) := by decide +kernel
theorem dd_K_cancel_32 : decode mt_K_cancel.2.1 32 = .ok (.aload_n 0, 1) := by decide +kernel
theorem dd_K_cancel_33 : decode mt_K_cancel.2.1 33 = .ok (.invokevirtual 57, 3) := by decide +kernel
theorem dd_K_cancel_36 : decode mt_K_cancel.2.1 36 = .ok (.iconst 1, 1) := by decide +kernel
theorem dd_K_cancel_37 : decode mt_K_cancel.2.1 37 = .ok (.ireturn, 1) := by decide +kernel
theorem dd_K_takerAt_0 : decode mt_K_takerAt.2.1 0 = .ok (.iload_n 1, 1) := by decide +kernel
theorem dd_K_takerAt_1 : decode mt_K_takerAt.2.1 1 = .ok (.ifCond .lt 20, 3) := by decide +kernel
theorem dd_K_takerAt_4 : decode mt_K_takerAt.2.1 4 = .ok (.iload_n 1, 1) := by decide +kernel
theorem dd_K_takerAt_5 : decode mt_K_takerAt.2.1 5 = .ok (.aload_n 0, 1) := by decide +kernel
theorem dd_K_takerAt_6 : decode mt_K_takerAt.2.1 6 = .ok (.getfield 63, 3) := by decide +kernel
theorem dd_K_takerAt_9 : decode mt_K_takerAt.2.1 9 = .ok (.if_icmp .ge 12, 3) := by decide +kernel
theorem dd_K_takerAt_12 : decode mt_K_takerAt.2.1 12 = .ok (.aload_n 0, 1) := by decide +kernel
theorem dd_K_takerAt_13 : decode mt_K_takerAt.2.1 13 = .ok (.getfield 31, 3) := by decide +kernel
theorem dd_K_takerAt_16 : decode mt_K_takerAt.2.1 16 = .ok (.iload_n 1, 1) := by decide +kernel
theorem dd_K_takerAt_17 : decode mt_K_takerAt.2.1 17 = .ok (.aaload, 1) := by decide +kernel
theorem dd_K_takerAt_18 : decode mt_K_takerAt.2.1 18 = .ok (.goto 4, 3) := by decide +kernel
theorem dd_K_takerAt_21 : decode mt_K_takerAt.2.1 21 = .ok (.aconst_null, 1) := by decide +kernel
theorem dd_K_takerAt_22 : decode mt_K_takerAt.2.1 22 = .ok (.areturn, 1) := by decide +kernel
theorem dd_K_write_0 : decode mt_K_write.2.1 0 = .ok (.aload_n 0, 1) := by decide +kernel
theorem dd_K_write_1 : decode mt_K_write.2.1 1 = .ok (.iload_n 1, 1) := by decide +kernel
theorem dd_K_write_2 : decode mt_K_write.2.1 2 = .ok (.invokevirtual 148, 3) := by decide +kernel
theorem dd_K_write_5 : decode mt_K_write.2.1 5 = .ok (.astore_n 3, 1) := by decide +kernel
theorem dd_K_write_6 : decode mt_K_write.2.1 6 = .ok (.aload_n 3, 1) := by decide +kernel
theorem dd_K_write_7 : decode mt_K_write.2.1 7 = .ok (.ifnonnull 5, 3) := by decide +kernel
theorem dd_K_write_10 : decode mt_K_write.2.1 10 = .ok (.iconst (-1), 1) := by decide +kernel
theorem dd_K_write_11 : decode mt_K_write.2.1 11 = .ok (.ireturn, 1) := by decide +kernel
theorem dd_K_write_12 : decode mt_K_write.2.1 12 = .ok (.aload_n 3, 1) := by decide +kernel
theorem dd_K_write_13 : decode mt_K_write.2.1 13 = .ok (.getfield 152, 3) := by decide +kernel
theorem dd_K_write_16 : decode mt_K_write.2.1 16 = .ok (.ifCond .eq 6, 3) := by decide +kernel
theorem dd_K_write_19 : decode mt_K_write.2.1 19 = .ok (.bipush (-2), 2) := by decide +kernel
theorem dd_K_write_21 : decode mt_K_write.2.1 21 = .ok (.ireturn, 1) := by decide +kernel
theorem dd_K_write_22 : decode mt_K_write.2.1 22 = .ok (.aload_n 3, 1) := by decide +kernel
theorem dd_K_write_23 : decode mt_K_write.2.1 23 = .ok (.getfield 155, 3) := by decide +kernel
theorem dd_K_write_26 : decode mt_K_write.2.1 26 = .ok (.invokevirtual 87, 3) := by decide +kernel
theorem dd_K_write_29 : decode mt_K_write.2.1 29 = .ok (.bipush 16, 2) := by decide +kernel
theorem dd_K_write_31 : decode mt_K_write.2.1 31 = .ok (.if_icmp .lt 6, 3) := by decide +kernel
theorem dd_K_write_34 : decode mt_K_write.2.1 34 = .ok (.bipush (-3), 2) := by decide +kernel
theorem dd_K_write_36 : decode mt_K_write.2.1 36 = .ok (.ireturn, 1) := by decide +kernel
theorem dd_K_write_37 : decode mt_K_write.2.1 37 = .ok (.aload_n 3, 1) := by decide +kernel
theorem dd_K_write_38 : decode mt_K_write.2.1 38 = .ok (.iload_n 2, 1) := by decide +kernel
theorem dd_K_write_39 : decode mt_K_write.2.1 39 = .ok (.invokevirtual 156, 3) := by decide +kernel
theorem dd_K_write_42 : decode mt_K_write.2.1 42 = .ok (.istore 4, 2) := by decide +kernel
theorem dd_K_write_44 : decode mt_K_write.2.1 44 = .ok (.aload_n 0, 1) := by decide +kernel
theorem dd_K_write_45 : decode mt_K_write.2.1 45 = .ok (.invokevirtual 57, 3) := by decide +kernel
theorem dd_K_write_48 : decode mt_K_write.2.1 48 = .ok (.iload 4, 2) := by decide +kernel
theorem dd_K_write_50 : decode mt_K_write.2.1 50 = .ok (.ireturn, 1) := by decide +kernel
theorem dd_K_shut_0 : decode mt_K_shut.2.1 0 = .ok (.aload_n 0, 1) := by decide +kernel
theorem dd_K_shut_1 : decode mt_K_shut.2.1 1 = .ok (.iload_n 1, 1) := by decide +kernel
theorem dd_K_shut_2 : decode mt_K_shut.2.1 2 = .ok (.invokevirtual 148, 3) := by decide +kernel
theorem dd_K_shut_5 : decode mt_K_shut.2.1 5 = .ok (.astore_n 2, 1) := by decide +kernel
theorem dd_K_shut_6 : decode mt_K_shut.2.1 6 = .ok (.aload_n 2, 1) := by decide +kernel
theorem dd_K_shut_7 : decode mt_K_shut.2.1 7 = .ok (.ifnull 17, 3) := by decide +kernel
theorem dd_K_shut_10 : decode mt_K_shut.2.1 10 = .ok (.aload_n 2, 1) := by decide +kernel
theorem dd_K_shut_11 : decode mt_K_shut.2.1 11 = .ok (.getfield 152, 3) := by decide +kernel
theorem dd_K_shut_14 : decode mt_K_shut.2.1 14 = .ok (.ifCond .ne 10, 3) := by decide +kernel
theorem dd_K_shut_17 : decode mt_K_shut.2.1 17 = .ok (.aload_n 2, 1) := by decide +kernel
theorem dd_K_shut_18 : decode mt_K_shut.2.1 18 = .ok (.invokevirtual 160, 3) := by decide +kernel
theorem dd_K_shut_21 : decode mt_K_shut.2.1 21 = .ok (.ifCond .ne 5, 3) := by decide +kernel
theorem dd_K_shut_24 : decode mt_K_shut.2.1 24 = .ok (.iconst 0, 1) := by decide +kernel
theorem dd_K_shut_25 : decode mt_K_shut.2.1 25 = .ok (.ireturn, 1) := by decide +kernel
theorem dd_K_shut_26 : decode mt_K_shut.2.1 26 = .ok (.aload_n 2, 1) := by decide +kernel
theorem dd_K_shut_27 : decode mt_K_shut.2.1 27 = .ok (.invokevirtual 163, 3) := by decide +kernel
theorem dd_K_shut_30 : decode mt_K_shut.2.1 30 = .ok (.aload_n 0, 1) := by decide +kernel
theorem dd_K_shut_31 : decode mt_K_shut.2.1 31 = .ok (.invokevirtual 57, 3) := by decide +kernel
theorem dd_K_shut_34 : decode mt_K_shut.2.1 34 = .ok (.iconst 1, 1) := by decide +kernel
theorem dd_K_shut_35 : decode mt_K_shut.2.1 35 = .ok (.ireturn, 1) := by decide +kernel
theorem dd_K_abort_0 : decode mt_K_abort.2.1 0 = .ok (.aload_n 0, 1) := by decide +kernel
theorem dd_K_abort_1 : decode mt_K_abort.2.1 1 = .ok (.iload_n 1, 1) := by decide +kernel
theorem dd_K_abort_2 : decode mt_K_abort.2.1 2 = .ok (.invokevirtual 148, 3) := by decide +kernel
theorem dd_K_abort_5 : decode mt_K_abort.2.1 5 = .ok (.astore_n 3, 1) := by decide +kernel
theorem dd_K_abort_6 : decode mt_K_abort.2.1 6 = .ok (.aload_n 3, 1) := by decide +kernel
theorem dd_K_abort_7 : decode mt_K_abort.2.1 7 = .ok (.ifnull 17, 3) := by decide +kernel
theorem dd_K_abort_10 : decode mt_K_abort.2.1 10 = .ok (.aload_n 3, 1) := by decide +kernel
theorem dd_K_abort_11 : decode mt_K_abort.2.1 11 = .ok (.getfield 152, 3) := by decide +kernel
theorem dd_K_abort_14 : decode mt_K_abort.2.1 14 = .ok (.ifCond .ne 10, 3) := by decide +kernel
theorem dd_K_abort_17 : decode mt_K_abort.2.1 17 = .ok (.iload_n 2, 1) := by decide +kernel
theorem dd_K_abort_18 : decode mt_K_abort.2.1 18 = .ok (.invokestatic 113, 3) := by decide +kernel
theorem dd_K_abort_21 : decode mt_K_abort.2.1 21 = .ok (.ifCond .ne 5, 3) := by decide +kernel
theorem dd_K_abort_24 : decode mt_K_abort.2.1 24 = .ok (.iconst 0, 1) := by decide +kernel
theorem dd_K_abort_25 : decode mt_K_abort.2.1 25 = .ok (.ireturn, 1) := by decide +kernel
theorem dd_K_abort_26 : decode mt_K_abort.2.1 26 = .ok (.aload_n 3, 1) := by decide +kernel
theorem dd_K_abort_27 : decode mt_K_abort.2.1 27 = .ok (.getfield 166, 3) := by decide +kernel
theorem dd_K_abort_30 : decode mt_K_abort.2.1 30 = .ok (.ifCond .ne 11, 3) := by decide +kernel
theorem dd_K_abort_33 : decode mt_K_abort.2.1 33 = .ok (.aload_n 3, 1) := by decide +kernel
theorem dd_K_abort_34 : decode mt_K_abort.2.1 34 = .ok (.getfield 169, 3) := by decide +kernel
theorem dd_K_abort_37 : decode mt_K_abort.2.1 37 = .ok (.iconst 5, 1) := by decide +kernel
theorem dd_K_abort_38 : decode mt_K_abort.2.1 38 = .ok (.if_icmp .ne 5, 3) := by decide +kernel
theorem dd_K_abort_41 : decode mt_K_abort.2.1 41 = .ok (.iconst 0, 1) := by decide +kernel
theorem dd_K_abort_42 : decode mt_K_abort.2.1 42 = .ok (.ireturn, 1) := by decide +kernel
theorem dd_K_abort_43 : decode mt_K_abort.2.1 43 = .ok (.aload_n 3, 1) := by decide +kernel
theorem dd_K_abort_44 : decode mt_K_abort.2.1 44 = .ok (.iload_n 2, 1) := by decide +kernel
theorem dd_K_abort_45 : decode mt_K_abort.2.1 45 = .ok (.invokevirtual 172, 3) := by decide +kernel
theorem dd_K_abort_48 : decode mt_K_abort.2.1 48 = .ok (.aload_n 0, 1) := by decide +kernel
theorem dd_K_abort_49 : decode mt_K_abort.2.1 49 = .ok (.invokevirtual 57, 3) := by decide +kernel
theorem dd_K_abort_52 : decode mt_K_abort.2.1 52 = .ok (.iconst 1, 1) := by decide +kernel
theorem dd_K_abort_53 : decode mt_K_abort.2.1 53 = .ok (.ireturn, 1) := by decide +kernel
theorem dd_K_spoil_0 : decode mt_K_spoil.2.1 0 = .ok (.aload_n 0, 1) := by decide +kernel
theorem dd_K_spoil_1 : decode mt_K_spoil.2.1 1 = .ok (.iload_n 1, 1) := by decide +kernel
theorem dd_K_spoil_2 : decode mt_K_spoil.2.1 2 = .ok (.invokevirtual 148, 3) := by decide +kernel
theorem dd_K_spoil_5 : decode mt_K_spoil.2.1 5 = .ok (.astore_n 3, 1) := by decide +kernel
theorem dd_K_spoil_6 : decode mt_K_spoil.2.1 6 = .ok (.aload_n 3, 1) := by decide +kernel
theorem dd_K_spoil_7 : decode mt_K_spoil.2.1 7 = .ok (.ifnull 17, 3) := by decide +kernel
theorem dd_K_spoil_10 : decode mt_K_spoil.2.1 10 = .ok (.aload_n 3, 1) := by decide +kernel
theorem dd_K_spoil_11 : decode mt_K_spoil.2.1 11 = .ok (.getfield 176, 3) := by decide +kernel
theorem dd_K_spoil_14 : decode mt_K_spoil.2.1 14 = .ok (.ifCond .ne 10, 3) := by decide +kernel
theorem dd_K_spoil_17 : decode mt_K_spoil.2.1 17 = .ok (.iload_n 2, 1) := by decide +kernel
theorem dd_K_spoil_18 : decode mt_K_spoil.2.1 18 = .ok (.invokestatic 113, 3) := by decide +kernel
theorem dd_K_spoil_21 : decode mt_K_spoil.2.1 21 = .ok (.ifCond .ne 5, 3) := by decide +kernel
theorem dd_K_spoil_24 : decode mt_K_spoil.2.1 24 = .ok (.iconst 0, 1) := by decide +kernel
theorem dd_K_spoil_25 : decode mt_K_spoil.2.1 25 = .ok (.ireturn, 1) := by decide +kernel
theorem dd_K_spoil_26 : decode mt_K_spoil.2.1 26 = .ok (.aload_n 3, 1) := by decide +kernel
theorem dd_K_spoil_27 : decode mt_K_spoil.2.1 27 = .ok (.iload_n 2, 1) := by decide +kernel
theorem dd_K_spoil_28 : decode mt_K_spoil.2.1 28 = .ok (.invokevirtual 177, 3) := by decide +kernel
theorem dd_K_spoil_31 : decode mt_K_spoil.2.1 31 = .ok (.aload_n 0, 1) := by decide +kernel
theorem dd_K_spoil_32 : decode mt_K_spoil.2.1 32 = .ok (.invokevirtual 57, 3) := by decide +kernel
theorem dd_K_spoil_35 : decode mt_K_spoil.2.1 35 = .ok (.iconst 1, 1) := by decide +kernel
theorem dd_K_spoil_36 : decode mt_K_spoil.2.1 36 = .ok (.ireturn, 1) := by decide +kernel
theorem dd_K_settle_0 : decode mt_K_settle.2.1 0 = .ok (.aload_n 0, 1) := by decide +kernel
theorem dd_K_settle_1 : decode mt_K_settle.2.1 1 = .ok (.iload_n 1, 1) := by decide +kernel
theorem dd_K_settle_2 : decode mt_K_settle.2.1 2 = .ok (.invokevirtual 148, 3) := by decide +kernel
theorem dd_K_settle_5 : decode mt_K_settle.2.1 5 = .ok (.astore_n 3, 1) := by decide +kernel
theorem dd_K_settle_6 : decode mt_K_settle.2.1 6 = .ok (.aload_n 3, 1) := by decide +kernel
theorem dd_K_settle_7 : decode mt_K_settle.2.1 7 = .ok (.ifnull 17, 3) := by decide +kernel
theorem dd_K_settle_10 : decode mt_K_settle.2.1 10 = .ok (.aload_n 3, 1) := by decide +kernel
theorem dd_K_settle_11 : decode mt_K_settle.2.1 11 = .ok (.getfield 169, 3) := by decide +kernel
theorem dd_K_settle_14 : decode mt_K_settle.2.1 14 = .ok (.ifCond .eq 10, 3) := by decide +kernel
theorem dd_K_settle_17 : decode mt_K_settle.2.1 17 = .ok (.iload_n 2, 1) := by decide +kernel
theorem dd_K_settle_18 : decode mt_K_settle.2.1 18 = .ok (.invokestatic 126, 3) := by decide +kernel
theorem dd_K_settle_21 : decode mt_K_settle.2.1 21 = .ok (.ifCond .ne 5, 3) := by decide +kernel
theorem dd_K_settle_24 : decode mt_K_settle.2.1 24 = .ok (.iconst 0, 1) := by decide +kernel
theorem dd_K_settle_25 : decode mt_K_settle.2.1 25 = .ok (.ireturn, 1) := by decide +kernel
theorem dd_K_settle_26 : decode mt_K_settle.2.1 26 = .ok (.aload_n 0, 1) := by decide +kernel
theorem dd_K_settle_27 : decode mt_K_settle.2.1 27 = .ok (.getfield 19, 3) := by decide +kernel
theorem dd_K_settle_30 : decode mt_K_settle.2.1 30 = .ok (.aload_n 3, 1) := by decide +kernel
theorem dd_K_settle_31 : decode mt_K_settle.2.1 31 = .ok (.getfield 169, 3) := by decide +kernel
theorem dd_K_settle_34 : decode mt_K_settle.2.1 34 = .ok (.iload_n 1, 1) := by decide +kernel
theorem dd_K_settle_35 : decode mt_K_settle.2.1 35 = .ok (.invokevirtual 122, 3) := by decide +kernel
theorem dd_K_settle_38 : decode mt_K_settle.2.1 38 = .ok (.ifCond .eq 5, 3) := by decide +kernel
theorem dd_K_settle_41 : decode mt_K_settle.2.1 41 = .ok (.iconst 0, 1) := by decide +kernel
theorem dd_K_settle_42 : decode mt_K_settle.2.1 42 = .ok (.ireturn, 1) := by decide +kernel
theorem dd_K_settle_43 : decode mt_K_settle.2.1 43 = .ok (.aload_n 0, 1) := by decide +kernel
theorem dd_K_settle_44 : decode mt_K_settle.2.1 44 = .ok (.getfield 19, 3) := by decide +kernel
theorem dd_K_settle_47 : decode mt_K_settle.2.1 47 = .ok (.aload_n 3, 1) := by decide +kernel
theorem dd_K_settle_48 : decode mt_K_settle.2.1 48 = .ok (.getfield 169, 3) := by decide +kernel
theorem dd_K_settle_51 : decode mt_K_settle.2.1 51 = .ok (.iload_n 1, 1) := by decide +kernel
theorem dd_K_settle_52 : decode mt_K_settle.2.1 52 = .ok (.iload_n 2, 1) := by decide +kernel
theorem dd_K_settle_53 : decode mt_K_settle.2.1 53 = .ok (.invokevirtual 129, 3) := by decide +kernel
theorem dd_K_settle_56 : decode mt_K_settle.2.1 56 = .ok (.aload_n 0, 1) := by decide +kernel
theorem dd_K_settle_57 : decode mt_K_settle.2.1 57 = .ok (.invokevirtual 57, 3) := by decide +kernel
theorem dd_K_settle_60 : decode mt_K_settle.2.1 60 = .ok (.iconst 1, 1) := by decide +kernel
theorem dd_K_settle_61 : decode mt_K_settle.2.1 61 = .ok (.ireturn, 1) := by decide +kernel
theorem dd_K_pipe_0 : decode mt_K_pipe.2.1 0 = .ok (.aload_n 0, 1) := by decide +kernel
theorem dd_K_pipe_1 : decode mt_K_pipe.2.1 1 = .ok (.iload_n 1, 1) := by decide +kernel
theorem dd_K_pipe_2 : decode mt_K_pipe.2.1 2 = .ok (.invokevirtual 133, 3) := by decide +kernel
theorem dd_K_pipe_5 : decode mt_K_pipe.2.1 5 = .ok (.astore 4, 2) := by decide +kernel
theorem dd_K_pipe_7 : decode mt_K_pipe.2.1 7 = .ok (.aload_n 0, 1) := by decide +kernel
theorem dd_K_pipe_8 : decode mt_K_pipe.2.1 8 = .ok (.iload_n 2, 1) := by decide +kernel
theorem dd_K_pipe_9 : decode mt_K_pipe.2.1 9 = .ok (.invokevirtual 148, 3) := by decide +kernel
theorem dd_K_pipe_12 : decode mt_K_pipe.2.1 12 = .ok (.astore 5, 2) := by decide +kernel
theorem dd_K_pipe_14 : decode mt_K_pipe.2.1 14 = .ok (.aload 4, 2) := by decide +kernel
theorem dd_K_pipe_16 : decode mt_K_pipe.2.1 16 = .ok (.ifnull 18, 3) := by decide +kernel
theorem dd_K_pipe_19 : decode mt_K_pipe.2.1 19 = .ok (.aload 5, 2) := by decide +kernel
theorem dd_K_pipe_21 : decode mt_K_pipe.2.1 21 = .ok (.ifnull 13, 3) := by decide +kernel
theorem dd_K_pipe_24 : decode mt_K_pipe.2.1 24 = .ok (.iload_n 3, 1) := by decide +kernel
theorem dd_K_pipe_25 : decode mt_K_pipe.2.1 25 = .ok (.ifCond .lt 9, 3) := by decide +kernel
theorem dd_K_pipe_28 : decode mt_K_pipe.2.1 28 = .ok (.iload_n 3, 1) := by decide +kernel
theorem dd_K_pipe_29 : decode mt_K_pipe.2.1 29 = .ok (.bipush 7, 2) := by decide +kernel
theorem dd_K_pipe_31 : decode mt_K_pipe.2.1 31 = .ok (.if_icmp .le 5, 3) := by decide +kernel
theorem dd_K_pipe_34 : decode mt_K_pipe.2.1 34 = .ok (.iconst (-1), 1) := by decide +kernel
theorem dd_K_pipe_35 : decode mt_K_pipe.2.1 35 = .ok (.ireturn, 1) := by decide +kernel
theorem dd_K_pipe_36 : decode mt_K_pipe.2.1 36 = .ok (.aload 4, 2) := by decide +kernel
theorem dd_K_pipe_38 : decode mt_K_pipe.2.1 38 = .ok (.invokevirtual 136, 3) := by decide +kernel
theorem dd_K_pipe_41 : decode mt_K_pipe.2.1 41 = .ok (.ifCond .ne 22, 3) := by decide +kernel
theorem dd_K_pipe_44 : decode mt_K_pipe.2.1 44 = .ok (.aload 5, 2) := by decide +kernel
theorem dd_K_pipe_46 : decode mt_K_pipe.2.1 46 = .ok (.getfield 152, 3) := by decide +kernel
theorem dd_K_pipe_49 : decode mt_K_pipe.2.1 49 = .ok (.ifCond .ne 14, 3) := by decide +kernel
theorem dd_K_pipe_52 : decode mt_K_pipe.2.1 52 = .ok (.aload 4, 2) := by decide +kernel
theorem dd_K_pipe_54 : decode mt_K_pipe.2.1 54 = .ok (.getfield 91, 3) := by decide +kernel
theorem dd_K_pipe_57 : decode mt_K_pipe.2.1 57 = .ok (.getfield 95, 3) := by decide +kernel
theorem dd_K_pipe_60 : decode mt_K_pipe.2.1 60 = .ok (.ifCond .le 6, 3) := by decide +kernel
theorem dd_K_pipe_63 : decode mt_K_pipe.2.1 63 = .ok (.bipush (-2), 2) := by decide +kernel
theorem dd_K_pipe_65 : decode mt_K_pipe.2.1 65 = .ok (.ireturn, 1) := by decide +kernel
theorem dd_K_pipe_66 : decode mt_K_pipe.2.1 66 = .ok (.aload_n 0, 1) := by decide +kernel
theorem dd_K_pipe_67 : decode mt_K_pipe.2.1 67 = .ok (.getfield 180, 3) := by decide +kernel
theorem dd_K_pipe_70 : decode mt_K_pipe.2.1 70 = .ok (.iconst 2, 1) := by decide +kernel
theorem dd_K_pipe_71 : decode mt_K_pipe.2.1 71 = .ok (.if_icmp .lt 6, 3) := by decide +kernel
theorem dd_K_pipe_74 : decode mt_K_pipe.2.1 74 = .ok (.bipush (-3), 2) := by decide +kernel
theorem dd_K_pipe_76 : decode mt_K_pipe.2.1 76 = .ok (.ireturn, 1) := by decide +kernel
theorem dd_K_pipe_77 : decode mt_K_pipe.2.1 77 = .ok (.new 35, 3) := by decide +kernel
theorem dd_K_pipe_80 : decode mt_K_pipe.2.1 80 = .ok (.dup, 1) := by decide +kernel
theorem dd_K_pipe_81 : decode mt_K_pipe.2.1 81 = .ok (.aload_n 0, 1) := by decide +kernel
theorem dd_K_pipe_82 : decode mt_K_pipe.2.1 82 = .ok (.getfield 180, 3) := by decide +kernel
theorem dd_K_pipe_85 : decode mt_K_pipe.2.1 85 = .ok (.aload 4, 2) := by decide +kernel
theorem dd_K_pipe_87 : decode mt_K_pipe.2.1 87 = .ok (.aload 5, 2) := by decide +kernel
theorem dd_K_pipe_89 : decode mt_K_pipe.2.1 89 = .ok (.iload_n 3, 1) := by decide +kernel
theorem dd_K_pipe_90 : decode mt_K_pipe.2.1 90 = .ok (.invokespecial 183, 3) := by decide +kernel
theorem dd_K_pipe_93 : decode mt_K_pipe.2.1 93 = .ok (.astore 6, 2) := by decide +kernel
theorem dd_K_pipe_95 : decode mt_K_pipe.2.1 95 = .ok (.aload_n 0, 1) := by decide +kernel
theorem dd_K_pipe_96 : decode mt_K_pipe.2.1 96 = .ok (.getfield 37, 3) := by decide +kernel
theorem dd_K_pipe_99 : decode mt_K_pipe.2.1 99 = .ok (.aload_n 0, 1) := by decide +kernel
theorem dd_K_pipe_100 : decode mt_K_pipe.2.1 100 = .ok (.getfield 180, 3) := by decide +kernel
theorem dd_K_pipe_103 : decode mt_K_pipe.2.1 103 = .ok (.aload 6, 2) := by decide +kernel
theorem dd_K_pipe_105 : decode mt_K_pipe.2.1 105 = .ok (.aastore, 1) := by decide +kernel
theorem dd_K_pipe_106 : decode mt_K_pipe.2.1 106 = .ok (.aload_n 0, 1) := by decide +kernel
theorem dd_K_pipe_107 : decode mt_K_pipe.2.1 107 = .ok (.dup, 1) := by decide +kernel
theorem dd_K_pipe_108 : decode mt_K_pipe.2.1 108 = .ok (.getfield 180, 3) := by decide +kernel
theorem dd_K_pipe_111 : decode mt_K_pipe.2.1 111 = .ok (.iconst 1, 1) := by decide +kernel
theorem dd_K_pipe_112 : decode mt_K_pipe.2.1 112 = .ok (.iadd, 1) := by decide +kernel
theorem dd_K_pipe_113 : decode mt_K_pipe.2.1 113 = .ok (.putfield 180, 3) := by decide +kernel
theorem dd_K_pipe_116 : decode mt_K_pipe.2.1 116 = .ok (.aload 4, 2) := by decide +kernel
theorem dd_K_pipe_118 : decode mt_K_pipe.2.1 118 = .ok (.aload 6, 2) := by decide +kernel
theorem dd_K_pipe_120 : decode mt_K_pipe.2.1 120 = .ok (.putfield 186, 3) := by decide +kernel
theorem dd_K_pipe_123 : decode mt_K_pipe.2.1 123 = .ok (.aload 5, 2) := by decide +kernel
theorem dd_K_pipe_125 : decode mt_K_pipe.2.1 125 = .ok (.iconst 1, 1) := by decide +kernel
theorem dd_K_pipe_126 : decode mt_K_pipe.2.1 126 = .ok (.putfield 152, 3) := by decide +kernel
theorem dd_K_pipe_129 : decode mt_K_pipe.2.1 129 = .ok (.aload_n 0, 1) := by decide +kernel
theorem dd_K_pipe_130 : decode mt_K_pipe.2.1 130 = .ok (.invokevirtual 57, 3) := by decide +kernel
theorem dd_K_pipe_133 : decode mt_K_pipe.2.1 133 = .ok (.aload 6, 2) := by decide +kernel
theorem dd_K_pipe_135 : decode mt_K_pipe.2.1 135 = .ok (.getfield 190, 3) := by decide +kernel
theorem dd_K_pipe_138 : decode mt_K_pipe.2.1 138 = .ok (.ireturn, 1) := by decide +kernel
theorem dd_K_part_0 : decode mt_K_part.2.1 0 = .ok (.aload_n 0, 1) := by decide +kernel
theorem dd_K_part_1 : decode mt_K_part.2.1 1 = .ok (.iload_n 1, 1) := by decide +kernel
theorem dd_K_part_2 : decode mt_K_part.2.1 2 = .ok (.invokevirtual 133, 3) := by decide +kernel
theorem dd_K_part_5 : decode mt_K_part.2.1 5 = .ok (.astore_n 2, 1) := by decide +kernel
theorem dd_K_part_6 : decode mt_K_part.2.1 6 = .ok (.aload_n 2, 1) := by decide +kernel
theorem dd_K_part_7 : decode mt_K_part.2.1 7 = .ok (.ifnonnull 5, 3) := by decide +kernel
theorem dd_K_part_10 : decode mt_K_part.2.1 10 = .ok (.iconst (-1), 1) := by decide +kernel
theorem dd_K_part_11 : decode mt_K_part.2.1 11 = .ok (.ireturn, 1) := by decide +kernel
theorem dd_K_part_12 : decode mt_K_part.2.1 12 = .ok (.aload_n 2, 1) := by decide +kernel
theorem dd_K_part_13 : decode mt_K_part.2.1 13 = .ok (.invokevirtual 136, 3) := by decide +kernel
theorem dd_K_part_16 : decode mt_K_part.2.1 16 = .ok (.ifCond .ne 20, 3) := by decide +kernel
theorem dd_K_part_19 : decode mt_K_part.2.1 19 = .ok (.aload_n 2, 1) := by decide +kernel
theorem dd_K_part_20 : decode mt_K_part.2.1 20 = .ok (.getfield 191, 3) := by decide +kernel
theorem dd_K_part_23 : decode mt_K_part.2.1 23 = .ok (.ifnonnull 13, 3) := by decide +kernel
theorem dd_K_part_26 : decode mt_K_part.2.1 26 = .ok (.aload_n 2, 1) := by decide +kernel
theorem dd_K_part_27 : decode mt_K_part.2.1 27 = .ok (.getfield 91, 3) := by decide +kernel
theorem dd_K_part_30 : decode mt_K_part.2.1 30 = .ok (.getfield 95, 3) := by decide +kernel
theorem dd_K_part_33 : decode mt_K_part.2.1 33 = .ok (.ifCond .le 6, 3) := by decide +kernel
theorem dd_K_part_36 : decode mt_K_part.2.1 36 = .ok (.bipush (-2), 2) := by decide +kernel
theorem dd_K_part_38 : decode mt_K_part.2.1 38 = .ok (.ireturn, 1) := by decide +kernel
theorem dd_K_part_39 : decode mt_K_part.2.1 39 = .ok (.aload_n 0, 1) := by decide +kernel
theorem dd_K_part_40 : decode mt_K_part.2.1 40 = .ok (.getfield 45, 3) := by decide +kernel
theorem dd_K_part_43 : decode mt_K_part.2.1 43 = .ok (.iconst 4, 1) := by decide +kernel
theorem dd_K_part_44 : decode mt_K_part.2.1 44 = .ok (.if_icmp .le 6, 3) := by decide +kernel
theorem dd_K_part_47 : decode mt_K_part.2.1 47 = .ok (.bipush (-3), 2) := by decide +kernel
theorem dd_K_part_49 : decode mt_K_part.2.1 49 = .ok (.ireturn, 1) := by decide +kernel
theorem dd_K_part_50 : decode mt_K_part.2.1 50 = .ok (.aload_n 0, 1) := by decide +kernel
theorem dd_K_part_51 : decode mt_K_part.2.1 51 = .ok (.iconst 0, 1) := by decide +kernel
theorem dd_K_part_52 : decode mt_K_part.2.1 52 = .ok (.iconst 0, 1) := by decide +kernel
theorem dd_K_part_53 : decode mt_K_part.2.1 53 = .ok (.invokevirtual 49, 3) := by decide +kernel
theorem dd_K_part_56 : decode mt_K_part.2.1 56 = .ok (.astore_n 3, 1) := by decide +kernel
theorem dd_K_part_57 : decode mt_K_part.2.1 57 = .ok (.aload_n 0, 1) := by decide +kernel
theorem dd_K_part_58 : decode mt_K_part.2.1 58 = .ok (.iconst 0, 1) := by decide +kernel
theorem dd_K_part_59 : decode mt_K_part.2.1 59 = .ok (.iconst 0, 1) := by decide +kernel
theorem dd_K_part_60 : decode mt_K_part.2.1 60 = .ok (.invokevirtual 49, 3) := by decide +kernel
theorem dd_K_part_63 : decode mt_K_part.2.1 63 = .ok (.astore 4, 2) := by decide +kernel
theorem dd_K_part_65 : decode mt_K_part.2.1 65 = .ok (.new 195, 3) := by decide +kernel
theorem dd_K_part_68 : decode mt_K_part.2.1 68 = .ok (.dup, 1) := by decide +kernel
theorem dd_K_part_69 : decode mt_K_part.2.1 69 = .ok (.aload_n 2, 1) := by decide +kernel
theorem dd_K_part_70 : decode mt_K_part.2.1 70 = .ok (.aload_n 3, 1) := by decide +kernel
theorem dd_K_part_71 : decode mt_K_part.2.1 71 = .ok (.aload 4, 2) := by decide +kernel
theorem dd_K_part_73 : decode mt_K_part.2.1 73 = .ok (.invokespecial 197, 3) := by decide +kernel
theorem dd_K_part_76 : decode mt_K_part.2.1 76 = .ok (.astore 5, 2) := by decide +kernel
theorem dd_K_part_78 : decode mt_K_part.2.1 78 = .ok (.aload_n 2, 1) := by decide +kernel
theorem dd_K_part_79 : decode mt_K_part.2.1 79 = .ok (.aload 5, 2) := by decide +kernel
theorem dd_K_part_81 : decode mt_K_part.2.1 81 = .ok (.putfield 200, 3) := by decide +kernel
theorem dd_K_part_84 : decode mt_K_part.2.1 84 = .ok (.aload_n 3, 1) := by decide +kernel
theorem dd_K_part_85 : decode mt_K_part.2.1 85 = .ok (.aload 5, 2) := by decide +kernel
theorem dd_K_part_87 : decode mt_K_part.2.1 87 = .ok (.putfield 191, 3) := by decide +kernel
theorem dd_K_part_90 : decode mt_K_part.2.1 90 = .ok (.aload 4, 2) := by decide +kernel
theorem dd_K_part_92 : decode mt_K_part.2.1 92 = .ok (.aload 5, 2) := by decide +kernel
theorem dd_K_part_94 : decode mt_K_part.2.1 94 = .ok (.putfield 191, 3) := by decide +kernel
theorem dd_K_part_97 : decode mt_K_part.2.1 97 = .ok (.aload_n 2, 1) := by decide +kernel
theorem dd_K_part_98 : decode mt_K_part.2.1 98 = .ok (.getfield 110, 3) := by decide +kernel
theorem dd_K_part_101 : decode mt_K_part.2.1 101 = .ok (.iconst 1, 1) := by decide +kernel
theorem dd_K_part_102 : decode mt_K_part.2.1 102 = .ok (.if_icmp .ne 12, 3) := by decide +kernel
theorem dd_K_part_105 : decode mt_K_part.2.1 105 = .ok (.aload_n 0, 1) := by decide +kernel
theorem dd_K_part_106 : decode mt_K_part.2.1 106 = .ok (.aload 5, 2) := by decide +kernel
theorem dd_K_part_108 : decode mt_K_part.2.1 108 = .ok (.invokevirtual 203, 3) := by decide +kernel
theorem dd_K_part_111 : decode mt_K_part.2.1 111 = .ok (.goto 21, 3) := by decide +kernel
theorem dd_K_part_114 : decode mt_K_part.2.1 114 = .ok (.aload_n 2, 1) := by decide +kernel
theorem dd_K_part_115 : decode mt_K_part.2.1 115 = .ok (.getfield 110, 3) := by decide +kernel
theorem dd_K_part_118 : decode mt_K_part.2.1 118 = .ok (.iconst 2, 1) := by decide +kernel
theorem dd_K_part_119 : decode mt_K_part.2.1 119 = .ok (.if_icmp .ne 13, 3) := by decide +kernel
theorem dd_K_part_122 : decode mt_K_part.2.1 122 = .ok (.aload_n 0, 1) := by decide +kernel
theorem dd_K_part_123 : decode mt_K_part.2.1 123 = .ok (.aload 5, 2) := by decide +kernel
theorem dd_K_part_125 : decode mt_K_part.2.1 125 = .ok (.aload_n 2, 1) := by decide +kernel
theorem dd_K_part_126 : decode mt_K_part.2.1 126 = .ok (.getfield 207, 3) := by decide +kernel
theorem dd_K_part_129 : decode mt_K_part.2.1 129 = .ok (.invokevirtual 210, 3) := by decide +kernel
theorem dd_K_part_132 : decode mt_K_part.2.1 132 = .ok (.aload_n 0, 1) := by decide +kernel
theorem dd_K_part_133 : decode mt_K_part.2.1 133 = .ok (.invokevirtual 57, 3) := by decide +kernel
theorem dd_K_part_136 : decode mt_K_part.2.1 136 = .ok (.aload_n 3, 1) := by decide +kernel
theorem dd_K_part_137 : decode mt_K_part.2.1 137 = .ok (.getfield 60, 3) := by decide +kernel
theorem dd_K_part_140 : decode mt_K_part.2.1 140 = .ok (.ireturn, 1) := by decide +kernel
theorem dd_K_doPulled_0 : decode mt_K_doPulled.2.1 0 = .ok (.aload_n 1, 1) := by decide +kernel
theorem dd_K_doPulled_1 : decode mt_K_doPulled.2.1 1 = .ok (.ifnonnull 4, 3) := by decide +kernel
theorem dd_K_doPulled_4 : decode mt_K_doPulled.2.1 4 = .ok (.return_, 1) := by decide +kernel
theorem dd_K_doPulled_5 : decode mt_K_doPulled.2.1 5 = .ok (.aload_n 1, 1) := by decide +kernel
theorem dd_K_doPulled_6 : decode mt_K_doPulled.2.1 6 = .ok (.iconst 0, 1) := by decide +kernel
theorem dd_K_doPulled_7 : decode mt_K_doPulled.2.1 7 = .ok (.putfield 119, 3) := by decide +kernel
theorem dd_K_doPulled_10 : decode mt_K_doPulled.2.1 10 = .ok (.iload_n 2, 1) := by decide +kernel
theorem dd_K_doPulled_11 : decode mt_K_doPulled.2.1 11 = .ok (.iconst (-1), 1) := by decide +kernel
theorem dd_K_doPulled_12 : decode mt_K_doPulled.2.1 12 = .ok (.if_icmp .eq 12, 3) := by decide +kernel
theorem dd_K_doPulled_15 : decode mt_K_doPulled.2.1 15 = .ok (.aload_n 0, 1) := by decide +kernel
theorem dd_K_doPulled_16 : decode mt_K_doPulled.2.1 16 = .ok (.aload_n 1, 1) := by decide +kernel
theorem dd_K_doPulled_17 : decode mt_K_doPulled.2.1 17 = .ok (.iload_n 2, 1) := by decide +kernel
theorem dd_K_doPulled_18 : decode mt_K_doPulled.2.1 18 = .ok (.invokevirtual 116, 3) := by decide +kernel
theorem dd_K_doPulled_21 : decode mt_K_doPulled.2.1 21 = .ok (.goto 20, 3) := by decide +kernel
theorem dd_K_doPulled_24 : decode mt_K_doPulled.2.1 24 = .ok (.aload_n 1, 1) := by decide +kernel
theorem dd_K_doPulled_25 : decode mt_K_doPulled.2.1 25 = .ok (.getfield 218, 3) := by decide +kernel
theorem dd_K_doPulled_28 : decode mt_K_doPulled.2.1 28 = .ok (.ifCond .eq 13, 3) := by decide +kernel
theorem dd_K_doPulled_31 : decode mt_K_doPulled.2.1 31 = .ok (.aload_n 1, 1) := by decide +kernel
theorem dd_K_doPulled_32 : decode mt_K_doPulled.2.1 32 = .ok (.iconst 0, 1) := by decide +kernel
theorem dd_K_doPulled_33 : decode mt_K_doPulled.2.1 33 = .ok (.putfield 218, 3) := by decide +kernel
theorem dd_K_doPulled_36 : decode mt_K_doPulled.2.1 36 = .ok (.aload_n 0, 1) := by decide +kernel
theorem dd_K_doPulled_37 : decode mt_K_doPulled.2.1 37 = .ok (.aload_n 1, 1) := by decide +kernel
theorem dd_K_doPulled_38 : decode mt_K_doPulled.2.1 38 = .ok (.invokevirtual 53, 3) := by decide +kernel
theorem dd_K_doPulled_41 : decode mt_K_doPulled.2.1 41 = .ok (.return_, 1) := by decide +kernel
theorem dd_K_doParted_0 : decode mt_K_doParted.2.1 0 = .ok (.aload_n 1, 1) := by decide +kernel
theorem dd_K_doParted_1 : decode mt_K_doParted.2.1 1 = .ok (.ifnull 10, 3) := by decide +kernel
theorem dd_K_doParted_4 : decode mt_K_doParted.2.1 4 = .ok (.aload_n 1, 1) := by decide +kernel
theorem dd_K_doParted_5 : decode mt_K_doParted.2.1 5 = .ok (.getfield 200, 3) := by decide +kernel
theorem dd_K_doParted_8 : decode mt_K_doParted.2.1 8 = .ok (.ifnonnull 4, 3) := by decide +kernel
theorem dd_K_doParted_11 : decode mt_K_doParted.2.1 11 = .ok (.return_, 1) := by decide +kernel
theorem dd_K_doParted_12 : decode mt_K_doParted.2.1 12 = .ok (.aload_n 1, 1) := by decide +kernel
theorem dd_K_doParted_13 : decode mt_K_doParted.2.1 13 = .ok (.getfield 200, 3) := by decide +kernel
theorem dd_K_doParted_16 : decode mt_K_doParted.2.1 16 = .ok (.astore_n 3, 1) := by decide +kernel
theorem dd_K_doParted_17 : decode mt_K_doParted.2.1 17 = .ok (.aload_n 3, 1) := by decide +kernel
theorem dd_K_doParted_18 : decode mt_K_doParted.2.1 18 = .ok (.iconst 0, 1) := by decide +kernel
theorem dd_K_doParted_19 : decode mt_K_doParted.2.1 19 = .ok (.putfield 276, 3) := by decide +kernel
theorem dd_K_doParted_22 : decode mt_K_doParted.2.1 22 = .ok (.aload_n 3, 1) := by decide +kernel
theorem dd_K_doParted_23 : decode mt_K_doParted.2.1 23 = .ok (.getfield 285, 3) := by decide +kernel
theorem dd_K_doParted_26 : decode mt_K_doParted.2.1 26 = .ok (.astore 4, 2) := by decide +kernel
theorem dd_K_doParted_28 : decode mt_K_doParted.2.1 28 = .ok (.aload 4, 2) := by decide +kernel
theorem dd_K_doParted_30 : decode mt_K_doParted.2.1 30 = .ok (.arraylength, 1) := by decide +kernel
theorem dd_K_doParted_31 : decode mt_K_doParted.2.1 31 = .ok (.istore 5, 2) := by decide +kernel
theorem dd_K_doParted_33 : decode mt_K_doParted.2.1 33 = .ok (.iconst 0, 1) := by decide +kernel
theorem dd_K_doParted_34 : decode mt_K_doParted.2.1 34 = .ok (.istore 6, 2) := by decide +kernel
theorem dd_K_doParted_36 : decode mt_K_doParted.2.1 36 = .ok (.iload 6, 2) := by decide +kernel
theorem dd_K_doParted_38 : decode mt_K_doParted.2.1 38 = .ok (.iload 5, 2) := by decide +kernel
theorem dd_K_doParted_40 : decode mt_K_doParted.2.1 40 = .ok (.if_icmp .ge 65, 3) := by decide +kernel
theorem dd_K_doParted_43 : decode mt_K_doParted.2.1 43 = .ok (.aload 4, 2) := by decide +kernel
theorem dd_K_doParted_45 : decode mt_K_doParted.2.1 45 = .ok (.iload 6, 2) := by decide +kernel
theorem dd_K_doParted_47 : decode mt_K_doParted.2.1 47 = .ok (.aaload, 1) := by decide +kernel
theorem dd_K_doParted_48 : decode mt_K_doParted.2.1 48 = .ok (.astore 7, 2) := by decide +kernel
theorem dd_K_doParted_50 : decode mt_K_doParted.2.1 50 = .ok (.aload 7, 2) := by decide +kernel
theorem dd_K_doParted_52 : decode mt_K_doParted.2.1 52 = .ok (.invokevirtual 79, 3) := by decide +kernel
theorem dd_K_doParted_55 : decode mt_K_doParted.2.1 55 = .ok (.ifCond .eq 44, 3) := by decide +kernel
theorem dd_K_doParted_58 : decode mt_K_doParted.2.1 58 = .ok (.aload 7, 2) := by decide +kernel
theorem dd_K_doParted_60 : decode mt_K_doParted.2.1 60 = .ok (.getfield 294, 3) := by decide +kernel
theorem dd_K_doParted_63 : decode mt_K_doParted.2.1 63 = .ok (.ifCond .eq 6, 3) := by decide +kernel
theorem dd_K_doParted_66 : decode mt_K_doParted.2.1 66 = .ok (.goto 33, 3) := by decide +kernel
theorem dd_K_doParted_69 : decode mt_K_doParted.2.1 69 = .ok (.aload 7, 2) := by decide +kernel
theorem dd_K_doParted_71 : decode mt_K_doParted.2.1 71 = .ok (.getfield 83, 3) := by decide +kernel
theorem dd_K_doParted_74 : decode mt_K_doParted.2.1 74 = .ok (.invokevirtual 87, 3) := by decide +kernel
theorem dd_K_doParted_77 : decode mt_K_doParted.2.1 77 = .ok (.bipush 16, 2) := by decide +kernel
theorem dd_K_doParted_79 : decode mt_K_doParted.2.1 79 = .ok (.if_icmp .lt 13, 3) := by decide +kernel
theorem dd_K_doParted_82 : decode mt_K_doParted.2.1 82 = .ok (.aload 7, 2) := by decide +kernel
theorem dd_K_doParted_84 : decode mt_K_doParted.2.1 84 = .ok (.bipush 101, 2) := by decide +kernel
theorem dd_K_doParted_86 : decode mt_K_doParted.2.1 86 = .ok (.invokevirtual 288, 3) := by decide +kernel
theorem dd_K_doParted_89 : decode mt_K_doParted.2.1 89 = .ok (.goto 10, 3) := by decide +kernel
theorem dd_K_doParted_92 : decode mt_K_doParted.2.1 92 = .ok (.aload_n 0, 1) := by decide +kernel
theorem dd_K_doParted_93 : decode mt_K_doParted.2.1 93 = .ok (.aload 7, 2) := by decide +kernel
theorem dd_K_doParted_95 : decode mt_K_doParted.2.1 95 = .ok (.iload_n 2, 1) := by decide +kernel
theorem dd_K_doParted_96 : decode mt_K_doParted.2.1 96 = .ok (.invokevirtual 99, 3) := by decide +kernel
theorem dd_K_doParted_99 : decode mt_K_doParted.2.1 99 = .ok (.iinc 6 1, 3) := by decide +kernel
theorem dd_K_doParted_102 : decode mt_K_doParted.2.1 102 = .ok (.goto (-66), 3) := by decide +kernel
theorem dd_K_doParted_105 : decode mt_K_doParted.2.1 105 = .ok (.aload_n 3, 1) := by decide +kernel
theorem dd_K_doParted_106 : decode mt_K_doParted.2.1 106 = .ok (.iconst 0, 1) := by decide +kernel
theorem dd_K_doParted_107 : decode mt_K_doParted.2.1 107 = .ok (.putfield 273, 3) := by decide +kernel
theorem dd_K_doParted_110 : decode mt_K_doParted.2.1 110 = .ok (.aload_n 3, 1) := by decide +kernel
theorem dd_K_doParted_111 : decode mt_K_doParted.2.1 111 = .ok (.getfield 276, 3) := by decide +kernel
theorem dd_K_doParted_114 : decode mt_K_doParted.2.1 114 = .ok (.ifCond .eq 16, 3) := by decide +kernel
theorem dd_K_doParted_117 : decode mt_K_doParted.2.1 117 = .ok (.aload_n 0, 1) := by decide +kernel
theorem dd_K_doParted_118 : decode mt_K_doParted.2.1 118 = .ok (.aload_n 3, 1) := by decide +kernel
theorem dd_K_doParted_119 : decode mt_K_doParted.2.1 119 = .ok (.invokevirtual 277, 3) := by decide +kernel
theorem dd_K_doParted_122 : decode mt_K_doParted.2.1 122 = .ok (.ifCond .ne 8, 3) := by decide +kernel
theorem dd_K_doParted_125 : decode mt_K_doParted.2.1 125 = .ok (.aload_n 0, 1) := by decide +kernel
theorem dd_K_doParted_126 : decode mt_K_doParted.2.1 126 = .ok (.aload_n 3, 1) := by decide +kernel
theorem dd_K_doParted_127 : decode mt_K_doParted.2.1 127 = .ok (.invokevirtual 203, 3) := by decide +kernel
theorem dd_K_doParted_130 : decode mt_K_doParted.2.1 130 = .ok (.return_, 1) := by decide +kernel
theorem dd_K_endPipe_0 : decode mt_K_endPipe.2.1 0 = .ok (.aload_n 1, 1) := by decide +kernel
theorem dd_K_endPipe_1 : decode mt_K_endPipe.2.1 1 = .ok (.invokevirtual 361, 3) := by decide +kernel
theorem dd_K_endPipe_4 : decode mt_K_endPipe.2.1 4 = .ok (.aload_n 0, 1) := by decide +kernel
theorem dd_K_endPipe_5 : decode mt_K_endPipe.2.1 5 = .ok (.getfield 12, 3) := by decide +kernel
theorem dd_K_endPipe_8 : decode mt_K_endPipe.2.1 8 = .ok (.iload_n 2, 1) := by decide +kernel
theorem dd_K_endPipe_9 : decode mt_K_endPipe.2.1 9 = .ok (.aload_n 1, 1) := by decide +kernel
theorem dd_K_endPipe_10 : decode mt_K_endPipe.2.1 10 = .ok (.getfield 190, 3) := by decide +kernel
theorem dd_K_endPipe_13 : decode mt_K_endPipe.2.1 13 = .ok (.iload_n 3, 1) := by decide +kernel
theorem dd_K_endPipe_14 : decode mt_K_endPipe.2.1 14 = .ok (.iconst 0, 1) := by decide +kernel
theorem dd_K_endPipe_15 : decode mt_K_endPipe.2.1 15 = .ok (.invokevirtual 254, 3) := by decide +kernel
theorem dd_K_endPipe_18 : decode mt_K_endPipe.2.1 18 = .ok (.return_, 1) := by decide +kernel
theorem dd_K_doPump_0 : decode mt_K_doPump.2.1 0 = .ok (.aload_n 1, 1) := by decide +kernel
theorem dd_K_doPump_1 : decode mt_K_doPump.2.1 1 = .ok (.ifnull 10, 3) := by decide +kernel
theorem dd_K_doPump_4 : decode mt_K_doPump.2.1 4 = .ok (.aload_n 1, 1) := by decide +kernel
theorem dd_K_doPump_5 : decode mt_K_doPump.2.1 5 = .ok (.getfield 304, 3) := by decide +kernel
theorem dd_K_doPump_8 : decode mt_K_doPump.2.1 8 = .ok (.ifCond .eq 5, 3) := by decide +kernel
theorem dd_K_doPump_11 : decode mt_K_doPump.2.1 11 = .ok (.iconst 0, 1) := by decide +kernel
theorem dd_K_doPump_12 : decode mt_K_doPump.2.1 12 = .ok (.ireturn, 1) := by decide +kernel
theorem dd_K_doPump_13 : decode mt_K_doPump.2.1 13 = .ok (.aload_n 1, 1) := by decide +kernel
theorem dd_K_doPump_14 : decode mt_K_doPump.2.1 14 = .ok (.getfield 339, 3) := by decide +kernel
theorem dd_K_doPump_17 : decode mt_K_doPump.2.1 17 = .ok (.astore_n 2, 1) := by decide +kernel
theorem dd_K_doPump_18 : decode mt_K_doPump.2.1 18 = .ok (.aload_n 1, 1) := by decide +kernel
theorem dd_K_doPump_19 : decode mt_K_doPump.2.1 19 = .ok (.getfield 258, 3) := by decide +kernel
theorem dd_K_doPump_22 : decode mt_K_doPump.2.1 22 = .ok (.astore_n 3, 1) := by decide +kernel
theorem dd_K_doPump_23 : decode mt_K_doPump.2.1 23 = .ok (.aload_n 2, 1) := by decide +kernel
theorem dd_K_doPump_24 : decode mt_K_doPump.2.1 24 = .ok (.getfield 110, 3) := by decide +kernel
theorem dd_K_doPump_27 : decode mt_K_doPump.2.1 27 = .ok (.iconst 2, 1) := by decide +kernel
theorem dd_K_doPump_28 : decode mt_K_doPump.2.1 28 = .ok (.if_icmp .ne 32, 3) := by decide +kernel
theorem dd_K_doPump_31 : decode mt_K_doPump.2.1 31 = .ok (.aload_n 1, 1) := by decide +kernel
theorem dd_K_doPump_32 : decode mt_K_doPump.2.1 32 = .ok (.getfield 342, 3) := by decide +kernel
theorem dd_K_doPump_35 : decode mt_K_doPump.2.1 35 = .ok (.ifCond .ne 11, 3) := by decide +kernel
theorem dd_K_doPump_38 : decode mt_K_doPump.2.1 38 = .ok (.aload_n 3, 1) := by decide +kernel
theorem dd_K_doPump_39 : decode mt_K_doPump.2.1 39 = .ok (.aload_n 2, 1) := by decide +kernel
theorem dd_K_doPump_40 : decode mt_K_doPump.2.1 40 = .ok (.getfield 207, 3) := by decide +kernel
theorem dd_K_doPump_43 : decode mt_K_doPump.2.1 43 = .ok (.invokevirtual 172, 3) := by decide +kernel
theorem dd_K_doPump_46 : decode mt_K_doPump.2.1 46 = .ok (.aload_n 0, 1) := by decide +kernel
theorem dd_K_doPump_47 : decode mt_K_doPump.2.1 47 = .ok (.aload_n 1, 1) := by decide +kernel
theorem dd_K_doPump_48 : decode mt_K_doPump.2.1 48 = .ok (.bipush 16, 2) := by decide +kernel
theorem dd_K_doPump_50 : decode mt_K_doPump.2.1 50 = .ok (.aload_n 2, 1) := by decide +kernel
theorem dd_K_doPump_51 : decode mt_K_doPump.2.1 51 = .ok (.getfield 207, 3) := by decide +kernel
theorem dd_K_doPump_54 : decode mt_K_doPump.2.1 54 = .ok (.invokevirtual 345, 3) := by decide +kernel
theorem dd_K_doPump_57 : decode mt_K_doPump.2.1 57 = .ok (.goto 130, 3) := by decide +kernel
theorem dd_K_doPump_60 : decode mt_K_doPump.2.1 60 = .ok (.aload_n 3, 1) := by decide +kernel
theorem dd_K_doPump_61 : decode mt_K_doPump.2.1 61 = .ok (.invokevirtual 240, 3) := by decide +kernel
theorem dd_K_doPump_64 : decode mt_K_doPump.2.1 64 = .ok (.ifCond .eq 33, 3) := by decide +kernel
theorem dd_K_doPump_67 : decode mt_K_doPump.2.1 67 = .ok (.aload_n 1, 1) := by decide +kernel
theorem dd_K_doPump_68 : decode mt_K_doPump.2.1 68 = .ok (.getfield 349, 3) := by decide +kernel
theorem dd_K_doPump_71 : decode mt_K_doPump.2.1 71 = .ok (.ifCond .ne 12, 3) := by decide +kernel
theorem dd_K_doPump_74 : decode mt_K_doPump.2.1 74 = .ok (.aload_n 0, 1) := by decide +kernel
theorem dd_K_doPump_75 : decode mt_K_doPump.2.1 75 = .ok (.aload_n 2, 1) := by decide +kernel
theorem dd_K_doPump_76 : decode mt_K_doPump.2.1 76 = .ok (.aload_n 3, 1) := by decide +kernel
theorem dd_K_doPump_77 : decode mt_K_doPump.2.1 77 = .ok (.getfield 243, 3) := by decide +kernel
theorem dd_K_doPump_80 : decode mt_K_doPump.2.1 80 = .ok (.invokevirtual 145, 3) := by decide +kernel
theorem dd_K_doPump_83 : decode mt_K_doPump.2.1 83 = .ok (.aload_n 0, 1) := by decide +kernel
theorem dd_K_doPump_84 : decode mt_K_doPump.2.1 84 = .ok (.aload_n 1, 1) := by decide +kernel
theorem dd_K_doPump_85 : decode mt_K_doPump.2.1 85 = .ok (.bipush 16, 2) := by decide +kernel
theorem dd_K_doPump_87 : decode mt_K_doPump.2.1 87 = .ok (.aload_n 3, 1) := by decide +kernel
theorem dd_K_doPump_88 : decode mt_K_doPump.2.1 88 = .ok (.getfield 243, 3) := by decide +kernel
theorem dd_K_doPump_91 : decode mt_K_doPump.2.1 91 = .ok (.invokevirtual 345, 3) := by decide +kernel
theorem dd_K_doPump_94 : decode mt_K_doPump.2.1 94 = .ok (.goto 93, 3) := by decide +kernel
theorem dd_K_doPump_97 : decode mt_K_doPump.2.1 97 = .ok (.aload_n 2, 1) := by decide +kernel
theorem dd_K_doPump_98 : decode mt_K_doPump.2.1 98 = .ok (.getfield 110, 3) := by decide +kernel
theorem dd_K_doPump_101 : decode mt_K_doPump.2.1 101 = .ok (.iconst 1, 1) := by decide +kernel
theorem dd_K_doPump_102 : decode mt_K_doPump.2.1 102 = .ok (.if_icmp .ne 37, 3) := by decide +kernel
theorem dd_K_doPump_105 : decode mt_K_doPump.2.1 105 = .ok (.aload_n 3, 1) := by decide +kernel
theorem dd_K_doPump_106 : decode mt_K_doPump.2.1 106 = .ok (.getfield 155, 3) := by decide +kernel
theorem dd_K_doPump_109 : decode mt_K_doPump.2.1 109 = .ok (.invokevirtual 87, 3) := by decide +kernel
theorem dd_K_doPump_112 : decode mt_K_doPump.2.1 112 = .ok (.ifCond .le 5, 3) := by decide +kernel
theorem dd_K_doPump_115 : decode mt_K_doPump.2.1 115 = .ok (.iconst 0, 1) := by decide +kernel
theorem dd_K_doPump_116 : decode mt_K_doPump.2.1 116 = .ok (.ireturn, 1) := by decide +kernel
theorem dd_K_doPump_117 : decode mt_K_doPump.2.1 117 = .ok (.aload_n 1, 1) := by decide +kernel
theorem dd_K_doPump_118 : decode mt_K_doPump.2.1 118 = .ok (.getfield 352, 3) := by decide +kernel
theorem dd_K_doPump_121 : decode mt_K_doPump.2.1 121 = .ok (.ifCond .ne 7, 3) := by decide +kernel
theorem dd_K_doPump_124 : decode mt_K_doPump.2.1 124 = .ok (.aload_n 3, 1) := by decide +kernel
theorem dd_K_doPump_125 : decode mt_K_doPump.2.1 125 = .ok (.invokevirtual 163, 3) := by decide +kernel
theorem dd_K_doPump_128 : decode mt_K_doPump.2.1 128 = .ok (.aload_n 0, 1) := by decide +kernel
theorem dd_K_doPump_129 : decode mt_K_doPump.2.1 129 = .ok (.aload_n 1, 1) := by decide +kernel
theorem dd_K_doPump_130 : decode mt_K_doPump.2.1 130 = .ok (.bipush 15, 2) := by decide +kernel
theorem dd_K_doPump_132 : decode mt_K_doPump.2.1 132 = .ok (.iconst 0, 1) := by decide +kernel
theorem dd_K_doPump_133 : decode mt_K_doPump.2.1 133 = .ok (.invokevirtual 345, 3) := by decide +kernel
theorem dd_K_doPump_136 : decode mt_K_doPump.2.1 136 = .ok (.goto 51, 3) := by decide +kernel
theorem dd_K_doPump_139 : decode mt_K_doPump.2.1 139 = .ok (.aload_n 3, 1) := by decide +kernel
theorem dd_K_doPump_140 : decode mt_K_doPump.2.1 140 = .ok (.invokevirtual 355, 3) := by decide +kernel
theorem dd_K_doPump_143 : decode mt_K_doPump.2.1 143 = .ok (.ifCond .eq 29, 3) := by decide +kernel
theorem dd_K_doPump_146 : decode mt_K_doPump.2.1 146 = .ok (.aload_n 1, 1) := by decide +kernel
theorem dd_K_doPump_147 : decode mt_K_doPump.2.1 147 = .ok (.getfield 349, 3) := by decide +kernel
theorem dd_K_doPump_150 : decode mt_K_doPump.2.1 150 = .ok (.ifCond .ne 10, 3) := by decide +kernel
theorem dd_K_doPump_153 : decode mt_K_doPump.2.1 153 = .ok (.aload_n 0, 1) := by decide +kernel
theorem dd_K_doPump_154 : decode mt_K_doPump.2.1 154 = .ok (.aload_n 2, 1) := by decide +kernel
theorem dd_K_doPump_155 : decode mt_K_doPump.2.1 155 = .ok (.bipush 100, 2) := by decide +kernel
theorem dd_K_doPump_157 : decode mt_K_doPump.2.1 157 = .ok (.invokevirtual 145, 3) := by decide +kernel
theorem dd_K_doPump_160 : decode mt_K_doPump.2.1 160 = .ok (.aload_n 0, 1) := by decide +kernel
theorem dd_K_doPump_161 : decode mt_K_doPump.2.1 161 = .ok (.aload_n 1, 1) := by decide +kernel
theorem dd_K_doPump_162 : decode mt_K_doPump.2.1 162 = .ok (.bipush 16, 2) := by decide +kernel
theorem dd_K_doPump_164 : decode mt_K_doPump.2.1 164 = .ok (.bipush 100, 2) := by decide +kernel
theorem dd_K_doPump_166 : decode mt_K_doPump.2.1 166 = .ok (.invokevirtual 345, 3) := by decide +kernel
theorem dd_K_doPump_169 : decode mt_K_doPump.2.1 169 = .ok (.goto 18, 3) := by decide +kernel
theorem dd_K_doPump_172 : decode mt_K_doPump.2.1 172 = .ok (.aload_n 1, 1) := by decide +kernel
theorem dd_K_doPump_173 : decode mt_K_doPump.2.1 173 = .ok (.invokevirtual 358, 3) := by decide +kernel
theorem dd_K_doPump_176 : decode mt_K_doPump.2.1 176 = .ok (.ifCond .eq 5, 3) := by decide +kernel
theorem dd_K_doPump_179 : decode mt_K_doPump.2.1 179 = .ok (.iconst 0, 1) := by decide +kernel
theorem dd_K_doPump_180 : decode mt_K_doPump.2.1 180 = .ok (.ireturn, 1) := by decide +kernel
theorem dd_K_doPump_181 : decode mt_K_doPump.2.1 181 = .ok (.aload_n 0, 1) := by decide +kernel
theorem dd_K_doPump_182 : decode mt_K_doPump.2.1 182 = .ok (.aload_n 2, 1) := by decide +kernel
theorem dd_K_doPump_183 : decode mt_K_doPump.2.1 183 = .ok (.iconst 0, 1) := by decide +kernel
theorem dd_K_doPump_184 : decode mt_K_doPump.2.1 184 = .ok (.invokevirtual 142, 3) := by decide +kernel
theorem dd_K_doPump_187 : decode mt_K_doPump.2.1 187 = .ok (.iconst 1, 1) := by decide +kernel
theorem dd_K_doPump_188 : decode mt_K_doPump.2.1 188 = .ok (.ireturn, 1) := by decide +kernel
theorem dd_K_doSettled_0 : decode mt_K_doSettled.2.1 0 = .ok (.aload_n 1, 1) := by decide +kernel
theorem dd_K_doSettled_1 : decode mt_K_doSettled.2.1 1 = .ok (.ifnonnull 4, 3) := by decide +kernel
theorem dd_K_doSettled_4 : decode mt_K_doSettled.2.1 4 = .ok (.return_, 1) := by decide +kernel
theorem dd_K_doSettled_5 : decode mt_K_doSettled.2.1 5 = .ok (.aload_n 1, 1) := by decide +kernel
theorem dd_K_doSettled_6 : decode mt_K_doSettled.2.1 6 = .ok (.iconst 0, 1) := by decide +kernel
theorem dd_K_doSettled_7 : decode mt_K_doSettled.2.1 7 = .ok (.putfield 169, 3) := by decide +kernel
theorem dd_K_doSettled_10 : decode mt_K_doSettled.2.1 10 = .ok (.iload_n 2, 1) := by decide +kernel
theorem dd_K_doSettled_11 : decode mt_K_doSettled.2.1 11 = .ok (.iconst 3, 1) := by decide +kernel
theorem dd_K_doSettled_12 : decode mt_K_doSettled.2.1 12 = .ok (.if_icmp .ne 11, 3) := by decide +kernel
theorem dd_K_doSettled_15 : decode mt_K_doSettled.2.1 15 = .ok (.aload_n 1, 1) := by decide +kernel
theorem dd_K_doSettled_16 : decode mt_K_doSettled.2.1 16 = .ok (.iload_n 3, 1) := by decide +kernel
theorem dd_K_doSettled_17 : decode mt_K_doSettled.2.1 17 = .ok (.invokevirtual 330, 3) := by decide +kernel
theorem dd_K_doSettled_20 : decode mt_K_doSettled.2.1 20 = .ok (.goto 21, 3) := by decide +kernel
theorem dd_K_doSettled_23 : decode mt_K_doSettled.2.1 23 = .ok (.iload_n 2, 1) := by decide +kernel
theorem dd_K_doSettled_24 : decode mt_K_doSettled.2.1 24 = .ok (.iconst 4, 1) := by decide +kernel
theorem dd_K_doSettled_25 : decode mt_K_doSettled.2.1 25 = .ok (.if_icmp .ne 11, 3) := by decide +kernel
theorem dd_K_doSettled_28 : decode mt_K_doSettled.2.1 28 = .ok (.aload_n 1, 1) := by decide +kernel
theorem dd_K_doSettled_29 : decode mt_K_doSettled.2.1 29 = .ok (.iload_n 3, 1) := by decide +kernel
theorem dd_K_doSettled_30 : decode mt_K_doSettled.2.1 30 = .ok (.invokevirtual 333, 3) := by decide +kernel
theorem dd_K_doSettled_33 : decode mt_K_doSettled.2.1 33 = .ok (.goto 8, 3) := by decide +kernel
theorem dd_K_doSettled_36 : decode mt_K_doSettled.2.1 36 = .ok (.aload_n 1, 1) := by decide +kernel
theorem dd_K_doSettled_37 : decode mt_K_doSettled.2.1 37 = .ok (.iload_n 3, 1) := by decide +kernel
theorem dd_K_doSettled_38 : decode mt_K_doSettled.2.1 38 = .ok (.invokevirtual 336, 3) := by decide +kernel
theorem dd_K_doSettled_41 : decode mt_K_doSettled.2.1 41 = .ok (.return_, 1) := by decide +kernel
end
section
def fc_K_read (t : xo_N) (x1 : Int32) (H : xo_H) : Option (Int32 × xo_H) :=
  xo_cl 0 (some t) (fun n13 => fc_K_giverAt n13 x1 H) fun r1 =>
  if r1.1 = none then (some ((-1 : Int32), r1.2))
  else (xo_cl 5 r1.1 (fun n12 => fc_G_heldBy n12 r1.2) fun r2 =>
  if r2.1 = 0 then (xo_gp 5 3 r2.2 r1.1 fun o3 =>
  xo_gf 3 2 r2.2 o3 fun v4 =>
  if v4 < (8 : Int32) then (xo_gf 5 6 r2.2 r1.1 fun v5 =>
  xo_pf 5 6 r2.2 r1.1 (v5 + (1 : Int32)) fun H6 =>
  xo_gf 5 6 H6 r1.1 fun v7 =>
  xo_cl 0 (some t) (fun n11 => fc_K_request n11 r1.1 v7 H6) fun H8 =>
  xo_cl 0 (some t) (fun n10 => fc_K_awaitPumps n10 H8) fun H9 =>
  some (v7, H9))
  else (some ((-3 : Int32), r2.2)))
  else (some ((-2 : Int32), r2.2)))

set_option maxRecDepth 100000 in
set_option maxHeartbeats 4000000 in
theorem kb_K_read (t : xo_N) (x1 : Int32) (H : xo_H) (r : Int32 × xo_H) : xo_X mt_K_read 0 0 xo_ji r 0 [(0, .inr (some t)), (1, .inl x1)] [] H (fc_K_read t x1 H) := by
  unfold fc_K_read
  refine xo_aload_n (pc' := 1) dd_K_read_0 rfl 0 rfl rfl ?_
  refine xo_iload_n (pc' := 2) dd_K_read_1 rfl 1 rfl rfl ?_
  refine xo_callVp (as := [.inl x1]) (o := (some t)) (st := []) (pc' := 5) dd_K_read_2 cv_K_giverAt ml_K_133 rfl rfl ⟨by decide, by decide⟩ rfl rfl rfl (Nat.le_of_ble_eq_true rfl) rfl (fun n q h => kc_K_giverAt n x1 H q h) fun r1 => ?_
  refine xo_astore_n (pc' := 6) dd_K_read_5 rfl (by decide) rfl rfl ?_
  refine xo_aload_n (pc' := 7) dd_K_read_6 rfl 0 rfl rfl ?_
  refine xo_ifnonnull (pc' := 10) (tgt := 12) dd_K_read_7 rfl rfl ?_ ?_
  · refine xo_aload_n (pc' := 13) dd_K_read_12 rfl 0 rfl rfl ?_
    refine xo_callVi (as := []) (o := r1.1) (st := []) (pc' := 16) dd_K_read_13 cv_G_heldBy ml_K_136 rfl rfl ⟨by decide, by decide⟩ rfl rfl rfl (Nat.le_of_ble_eq_true rfl) rfl (fun n q h => kc_G_heldBy n r1.2 q h) fun r2 => ?_
    refine xo_if_eq (pc' := 19) (tgt := 22) dd_K_read_16 rfl rfl ?_ ?_
    · refine xo_aload_n (pc' := 23) dd_K_read_22 rfl 0 rfl rfl ?_
      refine xo_getP (pc' := 26) dd_K_read_23 ff_K_91 (by decide) rfl fun o3 => ?_
      refine xo_getI (pc' := 29) dd_K_read_26 ff_K_95 (by decide) rfl fun v4 => ?_
      refine xo_bipush (pc' := 31) (v := (8 : Int32)) dd_K_read_29 (by decide) rfl ?_
      refine xo_icmp_lt (pc' := 34) (tgt := 37) dd_K_read_31 rfl rfl ?_ ?_
      · refine xo_aload_n (pc' := 38) dd_K_read_37 rfl 0 rfl rfl ?_
        refine xo_dup (pc' := 39) dd_K_read_38 rfl ?_
        refine xo_getI (pc' := 42) dd_K_read_39 ff_K_139 (by decide) rfl fun v5 => ?_
        refine xo_iconst (pc' := 43) (v := (1 : Int32)) dd_K_read_42 (by decide) rfl ?_
        refine xo_iadd (pc' := 44) dd_K_read_43 rfl ?_
        refine xo_putI (pc' := 47) dd_K_read_44 ff_K_139 rfl fun H6 => ?_
        refine xo_aload_n (pc' := 48) dd_K_read_47 rfl 0 rfl rfl ?_
        refine xo_getI (pc' := 51) dd_K_read_48 ff_K_139 (by decide) rfl fun v7 => ?_
        refine xo_istore_n (pc' := 52) dd_K_read_51 rfl (by decide) rfl rfl ?_
        refine xo_aload_n (pc' := 53) dd_K_read_52 rfl 2 rfl rfl ?_
        refine xo_aload_n (pc' := 54) dd_K_read_53 rfl 1 rfl rfl ?_
        refine xo_iload_n (pc' := 55) dd_K_read_54 rfl 0 rfl rfl ?_
        refine xo_callVv (as := [.inr r1.1, .inl v7]) (o := (some t)) (st := []) (pc' := 58) dd_K_read_55 cv_K_request ml_K_142 rfl rfl ⟨by decide, by decide⟩ rfl rfl rfl (Nat.le_of_ble_eq_true rfl) rfl (fun n q h => kc_K_request n r1.1 v7 H6 q h) fun H8 => ?_
        refine xo_aload_n (pc' := 59) dd_K_read_58 rfl 2 rfl rfl ?_
        refine xo_callVv (as := []) (o := (some t)) (st := []) (pc' := 62) dd_K_read_59 cv_K_awaitPumps ml_K_57 rfl rfl ⟨by decide, by decide⟩ rfl rfl rfl (Nat.le_of_ble_eq_true rfl) rfl (fun n q h => kc_K_awaitPumps n H8 q h) fun H9 => ?_
        refine xo_iload_n (pc' := 63) dd_K_read_62 rfl 0 rfl rfl ?_
        exact xo_iret dd_K_read_63 rfl
      · refine xo_bipush (pc' := 36) (v := (-3 : Int32)) dd_K_read_34 (by decide) rfl ?_
        exact xo_iret dd_K_read_36 rfl
    · refine xo_bipush (pc' := 21) (v := (-2 : Int32)) dd_K_read_19 (by decide) rfl ?_
      exact xo_iret dd_K_read_21 rfl
  · refine xo_iconst (pc' := 11) (v := (-1 : Int32)) dd_K_read_10 (by decide) rfl ?_
    exact xo_iret dd_K_read_11 rfl
set_option maxRecDepth 100000 in
set_option maxHeartbeats 4000000 in
theorem kc_K_read (t : xo_N) (x1 : Int32) (H : xo_H) (r : Int32 × xo_H) (hk : fc_K_read t x1 H = some r) : xo_M mt_K_read [.inr (some t), .inl x1] H (xo_ji r) :=
  xo_entry hk (by decide +kernel) (Nat.le_of_ble_eq_true rfl) (kb_K_read t x1 H r)
def fc_K_cancelGiver (t : xo_N) (x1 : Option xo_N) (x2 : Int32) (H : xo_H) : Option (xo_H) :=
  xo_gf 5 4 H x1 fun v1 =>
  if v1 = 0 then (xo_gp 5 1 H x1 fun o2 =>
  xo_cl 4 o2 (fun n25 => fc_C_clear n25 H) fun H3 =>
  xo_cl 0 (some t) (fun n24 => fc_K_closeGiver n24 x1 H3) fun H4 =>
  xo_gp 5 11 H4 x1 fun o5 =>
  if o5 = none then (xo_gp 0 0 H4 (some t) fun o20 =>
  xo_gf 5 0 H4 x1 fun v21 =>
  xo_cl 1 o20 (fun n23 => fc_L_note n23 (2 : Int32) v21 x2 (0 : Int32) H4) fun H22 =>
  some H22)
  else (xo_pz 5 10 H4 x1 (1 : Int32) fun H6 =>
  xo_gp 6 0 H6 o5 fun o7 =>
  xo_cl 6 o5 (fun n19 => fc_A_isGivenUp n19 H6) fun r8 =>
  if r8.1 = 0 then (some r8.2)
  else (xo_gf 5 4 r8.2 o7 fun v9 =>
  if v9 = 0 then (xo_gp 5 1 r8.2 o7 fun o10 =>
  xo_cl 4 o10 (fun n18 => fc_C_clear n18 r8.2) fun H11 =>
  xo_cl 0 (some t) (fun n17 => fc_K_closeGiver n17 o7 H11) fun H12 =>
  xo_gp 0 0 H12 (some t) fun o13 =>
  xo_gf 5 0 H12 o7 fun v14 =>
  xo_cl 1 o13 (fun n16 => fc_L_note n16 (2 : Int32) v14 x2 (0 : Int32) H12) fun H15 =>
  some H15)
  else (some r8.2))))
  else (some H)

set_option maxRecDepth 100000 in
set_option maxHeartbeats 4000000 in
theorem kb_K_cancelGiver (t : xo_N) (x1 : Option xo_N) (x2 : Int32) (H : xo_H) (r : xo_H) : xo_X mt_K_cancelGiver 0 0 xo_jv r 0 [(0, .inr (some t)), (1, .inr x1), (2, .inl x2)] [] H (fc_K_cancelGiver t x1 x2 H) := by
  unfold fc_K_cancelGiver
  refine xo_aload_n (pc' := 1) dd_K_cancelGiver_0 rfl 1 rfl rfl ?_
  refine xo_getI (pc' := 4) dd_K_cancelGiver_1 ff_K_110 (by decide) rfl fun v1 => ?_
  refine xo_if_eq (pc' := 7) (tgt := 8) dd_K_cancelGiver_4 rfl rfl ?_ ?_
  · refine xo_aload_n (pc' := 9) dd_K_cancelGiver_8 rfl 1 rfl rfl ?_
    refine xo_getP (pc' := 12) dd_K_cancelGiver_9 ff_K_83 (by decide) rfl fun o2 => ?_
    refine xo_callVv (as := []) (o := o2) (st := []) (pc' := 15) dd_K_cancelGiver_12 cv_C_clear ml_K_291 rfl rfl ⟨by decide, by decide⟩ rfl rfl rfl (Nat.le_of_ble_eq_true rfl) rfl (fun n q h => kc_C_clear n H q h) fun H3 => ?_
    refine xo_aload_n (pc' := 16) dd_K_cancelGiver_15 rfl 0 rfl rfl ?_
    refine xo_aload_n (pc' := 17) dd_K_cancelGiver_16 rfl 1 rfl rfl ?_
    refine xo_callVv (as := [.inr x1]) (o := (some t)) (st := []) (pc' := 20) dd_K_cancelGiver_17 cv_K_closeGiver ml_K_107 rfl rfl ⟨by decide, by decide⟩ rfl rfl rfl (Nat.le_of_ble_eq_true rfl) rfl (fun n q h => kc_K_closeGiver n x1 H3 q h) fun H4 => ?_
    refine xo_aload_n (pc' := 21) dd_K_cancelGiver_20 rfl 1 rfl rfl ?_
    refine xo_getP (pc' := 24) dd_K_cancelGiver_21 ff_K_191 (by decide) rfl fun o5 => ?_
    refine xo_astore_n (pc' := 25) dd_K_cancelGiver_24 rfl (by decide) rfl rfl ?_
    refine xo_aload_n (pc' := 26) dd_K_cancelGiver_25 rfl 0 rfl rfl ?_
    refine xo_ifnonnull (pc' := 29) (tgt := 44) dd_K_cancelGiver_26 rfl rfl ?_ ?_
    · refine xo_aload_n (pc' := 45) dd_K_cancelGiver_44 rfl 2 rfl rfl ?_
      refine xo_iconst (pc' := 46) (v := (1 : Int32)) dd_K_cancelGiver_45 (by decide) rfl ?_
      refine xo_putZ (pc' := 49) dd_K_cancelGiver_46 ff_K_294 rfl fun H6 => ?_
      refine xo_aload_n (pc' := 50) dd_K_cancelGiver_49 rfl 0 rfl rfl ?_
      refine xo_getP (pc' := 53) dd_K_cancelGiver_50 ff_K_281 (by decide) rfl fun o7 => ?_
      refine xo_astore (pc' := 55) dd_K_cancelGiver_53 (by decide) rfl rfl ?_
      refine xo_aload_n (pc' := 56) dd_K_cancelGiver_55 rfl 1 rfl rfl ?_
      refine xo_callVi (as := []) (o := o5) (st := []) (pc' := 59) dd_K_cancelGiver_56 cv_A_isGivenUp ml_K_297 rfl rfl ⟨by decide, by decide⟩ rfl rfl rfl (Nat.le_of_ble_eq_true rfl) rfl (fun n q h => kc_A_isGivenUp n H6 q h) fun r8 => ?_
      refine xo_if_eq (pc' := 62) (tgt := 99) dd_K_cancelGiver_59 rfl rfl ?_ ?_
      · exact xo_vret dd_K_cancelGiver_99 rfl
      · refine xo_aload (pc' := 64) dd_K_cancelGiver_62 0 rfl rfl ?_
        refine xo_getI (pc' := 67) dd_K_cancelGiver_64 ff_K_110 (by decide) rfl fun v9 => ?_
        refine xo_if_ne (pc' := 70) (tgt := 99) dd_K_cancelGiver_67 rfl rfl ?_ ?_
        · exact xo_vret dd_K_cancelGiver_99 rfl
        · refine xo_aload (pc' := 72) dd_K_cancelGiver_70 0 rfl rfl ?_
          refine xo_getP (pc' := 75) dd_K_cancelGiver_72 ff_K_83 (by decide) rfl fun o10 => ?_
          refine xo_callVv (as := []) (o := o10) (st := []) (pc' := 78) dd_K_cancelGiver_75 cv_C_clear ml_K_291 rfl rfl ⟨by decide, by decide⟩ rfl rfl rfl (Nat.le_of_ble_eq_true rfl) rfl (fun n q h => kc_C_clear n r8.2 q h) fun H11 => ?_
          refine xo_aload_n (pc' := 79) dd_K_cancelGiver_78 rfl 2 rfl rfl ?_
          refine xo_aload (pc' := 81) dd_K_cancelGiver_79 0 rfl rfl ?_
          refine xo_callVv (as := [.inr o7]) (o := (some t)) (st := []) (pc' := 84) dd_K_cancelGiver_81 cv_K_closeGiver ml_K_107 rfl rfl ⟨by decide, by decide⟩ rfl rfl rfl (Nat.le_of_ble_eq_true rfl) rfl (fun n q h => kc_K_closeGiver n o7 H11 q h) fun H12 => ?_
          refine xo_aload_n (pc' := 85) dd_K_cancelGiver_84 rfl 2 rfl rfl ?_
          refine xo_getP (pc' := 88) dd_K_cancelGiver_85 ff_K_12 (by decide) rfl fun o13 => ?_
          refine xo_iconst (pc' := 89) (v := (2 : Int32)) dd_K_cancelGiver_88 (by decide) rfl ?_
          refine xo_aload (pc' := 91) dd_K_cancelGiver_89 0 rfl rfl ?_
          refine xo_getI (pc' := 94) dd_K_cancelGiver_91 ff_K_60 (by decide) rfl fun v14 => ?_
          refine xo_iload_n (pc' := 95) dd_K_cancelGiver_94 rfl 4 rfl rfl ?_
          refine xo_iconst (pc' := 96) (v := (0 : Int32)) dd_K_cancelGiver_95 (by decide) rfl ?_
          refine xo_callVv (as := [.inl (2 : Int32), .inl v14, .inl x2, .inl (0 : Int32)]) (o := o13) (st := []) (pc' := 99) dd_K_cancelGiver_96 cv_L_note ml_K_254 rfl rfl ⟨by decide, by decide⟩ rfl rfl rfl (Nat.le_of_ble_eq_true rfl) rfl (fun n q h => kc_L_note n (2 : Int32) v14 x2 (0 : Int32) H12 q h) fun H15 => ?_
          exact xo_vret dd_K_cancelGiver_99 rfl
    · refine xo_aload_n (pc' := 30) dd_K_cancelGiver_29 rfl 1 rfl rfl ?_
      refine xo_getP (pc' := 33) dd_K_cancelGiver_30 ff_K_12 (by decide) rfl fun o20 => ?_
      refine xo_iconst (pc' := 34) (v := (2 : Int32)) dd_K_cancelGiver_33 (by decide) rfl ?_
      refine xo_aload_n (pc' := 35) dd_K_cancelGiver_34 rfl 2 rfl rfl ?_
      refine xo_getI (pc' := 38) dd_K_cancelGiver_35 ff_K_60 (by decide) rfl fun v21 => ?_
      refine xo_iload_n (pc' := 39) dd_K_cancelGiver_38 rfl 3 rfl rfl ?_
      refine xo_iconst (pc' := 40) (v := (0 : Int32)) dd_K_cancelGiver_39 (by decide) rfl ?_
      refine xo_callVv (as := [.inl (2 : Int32), .inl v21, .inl x2, .inl (0 : Int32)]) (o := o20) (st := []) (pc' := 43) dd_K_cancelGiver_40 cv_L_note ml_K_254 rfl rfl ⟨by decide, by decide⟩ rfl rfl rfl (Nat.le_of_ble_eq_true rfl) rfl (fun n q h => kc_L_note n (2 : Int32) v21 x2 (0 : Int32) H4 q h) fun H22 => ?_
      exact xo_vret dd_K_cancelGiver_43 rfl
  · exact xo_vret dd_K_cancelGiver_7 rfl
set_option maxRecDepth 100000 in
set_option maxHeartbeats 4000000 in
theorem kc_K_cancelGiver (t : xo_N) (x1 : Option xo_N) (x2 : Int32) (H : xo_H) (r : xo_H) (hk : fc_K_cancelGiver t x1 x2 H = some r) : xo_M mt_K_cancelGiver [.inr (some t), .inr x1, .inl x2] H (xo_jv r) :=
  xo_entry hk (by decide +kernel) (Nat.le_of_ble_eq_true rfl) (kb_K_cancelGiver t x1 x2 H r)
def fc_K_cancel (t : xo_N) (x1 : Int32) (x2 : Int32) (H : xo_H) : Option (Int32 × xo_H) :=
  xo_cl 0 (some t) (fun n9 => fc_K_giverAt n9 x1 H) fun r1 =>
  if r1.1 = none then (xo_gb (0 : Int32) (some ((0 : Int32), r1.2)))
  else (xo_cl 5 r1.1 (fun n8 => fc_G_heldBy n8 r1.2) fun r2 =>
  if r2.1 = 0 then ((fc_K_isError x2 r2.2).bind fun r3 =>
  if r3.1 = 0 then (xo_gb (0 : Int32) (some ((0 : Int32), r3.2)))
  else (xo_cl 0 (some t) (fun n7 => fc_K_cancelGiver n7 r1.1 x2 r3.2) fun H4 =>
  xo_cl 0 (some t) (fun n6 => fc_K_awaitPumps n6 H4) fun H5 =>
  xo_gb (1 : Int32) (some ((1 : Int32), H5))))
  else (xo_gb (0 : Int32) (some ((0 : Int32), r2.2))))

set_option maxRecDepth 100000 in
set_option maxHeartbeats 4000000 in
theorem kb_K_cancel (t : xo_N) (x1 : Int32) (x2 : Int32) (H : xo_H) (r : Int32 × xo_H) : xo_X mt_K_cancel 0 0 xo_ji r 0 [(0, .inr (some t)), (1, .inl x1), (2, .inl x2)] [] H (fc_K_cancel t x1 x2 H) := by
  unfold fc_K_cancel
  refine xo_aload_n (pc' := 1) dd_K_cancel_0 rfl 0 rfl rfl ?_
  refine xo_iload_n (pc' := 2) dd_K_cancel_1 rfl 1 rfl rfl ?_
  refine xo_callVp (as := [.inl x1]) (o := (some t)) (st := []) (pc' := 5) dd_K_cancel_2 cv_K_giverAt ml_K_133 rfl rfl ⟨by decide, by decide⟩ rfl rfl rfl (Nat.le_of_ble_eq_true rfl) rfl (fun n q h => kc_K_giverAt n x1 H q h) fun r1 => ?_
  refine xo_astore_n (pc' := 6) dd_K_cancel_5 rfl (by decide) rfl rfl ?_
  refine xo_aload_n (pc' := 7) dd_K_cancel_6 rfl 0 rfl rfl ?_
  refine xo_ifnull (pc' := 10) (tgt := 24) dd_K_cancel_7 rfl rfl ?_ ?_
  · refine xo_iconst (pc' := 25) (v := (0 : Int32)) dd_K_cancel_24 (by decide) rfl ?_
    exact xo_zret dd_K_cancel_25 rfl
  · refine xo_aload_n (pc' := 11) dd_K_cancel_10 rfl 0 rfl rfl ?_
    refine xo_callVi (as := []) (o := r1.1) (st := []) (pc' := 14) dd_K_cancel_11 cv_G_heldBy ml_K_136 rfl rfl ⟨by decide, by decide⟩ rfl rfl rfl (Nat.le_of_ble_eq_true rfl) rfl (fun n q h => kc_G_heldBy n r1.2 q h) fun r2 => ?_
    refine xo_if_ne (pc' := 17) (tgt := 24) dd_K_cancel_14 rfl rfl ?_ ?_
    · refine xo_iconst (pc' := 25) (v := (0 : Int32)) dd_K_cancel_24 (by decide) rfl ?_
      exact xo_zret dd_K_cancel_25 rfl
    · refine xo_iload_n (pc' := 18) dd_K_cancel_17 rfl 3 rfl rfl ?_
      refine xo_callSi (as := [.inl x2]) (st := []) (pc' := 21) dd_K_cancel_18 cv_K_isError ml_K_113 rfl ⟨by decide, by decide⟩ rfl rfl rfl (Nat.le_of_ble_eq_true rfl) rfl (fun q h => kc_K_isError x2 r2.2 q h) fun r3 => ?_
      refine xo_if_ne (pc' := 24) (tgt := 26) dd_K_cancel_21 rfl rfl ?_ ?_
      · refine xo_aload_n (pc' := 27) dd_K_cancel_26 rfl 1 rfl rfl ?_
        refine xo_aload_n (pc' := 28) dd_K_cancel_27 rfl 0 rfl rfl ?_
        refine xo_iload_n (pc' := 29) dd_K_cancel_28 rfl 3 rfl rfl ?_
        refine xo_callVv (as := [.inr r1.1, .inl x2]) (o := (some t)) (st := []) (pc' := 32) dd_K_cancel_29 cv_K_cancelGiver ml_K_145 rfl rfl ⟨by decide, by decide⟩ rfl rfl rfl (Nat.le_of_ble_eq_true rfl) rfl (fun n q h => kc_K_cancelGiver n r1.1 x2 r3.2 q h) fun H4 => ?_
        refine xo_aload_n (pc' := 33) dd_K_cancel_32 rfl 1 rfl rfl ?_
        refine xo_callVv (as := []) (o := (some t)) (st := []) (pc' := 36) dd_K_cancel_33 cv_K_awaitPumps ml_K_57 rfl rfl ⟨by decide, by decide⟩ rfl rfl rfl (Nat.le_of_ble_eq_true rfl) rfl (fun n q h => kc_K_awaitPumps n H4 q h) fun H5 => ?_
        refine xo_iconst (pc' := 37) (v := (1 : Int32)) dd_K_cancel_36 (by decide) rfl ?_
        exact xo_zret dd_K_cancel_37 rfl
      · refine xo_iconst (pc' := 25) (v := (0 : Int32)) dd_K_cancel_24 (by decide) rfl ?_
        exact xo_zret dd_K_cancel_25 rfl
set_option maxRecDepth 100000 in
set_option maxHeartbeats 4000000 in
theorem kc_K_cancel (t : xo_N) (x1 : Int32) (x2 : Int32) (H : xo_H) (r : Int32 × xo_H) (hk : fc_K_cancel t x1 x2 H = some r) : xo_M mt_K_cancel [.inr (some t), .inl x1, .inl x2] H (xo_ji r) :=
  xo_entry hk (by decide +kernel) (Nat.le_of_ble_eq_true rfl) (kb_K_cancel t x1 x2 H r)
def fc_K_takerAt (t : xo_N) (x1 : Int32) (H : xo_H) : Option (Option xo_N × xo_H) :=
  if x1 < 0 then (some (none, H))
  else (xo_gf 0 6 H (some t) fun v1 =>
  if x1 < v1 then (xo_gp 0 3 H (some t) fun o2 =>
  xo_ap 3 H o2 x1 fun o3 =>
  some (o3, H))
  else (some (none, H)))

set_option maxRecDepth 100000 in
set_option maxHeartbeats 4000000 in
theorem kb_K_takerAt (t : xo_N) (x1 : Int32) (H : xo_H) (r : Option xo_N × xo_H) : xo_X mt_K_takerAt 0 0 xo_jp r 0 [(0, .inr (some t)), (1, .inl x1)] [] H (fc_K_takerAt t x1 H) := by
  unfold fc_K_takerAt
  refine xo_iload_n (pc' := 1) dd_K_takerAt_0 rfl 1 rfl rfl ?_
  refine xo_if_lt (pc' := 4) (tgt := 21) dd_K_takerAt_1 rfl rfl ?_ ?_
  · refine xo_null (pc' := 22) dd_K_takerAt_21 rfl ?_
    exact xo_aret dd_K_takerAt_22 rfl
  · refine xo_iload_n (pc' := 5) dd_K_takerAt_4 rfl 1 rfl rfl ?_
    refine xo_aload_n (pc' := 6) dd_K_takerAt_5 rfl 0 rfl rfl ?_
    refine xo_getI (pc' := 9) dd_K_takerAt_6 ff_K_63 (by decide) rfl fun v1 => ?_
    refine xo_icmp_ge (pc' := 12) (tgt := 21) dd_K_takerAt_9 rfl rfl ?_ ?_
    · refine xo_null (pc' := 22) dd_K_takerAt_21 rfl ?_
      exact xo_aret dd_K_takerAt_22 rfl
    · refine xo_aload_n (pc' := 13) dd_K_takerAt_12 rfl 0 rfl rfl ?_
      refine xo_getP (pc' := 16) dd_K_takerAt_13 ff_K_31 (by decide) rfl fun o2 => ?_
      refine xo_iload_n (pc' := 17) dd_K_takerAt_16 rfl 1 rfl rfl ?_
      refine xo_aald (pc' := 18) dd_K_takerAt_17 (by decide) rfl fun o3 => ?_
      refine xo_goto (pc' := 22) dd_K_takerAt_18 rfl ?_
      exact xo_aret dd_K_takerAt_22 rfl
set_option maxRecDepth 100000 in
set_option maxHeartbeats 4000000 in
theorem kc_K_takerAt (t : xo_N) (x1 : Int32) (H : xo_H) (r : Option xo_N × xo_H) (hk : fc_K_takerAt t x1 H = some r) : xo_M mt_K_takerAt [.inr (some t), .inl x1] H (xo_jp r) :=
  xo_entry hk (by decide +kernel) (Nat.le_of_ble_eq_true rfl) (kb_K_takerAt t x1 H r)
def fc_K_write (t : xo_N) (x1 : Int32) (x2 : Int32) (H : xo_H) : Option (Int32 × xo_H) :=
  xo_cl 0 (some t) (fun n10 => fc_K_takerAt n10 x1 H) fun r1 =>
  if r1.1 = none then (some ((-1 : Int32), r1.2))
  else (xo_gf 7 12 r1.2 r1.1 fun v2 =>
  if v2 = 0 then (xo_gp 7 1 r1.2 r1.1 fun o3 =>
  xo_cl 4 o3 (fun n9 => fc_C_count n9 r1.2) fun r4 =>
  if r4.1 < (16 : Int32) then (xo_cl 7 r1.1 (fun n8 => fc_T_accept n8 x2 r4.2) fun r5 =>
  xo_cl 0 (some t) (fun n7 => fc_K_awaitPumps n7 r5.2) fun H6 =>
  some (r5.1, H6))
  else (some ((-3 : Int32), r4.2)))
  else (some ((-2 : Int32), r1.2)))

set_option maxRecDepth 100000 in
set_option maxHeartbeats 4000000 in
theorem kb_K_write (t : xo_N) (x1 : Int32) (x2 : Int32) (H : xo_H) (r : Int32 × xo_H) : xo_X mt_K_write 0 0 xo_ji r 0 [(0, .inr (some t)), (1, .inl x1), (2, .inl x2)] [] H (fc_K_write t x1 x2 H) := by
  unfold fc_K_write
  refine xo_aload_n (pc' := 1) dd_K_write_0 rfl 0 rfl rfl ?_
  refine xo_iload_n (pc' := 2) dd_K_write_1 rfl 1 rfl rfl ?_
  refine xo_callVp (as := [.inl x1]) (o := (some t)) (st := []) (pc' := 5) dd_K_write_2 cv_K_takerAt ml_K_148 rfl rfl ⟨by decide, by decide⟩ rfl rfl rfl (Nat.le_of_ble_eq_true rfl) rfl (fun n q h => kc_K_takerAt n x1 H q h) fun r1 => ?_
  refine xo_astore_n (pc' := 6) dd_K_write_5 rfl (by decide) rfl rfl ?_
  refine xo_aload_n (pc' := 7) dd_K_write_6 rfl 0 rfl rfl ?_
  refine xo_ifnonnull (pc' := 10) (tgt := 12) dd_K_write_7 rfl rfl ?_ ?_
  · refine xo_aload_n (pc' := 13) dd_K_write_12 rfl 0 rfl rfl ?_
    refine xo_getI (pc' := 16) dd_K_write_13 ff_K_152 (by decide) rfl fun v2 => ?_
    refine xo_if_eq (pc' := 19) (tgt := 22) dd_K_write_16 rfl rfl ?_ ?_
    · refine xo_aload_n (pc' := 23) dd_K_write_22 rfl 0 rfl rfl ?_
      refine xo_getP (pc' := 26) dd_K_write_23 ff_K_155 (by decide) rfl fun o3 => ?_
      refine xo_callVi (as := []) (o := o3) (st := []) (pc' := 29) dd_K_write_26 cv_C_count ml_K_87 rfl rfl ⟨by decide, by decide⟩ rfl rfl rfl (Nat.le_of_ble_eq_true rfl) rfl (fun n q h => kc_C_count n r1.2 q h) fun r4 => ?_
      refine xo_bipush (pc' := 31) (v := (16 : Int32)) dd_K_write_29 (by decide) rfl ?_
      refine xo_icmp_lt (pc' := 34) (tgt := 37) dd_K_write_31 rfl rfl ?_ ?_
      · refine xo_aload_n (pc' := 38) dd_K_write_37 rfl 0 rfl rfl ?_
        refine xo_iload_n (pc' := 39) dd_K_write_38 rfl 3 rfl rfl ?_
        refine xo_callVi (as := [.inl x2]) (o := r1.1) (st := []) (pc' := 42) dd_K_write_39 cv_T_accept ml_K_156 rfl rfl ⟨by decide, by decide⟩ rfl rfl rfl (Nat.le_of_ble_eq_true rfl) rfl (fun n q h => kc_T_accept n x2 r4.2 q h) fun r5 => ?_
        refine xo_istore (pc' := 44) dd_K_write_42 (by decide) rfl rfl ?_
        refine xo_aload_n (pc' := 45) dd_K_write_44 rfl 2 rfl rfl ?_
        refine xo_callVv (as := []) (o := (some t)) (st := []) (pc' := 48) dd_K_write_45 cv_K_awaitPumps ml_K_57 rfl rfl ⟨by decide, by decide⟩ rfl rfl rfl (Nat.le_of_ble_eq_true rfl) rfl (fun n q h => kc_K_awaitPumps n r5.2 q h) fun H6 => ?_
        refine xo_iload (pc' := 50) dd_K_write_48 0 rfl rfl ?_
        exact xo_iret dd_K_write_50 rfl
      · refine xo_bipush (pc' := 36) (v := (-3 : Int32)) dd_K_write_34 (by decide) rfl ?_
        exact xo_iret dd_K_write_36 rfl
    · refine xo_bipush (pc' := 21) (v := (-2 : Int32)) dd_K_write_19 (by decide) rfl ?_
      exact xo_iret dd_K_write_21 rfl
  · refine xo_iconst (pc' := 11) (v := (-1 : Int32)) dd_K_write_10 (by decide) rfl ?_
    exact xo_iret dd_K_write_11 rfl
set_option maxRecDepth 100000 in
set_option maxHeartbeats 4000000 in
theorem kc_K_write (t : xo_N) (x1 : Int32) (x2 : Int32) (H : xo_H) (r : Int32 × xo_H) (hk : fc_K_write t x1 x2 H = some r) : xo_M mt_K_write [.inr (some t), .inl x1, .inl x2] H (xo_ji r) :=
  xo_entry hk (by decide +kernel) (Nat.le_of_ble_eq_true rfl) (kb_K_write t x1 x2 H r)
def fc_K_shut (t : xo_N) (x1 : Int32) (H : xo_H) : Option (Int32 × xo_H) :=
  xo_cl 0 (some t) (fun n9 => fc_K_takerAt n9 x1 H) fun r1 =>
  if r1.1 = none then (xo_gb (0 : Int32) (some ((0 : Int32), r1.2)))
  else (xo_gf 7 12 r1.2 r1.1 fun v2 =>
  if v2 = 0 then (xo_cl 7 r1.1 (fun n8 => fc_T_canShutDown n8 r1.2) fun r3 =>
  if r3.1 = 0 then (xo_gb (0 : Int32) (some ((0 : Int32), r3.2)))
  else (xo_cl 7 r1.1 (fun n7 => fc_T_shutDown n7 r3.2) fun H4 =>
  xo_cl 0 (some t) (fun n6 => fc_K_awaitPumps n6 H4) fun H5 =>
  xo_gb (1 : Int32) (some ((1 : Int32), H5))))
  else (xo_gb (0 : Int32) (some ((0 : Int32), r1.2))))

set_option maxRecDepth 100000 in
set_option maxHeartbeats 4000000 in
theorem kb_K_shut (t : xo_N) (x1 : Int32) (H : xo_H) (r : Int32 × xo_H) : xo_X mt_K_shut 0 0 xo_ji r 0 [(0, .inr (some t)), (1, .inl x1)] [] H (fc_K_shut t x1 H) := by
  unfold fc_K_shut
  refine xo_aload_n (pc' := 1) dd_K_shut_0 rfl 0 rfl rfl ?_
  refine xo_iload_n (pc' := 2) dd_K_shut_1 rfl 1 rfl rfl ?_
  refine xo_callVp (as := [.inl x1]) (o := (some t)) (st := []) (pc' := 5) dd_K_shut_2 cv_K_takerAt ml_K_148 rfl rfl ⟨by decide, by decide⟩ rfl rfl rfl (Nat.le_of_ble_eq_true rfl) rfl (fun n q h => kc_K_takerAt n x1 H q h) fun r1 => ?_
  refine xo_astore_n (pc' := 6) dd_K_shut_5 rfl (by decide) rfl rfl ?_
  refine xo_aload_n (pc' := 7) dd_K_shut_6 rfl 0 rfl rfl ?_
  refine xo_ifnull (pc' := 10) (tgt := 24) dd_K_shut_7 rfl rfl ?_ ?_
  · refine xo_iconst (pc' := 25) (v := (0 : Int32)) dd_K_shut_24 (by decide) rfl ?_
    exact xo_zret dd_K_shut_25 rfl
  · refine xo_aload_n (pc' := 11) dd_K_shut_10 rfl 0 rfl rfl ?_
    refine xo_getI (pc' := 14) dd_K_shut_11 ff_K_152 (by decide) rfl fun v2 => ?_
    refine xo_if_ne (pc' := 17) (tgt := 24) dd_K_shut_14 rfl rfl ?_ ?_
    · refine xo_iconst (pc' := 25) (v := (0 : Int32)) dd_K_shut_24 (by decide) rfl ?_
      exact xo_zret dd_K_shut_25 rfl
    · refine xo_aload_n (pc' := 18) dd_K_shut_17 rfl 0 rfl rfl ?_
      refine xo_callVi (as := []) (o := r1.1) (st := []) (pc' := 21) dd_K_shut_18 cv_T_canShutDown ml_K_160 rfl rfl ⟨by decide, by decide⟩ rfl rfl rfl (Nat.le_of_ble_eq_true rfl) rfl (fun n q h => kc_T_canShutDown n r1.2 q h) fun r3 => ?_
      refine xo_if_ne (pc' := 24) (tgt := 26) dd_K_shut_21 rfl rfl ?_ ?_
      · refine xo_aload_n (pc' := 27) dd_K_shut_26 rfl 0 rfl rfl ?_
        refine xo_callVv (as := []) (o := r1.1) (st := []) (pc' := 30) dd_K_shut_27 cv_T_shutDown ml_K_163 rfl rfl ⟨by decide, by decide⟩ rfl rfl rfl (Nat.le_of_ble_eq_true rfl) rfl (fun n q h => kc_T_shutDown n r3.2 q h) fun H4 => ?_
        refine xo_aload_n (pc' := 31) dd_K_shut_30 rfl 1 rfl rfl ?_
        refine xo_callVv (as := []) (o := (some t)) (st := []) (pc' := 34) dd_K_shut_31 cv_K_awaitPumps ml_K_57 rfl rfl ⟨by decide, by decide⟩ rfl rfl rfl (Nat.le_of_ble_eq_true rfl) rfl (fun n q h => kc_K_awaitPumps n H4 q h) fun H5 => ?_
        refine xo_iconst (pc' := 35) (v := (1 : Int32)) dd_K_shut_34 (by decide) rfl ?_
        exact xo_zret dd_K_shut_35 rfl
      · refine xo_iconst (pc' := 25) (v := (0 : Int32)) dd_K_shut_24 (by decide) rfl ?_
        exact xo_zret dd_K_shut_25 rfl
set_option maxRecDepth 100000 in
set_option maxHeartbeats 4000000 in
theorem kc_K_shut (t : xo_N) (x1 : Int32) (H : xo_H) (r : Int32 × xo_H) (hk : fc_K_shut t x1 H = some r) : xo_M mt_K_shut [.inr (some t), .inl x1] H (xo_ji r) :=
  xo_entry hk (by decide +kernel) (Nat.le_of_ble_eq_true rfl) (kb_K_shut t x1 H r)
def fc_K_abort (t : xo_N) (x1 : Int32) (x2 : Int32) (H : xo_H) : Option (Int32 × xo_H) :=
  xo_cl 0 (some t) (fun n10 => fc_K_takerAt n10 x1 H) fun r1 =>
  if r1.1 = none then (xo_gb (0 : Int32) (some ((0 : Int32), r1.2)))
  else (xo_gf 7 12 r1.2 r1.1 fun v2 =>
  if v2 = 0 then ((fc_K_isError x2 r1.2).bind fun r3 =>
  if r3.1 = 0 then (xo_gb (0 : Int32) (some ((0 : Int32), r3.2)))
  else (xo_gf 7 9 r3.2 r1.1 fun v4 =>
  if v4 = 0 then (xo_gf 7 7 r3.2 r1.1 fun v5 =>
  if v5 = (5 : Int32) then (xo_gb (0 : Int32) (some ((0 : Int32), r3.2)))
  else (xo_cl 7 r1.1 (fun n9 => fc_T_abortWith n9 x2 r3.2) fun H6 =>
  xo_cl 0 (some t) (fun n8 => fc_K_awaitPumps n8 H6) fun H7 =>
  xo_gb (1 : Int32) (some ((1 : Int32), H7))))
  else (xo_gb (0 : Int32) (some ((0 : Int32), r3.2)))))
  else (xo_gb (0 : Int32) (some ((0 : Int32), r1.2))))

set_option maxRecDepth 100000 in
set_option maxHeartbeats 4000000 in
theorem kb_K_abort (t : xo_N) (x1 : Int32) (x2 : Int32) (H : xo_H) (r : Int32 × xo_H) : xo_X mt_K_abort 0 0 xo_ji r 0 [(0, .inr (some t)), (1, .inl x1), (2, .inl x2)] [] H (fc_K_abort t x1 x2 H) := by
  unfold fc_K_abort
  refine xo_aload_n (pc' := 1) dd_K_abort_0 rfl 0 rfl rfl ?_
  refine xo_iload_n (pc' := 2) dd_K_abort_1 rfl 1 rfl rfl ?_
  refine xo_callVp (as := [.inl x1]) (o := (some t)) (st := []) (pc' := 5) dd_K_abort_2 cv_K_takerAt ml_K_148 rfl rfl ⟨by decide, by decide⟩ rfl rfl rfl (Nat.le_of_ble_eq_true rfl) rfl (fun n q h => kc_K_takerAt n x1 H q h) fun r1 => ?_
  refine xo_astore_n (pc' := 6) dd_K_abort_5 rfl (by decide) rfl rfl ?_
  refine xo_aload_n (pc' := 7) dd_K_abort_6 rfl 0 rfl rfl ?_
  refine xo_ifnull (pc' := 10) (tgt := 24) dd_K_abort_7 rfl rfl ?_ ?_
  · refine xo_iconst (pc' := 25) (v := (0 : Int32)) dd_K_abort_24 (by decide) rfl ?_
    exact xo_zret dd_K_abort_25 rfl
  · refine xo_aload_n (pc' := 11) dd_K_abort_10 rfl 0 rfl rfl ?_
    refine xo_getI (pc' := 14) dd_K_abort_11 ff_K_152 (by decide) rfl fun v2 => ?_
    refine xo_if_ne (pc' := 17) (tgt := 24) dd_K_abort_14 rfl rfl ?_ ?_
    · refine xo_iconst (pc' := 25) (v := (0 : Int32)) dd_K_abort_24 (by decide) rfl ?_
      exact xo_zret dd_K_abort_25 rfl
    · refine xo_iload_n (pc' := 18) dd_K_abort_17 rfl 3 rfl rfl ?_
      refine xo_callSi (as := [.inl x2]) (st := []) (pc' := 21) dd_K_abort_18 cv_K_isError ml_K_113 rfl ⟨by decide, by decide⟩ rfl rfl rfl (Nat.le_of_ble_eq_true rfl) rfl (fun q h => kc_K_isError x2 r1.2 q h) fun r3 => ?_
      refine xo_if_ne (pc' := 24) (tgt := 26) dd_K_abort_21 rfl rfl ?_ ?_
      · refine xo_aload_n (pc' := 27) dd_K_abort_26 rfl 0 rfl rfl ?_
        refine xo_getI (pc' := 30) dd_K_abort_27 ff_K_166 (by decide) rfl fun v4 => ?_
        refine xo_if_ne (pc' := 33) (tgt := 41) dd_K_abort_30 rfl rfl ?_ ?_
        · refine xo_iconst (pc' := 42) (v := (0 : Int32)) dd_K_abort_41 (by decide) rfl ?_
          exact xo_zret dd_K_abort_42 rfl
        · refine xo_aload_n (pc' := 34) dd_K_abort_33 rfl 0 rfl rfl ?_
          refine xo_getI (pc' := 37) dd_K_abort_34 ff_K_169 (by decide) rfl fun v5 => ?_
          refine xo_iconst (pc' := 38) (v := (5 : Int32)) dd_K_abort_37 (by decide) rfl ?_
          refine xo_icmp_ne (pc' := 41) (tgt := 43) dd_K_abort_38 rfl rfl ?_ ?_
          · refine xo_aload_n (pc' := 44) dd_K_abort_43 rfl 0 rfl rfl ?_
            refine xo_iload_n (pc' := 45) dd_K_abort_44 rfl 3 rfl rfl ?_
            refine xo_callVv (as := [.inl x2]) (o := r1.1) (st := []) (pc' := 48) dd_K_abort_45 cv_T_abortWith ml_K_172 rfl rfl ⟨by decide, by decide⟩ rfl rfl rfl (Nat.le_of_ble_eq_true rfl) rfl (fun n q h => kc_T_abortWith n x2 r3.2 q h) fun H6 => ?_
            refine xo_aload_n (pc' := 49) dd_K_abort_48 rfl 1 rfl rfl ?_
            refine xo_callVv (as := []) (o := (some t)) (st := []) (pc' := 52) dd_K_abort_49 cv_K_awaitPumps ml_K_57 rfl rfl ⟨by decide, by decide⟩ rfl rfl rfl (Nat.le_of_ble_eq_true rfl) rfl (fun n q h => kc_K_awaitPumps n H6 q h) fun H7 => ?_
            refine xo_iconst (pc' := 53) (v := (1 : Int32)) dd_K_abort_52 (by decide) rfl ?_
            exact xo_zret dd_K_abort_53 rfl
          · refine xo_iconst (pc' := 42) (v := (0 : Int32)) dd_K_abort_41 (by decide) rfl ?_
            exact xo_zret dd_K_abort_42 rfl
      · refine xo_iconst (pc' := 25) (v := (0 : Int32)) dd_K_abort_24 (by decide) rfl ?_
        exact xo_zret dd_K_abort_25 rfl
set_option maxRecDepth 100000 in
set_option maxHeartbeats 4000000 in
theorem kc_K_abort (t : xo_N) (x1 : Int32) (x2 : Int32) (H : xo_H) (r : Int32 × xo_H) (hk : fc_K_abort t x1 x2 H = some r) : xo_M mt_K_abort [.inr (some t), .inl x1, .inl x2] H (xo_ji r) :=
  xo_entry hk (by decide +kernel) (Nat.le_of_ble_eq_true rfl) (kb_K_abort t x1 x2 H r)
def fc_K_spoil (t : xo_N) (x1 : Int32) (x2 : Int32) (H : xo_H) : Option (Int32 × xo_H) :=
  xo_cl 0 (some t) (fun n8 => fc_K_takerAt n8 x1 H) fun r1 =>
  if r1.1 = none then (xo_gb (0 : Int32) (some ((0 : Int32), r1.2)))
  else (xo_gf 7 4 r1.2 r1.1 fun v2 =>
  if v2 = 0 then ((fc_K_isError x2 r1.2).bind fun r3 =>
  if r3.1 = 0 then (xo_gb (0 : Int32) (some ((0 : Int32), r3.2)))
  else (xo_cl 7 r1.1 (fun n7 => fc_T_startFailing n7 x2 r3.2) fun H4 =>
  xo_cl 0 (some t) (fun n6 => fc_K_awaitPumps n6 H4) fun H5 =>
  xo_gb (1 : Int32) (some ((1 : Int32), H5))))
  else (xo_gb (0 : Int32) (some ((0 : Int32), r1.2))))

set_option maxRecDepth 100000 in
set_option maxHeartbeats 4000000 in
theorem kb_K_spoil (t : xo_N) (x1 : Int32) (x2 : Int32) (H : xo_H) (r : Int32 × xo_H) : xo_X mt_K_spoil 0 0 xo_ji r 0 [(0, .inr (some t)), (1, .inl x1), (2, .inl x2)] [] H (fc_K_spoil t x1 x2 H) := by
  unfold fc_K_spoil
  refine xo_aload_n (pc' := 1) dd_K_spoil_0 rfl 0 rfl rfl ?_
  refine xo_iload_n (pc' := 2) dd_K_spoil_1 rfl 1 rfl rfl ?_
  refine xo_callVp (as := [.inl x1]) (o := (some t)) (st := []) (pc' := 5) dd_K_spoil_2 cv_K_takerAt ml_K_148 rfl rfl ⟨by decide, by decide⟩ rfl rfl rfl (Nat.le_of_ble_eq_true rfl) rfl (fun n q h => kc_K_takerAt n x1 H q h) fun r1 => ?_
  refine xo_astore_n (pc' := 6) dd_K_spoil_5 rfl (by decide) rfl rfl ?_
  refine xo_aload_n (pc' := 7) dd_K_spoil_6 rfl 0 rfl rfl ?_
  refine xo_ifnull (pc' := 10) (tgt := 24) dd_K_spoil_7 rfl rfl ?_ ?_
  · refine xo_iconst (pc' := 25) (v := (0 : Int32)) dd_K_spoil_24 (by decide) rfl ?_
    exact xo_zret dd_K_spoil_25 rfl
  · refine xo_aload_n (pc' := 11) dd_K_spoil_10 rfl 0 rfl rfl ?_
    refine xo_getI (pc' := 14) dd_K_spoil_11 ff_K_176 (by decide) rfl fun v2 => ?_
    refine xo_if_ne (pc' := 17) (tgt := 24) dd_K_spoil_14 rfl rfl ?_ ?_
    · refine xo_iconst (pc' := 25) (v := (0 : Int32)) dd_K_spoil_24 (by decide) rfl ?_
      exact xo_zret dd_K_spoil_25 rfl
    · refine xo_iload_n (pc' := 18) dd_K_spoil_17 rfl 3 rfl rfl ?_
      refine xo_callSi (as := [.inl x2]) (st := []) (pc' := 21) dd_K_spoil_18 cv_K_isError ml_K_113 rfl ⟨by decide, by decide⟩ rfl rfl rfl (Nat.le_of_ble_eq_true rfl) rfl (fun q h => kc_K_isError x2 r1.2 q h) fun r3 => ?_
      refine xo_if_ne (pc' := 24) (tgt := 26) dd_K_spoil_21 rfl rfl ?_ ?_
      · refine xo_aload_n (pc' := 27) dd_K_spoil_26 rfl 0 rfl rfl ?_
        refine xo_iload_n (pc' := 28) dd_K_spoil_27 rfl 3 rfl rfl ?_
        refine xo_callVv (as := [.inl x2]) (o := r1.1) (st := []) (pc' := 31) dd_K_spoil_28 cv_T_startFailing ml_K_177 rfl rfl ⟨by decide, by decide⟩ rfl rfl rfl (Nat.le_of_ble_eq_true rfl) rfl (fun n q h => kc_T_startFailing n x2 r3.2 q h) fun H4 => ?_
        refine xo_aload_n (pc' := 32) dd_K_spoil_31 rfl 1 rfl rfl ?_
        refine xo_callVv (as := []) (o := (some t)) (st := []) (pc' := 35) dd_K_spoil_32 cv_K_awaitPumps ml_K_57 rfl rfl ⟨by decide, by decide⟩ rfl rfl rfl (Nat.le_of_ble_eq_true rfl) rfl (fun n q h => kc_K_awaitPumps n H4 q h) fun H5 => ?_
        refine xo_iconst (pc' := 36) (v := (1 : Int32)) dd_K_spoil_35 (by decide) rfl ?_
        exact xo_zret dd_K_spoil_36 rfl
      · refine xo_iconst (pc' := 25) (v := (0 : Int32)) dd_K_spoil_24 (by decide) rfl ?_
        exact xo_zret dd_K_spoil_25 rfl
set_option maxRecDepth 100000 in
set_option maxHeartbeats 4000000 in
theorem kc_K_spoil (t : xo_N) (x1 : Int32) (x2 : Int32) (H : xo_H) (r : Int32 × xo_H) (hk : fc_K_spoil t x1 x2 H = some r) : xo_M mt_K_spoil [.inr (some t), .inl x1, .inl x2] H (xo_ji r) :=
  xo_entry hk (by decide +kernel) (Nat.le_of_ble_eq_true rfl) (kb_K_spoil t x1 x2 H r)
def fc_K_settle (t : xo_N) (x1 : Int32) (x2 : Int32) (H : xo_H) : Option (Int32 × xo_H) :=
  xo_cl 0 (some t) (fun n14 => fc_K_takerAt n14 x1 H) fun r1 =>
  if r1.1 = none then (xo_gb (0 : Int32) (some ((0 : Int32), r1.2)))
  else (xo_gf 7 7 r1.2 r1.1 fun v2 =>
  if v2 = 0 then (xo_gb (0 : Int32) (some ((0 : Int32), r1.2)))
  else ((fc_K_isErrorOrNone x2 r1.2).bind fun r3 =>
  if r3.1 = 0 then (xo_gb (0 : Int32) (some ((0 : Int32), r3.2)))
  else (xo_gp 0 1 r3.2 (some t) fun o4 =>
  xo_gf 7 7 r3.2 r1.1 fun v5 =>
  xo_cl 2 o4 (fun n13 => fc_J_holds n13 v5 x1 r3.2) fun r6 =>
  if r6.1 = 0 then (xo_gp 0 1 r6.2 (some t) fun o7 =>
  xo_gf 7 7 r6.2 r1.1 fun v8 =>
  xo_cl 2 o7 (fun n12 => fc_J_add n12 v8 x1 x2 r6.2) fun H9 =>
  xo_cl 0 (some t) (fun n11 => fc_K_awaitPumps n11 H9) fun H10 =>
  xo_gb (1 : Int32) (some ((1 : Int32), H10)))
  else (xo_gb (0 : Int32) (some ((0 : Int32), r6.2))))))

set_option maxRecDepth 100000 in
set_option maxHeartbeats 4000000 in
theorem kb_K_settle (t : xo_N) (x1 : Int32) (x2 : Int32) (H : xo_H) (r : Int32 × xo_H) : xo_X mt_K_settle 0 0 xo_ji r 0 [(0, .inr (some t)), (1, .inl x1), (2, .inl x2)] [] H (fc_K_settle t x1 x2 H) := by
  unfold fc_K_settle
  refine xo_aload_n (pc' := 1) dd_K_settle_0 rfl 0 rfl rfl ?_
  refine xo_iload_n (pc' := 2) dd_K_settle_1 rfl 1 rfl rfl ?_
  refine xo_callVp (as := [.inl x1]) (o := (some t)) (st := []) (pc' := 5) dd_K_settle_2 cv_K_takerAt ml_K_148 rfl rfl ⟨by decide, by decide⟩ rfl rfl rfl (Nat.le_of_ble_eq_true rfl) rfl (fun n q h => kc_K_takerAt n x1 H q h) fun r1 => ?_
  refine xo_astore_n (pc' := 6) dd_K_settle_5 rfl (by decide) rfl rfl ?_
  refine xo_aload_n (pc' := 7) dd_K_settle_6 rfl 0 rfl rfl ?_
  refine xo_ifnull (pc' := 10) (tgt := 24) dd_K_settle_7 rfl rfl ?_ ?_
  · refine xo_iconst (pc' := 25) (v := (0 : Int32)) dd_K_settle_24 (by decide) rfl ?_
    exact xo_zret dd_K_settle_25 rfl
  · refine xo_aload_n (pc' := 11) dd_K_settle_10 rfl 0 rfl rfl ?_
    refine xo_getI (pc' := 14) dd_K_settle_11 ff_K_169 (by decide) rfl fun v2 => ?_
    refine xo_if_eq (pc' := 17) (tgt := 24) dd_K_settle_14 rfl rfl ?_ ?_
    · refine xo_iconst (pc' := 25) (v := (0 : Int32)) dd_K_settle_24 (by decide) rfl ?_
      exact xo_zret dd_K_settle_25 rfl
    · refine xo_iload_n (pc' := 18) dd_K_settle_17 rfl 3 rfl rfl ?_
      refine xo_callSi (as := [.inl x2]) (st := []) (pc' := 21) dd_K_settle_18 cv_K_isErrorOrNone ml_K_126 rfl ⟨by decide, by decide⟩ rfl rfl rfl (Nat.le_of_ble_eq_true rfl) rfl (fun q h => kc_K_isErrorOrNone x2 r1.2 q h) fun r3 => ?_
      refine xo_if_ne (pc' := 24) (tgt := 26) dd_K_settle_21 rfl rfl ?_ ?_
      · refine xo_aload_n (pc' := 27) dd_K_settle_26 rfl 1 rfl rfl ?_
        refine xo_getP (pc' := 30) dd_K_settle_27 ff_K_19 (by decide) rfl fun o4 => ?_
        refine xo_aload_n (pc' := 31) dd_K_settle_30 rfl 0 rfl rfl ?_
        refine xo_getI (pc' := 34) dd_K_settle_31 ff_K_169 (by decide) rfl fun v5 => ?_
        refine xo_iload_n (pc' := 35) dd_K_settle_34 rfl 2 rfl rfl ?_
        refine xo_callVi (as := [.inl v5, .inl x1]) (o := o4) (st := []) (pc' := 38) dd_K_settle_35 cv_J_holds ml_K_122 rfl rfl ⟨by decide, by decide⟩ rfl rfl rfl (Nat.le_of_ble_eq_true rfl) rfl (fun n q h => kc_J_holds n v5 x1 r3.2 q h) fun r6 => ?_
        refine xo_if_eq (pc' := 41) (tgt := 43) dd_K_settle_38 rfl rfl ?_ ?_
        · refine xo_aload_n (pc' := 44) dd_K_settle_43 rfl 1 rfl rfl ?_
          refine xo_getP (pc' := 47) dd_K_settle_44 ff_K_19 (by decide) rfl fun o7 => ?_
          refine xo_aload_n (pc' := 48) dd_K_settle_47 rfl 0 rfl rfl ?_
          refine xo_getI (pc' := 51) dd_K_settle_48 ff_K_169 (by decide) rfl fun v8 => ?_
          refine xo_iload_n (pc' := 52) dd_K_settle_51 rfl 2 rfl rfl ?_
          refine xo_iload_n (pc' := 53) dd_K_settle_52 rfl 3 rfl rfl ?_
          refine xo_callVv (as := [.inl v8, .inl x1, .inl x2]) (o := o7) (st := []) (pc' := 56) dd_K_settle_53 cv_J_add ml_K_129 rfl rfl ⟨by decide, by decide⟩ rfl rfl rfl (Nat.le_of_ble_eq_true rfl) rfl (fun n q h => kc_J_add n v8 x1 x2 r6.2 q h) fun H9 => ?_
          refine xo_aload_n (pc' := 57) dd_K_settle_56 rfl 1 rfl rfl ?_
          refine xo_callVv (as := []) (o := (some t)) (st := []) (pc' := 60) dd_K_settle_57 cv_K_awaitPumps ml_K_57 rfl rfl ⟨by decide, by decide⟩ rfl rfl rfl (Nat.le_of_ble_eq_true rfl) rfl (fun n q h => kc_K_awaitPumps n H9 q h) fun H10 => ?_
          refine xo_iconst (pc' := 61) (v := (1 : Int32)) dd_K_settle_60 (by decide) rfl ?_
          exact xo_zret dd_K_settle_61 rfl
        · refine xo_iconst (pc' := 42) (v := (0 : Int32)) dd_K_settle_41 (by decide) rfl ?_
          exact xo_zret dd_K_settle_42 rfl
      · refine xo_iconst (pc' := 25) (v := (0 : Int32)) dd_K_settle_24 (by decide) rfl ?_
        exact xo_zret dd_K_settle_25 rfl
set_option maxRecDepth 100000 in
set_option maxHeartbeats 4000000 in
theorem kc_K_settle (t : xo_N) (x1 : Int32) (x2 : Int32) (H : xo_H) (r : Int32 × xo_H) (hk : fc_K_settle t x1 x2 H = some r) : xo_M mt_K_settle [.inr (some t), .inl x1, .inl x2] H (xo_ji r) :=
  xo_entry hk (by decide +kernel) (Nat.le_of_ble_eq_true rfl) (kb_K_settle t x1 x2 H r)
def fc_K_pipe (t : xo_N) (x1 : Int32) (x2 : Int32) (x3 : Int32) (H : xo_H) : Option (Int32 × xo_H) :=
  xo_cl 0 (some t) (fun n24 => fc_K_giverAt n24 x1 H) fun r1 =>
  xo_cl 0 (some t) (fun n23 => fc_K_takerAt n23 x2 r1.2) fun r2 =>
  if r1.1 = none then (some ((-1 : Int32), r2.2))
  else (if r2.1 = none then (some ((-1 : Int32), r2.2))
  else (if x3 < 0 then (some ((-1 : Int32), r2.2))
  else (if (7 : Int32) < x3 then (some ((-1 : Int32), r2.2))
  else (xo_cl 5 r1.1 (fun n22 => fc_G_heldBy n22 r2.2) fun r3 =>
  if r3.1 = 0 then (xo_gf 7 12 r3.2 r2.1 fun v4 =>
  if v4 = 0 then (xo_gp 5 3 r3.2 r1.1 fun o5 =>
  xo_gf 3 2 r3.2 o5 fun v6 =>
  if 0 < v6 then (some ((-2 : Int32), r3.2))
  else (xo_gf 0 7 r3.2 (some t) fun v7 =>
  if v7 < (2 : Int32) then (xo_nw 8 r3.2 (40, (r3.2.1 t 7).toNatClampNeg) fun H8 =>
  xo_gf 0 7 H8 (some t) fun v10 =>
  (fc_P_init (40, (r3.2.1 t 7).toNatClampNeg) v10 r1.1 r2.1 x3 H8).bind fun H11 =>
  xo_gp 0 4 H11 (some t) fun o12 =>
  xo_gf 0 7 H11 (some t) fun v13 =>
  xo_aq 4 8 H11 o12 v13 (some (40, (r3.2.1 t 7).toNatClampNeg)) fun H14 =>
  xo_gf 0 7 H14 (some t) fun v15 =>
  xo_pf 0 7 H14 (some t) (v15 + (1 : Int32)) fun H16 =>
  xo_pp 5 13 H16 r1.1 (some (40, (r3.2.1 t 7).toNatClampNeg)) fun H17 =>
  xo_pz 7 12 H17 r2.1 (1 : Int32) fun H18 =>
  xo_cl 0 (some t) (fun n21 => fc_K_awaitPumps n21 H18) fun H19 =>
  xo_gf 8 0 H19 (some (40, (r3.2.1 t 7).toNatClampNeg)) fun v20 =>
  some (v20, H19))
  else (some ((-3 : Int32), r3.2))))
  else (some ((-2 : Int32), r3.2)))
  else (some ((-2 : Int32), r3.2))))))

set_option maxRecDepth 100000 in
set_option maxHeartbeats 4000000 in
theorem kb_K_pipe (t : xo_N) (x1 : Int32) (x2 : Int32) (x3 : Int32) (H : xo_H) (r : Int32 × xo_H) : xo_X mt_K_pipe 1 7 xo_ji r 0 [(0, .inr (some t)), (1, .inl x1), (2, .inl x2), (3, .inl x3)] [] H (fc_K_pipe t x1 x2 x3 H) := by
  unfold fc_K_pipe
  refine xo_aload_n (pc' := 1) dd_K_pipe_0 rfl 0 rfl rfl ?_
  refine xo_iload_n (pc' := 2) dd_K_pipe_1 rfl 1 rfl rfl ?_
  refine xo_callVp (as := [.inl x1]) (o := (some t)) (st := []) (pc' := 5) dd_K_pipe_2 cv_K_giverAt ml_K_133 rfl rfl ⟨by decide, by decide⟩ rfl rfl rfl (Nat.le_of_ble_eq_true rfl) rfl (fun n q h => kc_K_giverAt n x1 H q h) fun r1 => ?_
  refine xo_astore (pc' := 7) dd_K_pipe_5 (by decide) rfl rfl ?_
  refine xo_aload_n (pc' := 8) dd_K_pipe_7 rfl 1 rfl rfl ?_
  refine xo_iload_n (pc' := 9) dd_K_pipe_8 rfl 3 rfl rfl ?_
  refine xo_callVp (as := [.inl x2]) (o := (some t)) (st := []) (pc' := 12) dd_K_pipe_9 cv_K_takerAt ml_K_148 rfl rfl ⟨by decide, by decide⟩ rfl rfl rfl (Nat.le_of_ble_eq_true rfl) rfl (fun n q h => kc_K_takerAt n x2 r1.2 q h) fun r2 => ?_
  refine xo_astore (pc' := 14) dd_K_pipe_12 (by decide) rfl rfl ?_
  refine xo_aload (pc' := 16) dd_K_pipe_14 1 rfl rfl ?_
  refine xo_ifnull (pc' := 19) (tgt := 34) dd_K_pipe_16 rfl rfl ?_ ?_
  · refine xo_iconst (pc' := 35) (v := (-1 : Int32)) dd_K_pipe_34 (by decide) rfl ?_
    exact xo_iret dd_K_pipe_35 rfl
  · refine xo_aload (pc' := 21) dd_K_pipe_19 0 rfl rfl ?_
    refine xo_ifnull (pc' := 24) (tgt := 34) dd_K_pipe_21 rfl rfl ?_ ?_
    · refine xo_iconst (pc' := 35) (v := (-1 : Int32)) dd_K_pipe_34 (by decide) rfl ?_
      exact xo_iret dd_K_pipe_35 rfl
    · refine xo_iload_n (pc' := 25) dd_K_pipe_24 rfl 5 rfl rfl ?_
      refine xo_if_lt (pc' := 28) (tgt := 34) dd_K_pipe_25 rfl rfl ?_ ?_
      · refine xo_iconst (pc' := 35) (v := (-1 : Int32)) dd_K_pipe_34 (by decide) rfl ?_
        exact xo_iret dd_K_pipe_35 rfl
      · refine xo_iload_n (pc' := 29) dd_K_pipe_28 rfl 5 rfl rfl ?_
        refine xo_bipush (pc' := 31) (v := (7 : Int32)) dd_K_pipe_29 (by decide) rfl ?_
        refine xo_icmp_le (pc' := 34) (tgt := 36) dd_K_pipe_31 rfl rfl ?_ ?_
        · refine xo_aload (pc' := 38) dd_K_pipe_36 1 rfl rfl ?_
          refine xo_callVi (as := []) (o := r1.1) (st := []) (pc' := 41) dd_K_pipe_38 cv_G_heldBy ml_K_136 rfl rfl ⟨by decide, by decide⟩ rfl rfl rfl (Nat.le_of_ble_eq_true rfl) rfl (fun n q h => kc_G_heldBy n r2.2 q h) fun r3 => ?_
          refine xo_if_ne (pc' := 44) (tgt := 63) dd_K_pipe_41 rfl rfl ?_ ?_
          · refine xo_bipush (pc' := 65) (v := (-2 : Int32)) dd_K_pipe_63 (by decide) rfl ?_
            exact xo_iret dd_K_pipe_65 rfl
          · refine xo_aload (pc' := 46) dd_K_pipe_44 0 rfl rfl ?_
            refine xo_getI (pc' := 49) dd_K_pipe_46 ff_K_152 (by decide) rfl fun v4 => ?_
            refine xo_if_ne (pc' := 52) (tgt := 63) dd_K_pipe_49 rfl rfl ?_ ?_
            · refine xo_bipush (pc' := 65) (v := (-2 : Int32)) dd_K_pipe_63 (by decide) rfl ?_
              exact xo_iret dd_K_pipe_65 rfl
            · refine xo_aload (pc' := 54) dd_K_pipe_52 1 rfl rfl ?_
              refine xo_getP (pc' := 57) dd_K_pipe_54 ff_K_91 (by decide) rfl fun o5 => ?_
              refine xo_getI (pc' := 60) dd_K_pipe_57 ff_K_95 (by decide) rfl fun v6 => ?_
              refine xo_if_le (pc' := 63) (tgt := 66) dd_K_pipe_60 rfl rfl ?_ ?_
              · refine xo_aload_n (pc' := 67) dd_K_pipe_66 rfl 2 rfl rfl ?_
                refine xo_getI (pc' := 70) dd_K_pipe_67 ff_K_180 (by decide) rfl fun v7 => ?_
                refine xo_iconst (pc' := 71) (v := (2 : Int32)) dd_K_pipe_70 (by decide) rfl ?_
                refine xo_icmp_lt (pc' := 74) (tgt := 77) dd_K_pipe_71 rfl rfl ?_ ?_
                · refine xo_new (pc' := 80) dd_K_pipe_77 co_K_35 rfl rfl rfl fun H8 => ?_
                  refine xo_dup (pc' := 81) dd_K_pipe_80 rfl ?_
                  refine xo_aload_n (pc' := 82) dd_K_pipe_81 rfl 2 rfl rfl ?_
                  refine xo_getI (pc' := 85) dd_K_pipe_82 ff_K_180 (by decide) rfl fun v10 => ?_
                  refine xo_aload (pc' := 87) dd_K_pipe_85 1 rfl rfl ?_
                  refine xo_aload (pc' := 89) dd_K_pipe_87 0 rfl rfl ?_
                  refine xo_iload_n (pc' := 90) dd_K_pipe_89 rfl 5 rfl rfl ?_
                  refine xo_callIv (as := [.inl v10, .inr r1.1, .inr r2.1, .inl x3]) (n := (40, (r3.2.1 t 7).toNatClampNeg)) (st := [.inr (some (40, (r3.2.1 t 7).toNatClampNeg))]) (pc' := 93) dd_K_pipe_90 cv_P_init ml_K_183 rfl ⟨by decide, by decide⟩ rfl rfl rfl (Nat.le_of_ble_eq_true rfl) rfl (fun q h => kc_P_init (40, (r3.2.1 t 7).toNatClampNeg) v10 r1.1 r2.1 x3 H8 q h) fun H11 => ?_
                  refine xo_astore (pc' := 95) dd_K_pipe_93 (by decide) rfl rfl ?_
                  refine xo_aload_n (pc' := 96) dd_K_pipe_95 rfl 3 rfl rfl ?_
                  refine xo_getP (pc' := 99) dd_K_pipe_96 ff_K_37 (by decide) rfl fun o12 => ?_
                  refine xo_aload_n (pc' := 100) dd_K_pipe_99 rfl 3 rfl rfl ?_
                  refine xo_getI (pc' := 103) dd_K_pipe_100 ff_K_180 (by decide) rfl fun v13 => ?_
                  refine xo_aload (pc' := 105) dd_K_pipe_103 0 rfl rfl ?_
                  refine xo_aast (pc' := 106) dd_K_pipe_105 (by decide) rfl rfl rfl fun H14 => ?_
                  refine xo_aload_n (pc' := 107) dd_K_pipe_106 rfl 3 rfl rfl ?_
                  refine xo_dup (pc' := 108) dd_K_pipe_107 rfl ?_
                  refine xo_getI (pc' := 111) dd_K_pipe_108 ff_K_180 (by decide) rfl fun v15 => ?_
                  refine xo_iconst (pc' := 112) (v := (1 : Int32)) dd_K_pipe_111 (by decide) rfl ?_
                  refine xo_iadd (pc' := 113) dd_K_pipe_112 rfl ?_
                  refine xo_putI (pc' := 116) dd_K_pipe_113 ff_K_180 rfl fun H16 => ?_
                  refine xo_aload (pc' := 118) dd_K_pipe_116 2 rfl rfl ?_
                  refine xo_aload (pc' := 120) dd_K_pipe_118 0 rfl rfl ?_
                  refine xo_putP (pc' := 123) dd_K_pipe_120 ff_K_186 (by decide) (by decide +kernel : parseFieldDescriptor "LFlowKernel$Pipe;" = some (.object "FlowKernel$Pipe")) (Or.inl ⟨_, rfl⟩) rfl fun H17 => ?_
                  refine xo_aload (pc' := 125) dd_K_pipe_123 1 rfl rfl ?_
                  refine xo_iconst (pc' := 126) (v := (1 : Int32)) dd_K_pipe_125 (by decide) rfl ?_
                  refine xo_putZ (pc' := 129) dd_K_pipe_126 ff_K_152 rfl fun H18 => ?_
                  refine xo_aload_n (pc' := 130) dd_K_pipe_129 rfl 3 rfl rfl ?_
                  refine xo_callVv (as := []) (o := (some t)) (st := []) (pc' := 133) dd_K_pipe_130 cv_K_awaitPumps ml_K_57 rfl rfl ⟨by decide, by decide⟩ rfl rfl rfl (Nat.le_of_ble_eq_true rfl) rfl (fun n q h => kc_K_awaitPumps n H18 q h) fun H19 => ?_
                  refine xo_aload (pc' := 135) dd_K_pipe_133 0 rfl rfl ?_
                  refine xo_getI (pc' := 138) dd_K_pipe_135 ff_K_190 (by decide) rfl fun v20 => ?_
                  exact xo_iret dd_K_pipe_138 rfl
                · refine xo_bipush (pc' := 76) (v := (-3 : Int32)) dd_K_pipe_74 (by decide) rfl ?_
                  exact xo_iret dd_K_pipe_76 rfl
              · refine xo_bipush (pc' := 65) (v := (-2 : Int32)) dd_K_pipe_63 (by decide) rfl ?_
                exact xo_iret dd_K_pipe_65 rfl
        · refine xo_iconst (pc' := 35) (v := (-1 : Int32)) dd_K_pipe_34 (by decide) rfl ?_
          exact xo_iret dd_K_pipe_35 rfl
set_option maxRecDepth 100000 in
set_option maxHeartbeats 4000000 in
theorem kc_K_pipe (t : xo_N) (x1 : Int32) (x2 : Int32) (x3 : Int32) (H : xo_H) (r : Int32 × xo_H) (hk : fc_K_pipe t x1 x2 x3 H = some r) : xo_M mt_K_pipe [.inr (some t), .inl x1, .inl x2, .inl x3] H (xo_ji r) :=
  xo_entry hk (by decide +kernel) (Nat.le_of_ble_eq_true rfl) (kb_K_pipe t x1 x2 x3 H r)
def fb_K_part_132 (t : xo_N) (x3 : Option xo_N) (H : xo_H) : Option (Int32 × xo_H) :=
  xo_cl 0 (some t) (fun n3 => fc_K_awaitPumps n3 H) fun H1 =>
  xo_gf 5 0 H1 x3 fun v2 =>
  some (v2, H1)

def fc_K_part (t : xo_N) (x1 : Int32) (H : xo_H) : Option (Int32 × xo_H) :=
  xo_cl 0 (some t) (fun n25 => fc_K_giverAt n25 x1 H) fun r1 =>
  if r1.1 = none then (some ((-1 : Int32), r1.2))
  else (xo_cl 5 r1.1 (fun n24 => fc_G_heldBy n24 r1.2) fun r2 =>
  if r2.1 = 0 then (xo_gp 5 11 r2.2 r1.1 fun o3 =>
  if o3 = none then (xo_gp 5 3 r2.2 r1.1 fun o4 =>
  xo_gf 3 2 r2.2 o4 fun v5 =>
  if 0 < v5 then (some ((-2 : Int32), r2.2))
  else (xo_gf 0 5 r2.2 (some t) fun v6 =>
  if (4 : Int32) < v6 then (some ((-3 : Int32), r2.2))
  else (xo_cl 0 (some t) (fun n23 => fc_K_addGiver n23 (0 : Int32) (0 : Int32) r2.2) fun r7 =>
  xo_cl 0 (some t) (fun n22 => fc_K_addGiver n22 (0 : Int32) (0 : Int32) r7.2) fun r8 =>
  xo_nw 6 r8.2 (41, x1.toNatClampNeg) fun H9 =>
  (fc_A_init (41, x1.toNatClampNeg) r1.1 r7.1 r8.1 H9).bind fun H11 =>
  xo_pp 5 12 H11 r1.1 (some (41, x1.toNatClampNeg)) fun H12 =>
  xo_pp 5 11 H12 r7.1 (some (41, x1.toNatClampNeg)) fun H13 =>
  xo_pp 5 11 H13 r8.1 (some (41, x1.toNatClampNeg)) fun H14 =>
  xo_gf 5 4 H14 r1.1 fun v15 =>
  if v15 = (1 : Int32) then (xo_cl 0 (some t) (fun n21 => fc_K_endBranches n21 (some (41, x1.toNatClampNeg)) H14) fun H20 =>
  fb_K_part_132 t r7.1 H20)
  else (xo_gf 5 4 H14 r1.1 fun v16 =>
  if v16 = (2 : Int32) then (xo_gf 5 5 H14 r1.1 fun v17 =>
  xo_cl 0 (some t) (fun n19 => fc_K_failBranches n19 (some (41, x1.toNatClampNeg)) v17 H14) fun H18 =>
  fb_K_part_132 t r7.1 H18)
  else (fb_K_part_132 t r7.1 H14)))))
  else (some ((-2 : Int32), r2.2)))
  else (some ((-2 : Int32), r2.2)))

set_option maxRecDepth 100000 in
set_option maxHeartbeats 4000000 in
theorem kb_K_part_132 (t : xo_N) (x3 : Option xo_N) (H : xo_H) (r : Int32 × xo_H) : xo_X mt_K_part 0 0 xo_ji r 132 [(0, .inr (some t)), (3, .inr x3)] [] H (fb_K_part_132 t x3 H) := by
  unfold fb_K_part_132
  refine xo_aload_n (pc' := 133) dd_K_part_132 rfl 0 rfl rfl ?_
  refine xo_callVv (as := []) (o := (some t)) (st := []) (pc' := 136) dd_K_part_133 cv_K_awaitPumps ml_K_57 rfl rfl ⟨by decide, by decide⟩ rfl rfl rfl (Nat.le_of_ble_eq_true rfl) rfl (fun n q h => kc_K_awaitPumps n H q h) fun H1 => ?_
  refine xo_aload_n (pc' := 137) dd_K_part_136 rfl 1 rfl rfl ?_
  refine xo_getI (pc' := 140) dd_K_part_137 ff_K_60 (by decide) rfl fun v2 => ?_
  exact xo_iret dd_K_part_140 rfl
set_option maxRecDepth 100000 in
set_option maxHeartbeats 4000000 in
theorem kb_K_part (t : xo_N) (x1 : Int32) (H : xo_H) (r : Int32 × xo_H) : xo_X mt_K_part 14 118 xo_ji r 0 [(0, .inr (some t)), (1, .inl x1)] [] H (fc_K_part t x1 H) := by
  unfold fc_K_part
  refine xo_aload_n (pc' := 1) dd_K_part_0 rfl 0 rfl rfl ?_
  refine xo_iload_n (pc' := 2) dd_K_part_1 rfl 1 rfl rfl ?_
  refine xo_callVp (as := [.inl x1]) (o := (some t)) (st := []) (pc' := 5) dd_K_part_2 cv_K_giverAt ml_K_133 rfl rfl ⟨by decide, by decide⟩ rfl rfl rfl (Nat.le_of_ble_eq_true rfl) rfl (fun n q h => kc_K_giverAt n x1 H q h) fun r1 => ?_
  refine xo_astore_n (pc' := 6) dd_K_part_5 rfl (by decide) rfl rfl ?_
  refine xo_aload_n (pc' := 7) dd_K_part_6 rfl 0 rfl rfl ?_
  refine xo_ifnonnull (pc' := 10) (tgt := 12) dd_K_part_7 rfl rfl ?_ ?_
  · refine xo_aload_n (pc' := 13) dd_K_part_12 rfl 0 rfl rfl ?_
    refine xo_callVi (as := []) (o := r1.1) (st := []) (pc' := 16) dd_K_part_13 cv_G_heldBy ml_K_136 rfl rfl ⟨by decide, by decide⟩ rfl rfl rfl (Nat.le_of_ble_eq_true rfl) rfl (fun n q h => kc_G_heldBy n r1.2 q h) fun r2 => ?_
    refine xo_if_ne (pc' := 19) (tgt := 36) dd_K_part_16 rfl rfl ?_ ?_
    · refine xo_bipush (pc' := 38) (v := (-2 : Int32)) dd_K_part_36 (by decide) rfl ?_
      exact xo_iret dd_K_part_38 rfl
    · refine xo_aload_n (pc' := 20) dd_K_part_19 rfl 0 rfl rfl ?_
      refine xo_getP (pc' := 23) dd_K_part_20 ff_K_191 (by decide) rfl fun o3 => ?_
      refine xo_ifnonnull (pc' := 26) (tgt := 36) dd_K_part_23 rfl rfl ?_ ?_
      · refine xo_bipush (pc' := 38) (v := (-2 : Int32)) dd_K_part_36 (by decide) rfl ?_
        exact xo_iret dd_K_part_38 rfl
      · refine xo_aload_n (pc' := 27) dd_K_part_26 rfl 0 rfl rfl ?_
        refine xo_getP (pc' := 30) dd_K_part_27 ff_K_91 (by decide) rfl fun o4 => ?_
        refine xo_getI (pc' := 33) dd_K_part_30 ff_K_95 (by decide) rfl fun v5 => ?_
        refine xo_if_le (pc' := 36) (tgt := 39) dd_K_part_33 rfl rfl ?_ ?_
        · refine xo_aload_n (pc' := 40) dd_K_part_39 rfl 1 rfl rfl ?_
          refine xo_getI (pc' := 43) dd_K_part_40 ff_K_45 (by decide) rfl fun v6 => ?_
          refine xo_iconst (pc' := 44) (v := (4 : Int32)) dd_K_part_43 (by decide) rfl ?_
          refine xo_icmp_le (pc' := 47) (tgt := 50) dd_K_part_44 rfl rfl ?_ ?_
          · refine xo_aload_n (pc' := 51) dd_K_part_50 rfl 1 rfl rfl ?_
            refine xo_iconst (pc' := 52) (v := (0 : Int32)) dd_K_part_51 (by decide) rfl ?_
            refine xo_iconst (pc' := 53) (v := (0 : Int32)) dd_K_part_52 (by decide) rfl ?_
            refine xo_callVp (as := [.inl (0 : Int32), .inl (0 : Int32)]) (o := (some t)) (st := []) (pc' := 56) dd_K_part_53 cv_K_addGiver ml_K_49 rfl rfl ⟨by decide, by decide⟩ rfl rfl rfl (Nat.le_of_ble_eq_true rfl) rfl (fun n q h => kc_K_addGiver n (0 : Int32) (0 : Int32) r2.2 q h) fun r7 => ?_
            refine xo_astore_n (pc' := 57) dd_K_part_56 rfl (by decide) rfl rfl ?_
            refine xo_aload_n (pc' := 58) dd_K_part_57 rfl 2 rfl rfl ?_
            refine xo_iconst (pc' := 59) (v := (0 : Int32)) dd_K_part_58 (by decide) rfl ?_
            refine xo_iconst (pc' := 60) (v := (0 : Int32)) dd_K_part_59 (by decide) rfl ?_
            refine xo_callVp (as := [.inl (0 : Int32), .inl (0 : Int32)]) (o := (some t)) (st := []) (pc' := 63) dd_K_part_60 cv_K_addGiver ml_K_49 rfl rfl ⟨by decide, by decide⟩ rfl rfl rfl (Nat.le_of_ble_eq_true rfl) rfl (fun n q h => kc_K_addGiver n (0 : Int32) (0 : Int32) r7.2 q h) fun r8 => ?_
            refine xo_astore (pc' := 65) dd_K_part_63 (by decide) rfl rfl ?_
            refine xo_new (pc' := 68) dd_K_part_65 co_K_195 rfl rfl rfl fun H9 => ?_
            refine xo_dup (pc' := 69) dd_K_part_68 rfl ?_
            refine xo_aload_n (pc' := 70) dd_K_part_69 rfl 2 rfl rfl ?_
            refine xo_aload_n (pc' := 71) dd_K_part_70 rfl 1 rfl rfl ?_
            refine xo_aload (pc' := 73) dd_K_part_71 0 rfl rfl ?_
            refine xo_callIv (as := [.inr r1.1, .inr r7.1, .inr r8.1]) (n := (41, x1.toNatClampNeg)) (st := [.inr (some (41, x1.toNatClampNeg))]) (pc' := 76) dd_K_part_73 cv_A_init ml_K_197 rfl ⟨by decide, by decide⟩ rfl rfl rfl (Nat.le_of_ble_eq_true rfl) rfl (fun q h => kc_A_init (41, x1.toNatClampNeg) r1.1 r7.1 r8.1 H9 q h) fun H11 => ?_
            refine xo_astore (pc' := 78) dd_K_part_76 (by decide) rfl rfl ?_
            refine xo_aload_n (pc' := 79) dd_K_part_78 rfl 3 rfl rfl ?_
            refine xo_aload (pc' := 81) dd_K_part_79 0 rfl rfl ?_
            refine xo_putP (pc' := 84) dd_K_part_81 ff_K_200 (by decide) (by decide +kernel : parseFieldDescriptor "LFlowKernel$Parting;" = some (.object "FlowKernel$Parting")) (Or.inl ⟨_, rfl⟩) rfl fun H12 => ?_
            refine xo_aload_n (pc' := 85) dd_K_part_84 rfl 2 rfl rfl ?_
            refine xo_aload (pc' := 87) dd_K_part_85 0 rfl rfl ?_
            refine xo_putP (pc' := 90) dd_K_part_87 ff_K_191 (by decide) (by decide +kernel : parseFieldDescriptor "LFlowKernel$Parting;" = some (.object "FlowKernel$Parting")) (Or.inl ⟨_, rfl⟩) rfl fun H13 => ?_
            refine xo_aload (pc' := 92) dd_K_part_90 1 rfl rfl ?_
            refine xo_aload (pc' := 94) dd_K_part_92 0 rfl rfl ?_
            refine xo_putP (pc' := 97) dd_K_part_94 ff_K_191 (by decide) (by decide +kernel : parseFieldDescriptor "LFlowKernel$Parting;" = some (.object "FlowKernel$Parting")) (Or.inl ⟨_, rfl⟩) rfl fun H14 => ?_
            refine xo_aload_n (pc' := 98) dd_K_part_97 rfl 3 rfl rfl ?_
            refine xo_getI (pc' := 101) dd_K_part_98 ff_K_110 (by decide) rfl fun v15 => ?_
            refine xo_iconst (pc' := 102) (v := (1 : Int32)) dd_K_part_101 (by decide) rfl ?_
            refine xo_icmp_ne (pc' := 105) (tgt := 114) dd_K_part_102 rfl rfl ?_ ?_
            · refine xo_aload_n (pc' := 115) dd_K_part_114 rfl 3 rfl rfl ?_
              refine xo_getI (pc' := 118) dd_K_part_115 ff_K_110 (by decide) rfl fun v16 => ?_
              refine xo_iconst (pc' := 119) (v := (2 : Int32)) dd_K_part_118 (by decide) rfl ?_
              refine xo_icmp_ne (pc' := 122) (tgt := 132) dd_K_part_119 rfl rfl ?_ ?_
              · refine xo_sub [4, 2] rfl ?_
                exact kb_K_part_132 t r7.1 H14 r
              · refine xo_aload_n (pc' := 123) dd_K_part_122 rfl 4 rfl rfl ?_
                refine xo_aload (pc' := 125) dd_K_part_123 0 rfl rfl ?_
                refine xo_aload_n (pc' := 126) dd_K_part_125 rfl 3 rfl rfl ?_
                refine xo_getI (pc' := 129) dd_K_part_126 ff_K_207 (by decide) rfl fun v17 => ?_
                refine xo_callVv (as := [.inr (some (41, x1.toNatClampNeg)), .inl v17]) (o := (some t)) (st := []) (pc' := 132) dd_K_part_129 cv_K_failBranches ml_K_210 rfl rfl ⟨by decide, by decide⟩ rfl rfl rfl (Nat.le_of_ble_eq_true rfl) rfl (fun n q h => kc_K_failBranches n (some (41, x1.toNatClampNeg)) v17 H14 q h) fun H18 => ?_
                refine xo_sub [4, 2] rfl ?_
                exact kb_K_part_132 t r7.1 H18 r
            · refine xo_aload_n (pc' := 106) dd_K_part_105 rfl 4 rfl rfl ?_
              refine xo_aload (pc' := 108) dd_K_part_106 0 rfl rfl ?_
              refine xo_callVv (as := [.inr (some (41, x1.toNatClampNeg))]) (o := (some t)) (st := []) (pc' := 111) dd_K_part_108 cv_K_endBranches ml_K_203 rfl rfl ⟨by decide, by decide⟩ rfl rfl rfl (Nat.le_of_ble_eq_true rfl) rfl (fun n q h => kc_K_endBranches n (some (41, x1.toNatClampNeg)) H14 q h) fun H20 => ?_
              refine xo_goto (pc' := 132) dd_K_part_111 rfl ?_
              refine xo_sub [4, 2] rfl ?_
              exact kb_K_part_132 t r7.1 H20 r
          · refine xo_bipush (pc' := 49) (v := (-3 : Int32)) dd_K_part_47 (by decide) rfl ?_
            exact xo_iret dd_K_part_49 rfl
        · refine xo_bipush (pc' := 38) (v := (-2 : Int32)) dd_K_part_36 (by decide) rfl ?_
          exact xo_iret dd_K_part_38 rfl
  · refine xo_iconst (pc' := 11) (v := (-1 : Int32)) dd_K_part_10 (by decide) rfl ?_
    exact xo_iret dd_K_part_11 rfl
set_option maxRecDepth 100000 in
set_option maxHeartbeats 4000000 in
theorem kc_K_part (t : xo_N) (x1 : Int32) (H : xo_H) (r : Int32 × xo_H) (hk : fc_K_part t x1 H = some r) : xo_M mt_K_part [.inr (some t), .inl x1] H (xo_ji r) :=
  xo_entry hk (by decide +kernel) (Nat.le_of_ble_eq_true rfl) (kb_K_part t x1 H r)
def fc_K_doPulled (t : xo_N) (x1 : Option xo_N) (x2 : Int32) (H : xo_H) : Option (xo_H) :=
  if x1 = none then (some H)
  else (xo_pz 5 8 H x1 (0 : Int32) fun H1 =>
  if x2 = (-1 : Int32) then (xo_gf 5 9 H1 x1 fun v2 =>
  if v2 = 0 then (some H1)
  else (xo_pz 5 9 H1 x1 (0 : Int32) fun H3 =>
  xo_cl 0 (some t) (fun n5 => fc_K_pullIfNeeded n5 x1 H3) fun H4 =>
  some H4))
  else (xo_cl 0 (some t) (fun n7 => fc_K_failGiver n7 x1 x2 H1) fun H6 =>
  some H6))

set_option maxRecDepth 100000 in
set_option maxHeartbeats 4000000 in
theorem kb_K_doPulled (t : xo_N) (x1 : Option xo_N) (x2 : Int32) (H : xo_H) (r : xo_H) : xo_X mt_K_doPulled 0 0 xo_jv r 0 [(0, .inr (some t)), (1, .inr x1), (2, .inl x2)] [] H (fc_K_doPulled t x1 x2 H) := by
  unfold fc_K_doPulled
  refine xo_aload_n (pc' := 1) dd_K_doPulled_0 rfl 1 rfl rfl ?_
  refine xo_ifnonnull (pc' := 4) (tgt := 5) dd_K_doPulled_1 rfl rfl ?_ ?_
  · refine xo_aload_n (pc' := 6) dd_K_doPulled_5 rfl 1 rfl rfl ?_
    refine xo_iconst (pc' := 7) (v := (0 : Int32)) dd_K_doPulled_6 (by decide) rfl ?_
    refine xo_putZ (pc' := 10) dd_K_doPulled_7 ff_K_119 rfl fun H1 => ?_
    refine xo_iload_n (pc' := 11) dd_K_doPulled_10 rfl 2 rfl rfl ?_
    refine xo_iconst (pc' := 12) (v := (-1 : Int32)) dd_K_doPulled_11 (by decide) rfl ?_
    refine xo_icmp_eq (pc' := 15) (tgt := 24) dd_K_doPulled_12 rfl rfl ?_ ?_
    · refine xo_aload_n (pc' := 25) dd_K_doPulled_24 rfl 1 rfl rfl ?_
      refine xo_getI (pc' := 28) dd_K_doPulled_25 ff_K_218 (by decide) rfl fun v2 => ?_
      refine xo_if_eq (pc' := 31) (tgt := 41) dd_K_doPulled_28 rfl rfl ?_ ?_
      · exact xo_vret dd_K_doPulled_41 rfl
      · refine xo_aload_n (pc' := 32) dd_K_doPulled_31 rfl 1 rfl rfl ?_
        refine xo_iconst (pc' := 33) (v := (0 : Int32)) dd_K_doPulled_32 (by decide) rfl ?_
        refine xo_putZ (pc' := 36) dd_K_doPulled_33 ff_K_218 rfl fun H3 => ?_
        refine xo_aload_n (pc' := 37) dd_K_doPulled_36 rfl 0 rfl rfl ?_
        refine xo_aload_n (pc' := 38) dd_K_doPulled_37 rfl 1 rfl rfl ?_
        refine xo_callVv (as := [.inr x1]) (o := (some t)) (st := []) (pc' := 41) dd_K_doPulled_38 cv_K_pullIfNeeded ml_K_53 rfl rfl ⟨by decide, by decide⟩ rfl rfl rfl (Nat.le_of_ble_eq_true rfl) rfl (fun n q h => kc_K_pullIfNeeded n x1 H3 q h) fun H4 => ?_
        exact xo_vret dd_K_doPulled_41 rfl
    · refine xo_aload_n (pc' := 16) dd_K_doPulled_15 rfl 0 rfl rfl ?_
      refine xo_aload_n (pc' := 17) dd_K_doPulled_16 rfl 1 rfl rfl ?_
      refine xo_iload_n (pc' := 18) dd_K_doPulled_17 rfl 2 rfl rfl ?_
      refine xo_callVv (as := [.inr x1, .inl x2]) (o := (some t)) (st := []) (pc' := 21) dd_K_doPulled_18 cv_K_failGiver ml_K_116 rfl rfl ⟨by decide, by decide⟩ rfl rfl rfl (Nat.le_of_ble_eq_true rfl) rfl (fun n q h => kc_K_failGiver n x1 x2 H1 q h) fun H6 => ?_
      refine xo_goto (pc' := 41) dd_K_doPulled_21 rfl ?_
      exact xo_vret dd_K_doPulled_41 rfl
  · exact xo_vret dd_K_doPulled_4 rfl
set_option maxRecDepth 100000 in
set_option maxHeartbeats 4000000 in
theorem kc_K_doPulled (t : xo_N) (x1 : Option xo_N) (x2 : Int32) (H : xo_H) (r : xo_H) (hk : fc_K_doPulled t x1 x2 H = some r) : xo_M mt_K_doPulled [.inr (some t), .inr x1, .inl x2] H (xo_jv r) :=
  xo_entry hk (by decide +kernel) (Nat.le_of_ble_eq_true rfl) (kb_K_doPulled t x1 x2 H r)
def fb_K_doParted_36 : Nat → xo_N → Int32 → Option xo_N → Option xo_N → Int32 → Int32 → xo_H → Option (xo_H)
  | 0, _, _, _, _, _, _, _ => none
  | fu + 1, t, x2, x3, x4, x5, x6, H =>
  if x6 < x5 then (xo_ap 2 H x4 x6 fun o7 =>
  xo_cl 5 o7 (fun n17 => fc_G_isGoing n17 H) fun r8 =>
  if r8.1 = 0 then (fb_K_doParted_36 fu t x2 x3 x4 x5 (x6 + (1 : Int32)) r8.2)
  else (xo_gf 5 10 r8.2 o7 fun v9 =>
  if v9 = 0 then (xo_gp 5 1 r8.2 o7 fun o10 =>
  xo_cl 4 o10 (fun n16 => fc_C_count n16 r8.2) fun r11 =>
  if r11.1 < (16 : Int32) then (xo_cl 0 (some t) (fun n13 => fc_K_takeIn n13 o7 x2 r11.2) fun H12 =>
  fb_K_doParted_36 fu t x2 x3 x4 x5 (x6 + (1 : Int32)) H12)
  else (xo_cl 5 o7 (fun n15 => fc_G_failWith n15 (101 : Int32) r11.2) fun H14 =>
  fb_K_doParted_36 fu t x2 x3 x4 x5 (x6 + (1 : Int32)) H14))
  else (fb_K_doParted_36 fu t x2 x3 x4 x5 (x6 + (1 : Int32)) r8.2)))
  else (xo_pz 6 2 H x3 (0 : Int32) fun H1 =>
  xo_gf 6 3 H1 x3 fun v2 =>
  if v2 = 0 then (some H1)
  else (xo_cl 0 (some t) (fun n6 => fc_K_askRoot n6 x3 H1) fun r3 =>
  if r3.1 = 0 then (xo_cl 0 (some t) (fun n5 => fc_K_endBranches n5 x3 r3.2) fun H4 =>
  some H4)
  else (some r3.2)))

def fc_K_doParted (t : xo_N) (x1 : Option xo_N) (x2 : Int32) (H : xo_H) : Option (xo_H) :=
  if x1 = none then (some H)
  else (xo_gp 5 12 H x1 fun o1 =>
  if o1 = none then (some H)
  else (xo_gp 5 12 H x1 fun o2 =>
  xo_pz 6 3 H o2 (0 : Int32) fun H3 =>
  xo_gp 6 1 H3 o2 fun o4 =>
  xo_ln o4 fun v5 =>
  fb_K_doParted_36 1000 t x2 o2 o4 v5 (0 : Int32) H3))

set_option maxRecDepth 100000 in
set_option maxHeartbeats 4000000 in
theorem kb_K_doParted_36 : ∀ (fu : Nat) (t : xo_N) (x2 : Int32) (x3 : Option xo_N) (x4 : Option xo_N) (x5 : Int32) (x6 : Int32) (H : xo_H) (r : xo_H), xo_X mt_K_doParted 0 0 xo_jv r 36 [(0, .inr (some t)), (2, .inl x2), (3, .inr x3), (4, .inr x4), (5, .inl x5), (6, .inl x6)] [] H (fb_K_doParted_36 fu t x2 x3 x4 x5 x6 H) := by
  intro fu
  induction fu with
  | zero => intros; exact xo_no
  | succ fu ih =>
    intro t x2 x3 x4 x5 x6 H r
    rw [fb_K_doParted_36]
    refine xo_iload (pc' := 38) dd_K_doParted_36 5 rfl rfl ?_
    refine xo_iload (pc' := 40) dd_K_doParted_38 4 rfl rfl ?_
    refine xo_icmp_ge (pc' := 43) (tgt := 105) dd_K_doParted_40 rfl rfl ?_ ?_
    · refine xo_aload_n (pc' := 106) dd_K_doParted_105 rfl 2 rfl rfl ?_
      refine xo_iconst (pc' := 107) (v := (0 : Int32)) dd_K_doParted_106 (by decide) rfl ?_
      refine xo_putZ (pc' := 110) dd_K_doParted_107 ff_K_273 rfl fun H1 => ?_
      refine xo_aload_n (pc' := 111) dd_K_doParted_110 rfl 2 rfl rfl ?_
      refine xo_getI (pc' := 114) dd_K_doParted_111 ff_K_276 (by decide) rfl fun v2 => ?_
      refine xo_if_eq (pc' := 117) (tgt := 130) dd_K_doParted_114 rfl rfl ?_ ?_
      · exact xo_vret dd_K_doParted_130 rfl
      · refine xo_aload_n (pc' := 118) dd_K_doParted_117 rfl 0 rfl rfl ?_
        refine xo_aload_n (pc' := 119) dd_K_doParted_118 rfl 2 rfl rfl ?_
        refine xo_callVi (as := [.inr x3]) (o := (some t)) (st := []) (pc' := 122) dd_K_doParted_119 cv_K_askRoot ml_K_277 rfl rfl ⟨by decide, by decide⟩ rfl rfl rfl (Nat.le_of_ble_eq_true rfl) rfl (fun n q h => kc_K_askRoot n x3 H1 q h) fun r3 => ?_
        refine xo_if_ne (pc' := 125) (tgt := 130) dd_K_doParted_122 rfl rfl ?_ ?_
        · exact xo_vret dd_K_doParted_130 rfl
        · refine xo_aload_n (pc' := 126) dd_K_doParted_125 rfl 0 rfl rfl ?_
          refine xo_aload_n (pc' := 127) dd_K_doParted_126 rfl 2 rfl rfl ?_
          refine xo_callVv (as := [.inr x3]) (o := (some t)) (st := []) (pc' := 130) dd_K_doParted_127 cv_K_endBranches ml_K_203 rfl rfl ⟨by decide, by decide⟩ rfl rfl rfl (Nat.le_of_ble_eq_true rfl) rfl (fun n q h => kc_K_endBranches n x3 r3.2 q h) fun H4 => ?_
          exact xo_vret dd_K_doParted_130 rfl
    · refine xo_aload (pc' := 45) dd_K_doParted_43 3 rfl rfl ?_
      refine xo_iload (pc' := 47) dd_K_doParted_45 5 rfl rfl ?_
      refine xo_aald (pc' := 48) dd_K_doParted_47 (by decide) rfl fun o7 => ?_
      refine xo_astore (pc' := 50) dd_K_doParted_48 (by decide) rfl rfl ?_
      refine xo_aload (pc' := 52) dd_K_doParted_50 0 rfl rfl ?_
      refine xo_callVi (as := []) (o := o7) (st := []) (pc' := 55) dd_K_doParted_52 cv_G_isGoing ml_K_79 rfl rfl ⟨by decide, by decide⟩ rfl rfl rfl (Nat.le_of_ble_eq_true rfl) rfl (fun n q h => kc_G_isGoing n H q h) fun r8 => ?_
      refine xo_if_eq (pc' := 58) (tgt := 99) dd_K_doParted_55 rfl rfl ?_ ?_
      · refine xo_iinc (pc' := 102) dd_K_doParted_99 6 rfl (xo_ii (m := (1 : Int32)) (by decide)) (by decide) rfl rfl ?_
        refine xo_goto (pc' := 36) dd_K_doParted_102 rfl ?_
        refine xo_sub [2, 3, 4, 5, 6, 0] rfl ?_
        exact ih t x2 x3 x4 x5 (x6 + (1 : Int32)) r8.2 r
      · refine xo_aload (pc' := 60) dd_K_doParted_58 0 rfl rfl ?_
        refine xo_getI (pc' := 63) dd_K_doParted_60 ff_K_294 (by decide) rfl fun v9 => ?_
        refine xo_if_eq (pc' := 66) (tgt := 69) dd_K_doParted_63 rfl rfl ?_ ?_
        · refine xo_aload (pc' := 71) dd_K_doParted_69 0 rfl rfl ?_
          refine xo_getP (pc' := 74) dd_K_doParted_71 ff_K_83 (by decide) rfl fun o10 => ?_
          refine xo_callVi (as := []) (o := o10) (st := []) (pc' := 77) dd_K_doParted_74 cv_C_count ml_K_87 rfl rfl ⟨by decide, by decide⟩ rfl rfl rfl (Nat.le_of_ble_eq_true rfl) rfl (fun n q h => kc_C_count n r8.2 q h) fun r11 => ?_
          refine xo_bipush (pc' := 79) (v := (16 : Int32)) dd_K_doParted_77 (by decide) rfl ?_
          refine xo_icmp_lt (pc' := 82) (tgt := 92) dd_K_doParted_79 rfl rfl ?_ ?_
          · refine xo_aload_n (pc' := 93) dd_K_doParted_92 rfl 1 rfl rfl ?_
            refine xo_aload (pc' := 95) dd_K_doParted_93 0 rfl rfl ?_
            refine xo_iload_n (pc' := 96) dd_K_doParted_95 rfl 2 rfl rfl ?_
            refine xo_callVv (as := [.inr o7, .inl x2]) (o := (some t)) (st := []) (pc' := 99) dd_K_doParted_96 cv_K_takeIn ml_K_99 rfl rfl ⟨by decide, by decide⟩ rfl rfl rfl (Nat.le_of_ble_eq_true rfl) rfl (fun n q h => kc_K_takeIn n o7 x2 r11.2 q h) fun H12 => ?_
            refine xo_iinc (pc' := 102) dd_K_doParted_99 6 rfl (xo_ii (m := (1 : Int32)) (by decide)) (by decide) rfl rfl ?_
            refine xo_goto (pc' := 36) dd_K_doParted_102 rfl ?_
            refine xo_sub [2, 3, 4, 5, 6, 0] rfl ?_
            exact ih t x2 x3 x4 x5 (x6 + (1 : Int32)) H12 r
          · refine xo_aload (pc' := 84) dd_K_doParted_82 0 rfl rfl ?_
            refine xo_bipush (pc' := 86) (v := (101 : Int32)) dd_K_doParted_84 (by decide) rfl ?_
            refine xo_callVv (as := [.inl (101 : Int32)]) (o := o7) (st := []) (pc' := 89) dd_K_doParted_86 cv_G_failWith ml_K_288 rfl rfl ⟨by decide, by decide⟩ rfl rfl rfl (Nat.le_of_ble_eq_true rfl) rfl (fun n q h => kc_G_failWith n (101 : Int32) r11.2 q h) fun H14 => ?_
            refine xo_goto (pc' := 99) dd_K_doParted_89 rfl ?_
            refine xo_iinc (pc' := 102) dd_K_doParted_99 6 rfl (xo_ii (m := (1 : Int32)) (by decide)) (by decide) rfl rfl ?_
            refine xo_goto (pc' := 36) dd_K_doParted_102 rfl ?_
            refine xo_sub [2, 3, 4, 5, 6, 0] rfl ?_
            exact ih t x2 x3 x4 x5 (x6 + (1 : Int32)) H14 r
        · refine xo_goto (pc' := 99) dd_K_doParted_66 rfl ?_
          refine xo_iinc (pc' := 102) dd_K_doParted_99 6 rfl (xo_ii (m := (1 : Int32)) (by decide)) (by decide) rfl rfl ?_
          refine xo_goto (pc' := 36) dd_K_doParted_102 rfl ?_
          refine xo_sub [2, 3, 4, 5, 6, 0] rfl ?_
          exact ih t x2 x3 x4 x5 (x6 + (1 : Int32)) r8.2 r
set_option maxRecDepth 100000 in
set_option maxHeartbeats 4000000 in
theorem kb_K_doParted (t : xo_N) (x1 : Option xo_N) (x2 : Int32) (H : xo_H) (r : xo_H) : xo_X mt_K_doParted 0 0 xo_jv r 0 [(0, .inr (some t)), (1, .inr x1), (2, .inl x2)] [] H (fc_K_doParted t x1 x2 H) := by
  unfold fc_K_doParted
  refine xo_aload_n (pc' := 1) dd_K_doParted_0 rfl 1 rfl rfl ?_
  refine xo_ifnull (pc' := 4) (tgt := 11) dd_K_doParted_1 rfl rfl ?_ ?_
  · exact xo_vret dd_K_doParted_11 rfl
  · refine xo_aload_n (pc' := 5) dd_K_doParted_4 rfl 1 rfl rfl ?_
    refine xo_getP (pc' := 8) dd_K_doParted_5 ff_K_200 (by decide) rfl fun o1 => ?_
    refine xo_ifnonnull (pc' := 11) (tgt := 12) dd_K_doParted_8 rfl rfl ?_ ?_
    · refine xo_aload_n (pc' := 13) dd_K_doParted_12 rfl 1 rfl rfl ?_
      refine xo_getP (pc' := 16) dd_K_doParted_13 ff_K_200 (by decide) rfl fun o2 => ?_
      refine xo_astore_n (pc' := 17) dd_K_doParted_16 rfl (by decide) rfl rfl ?_
      refine xo_aload_n (pc' := 18) dd_K_doParted_17 rfl 0 rfl rfl ?_
      refine xo_iconst (pc' := 19) (v := (0 : Int32)) dd_K_doParted_18 (by decide) rfl ?_
      refine xo_putZ (pc' := 22) dd_K_doParted_19 ff_K_276 rfl fun H3 => ?_
      refine xo_aload_n (pc' := 23) dd_K_doParted_22 rfl 0 rfl rfl ?_
      refine xo_getP (pc' := 26) dd_K_doParted_23 ff_K_285 (by decide) rfl fun o4 => ?_
      refine xo_astore (pc' := 28) dd_K_doParted_26 (by decide) rfl rfl ?_
      refine xo_aload (pc' := 30) dd_K_doParted_28 0 rfl rfl ?_
      refine xo_alen (pc' := 31) dd_K_doParted_30 rfl fun v5 => ?_
      refine xo_istore (pc' := 33) dd_K_doParted_31 (by decide) rfl rfl ?_
      refine xo_iconst (pc' := 34) (v := (0 : Int32)) dd_K_doParted_33 (by decide) rfl ?_
      refine xo_istore (pc' := 36) dd_K_doParted_34 (by decide) rfl rfl ?_
      refine xo_sub [4, 6, 3, 2, 1, 0] rfl ?_
      exact kb_K_doParted_36 1000 t x2 o2 o4 v5 (0 : Int32) H3 r
    · exact xo_vret dd_K_doParted_11 rfl
set_option maxRecDepth 100000 in
set_option maxHeartbeats 4000000 in
theorem kc_K_doParted (t : xo_N) (x1 : Option xo_N) (x2 : Int32) (H : xo_H) (r : xo_H) (hk : fc_K_doParted t x1 x2 H = some r) : xo_M mt_K_doParted [.inr (some t), .inr x1, .inl x2] H (xo_jv r) :=
  xo_entry hk (by decide +kernel) (Nat.le_of_ble_eq_true rfl) (kb_K_doParted t x1 x2 H r)
def fc_K_endPipe (t : xo_N) (x1 : Option xo_N) (x2 : Int32) (x3 : Int32) (H : xo_H) : Option (xo_H) :=
  xo_cl 8 x1 (fun n6 => fc_P_letGo n6 H) fun H1 =>
  xo_gp 0 0 H1 (some t) fun o2 =>
  xo_gf 8 0 H1 x1 fun v3 =>
  xo_cl 1 o2 (fun n5 => fc_L_note n5 x2 v3 x3 (0 : Int32) H1) fun H4 =>
  some H4

set_option maxRecDepth 100000 in
set_option maxHeartbeats 4000000 in
theorem kb_K_endPipe (t : xo_N) (x1 : Option xo_N) (x2 : Int32) (x3 : Int32) (H : xo_H) (r : xo_H) : xo_X mt_K_endPipe 0 0 xo_jv r 0 [(0, .inr (some t)), (1, .inr x1), (2, .inl x2), (3, .inl x3)] [] H (fc_K_endPipe t x1 x2 x3 H) := by
  unfold fc_K_endPipe
  refine xo_aload_n (pc' := 1) dd_K_endPipe_0 rfl 1 rfl rfl ?_
  refine xo_callVv (as := []) (o := x1) (st := []) (pc' := 4) dd_K_endPipe_1 cv_P_letGo ml_K_361 rfl rfl ⟨by decide, by decide⟩ rfl rfl rfl (Nat.le_of_ble_eq_true rfl) rfl (fun n q h => kc_P_letGo n H q h) fun H1 => ?_
  refine xo_aload_n (pc' := 5) dd_K_endPipe_4 rfl 0 rfl rfl ?_
  refine xo_getP (pc' := 8) dd_K_endPipe_5 ff_K_12 (by decide) rfl fun o2 => ?_
  refine xo_iload_n (pc' := 9) dd_K_endPipe_8 rfl 2 rfl rfl ?_
  refine xo_aload_n (pc' := 10) dd_K_endPipe_9 rfl 1 rfl rfl ?_
  refine xo_getI (pc' := 13) dd_K_endPipe_10 ff_K_190 (by decide) rfl fun v3 => ?_
  refine xo_iload_n (pc' := 14) dd_K_endPipe_13 rfl 3 rfl rfl ?_
  refine xo_iconst (pc' := 15) (v := (0 : Int32)) dd_K_endPipe_14 (by decide) rfl ?_
  refine xo_callVv (as := [.inl x2, .inl v3, .inl x3, .inl (0 : Int32)]) (o := o2) (st := []) (pc' := 18) dd_K_endPipe_15 cv_L_note ml_K_254 rfl rfl ⟨by decide, by decide⟩ rfl rfl rfl (Nat.le_of_ble_eq_true rfl) rfl (fun n q h => kc_L_note n x2 v3 x3 (0 : Int32) H1 q h) fun H4 => ?_
  exact xo_vret dd_K_endPipe_18 rfl
set_option maxRecDepth 100000 in
set_option maxHeartbeats 4000000 in
theorem kc_K_endPipe (t : xo_N) (x1 : Option xo_N) (x2 : Int32) (x3 : Int32) (H : xo_H) (r : xo_H) (hk : fc_K_endPipe t x1 x2 x3 H = some r) : xo_M mt_K_endPipe [.inr (some t), .inr x1, .inl x2, .inl x3] H (xo_jv r) :=
  xo_entry hk (by decide +kernel) (Nat.le_of_ble_eq_true rfl) (kb_K_endPipe t x1 x2 x3 H r)
def fb_K_doPump_160 (t : xo_N) (x1 : Option xo_N) (H : xo_H) : Option (Int32 × xo_H) :=
  xo_cl 0 (some t) (fun n2 => fc_K_endPipe n2 x1 (16 : Int32) (100 : Int32) H) fun H1 =>
  xo_gb (1 : Int32) (some ((1 : Int32), H1))

def fb_K_doPump_128 (t : xo_N) (x1 : Option xo_N) (H : xo_H) : Option (Int32 × xo_H) :=
  xo_cl 0 (some t) (fun n2 => fc_K_endPipe n2 x1 (15 : Int32) (0 : Int32) H) fun H1 =>
  xo_gb (1 : Int32) (some ((1 : Int32), H1))

def fb_K_doPump_83 (t : xo_N) (x1 : Option xo_N) (x3 : Option xo_N) (H : xo_H) : Option (Int32 × xo_H) :=
  xo_gf 7 5 H x3 fun v1 =>
  xo_cl 0 (some t) (fun n3 => fc_K_endPipe n3 x1 (16 : Int32) v1 H) fun H2 =>
  xo_gb (1 : Int32) (some ((1 : Int32), H2))

def fb_K_doPump_46 (t : xo_N) (x1 : Option xo_N) (x2 : Option xo_N) (H : xo_H) : Option (Int32 × xo_H) :=
  xo_gf 5 5 H x2 fun v1 =>
  xo_cl 0 (some t) (fun n3 => fc_K_endPipe n3 x1 (16 : Int32) v1 H) fun H2 =>
  xo_gb (1 : Int32) (some ((1 : Int32), H2))

def fc_K_doPump (t : xo_N) (x1 : Option xo_N) (H : xo_H) : Option (Int32 × xo_H) :=
  if x1 = none then (xo_gb (0 : Int32) (some ((0 : Int32), H)))
  else (xo_gf 8 6 H x1 fun v1 =>
  if v1 = 0 then (xo_gp 8 1 H x1 fun o2 =>
  xo_gp 8 2 H x1 fun o3 =>
  xo_gf 5 4 H o2 fun v4 =>
  if v4 = (2 : Int32) then (xo_gf 8 4 H x1 fun v27 =>
  if v27 = 0 then (xo_gf 5 5 H o2 fun v28 =>
  xo_cl 7 o3 (fun n30 => fc_T_abortWith n30 v28 H) fun H29 =>
  fb_K_doPump_46 t x1 o2 H29)
  else (fb_K_doPump_46 t x1 o2 H))
  else (xo_cl 7 o3 (fun n26 => fc_T_hasError n26 H) fun r5 =>
  if r5.1 = 0 then (xo_gf 5 4 r5.2 o2 fun v6 =>
  if v6 = (1 : Int32) then (xo_gp 7 1 r5.2 o3 fun o16 =>
  xo_cl 4 o16 (fun n21 => fc_C_count n21 r5.2) fun r17 =>
  if 0 < r17.1 then (xo_gb (0 : Int32) (some ((0 : Int32), r17.2)))
  else (xo_gf 8 3 r17.2 x1 fun v18 =>
  if v18 = 0 then (xo_cl 7 o3 (fun n20 => fc_T_shutDown n20 r17.2) fun H19 =>
  fb_K_doPump_128 t x1 H19)
  else (fb_K_doPump_128 t x1 r17.2)))
  else (xo_cl 7 o3 (fun n15 => fc_T_isShutOrToBe n15 r5.2) fun r7 =>
  if r7.1 = 0 then (xo_cl 8 x1 (fun n11 => fc_P_mustWait n11 r7.2) fun r8 =>
  if r8.1 = 0 then (xo_cl 0 (some t) (fun n10 => fc_K_request n10 o2 (0 : Int32) r8.2) fun H9 =>
  xo_gb (1 : Int32) (some ((1 : Int32), H9)))
  else (xo_gb (0 : Int32) (some ((0 : Int32), r8.2))))
  else (xo_gf 8 5 r7.2 x1 fun v12 =>
  if v12 = 0 then (xo_cl 0 (some t) (fun n14 => fc_K_cancelGiver n14 o2 (100 : Int32) r7.2) fun H13 =>
  fb_K_doPump_160 t x1 H13)
  else (fb_K_doPump_160 t x1 r7.2))))
  else (xo_gf 8 5 r5.2 x1 fun v22 =>
  if v22 = 0 then (xo_gf 7 5 r5.2 o3 fun v23 =>
  xo_cl 0 (some t) (fun n25 => fc_K_cancelGiver n25 o2 v23 r5.2) fun H24 =>
  fb_K_doPump_83 t x1 o3 H24)
  else (fb_K_doPump_83 t x1 o3 r5.2))))
  else (xo_gb (0 : Int32) (some ((0 : Int32), H))))

set_option maxRecDepth 100000 in
set_option maxHeartbeats 4000000 in
theorem kb_K_doPump_160 (t : xo_N) (x1 : Option xo_N) (H : xo_H) (r : Int32 × xo_H) : xo_X mt_K_doPump 0 0 xo_ji r 160 [(0, .inr (some t)), (1, .inr x1)] [] H (fb_K_doPump_160 t x1 H) := by
  unfold fb_K_doPump_160
  refine xo_aload_n (pc' := 161) dd_K_doPump_160 rfl 0 rfl rfl ?_
  refine xo_aload_n (pc' := 162) dd_K_doPump_161 rfl 1 rfl rfl ?_
  refine xo_bipush (pc' := 164) (v := (16 : Int32)) dd_K_doPump_162 (by decide) rfl ?_
  refine xo_bipush (pc' := 166) (v := (100 : Int32)) dd_K_doPump_164 (by decide) rfl ?_
  refine xo_callVv (as := [.inr x1, .inl (16 : Int32), .inl (100 : Int32)]) (o := (some t)) (st := []) (pc' := 169) dd_K_doPump_166 cv_K_endPipe ml_K_345 rfl rfl ⟨by decide, by decide⟩ rfl rfl rfl (Nat.le_of_ble_eq_true rfl) rfl (fun n q h => kc_K_endPipe n x1 (16 : Int32) (100 : Int32) H q h) fun H1 => ?_
  refine xo_goto (pc' := 187) dd_K_doPump_169 rfl ?_
  refine xo_iconst (pc' := 188) (v := (1 : Int32)) dd_K_doPump_187 (by decide) rfl ?_
  exact xo_zret dd_K_doPump_188 rfl
set_option maxRecDepth 100000 in
set_option maxHeartbeats 4000000 in
theorem kb_K_doPump_128 (t : xo_N) (x1 : Option xo_N) (H : xo_H) (r : Int32 × xo_H) : xo_X mt_K_doPump 0 0 xo_ji r 128 [(0, .inr (some t)), (1, .inr x1)] [] H (fb_K_doPump_128 t x1 H) := by
  unfold fb_K_doPump_128
  refine xo_aload_n (pc' := 129) dd_K_doPump_128 rfl 0 rfl rfl ?_
  refine xo_aload_n (pc' := 130) dd_K_doPump_129 rfl 1 rfl rfl ?_
  refine xo_bipush (pc' := 132) (v := (15 : Int32)) dd_K_doPump_130 (by decide) rfl ?_
  refine xo_iconst (pc' := 133) (v := (0 : Int32)) dd_K_doPump_132 (by decide) rfl ?_
  refine xo_callVv (as := [.inr x1, .inl (15 : Int32), .inl (0 : Int32)]) (o := (some t)) (st := []) (pc' := 136) dd_K_doPump_133 cv_K_endPipe ml_K_345 rfl rfl ⟨by decide, by decide⟩ rfl rfl rfl (Nat.le_of_ble_eq_true rfl) rfl (fun n q h => kc_K_endPipe n x1 (15 : Int32) (0 : Int32) H q h) fun H1 => ?_
  refine xo_goto (pc' := 187) dd_K_doPump_136 rfl ?_
  refine xo_iconst (pc' := 188) (v := (1 : Int32)) dd_K_doPump_187 (by decide) rfl ?_
  exact xo_zret dd_K_doPump_188 rfl
set_option maxRecDepth 100000 in
set_option maxHeartbeats 4000000 in
theorem kb_K_doPump_83 (t : xo_N) (x1 : Option xo_N) (x3 : Option xo_N) (H : xo_H) (r : Int32 × xo_H) : xo_X mt_K_doPump 0 0 xo_ji r 83 [(0, .inr (some t)), (1, .inr x1), (3, .inr x3)] [] H (fb_K_doPump_83 t x1 x3 H) := by
  unfold fb_K_doPump_83
  refine xo_aload_n (pc' := 84) dd_K_doPump_83 rfl 0 rfl rfl ?_
  refine xo_aload_n (pc' := 85) dd_K_doPump_84 rfl 1 rfl rfl ?_
  refine xo_bipush (pc' := 87) (v := (16 : Int32)) dd_K_doPump_85 (by decide) rfl ?_
  refine xo_aload_n (pc' := 88) dd_K_doPump_87 rfl 2 rfl rfl ?_
  refine xo_getI (pc' := 91) dd_K_doPump_88 ff_K_243 (by decide) rfl fun v1 => ?_
  refine xo_callVv (as := [.inr x1, .inl (16 : Int32), .inl v1]) (o := (some t)) (st := []) (pc' := 94) dd_K_doPump_91 cv_K_endPipe ml_K_345 rfl rfl ⟨by decide, by decide⟩ rfl rfl rfl (Nat.le_of_ble_eq_true rfl) rfl (fun n q h => kc_K_endPipe n x1 (16 : Int32) v1 H q h) fun H2 => ?_
  refine xo_goto (pc' := 187) dd_K_doPump_94 rfl ?_
  refine xo_iconst (pc' := 188) (v := (1 : Int32)) dd_K_doPump_187 (by decide) rfl ?_
  exact xo_zret dd_K_doPump_188 rfl
set_option maxRecDepth 100000 in
set_option maxHeartbeats 4000000 in
theorem kb_K_doPump_46 (t : xo_N) (x1 : Option xo_N) (x2 : Option xo_N) (H : xo_H) (r : Int32 × xo_H) : xo_X mt_K_doPump 0 0 xo_ji r 46 [(0, .inr (some t)), (1, .inr x1), (2, .inr x2)] [] H (fb_K_doPump_46 t x1 x2 H) := by
  unfold fb_K_doPump_46
  refine xo_aload_n (pc' := 47) dd_K_doPump_46 rfl 0 rfl rfl ?_
  refine xo_aload_n (pc' := 48) dd_K_doPump_47 rfl 1 rfl rfl ?_
  refine xo_bipush (pc' := 50) (v := (16 : Int32)) dd_K_doPump_48 (by decide) rfl ?_
  refine xo_aload_n (pc' := 51) dd_K_doPump_50 rfl 2 rfl rfl ?_
  refine xo_getI (pc' := 54) dd_K_doPump_51 ff_K_207 (by decide) rfl fun v1 => ?_
  refine xo_callVv (as := [.inr x1, .inl (16 : Int32), .inl v1]) (o := (some t)) (st := []) (pc' := 57) dd_K_doPump_54 cv_K_endPipe ml_K_345 rfl rfl ⟨by decide, by decide⟩ rfl rfl rfl (Nat.le_of_ble_eq_true rfl) rfl (fun n q h => kc_K_endPipe n x1 (16 : Int32) v1 H q h) fun H2 => ?_
  refine xo_goto (pc' := 187) dd_K_doPump_57 rfl ?_
  refine xo_iconst (pc' := 188) (v := (1 : Int32)) dd_K_doPump_187 (by decide) rfl ?_
  exact xo_zret dd_K_doPump_188 rfl
set_option maxRecDepth 100000 in
set_option maxHeartbeats 4000000 in
theorem kb_K_doPump (t : xo_N) (x1 : Option xo_N) (H : xo_H) (r : Int32 × xo_H) : xo_X mt_K_doPump 0 0 xo_ji r 0 [(0, .inr (some t)), (1, .inr x1)] [] H (fc_K_doPump t x1 H) := by
  unfold fc_K_doPump
  refine xo_aload_n (pc' := 1) dd_K_doPump_0 rfl 1 rfl rfl ?_
  refine xo_ifnull (pc' := 4) (tgt := 11) dd_K_doPump_1 rfl rfl ?_ ?_
  · refine xo_iconst (pc' := 12) (v := (0 : Int32)) dd_K_doPump_11 (by decide) rfl ?_
    exact xo_zret dd_K_doPump_12 rfl
  · refine xo_aload_n (pc' := 5) dd_K_doPump_4 rfl 1 rfl rfl ?_
    refine xo_getI (pc' := 8) dd_K_doPump_5 ff_K_304 (by decide) rfl fun v1 => ?_
    refine xo_if_eq (pc' := 11) (tgt := 13) dd_K_doPump_8 rfl rfl ?_ ?_
    · refine xo_aload_n (pc' := 14) dd_K_doPump_13 rfl 1 rfl rfl ?_
      refine xo_getP (pc' := 17) dd_K_doPump_14 ff_K_339 (by decide) rfl fun o2 => ?_
      refine xo_astore_n (pc' := 18) dd_K_doPump_17 rfl (by decide) rfl rfl ?_
      refine xo_aload_n (pc' := 19) dd_K_doPump_18 rfl 2 rfl rfl ?_
      refine xo_getP (pc' := 22) dd_K_doPump_19 ff_K_258 (by decide) rfl fun o3 => ?_
      refine xo_astore_n (pc' := 23) dd_K_doPump_22 rfl (by decide) rfl rfl ?_
      refine xo_aload_n (pc' := 24) dd_K_doPump_23 rfl 1 rfl rfl ?_
      refine xo_getI (pc' := 27) dd_K_doPump_24 ff_K_110 (by decide) rfl fun v4 => ?_
      refine xo_iconst (pc' := 28) (v := (2 : Int32)) dd_K_doPump_27 (by decide) rfl ?_
      refine xo_icmp_ne (pc' := 31) (tgt := 60) dd_K_doPump_28 rfl rfl ?_ ?_
      · refine xo_aload_n (pc' := 61) dd_K_doPump_60 rfl 0 rfl rfl ?_
        refine xo_callVi (as := []) (o := o3) (st := []) (pc' := 64) dd_K_doPump_61 cv_T_hasError ml_K_240 rfl rfl ⟨by decide, by decide⟩ rfl rfl rfl (Nat.le_of_ble_eq_true rfl) rfl (fun n q h => kc_T_hasError n H q h) fun r5 => ?_
        refine xo_if_eq (pc' := 67) (tgt := 97) dd_K_doPump_64 rfl rfl ?_ ?_
        · refine xo_aload_n (pc' := 98) dd_K_doPump_97 rfl 1 rfl rfl ?_
          refine xo_getI (pc' := 101) dd_K_doPump_98 ff_K_110 (by decide) rfl fun v6 => ?_
          refine xo_iconst (pc' := 102) (v := (1 : Int32)) dd_K_doPump_101 (by decide) rfl ?_
          refine xo_icmp_ne (pc' := 105) (tgt := 139) dd_K_doPump_102 rfl rfl ?_ ?_
          · refine xo_aload_n (pc' := 140) dd_K_doPump_139 rfl 0 rfl rfl ?_
            refine xo_callVi (as := []) (o := o3) (st := []) (pc' := 143) dd_K_doPump_140 cv_T_isShutOrToBe ml_K_355 rfl rfl ⟨by decide, by decide⟩ rfl rfl rfl (Nat.le_of_ble_eq_true rfl) rfl (fun n q h => kc_T_isShutOrToBe n r5.2 q h) fun r7 => ?_
            refine xo_if_eq (pc' := 146) (tgt := 172) dd_K_doPump_143 rfl rfl ?_ ?_
            · refine xo_aload_n (pc' := 173) dd_K_doPump_172 rfl 3 rfl rfl ?_
              refine xo_callVi (as := []) (o := x1) (st := []) (pc' := 176) dd_K_doPump_173 cv_P_mustWait ml_K_358 rfl rfl ⟨by decide, by decide⟩ rfl rfl rfl (Nat.le_of_ble_eq_true rfl) rfl (fun n q h => kc_P_mustWait n r7.2 q h) fun r8 => ?_
              refine xo_if_eq (pc' := 179) (tgt := 181) dd_K_doPump_176 rfl rfl ?_ ?_
              · refine xo_aload_n (pc' := 182) dd_K_doPump_181 rfl 2 rfl rfl ?_
                refine xo_aload_n (pc' := 183) dd_K_doPump_182 rfl 1 rfl rfl ?_
                refine xo_iconst (pc' := 184) (v := (0 : Int32)) dd_K_doPump_183 (by decide) rfl ?_
                refine xo_callVv (as := [.inr o2, .inl (0 : Int32)]) (o := (some t)) (st := []) (pc' := 187) dd_K_doPump_184 cv_K_request ml_K_142 rfl rfl ⟨by decide, by decide⟩ rfl rfl rfl (Nat.le_of_ble_eq_true rfl) rfl (fun n q h => kc_K_request n o2 (0 : Int32) r8.2 q h) fun H9 => ?_
                refine xo_iconst (pc' := 188) (v := (1 : Int32)) dd_K_doPump_187 (by decide) rfl ?_
                exact xo_zret dd_K_doPump_188 rfl
              · refine xo_iconst (pc' := 180) (v := (0 : Int32)) dd_K_doPump_179 (by decide) rfl ?_
                exact xo_zret dd_K_doPump_180 rfl
            · refine xo_aload_n (pc' := 147) dd_K_doPump_146 rfl 3 rfl rfl ?_
              refine xo_getI (pc' := 150) dd_K_doPump_147 ff_K_349 (by decide) rfl fun v12 => ?_
              refine xo_if_ne (pc' := 153) (tgt := 160) dd_K_doPump_150 rfl rfl ?_ ?_
              · refine xo_sub [2, 3] rfl ?_
                exact kb_K_doPump_160 t x1 r7.2 r
              · refine xo_aload_n (pc' := 154) dd_K_doPump_153 rfl 2 rfl rfl ?_
                refine xo_aload_n (pc' := 155) dd_K_doPump_154 rfl 1 rfl rfl ?_
                refine xo_bipush (pc' := 157) (v := (100 : Int32)) dd_K_doPump_155 (by decide) rfl ?_
                refine xo_callVv (as := [.inr o2, .inl (100 : Int32)]) (o := (some t)) (st := []) (pc' := 160) dd_K_doPump_157 cv_K_cancelGiver ml_K_145 rfl rfl ⟨by decide, by decide⟩ rfl rfl rfl (Nat.le_of_ble_eq_true rfl) rfl (fun n q h => kc_K_cancelGiver n o2 (100 : Int32) r7.2 q h) fun H13 => ?_
                refine xo_sub [2, 3] rfl ?_
                exact kb_K_doPump_160 t x1 H13 r
          · refine xo_aload_n (pc' := 106) dd_K_doPump_105 rfl 0 rfl rfl ?_
            refine xo_getP (pc' := 109) dd_K_doPump_106 ff_K_155 (by decide) rfl fun o16 => ?_
            refine xo_callVi (as := []) (o := o16) (st := []) (pc' := 112) dd_K_doPump_109 cv_C_count ml_K_87 rfl rfl ⟨by decide, by decide⟩ rfl rfl rfl (Nat.le_of_ble_eq_true rfl) rfl (fun n q h => kc_C_count n r5.2 q h) fun r17 => ?_
            refine xo_if_le (pc' := 115) (tgt := 117) dd_K_doPump_112 rfl rfl ?_ ?_
            · refine xo_aload_n (pc' := 118) dd_K_doPump_117 rfl 3 rfl rfl ?_
              refine xo_getI (pc' := 121) dd_K_doPump_118 ff_K_352 (by decide) rfl fun v18 => ?_
              refine xo_if_ne (pc' := 124) (tgt := 128) dd_K_doPump_121 rfl rfl ?_ ?_
              · refine xo_sub [2, 3] rfl ?_
                exact kb_K_doPump_128 t x1 r17.2 r
              · refine xo_aload_n (pc' := 125) dd_K_doPump_124 rfl 0 rfl rfl ?_
                refine xo_callVv (as := []) (o := o3) (st := []) (pc' := 128) dd_K_doPump_125 cv_T_shutDown ml_K_163 rfl rfl ⟨by decide, by decide⟩ rfl rfl rfl (Nat.le_of_ble_eq_true rfl) rfl (fun n q h => kc_T_shutDown n r17.2 q h) fun H19 => ?_
                refine xo_sub [2, 3] rfl ?_
                exact kb_K_doPump_128 t x1 H19 r
            · refine xo_iconst (pc' := 116) (v := (0 : Int32)) dd_K_doPump_115 (by decide) rfl ?_
              exact xo_zret dd_K_doPump_116 rfl
        · refine xo_aload_n (pc' := 68) dd_K_doPump_67 rfl 3 rfl rfl ?_
          refine xo_getI (pc' := 71) dd_K_doPump_68 ff_K_349 (by decide) rfl fun v22 => ?_
          refine xo_if_ne (pc' := 74) (tgt := 83) dd_K_doPump_71 rfl rfl ?_ ?_
          · refine xo_sub [2, 3, 0] rfl ?_
            exact kb_K_doPump_83 t x1 o3 r5.2 r
          · refine xo_aload_n (pc' := 75) dd_K_doPump_74 rfl 2 rfl rfl ?_
            refine xo_aload_n (pc' := 76) dd_K_doPump_75 rfl 1 rfl rfl ?_
            refine xo_aload_n (pc' := 77) dd_K_doPump_76 rfl 0 rfl rfl ?_
            refine xo_getI (pc' := 80) dd_K_doPump_77 ff_K_243 (by decide) rfl fun v23 => ?_
            refine xo_callVv (as := [.inr o2, .inl v23]) (o := (some t)) (st := []) (pc' := 83) dd_K_doPump_80 cv_K_cancelGiver ml_K_145 rfl rfl ⟨by decide, by decide⟩ rfl rfl rfl (Nat.le_of_ble_eq_true rfl) rfl (fun n q h => kc_K_cancelGiver n o2 v23 r5.2 q h) fun H24 => ?_
            refine xo_sub [2, 3, 0] rfl ?_
            exact kb_K_doPump_83 t x1 o3 H24 r
      · refine xo_aload_n (pc' := 32) dd_K_doPump_31 rfl 3 rfl rfl ?_
        refine xo_getI (pc' := 35) dd_K_doPump_32 ff_K_342 (by decide) rfl fun v27 => ?_
        refine xo_if_ne (pc' := 38) (tgt := 46) dd_K_doPump_35 rfl rfl ?_ ?_
        · refine xo_sub [2, 3, 1] rfl ?_
          exact kb_K_doPump_46 t x1 o2 H r
        · refine xo_aload_n (pc' := 39) dd_K_doPump_38 rfl 0 rfl rfl ?_
          refine xo_aload_n (pc' := 40) dd_K_doPump_39 rfl 1 rfl rfl ?_
          refine xo_getI (pc' := 43) dd_K_doPump_40 ff_K_207 (by decide) rfl fun v28 => ?_
          refine xo_callVv (as := [.inl v28]) (o := o3) (st := []) (pc' := 46) dd_K_doPump_43 cv_T_abortWith ml_K_172 rfl rfl ⟨by decide, by decide⟩ rfl rfl rfl (Nat.le_of_ble_eq_true rfl) rfl (fun n q h => kc_T_abortWith n v28 H q h) fun H29 => ?_
          refine xo_sub [2, 3, 1] rfl ?_
          exact kb_K_doPump_46 t x1 o2 H29 r
    · refine xo_iconst (pc' := 12) (v := (0 : Int32)) dd_K_doPump_11 (by decide) rfl ?_
      exact xo_zret dd_K_doPump_12 rfl
set_option maxRecDepth 100000 in
set_option maxHeartbeats 4000000 in
theorem kc_K_doPump (t : xo_N) (x1 : Option xo_N) (H : xo_H) (r : Int32 × xo_H) (hk : fc_K_doPump t x1 H = some r) : xo_M mt_K_doPump [.inr (some t), .inr x1] H (xo_ji r) :=
  xo_entry hk (by decide +kernel) (Nat.le_of_ble_eq_true rfl) (kb_K_doPump t x1 H r)
def fc_K_doSettled (t : xo_N) (x1 : Option xo_N) (x2 : Int32) (x3 : Int32) (H : xo_H) : Option (xo_H) :=
  if x1 = none then (some H)
  else (xo_pf 7 7 H x1 (0 : Int32) fun H1 =>
  if x2 = (3 : Int32) then (xo_cl 7 x1 (fun n7 => fc_T_written n7 x3 H1) fun H6 =>
  some H6)
  else (if x2 = (4 : Int32) then (xo_cl 7 x1 (fun n5 => fc_T_wasShut n5 x3 H1) fun H4 =>
  some H4)
  else (xo_cl 7 x1 (fun n3 => fc_T_wasAborted n3 x3 H1) fun H2 =>
  some H2)))

set_option maxRecDepth 100000 in
set_option maxHeartbeats 4000000 in
theorem kb_K_doSettled (t : xo_N) (x1 : Option xo_N) (x2 : Int32) (x3 : Int32) (H : xo_H) (r : xo_H) : xo_X mt_K_doSettled 0 0 xo_jv r 0 [(0, .inr (some t)), (1, .inr x1), (2, .inl x2), (3, .inl x3)] [] H (fc_K_doSettled t x1 x2 x3 H) := by
  unfold fc_K_doSettled
  refine xo_aload_n (pc' := 1) dd_K_doSettled_0 rfl 1 rfl rfl ?_
  refine xo_ifnonnull (pc' := 4) (tgt := 5) dd_K_doSettled_1 rfl rfl ?_ ?_
  · refine xo_aload_n (pc' := 6) dd_K_doSettled_5 rfl 1 rfl rfl ?_
    refine xo_iconst (pc' := 7) (v := (0 : Int32)) dd_K_doSettled_6 (by decide) rfl ?_
    refine xo_putI (pc' := 10) dd_K_doSettled_7 ff_K_169 rfl fun H1 => ?_
    refine xo_iload_n (pc' := 11) dd_K_doSettled_10 rfl 2 rfl rfl ?_
    refine xo_iconst (pc' := 12) (v := (3 : Int32)) dd_K_doSettled_11 (by decide) rfl ?_
    refine xo_icmp_ne (pc' := 15) (tgt := 23) dd_K_doSettled_12 rfl rfl ?_ ?_
    · refine xo_iload_n (pc' := 24) dd_K_doSettled_23 rfl 2 rfl rfl ?_
      refine xo_iconst (pc' := 25) (v := (4 : Int32)) dd_K_doSettled_24 (by decide) rfl ?_
      refine xo_icmp_ne (pc' := 28) (tgt := 36) dd_K_doSettled_25 rfl rfl ?_ ?_
      · refine xo_aload_n (pc' := 37) dd_K_doSettled_36 rfl 1 rfl rfl ?_
        refine xo_iload_n (pc' := 38) dd_K_doSettled_37 rfl 3 rfl rfl ?_
        refine xo_callVv (as := [.inl x3]) (o := x1) (st := []) (pc' := 41) dd_K_doSettled_38 cv_T_wasAborted ml_K_336 rfl rfl ⟨by decide, by decide⟩ rfl rfl rfl (Nat.le_of_ble_eq_true rfl) rfl (fun n q h => kc_T_wasAborted n x3 H1 q h) fun H2 => ?_
        exact xo_vret dd_K_doSettled_41 rfl
      · refine xo_aload_n (pc' := 29) dd_K_doSettled_28 rfl 1 rfl rfl ?_
        refine xo_iload_n (pc' := 30) dd_K_doSettled_29 rfl 3 rfl rfl ?_
        refine xo_callVv (as := [.inl x3]) (o := x1) (st := []) (pc' := 33) dd_K_doSettled_30 cv_T_wasShut ml_K_333 rfl rfl ⟨by decide, by decide⟩ rfl rfl rfl (Nat.le_of_ble_eq_true rfl) rfl (fun n q h => kc_T_wasShut n x3 H1 q h) fun H4 => ?_
        refine xo_goto (pc' := 41) dd_K_doSettled_33 rfl ?_
        exact xo_vret dd_K_doSettled_41 rfl
    · refine xo_aload_n (pc' := 16) dd_K_doSettled_15 rfl 1 rfl rfl ?_
      refine xo_iload_n (pc' := 17) dd_K_doSettled_16 rfl 3 rfl rfl ?_
      refine xo_callVv (as := [.inl x3]) (o := x1) (st := []) (pc' := 20) dd_K_doSettled_17 cv_T_written ml_K_330 rfl rfl ⟨by decide, by decide⟩ rfl rfl rfl (Nat.le_of_ble_eq_true rfl) rfl (fun n q h => kc_T_written n x3 H1 q h) fun H6 => ?_
      refine xo_goto (pc' := 41) dd_K_doSettled_20 rfl ?_
      exact xo_vret dd_K_doSettled_41 rfl
  · exact xo_vret dd_K_doSettled_4 rfl
set_option maxRecDepth 100000 in
set_option maxHeartbeats 4000000 in
theorem kc_K_doSettled (t : xo_N) (x1 : Option xo_N) (x2 : Int32) (x3 : Int32) (H : xo_H) (r : xo_H) (hk : fc_K_doSettled t x1 x2 x3 H = some r) : xo_M mt_K_doSettled [.inr (some t), .inr x1, .inl x2, .inl x3] H (xo_jv r) :=
  xo_entry hk (by decide +kernel) (Nat.le_of_ble_eq_true rfl) (kb_K_doSettled t x1 x2 x3 H r)
end
