section
-- ===== PART A: goes FIRST, ahead of the names: the tables' words, and 'selects' of the private methods out of them =====
/-- a private method of a class that the tables say can be made, by its rows of tables_1 -/
def lw_okq (q : MethodName × Nat) : Prop := (q.1.cls ≠ "java/lang/invoke/MethodHandle" ∧ q.1.cls ≠ "java/lang/invoke/VarHandle") ∧ Cond.instantiable q.1.cls q.2 ∈ tables_1 ∧ Cond.privateMethod q.1 ∈ tables_1 ∧ Cond.instanceMethod q.1 ∈ tables_1
theorem lw_p0 : lw_okq (⟨"TaskKernel", "beginLeastFree", "(II)I"⟩, 9) := ⟨⟨by decide +kernel, by decide +kernel⟩, List.mem_of_getElem? (i := 8) (by decide +kernel), List.mem_of_getElem? (i := 150) (by decide +kernel), List.mem_of_getElem? (i := 151) (by decide +kernel)⟩
theorem lw_p1 : lw_okq (⟨"TaskKernel", "enter", "(LTaskKernel$Task;I)V"⟩, 9) := ⟨⟨by decide +kernel, by decide +kernel⟩, List.mem_of_getElem? (i := 8) (by decide +kernel), List.mem_of_getElem? (i := 158) (by decide +kernel), List.mem_of_getElem? (i := 159) (by decide +kernel)⟩
theorem lw_p2 : lw_okq (⟨"TaskKernel", "runWord", "(LTaskKernel$Task;)I"⟩, 9) := ⟨⟨by decide +kernel, by decide +kernel⟩, List.mem_of_getElem? (i := 8) (by decide +kernel), List.mem_of_getElem? (i := 174) (by decide +kernel), List.mem_of_getElem? (i := 175) (by decide +kernel)⟩
theorem lw_p3 : lw_okq (⟨"TaskKernel", "runOnNumbers", "(LTaskKernel$Task;II)I"⟩, 9) := ⟨⟨by decide +kernel, by decide +kernel⟩, List.mem_of_getElem? (i := 8) (by decide +kernel), List.mem_of_getElem? (i := 178) (by decide +kernel), List.mem_of_getElem? (i := 179) (by decide +kernel)⟩
theorem lw_p4 : lw_okq (⟨"TaskKernel", "copyTop", "(LTaskKernel$Task;)I"⟩, 9) := ⟨⟨by decide +kernel, by decide +kernel⟩, List.mem_of_getElem? (i := 8) (by decide +kernel), List.mem_of_getElem? (i := 193) (by decide +kernel), List.mem_of_getElem? (i := 194) (by decide +kernel)⟩
theorem lw_p5 : lw_okq (⟨"TaskKernel", "drop", "(LTaskKernel$Task;)I"⟩, 9) := ⟨⟨by decide +kernel, by decide +kernel⟩, List.mem_of_getElem? (i := 8) (by decide +kernel), List.mem_of_getElem? (i := 202) (by decide +kernel), List.mem_of_getElem? (i := 203) (by decide +kernel)⟩
theorem lw_p6 : lw_okq (⟨"TaskKernel", "swap", "(LTaskKernel$Task;)I"⟩, 9) := ⟨⟨by decide +kernel, by decide +kernel⟩, List.mem_of_getElem? (i := 8) (by decide +kernel), List.mem_of_getElem? (i := 210) (by decide +kernel), List.mem_of_getElem? (i := 211) (by decide +kernel)⟩
theorem lw_p7 : lw_okq (⟨"TaskKernel", "load", "(LTaskKernel$Task;)I"⟩, 9) := ⟨⟨by decide +kernel, by decide +kernel⟩, List.mem_of_getElem? (i := 8) (by decide +kernel), List.mem_of_getElem? (i := 215) (by decide +kernel), List.mem_of_getElem? (i := 216) (by decide +kernel)⟩
theorem lw_p8 : lw_okq (⟨"TaskKernel", "store", "(LTaskKernel$Task;)I"⟩, 9) := ⟨⟨by decide +kernel, by decide +kernel⟩, List.mem_of_getElem? (i := 8) (by decide +kernel), List.mem_of_getElem? (i := 222) (by decide +kernel), List.mem_of_getElem? (i := 223) (by decide +kernel)⟩
theorem lw_p9 : lw_okq (⟨"TaskKernel", "compute", "(LTaskKernel$Task;I)I"⟩, 9) := ⟨⟨by decide +kernel, by decide +kernel⟩, List.mem_of_getElem? (i := 8) (by decide +kernel), List.mem_of_getElem? (i := 226) (by decide +kernel), List.mem_of_getElem? (i := 227) (by decide +kernel)⟩
theorem lw_p10 : lw_okq (⟨"TaskKernel", "runOnItself", "(LTaskKernel$Task;II)I"⟩, 9) := ⟨⟨by decide +kernel, by decide +kernel⟩, List.mem_of_getElem? (i := 8) (by decide +kernel), List.mem_of_getElem? (i := 230) (by decide +kernel), List.mem_of_getElem? (i := 231) (by decide +kernel)⟩
theorem lw_p11 : lw_okq (⟨"TaskKernel", "jump", "(LTaskKernel$Task;I)I"⟩, 9) := ⟨⟨by decide +kernel, by decide +kernel⟩, List.mem_of_getElem? (i := 8) (by decide +kernel), List.mem_of_getElem? (i := 234) (by decide +kernel), List.mem_of_getElem? (i := 235) (by decide +kernel)⟩
theorem lw_p12 : lw_okq (⟨"TaskKernel", "jumpIfZero", "(LTaskKernel$Task;I)I"⟩, 9) := ⟨⟨by decide +kernel, by decide +kernel⟩, List.mem_of_getElem? (i := 8) (by decide +kernel), List.mem_of_getElem? (i := 238) (by decide +kernel), List.mem_of_getElem? (i := 239) (by decide +kernel)⟩
theorem lw_p13 : lw_okq (⟨"TaskKernel", "callPlace", "(LTaskKernel$Task;I)I"⟩, 9) := ⟨⟨by decide +kernel, by decide +kernel⟩, List.mem_of_getElem? (i := 8) (by decide +kernel), List.mem_of_getElem? (i := 242) (by decide +kernel), List.mem_of_getElem? (i := 243) (by decide +kernel)⟩
theorem lw_p14 : lw_okq (⟨"TaskKernel", "goBack", "(LTaskKernel$Task;)I"⟩, 9) := ⟨⟨by decide +kernel, by decide +kernel⟩, List.mem_of_getElem? (i := 8) (by decide +kernel), List.mem_of_getElem? (i := 246) (by decide +kernel), List.mem_of_getElem? (i := 247) (by decide +kernel)⟩
theorem lw_p15 : lw_okq (⟨"TaskKernel", "emit", "(LTaskKernel$Task;)I"⟩, 9) := ⟨⟨by decide +kernel, by decide +kernel⟩, List.mem_of_getElem? (i := 8) (by decide +kernel), List.mem_of_getElem? (i := 250) (by decide +kernel), List.mem_of_getElem? (i := 251) (by decide +kernel)⟩
def lw_privs_1 : List (MethodName × Nat) := [(⟨"TaskKernel", "beginLeastFree", "(II)I"⟩, 9), (⟨"TaskKernel", "enter", "(LTaskKernel$Task;I)V"⟩, 9), (⟨"TaskKernel", "runWord", "(LTaskKernel$Task;)I"⟩, 9), (⟨"TaskKernel", "runOnNumbers", "(LTaskKernel$Task;II)I"⟩, 9), (⟨"TaskKernel", "copyTop", "(LTaskKernel$Task;)I"⟩, 9), (⟨"TaskKernel", "drop", "(LTaskKernel$Task;)I"⟩, 9), (⟨"TaskKernel", "swap", "(LTaskKernel$Task;)I"⟩, 9), (⟨"TaskKernel", "load", "(LTaskKernel$Task;)I"⟩, 9), (⟨"TaskKernel", "store", "(LTaskKernel$Task;)I"⟩, 9), (⟨"TaskKernel", "compute", "(LTaskKernel$Task;I)I"⟩, 9), (⟨"TaskKernel", "runOnItself", "(LTaskKernel$Task;II)I"⟩, 9), (⟨"TaskKernel", "jump", "(LTaskKernel$Task;I)I"⟩, 9), (⟨"TaskKernel", "jumpIfZero", "(LTaskKernel$Task;I)I"⟩, 9), (⟨"TaskKernel", "callPlace", "(LTaskKernel$Task;I)I"⟩, 9), (⟨"TaskKernel", "goBack", "(LTaskKernel$Task;)I"⟩, 9), (⟨"TaskKernel", "emit", "(LTaskKernel$Task;)I"⟩, 9)]
theorem lw_r1 : ∀ q ∈ lw_privs_1, lw_okq q := List.forall_mem_cons.mpr ⟨lw_p0, List.forall_mem_cons.mpr ⟨lw_p1, List.forall_mem_cons.mpr ⟨lw_p2, List.forall_mem_cons.mpr ⟨lw_p3, List.forall_mem_cons.mpr ⟨lw_p4, List.forall_mem_cons.mpr ⟨lw_p5, List.forall_mem_cons.mpr ⟨lw_p6, List.forall_mem_cons.mpr ⟨lw_p7, List.forall_mem_cons.mpr ⟨lw_p8, List.forall_mem_cons.mpr ⟨lw_p9, List.forall_mem_cons.mpr ⟨lw_p10, List.forall_mem_cons.mpr ⟨lw_p11, List.forall_mem_cons.mpr ⟨lw_p12, List.forall_mem_cons.mpr ⟨lw_p13, List.forall_mem_cons.mpr ⟨lw_p14, List.forall_mem_cons.mpr ⟨lw_p15, fun _ h => absurd h List.not_mem_nil⟩⟩⟩⟩⟩⟩⟩⟩⟩⟩⟩⟩⟩⟩⟩⟩
theorem lw_p16 : lw_okq (⟨"TaskKernel", "runWithOthers", "(LTaskKernel$Task;II)I"⟩, 9) := ⟨⟨by decide +kernel, by decide +kernel⟩, List.mem_of_getElem? (i := 8) (by decide +kernel), List.mem_of_getElem? (i := 257) (by decide +kernel), List.mem_of_getElem? (i := 258) (by decide +kernel)⟩
theorem lw_p17 : lw_okq (⟨"TaskKernel", "beginOther", "(LTaskKernel$Task;I)I"⟩, 9) := ⟨⟨by decide +kernel, by decide +kernel⟩, List.mem_of_getElem? (i := 8) (by decide +kernel), List.mem_of_getElem? (i := 261) (by decide +kernel), List.mem_of_getElem? (i := 262) (by decide +kernel)⟩
theorem lw_p18 : lw_okq (⟨"TaskKernel", "sleep", "(LTaskKernel$Task;)I"⟩, 9) := ⟨⟨by decide +kernel, by decide +kernel⟩, List.mem_of_getElem? (i := 8) (by decide +kernel), List.mem_of_getElem? (i := 265) (by decide +kernel), List.mem_of_getElem? (i := 266) (by decide +kernel)⟩
theorem lw_p19 : lw_okq (⟨"TaskKernel", "send", "(LTaskKernel$Task;I)I"⟩, 9) := ⟨⟨by decide +kernel, by decide +kernel⟩, List.mem_of_getElem? (i := 8) (by decide +kernel), List.mem_of_getElem? (i := 269) (by decide +kernel), List.mem_of_getElem? (i := 270) (by decide +kernel)⟩
theorem lw_p20 : lw_okq (⟨"TaskKernel", "isQueue", "(I)Z"⟩, 9) := ⟨⟨by decide +kernel, by decide +kernel⟩, List.mem_of_getElem? (i := 8) (by decide +kernel), List.mem_of_getElem? (i := 273) (by decide +kernel), List.mem_of_getElem? (i := 274) (by decide +kernel)⟩
theorem lw_p21 : lw_okq (⟨"TaskKernel", "firstWaiting", "(II)LTaskKernel$Task;"⟩, 9) := ⟨⟨by decide +kernel, by decide +kernel⟩, List.mem_of_getElem? (i := 8) (by decide +kernel), List.mem_of_getElem? (i := 277) (by decide +kernel), List.mem_of_getElem? (i := 278) (by decide +kernel)⟩
theorem lw_p22 : lw_okq (⟨"TaskKernel$Mailbox", "slot", "(I)I"⟩, 3) := ⟨⟨by decide +kernel, by decide +kernel⟩, List.mem_of_getElem? (i := 94) (by decide +kernel), List.mem_of_getElem? (i := 289) (by decide +kernel), List.mem_of_getElem? (i := 290) (by decide +kernel)⟩
theorem lw_p23 : lw_okq (⟨"TaskKernel", "waitAt", "(LTaskKernel$Task;II)V"⟩, 9) := ⟨⟨by decide +kernel, by decide +kernel⟩, List.mem_of_getElem? (i := 8) (by decide +kernel), List.mem_of_getElem? (i := 293) (by decide +kernel), List.mem_of_getElem? (i := 294) (by decide +kernel)⟩
theorem lw_p24 : lw_okq (⟨"TaskKernel", "receive", "(LTaskKernel$Task;I)I"⟩, 9) := ⟨⟨by decide +kernel, by decide +kernel⟩, List.mem_of_getElem? (i := 8) (by decide +kernel), List.mem_of_getElem? (i := 297) (by decide +kernel), List.mem_of_getElem? (i := 298) (by decide +kernel)⟩
theorem lw_p25 : lw_okq (⟨"TaskKernel", "killOther", "(LTaskKernel$Task;)I"⟩, 9) := ⟨⟨by decide +kernel, by decide +kernel⟩, List.mem_of_getElem? (i := 8) (by decide +kernel), List.mem_of_getElem? (i := 309) (by decide +kernel), List.mem_of_getElem? (i := 310) (by decide +kernel)⟩
theorem lw_p26 : lw_okq (⟨"TaskKernel", "isLive", "(I)Z"⟩, 9) := ⟨⟨by decide +kernel, by decide +kernel⟩, List.mem_of_getElem? (i := 8) (by decide +kernel), List.mem_of_getElem? (i := 313) (by decide +kernel), List.mem_of_getElem? (i := 314) (by decide +kernel)⟩
theorem lw_p27 : lw_okq (⟨"TaskKernel", "isTask", "(I)Z"⟩, 9) := ⟨⟨by decide +kernel, by decide +kernel⟩, List.mem_of_getElem? (i := 8) (by decide +kernel), List.mem_of_getElem? (i := 317) (by decide +kernel), List.mem_of_getElem? (i := 318) (by decide +kernel)⟩
theorem lw_p28 : lw_okq (⟨"TaskKernel", "firstDueSleeper", "()LTaskKernel$Task;"⟩, 9) := ⟨⟨by decide +kernel, by decide +kernel⟩, List.mem_of_getElem? (i := 8) (by decide +kernel), List.mem_of_getElem? (i := 336) (by decide +kernel), List.mem_of_getElem? (i := 337) (by decide +kernel)⟩
theorem lw_p29 : lw_okq (⟨"TaskKernel", "countBefore", "(LTaskKernel$Task;)I"⟩, 9) := ⟨⟨by decide +kernel, by decide +kernel⟩, List.mem_of_getElem? (i := 8) (by decide +kernel), List.mem_of_getElem? (i := 375) (by decide +kernel), List.mem_of_getElem? (i := 376) (by decide +kernel)⟩
theorem lw_p30 : lw_okq (⟨"TaskKernelModel", "fall", "(I)V"⟩, 27) := ⟨⟨by decide +kernel, by decide +kernel⟩, List.mem_of_getElem? (i := 402) (by decide +kernel), List.mem_of_getElem? (i := 502) (by decide +kernel), List.mem_of_getElem? (i := 503) (by decide +kernel)⟩
theorem lw_p31 : lw_okq (⟨"TaskKernelModel", "perform", "(II)V"⟩, 27) := ⟨⟨by decide +kernel, by decide +kernel⟩, List.mem_of_getElem? (i := 402) (by decide +kernel), List.mem_of_getElem? (i := 506) (by decide +kernel), List.mem_of_getElem? (i := 507) (by decide +kernel)⟩
def lw_privs_2 : List (MethodName × Nat) := [(⟨"TaskKernel", "runWithOthers", "(LTaskKernel$Task;II)I"⟩, 9), (⟨"TaskKernel", "beginOther", "(LTaskKernel$Task;I)I"⟩, 9), (⟨"TaskKernel", "sleep", "(LTaskKernel$Task;)I"⟩, 9), (⟨"TaskKernel", "send", "(LTaskKernel$Task;I)I"⟩, 9), (⟨"TaskKernel", "isQueue", "(I)Z"⟩, 9), (⟨"TaskKernel", "firstWaiting", "(II)LTaskKernel$Task;"⟩, 9), (⟨"TaskKernel$Mailbox", "slot", "(I)I"⟩, 3), (⟨"TaskKernel", "waitAt", "(LTaskKernel$Task;II)V"⟩, 9), (⟨"TaskKernel", "receive", "(LTaskKernel$Task;I)I"⟩, 9), (⟨"TaskKernel", "killOther", "(LTaskKernel$Task;)I"⟩, 9), (⟨"TaskKernel", "isLive", "(I)Z"⟩, 9), (⟨"TaskKernel", "isTask", "(I)Z"⟩, 9), (⟨"TaskKernel", "firstDueSleeper", "()LTaskKernel$Task;"⟩, 9), (⟨"TaskKernel", "countBefore", "(LTaskKernel$Task;)I"⟩, 9), (⟨"TaskKernelModel", "fall", "(I)V"⟩, 27), (⟨"TaskKernelModel", "perform", "(II)V"⟩, 27)]
theorem lw_r2 : ∀ q ∈ lw_privs_2, lw_okq q := List.forall_mem_cons.mpr ⟨lw_p16, List.forall_mem_cons.mpr ⟨lw_p17, List.forall_mem_cons.mpr ⟨lw_p18, List.forall_mem_cons.mpr ⟨lw_p19, List.forall_mem_cons.mpr ⟨lw_p20, List.forall_mem_cons.mpr ⟨lw_p21, List.forall_mem_cons.mpr ⟨lw_p22, List.forall_mem_cons.mpr ⟨lw_p23, List.forall_mem_cons.mpr ⟨lw_p24, List.forall_mem_cons.mpr ⟨lw_p25, List.forall_mem_cons.mpr ⟨lw_p26, List.forall_mem_cons.mpr ⟨lw_p27, List.forall_mem_cons.mpr ⟨lw_p28, List.forall_mem_cons.mpr ⟨lw_p29, List.forall_mem_cons.mpr ⟨lw_p30, List.forall_mem_cons.mpr ⟨lw_p31, fun _ h => absurd h List.not_mem_nil⟩⟩⟩⟩⟩⟩⟩⟩⟩⟩⟩⟩⟩⟩⟩⟩
theorem lw_p32 : lw_okq (⟨"TaskKernelModel", "arithmetic", "(I)V"⟩, 27) := ⟨⟨by decide +kernel, by decide +kernel⟩, List.mem_of_getElem? (i := 402) (by decide +kernel), List.mem_of_getElem? (i := 510) (by decide +kernel), List.mem_of_getElem? (i := 511) (by decide +kernel)⟩
theorem lw_p33 : lw_okq (⟨"TaskKernelModel", "take", "()I"⟩, 27) := ⟨⟨by decide +kernel, by decide +kernel⟩, List.mem_of_getElem? (i := 402) (by decide +kernel), List.mem_of_getElem? (i := 514) (by decide +kernel), List.mem_of_getElem? (i := 515) (by decide +kernel)⟩
theorem lw_p34 : lw_okq (⟨"TaskKernelModel", "put", "(I)V"⟩, 27) := ⟨⟨by decide +kernel, by decide +kernel⟩, List.mem_of_getElem? (i := 402) (by decide +kernel), List.mem_of_getElem? (i := 518) (by decide +kernel), List.mem_of_getElem? (i := 519) (by decide +kernel)⟩
theorem lw_p35 : lw_okq (⟨"TaskKernelModel", "give", "(II)V"⟩, 27) := ⟨⟨by decide +kernel, by decide +kernel⟩, List.mem_of_getElem? (i := 402) (by decide +kernel), List.mem_of_getElem? (i := 522) (by decide +kernel), List.mem_of_getElem? (i := 523) (by decide +kernel)⟩
theorem lw_p36 : lw_okq (⟨"TaskKernelModel", "memoryOp", "(I)V"⟩, 27) := ⟨⟨by decide +kernel, by decide +kernel⟩, List.mem_of_getElem? (i := 402) (by decide +kernel), List.mem_of_getElem? (i := 526) (by decide +kernel), List.mem_of_getElem? (i := 527) (by decide +kernel)⟩
theorem lw_p37 : lw_okq (⟨"TaskKernelModel", "jumpOp", "(II)V"⟩, 27) := ⟨⟨by decide +kernel, by decide +kernel⟩, List.mem_of_getElem? (i := 402) (by decide +kernel), List.mem_of_getElem? (i := 530) (by decide +kernel), List.mem_of_getElem? (i := 531) (by decide +kernel)⟩
theorem lw_p38 : lw_okq (⟨"TaskKernelModel", "jump", "(I)V"⟩, 27) := ⟨⟨by decide +kernel, by decide +kernel⟩, List.mem_of_getElem? (i := 402) (by decide +kernel), List.mem_of_getElem? (i := 534) (by decide +kernel), List.mem_of_getElem? (i := 535) (by decide +kernel)⟩
theorem lw_p39 : lw_okq (⟨"TaskKernelModel", "send", "(I)V"⟩, 27) := ⟨⟨by decide +kernel, by decide +kernel⟩, List.mem_of_getElem? (i := 402) (by decide +kernel), List.mem_of_getElem? (i := 541) (by decide +kernel), List.mem_of_getElem? (i := 542) (by decide +kernel)⟩
theorem lw_p40 : lw_okq (⟨"TaskKernelModel", "noQueue", "(I)Z"⟩, 27) := ⟨⟨by decide +kernel, by decide +kernel⟩, List.mem_of_getElem? (i := 402) (by decide +kernel), List.mem_of_getElem? (i := 545) (by decide +kernel), List.mem_of_getElem? (i := 546) (by decide +kernel)⟩
theorem lw_p41 : lw_okq (⟨"TaskKernelModel", "inState", "(III)I"⟩, 27) := ⟨⟨by decide +kernel, by decide +kernel⟩, List.mem_of_getElem? (i := 402) (by decide +kernel), List.mem_of_getElem? (i := 549) (by decide +kernel), List.mem_of_getElem? (i := 550) (by decide +kernel)⟩
theorem lw_p42 : lw_okq (⟨"TaskKernelModel", "set", "(II)V"⟩, 27) := ⟨⟨by decide +kernel, by decide +kernel⟩, List.mem_of_getElem? (i := 402) (by decide +kernel), List.mem_of_getElem? (i := 553) (by decide +kernel), List.mem_of_getElem? (i := 554) (by decide +kernel)⟩
theorem lw_p43 : lw_okq (⟨"TaskKernelModel", "append", "(II)V"⟩, 27) := ⟨⟨by decide +kernel, by decide +kernel⟩, List.mem_of_getElem? (i := 402) (by decide +kernel), List.mem_of_getElem? (i := 557) (by decide +kernel), List.mem_of_getElem? (i := 558) (by decide +kernel)⟩
theorem lw_p44 : lw_okq (⟨"TaskKernelModel", "receive", "(I)V"⟩, 27) := ⟨⟨by decide +kernel, by decide +kernel⟩, List.mem_of_getElem? (i := 402) (by decide +kernel), List.mem_of_getElem? (i := 561) (by decide +kernel), List.mem_of_getElem? (i := 562) (by decide +kernel)⟩
theorem lw_p45 : lw_okq (⟨"TaskKernelModel", "end", "(II)V"⟩, 27) := ⟨⟨by decide +kernel, by decide +kernel⟩, List.mem_of_getElem? (i := 402) (by decide +kernel), List.mem_of_getElem? (i := 565) (by decide +kernel), List.mem_of_getElem? (i := 566) (by decide +kernel)⟩
theorem lw_p46 : lw_okq (⟨"TaskKernelModel", "stackOp", "(II)V"⟩, 27) := ⟨⟨by decide +kernel, by decide +kernel⟩, List.mem_of_getElem? (i := 402) (by decide +kernel), List.mem_of_getElem? (i := 569) (by decide +kernel), List.mem_of_getElem? (i := 570) (by decide +kernel)⟩
theorem lw_p47 : lw_okq (⟨"TaskKernelModel", "taskOp", "(II)V"⟩, 27) := ⟨⟨by decide +kernel, by decide +kernel⟩, List.mem_of_getElem? (i := 402) (by decide +kernel), List.mem_of_getElem? (i := 573) (by decide +kernel), List.mem_of_getElem? (i := 574) (by decide +kernel)⟩
def lw_privs_3 : List (MethodName × Nat) := [(⟨"TaskKernelModel", "arithmetic", "(I)V"⟩, 27), (⟨"TaskKernelModel", "take", "()I"⟩, 27), (⟨"TaskKernelModel", "put", "(I)V"⟩, 27), (⟨"TaskKernelModel", "give", "(II)V"⟩, 27), (⟨"TaskKernelModel", "memoryOp", "(I)V"⟩, 27), (⟨"TaskKernelModel", "jumpOp", "(II)V"⟩, 27), (⟨"TaskKernelModel", "jump", "(I)V"⟩, 27), (⟨"TaskKernelModel", "send", "(I)V"⟩, 27), (⟨"TaskKernelModel", "noQueue", "(I)Z"⟩, 27), (⟨"TaskKernelModel", "inState", "(III)I"⟩, 27), (⟨"TaskKernelModel", "set", "(II)V"⟩, 27), (⟨"TaskKernelModel", "append", "(II)V"⟩, 27), (⟨"TaskKernelModel", "receive", "(I)V"⟩, 27), (⟨"TaskKernelModel", "end", "(II)V"⟩, 27), (⟨"TaskKernelModel", "stackOp", "(II)V"⟩, 27), (⟨"TaskKernelModel", "taskOp", "(II)V"⟩, 27)]
theorem lw_r3 : ∀ q ∈ lw_privs_3, lw_okq q := List.forall_mem_cons.mpr ⟨lw_p32, List.forall_mem_cons.mpr ⟨lw_p33, List.forall_mem_cons.mpr ⟨lw_p34, List.forall_mem_cons.mpr ⟨lw_p35, List.forall_mem_cons.mpr ⟨lw_p36, List.forall_mem_cons.mpr ⟨lw_p37, List.forall_mem_cons.mpr ⟨lw_p38, List.forall_mem_cons.mpr ⟨lw_p39, List.forall_mem_cons.mpr ⟨lw_p40, List.forall_mem_cons.mpr ⟨lw_p41, List.forall_mem_cons.mpr ⟨lw_p42, List.forall_mem_cons.mpr ⟨lw_p43, List.forall_mem_cons.mpr ⟨lw_p44, List.forall_mem_cons.mpr ⟨lw_p45, List.forall_mem_cons.mpr ⟨lw_p46, List.forall_mem_cons.mpr ⟨lw_p47, fun _ h => absurd h List.not_mem_nil⟩⟩⟩⟩⟩⟩⟩⟩⟩⟩⟩⟩⟩⟩⟩⟩
theorem lw_p48 : lw_okq (⟨"TaskKernelModel", "begin", "(II)I"⟩, 27) := ⟨⟨by decide +kernel, by decide +kernel⟩, List.mem_of_getElem? (i := 402) (by decide +kernel), List.mem_of_getElem? (i := 577) (by decide +kernel), List.mem_of_getElem? (i := 578) (by decide +kernel)⟩
theorem lw_p49 : lw_okq (⟨"TaskKernelModel", "freeTask", "()I"⟩, 27) := ⟨⟨by decide +kernel, by decide +kernel⟩, List.mem_of_getElem? (i := 402) (by decide +kernel), List.mem_of_getElem? (i := 581) (by decide +kernel), List.mem_of_getElem? (i := 582) (by decide +kernel)⟩
theorem lw_p50 : lw_okq (⟨"TaskKernelModel", "isLive", "(I)Z"⟩, 27) := ⟨⟨by decide +kernel, by decide +kernel⟩, List.mem_of_getElem? (i := 402) (by decide +kernel), List.mem_of_getElem? (i := 585) (by decide +kernel), List.mem_of_getElem? (i := 586) (by decide +kernel)⟩
def lw_privs_4 : List (MethodName × Nat) := [(⟨"TaskKernelModel", "begin", "(II)I"⟩, 27), (⟨"TaskKernelModel", "freeTask", "()I"⟩, 27), (⟨"TaskKernelModel", "isLive", "(I)Z"⟩, 27)]
theorem lw_r4 : ∀ q ∈ lw_privs_4, lw_okq q := List.forall_mem_cons.mpr ⟨lw_p48, List.forall_mem_cons.mpr ⟨lw_p49, List.forall_mem_cons.mpr ⟨lw_p50, fun _ h => absurd h List.not_mem_nil⟩⟩⟩
def lw_privs : List (MethodName × Nat) := lw_privs_1 ++ (lw_privs_2 ++ (lw_privs_3 ++ (lw_privs_4)))
def lw_tbl : List Cond := k2_sels lw_privs ++ tables_1
theorem lw_privs_ok : ∀ q ∈ lw_privs, lw_okq q := by
  show ∀ q ∈ lw_privs_1 ++ (lw_privs_2 ++ (lw_privs_3 ++ (lw_privs_4))), lw_okq q
  exact List.forall_mem_append.mpr ⟨lw_r1, List.forall_mem_append.mpr ⟨lw_r2, List.forall_mem_append.mpr ⟨lw_r3, lw_r4⟩⟩⟩
end
section
/-! printed by wip/whole/names.py out of the claim: names of the classes, fields, codes, methods -/
/-- the words that a contract may carry to any later state -/
def lw_gd : List Cond := lw_tbl.filter goodWord
def RL : String := "TaskKernelLaw"
def RX0 : String := "TaskKernel$Mailbox"
def TX0 : u_T := fun k => match k with
  | 0 => ("TaskKernel$Mailbox", "held", "[I", true)
  | 1 => ("TaskKernel$Mailbox", "first", "I", false)
  | _ => ("TaskKernel$Mailbox", "count", "I", false)
def tyX0 : Nat → FieldType := fun k => match k with
  | 0 => .array .int
  | 1 => .int
  | _ => .int
theorem nmX0 : ∀ a, a < 3 → ∀ b, b < 3 → a ≠ b → (TX0 a).2.1 ≠ (TX0 b).2.1 := by decide +kernel
theorem tyX0_ok : ∀ k, k < 3 → parseFieldDescriptor (TX0 k).2.2.1 = some (tyX0 k) := by decide +kernel
def RX1 : String := "TaskKernel$Pile"
def TX1 : u_T := fun k => match k with
  | 0 => ("TaskKernel$Pile", "held", "[I", true)
  | _ => ("TaskKernel$Pile", "count", "I", false)
def tyX1 : Nat → FieldType := fun k => match k with
  | 0 => .array .int
  | _ => .int
theorem nmX1 : ∀ a, a < 2 → ∀ b, b < 2 → a ≠ b → (TX1 a).2.1 ≠ (TX1 b).2.1 := by decide +kernel
theorem tyX1_ok : ∀ k, k < 2 → parseFieldDescriptor (TX1 k).2.2.1 = some (tyX1 k) := by decide +kernel
def RX2 : String := "TaskKernel$Task"
def TX2 : u_T := fun k => match k with
  | 0 => ("TaskKernel$Task", "number", "I", true)
  | 1 => ("TaskKernel$Task", "numbers", "LTaskKernel$Pile;", true)
  | 2 => ("TaskKernel$Task", "frames", "LTaskKernel$Pile;", true)
  | 3 => ("TaskKernel$Task", "state", "I", false)
  | 4 => ("TaskKernel$Task", "place", "I", false)
  | 5 => ("TaskKernel$Task", "priority", "I", false)
  | 6 => ("TaskKernel$Task", "ticket", "I", false)
  | 7 => ("TaskKernel$Task", "wakesAt", "I", false)
  | 8 => ("TaskKernel$Task", "waitsAt", "I", false)
  | 9 => ("TaskKernel$Task", "carries", "I", false)
  | _ => ("TaskKernel$Task", "reason", "I", false)
def tyX2 : Nat → FieldType := fun k => match k with
  | 0 => .int
  | 1 => .object "TaskKernel$Pile"
  | 2 => .object "TaskKernel$Pile"
  | 3 => .int
  | 4 => .int
  | 5 => .int
  | 6 => .int
  | 7 => .int
  | 8 => .int
  | 9 => .int
  | _ => .int
theorem nmX2 : ∀ a, a < 11 → ∀ b, b < 11 → a ≠ b → (TX2 a).2.1 ≠ (TX2 b).2.1 := by decide +kernel
theorem tyX2_ok : ∀ k, k < 11 → parseFieldDescriptor (TX2 k).2.2.1 = some (tyX2 k) := by decide +kernel
def RX3 : String := "TaskKernel"
def TX3 : u_T := fun k => match k with
  | 0 => ("TaskKernel", "tasks", "[LTaskKernel$Task;", true)
  | 1 => ("TaskKernel", "mailboxes", "[LTaskKernel$Mailbox;", true)
  | 2 => ("TaskKernel", "code", "[I", true)
  | 3 => ("TaskKernel", "cells", "[I", true)
  | 4 => ("TaskKernel", "outs", "[I", true)
  | 5 => ("TaskKernel", "outCount", "I", false)
  | 6 => ("TaskKernel", "now", "I", false)
  | 7 => ("TaskKernel", "tickets", "I", false)
  | _ => ("TaskKernel", "spawned", "Z", false)
def tyX3 : Nat → FieldType := fun k => match k with
  | 0 => .array (.object "TaskKernel$Task")
  | 1 => .array (.object "TaskKernel$Mailbox")
  | 2 => .array .int
  | 3 => .array .int
  | 4 => .array .int
  | 5 => .int
  | 6 => .int
  | 7 => .int
  | _ => .boolean
theorem nmX3 : ∀ a, a < 9 → ∀ b, b < 9 → a ≠ b → (TX3 a).2.1 ≠ (TX3 b).2.1 := by decide +kernel
theorem tyX3_ok : ∀ k, k < 9 → parseFieldDescriptor (TX3 k).2.2.1 = some (tyX3 k) := by decide +kernel
def RX4 : String := "TaskKernelModel"
def TX4 : u_T := fun k => match k with
  | 0 => ("TaskKernelModel", "tasks", "I", true)
  | 1 => ("TaskKernelModel", "width", "I", true)
  | 2 => ("TaskKernelModel", "queues", "I", true)
  | 3 => ("TaskKernelModel", "room", "I", true)
  | 4 => ("TaskKernelModel", "code", "[I", true)
  | 5 => ("TaskKernelModel", "memory", "[I", true)
  | 6 => ("TaskKernelModel", "begun", "Z", false)
  | 7 => ("TaskKernelModel", "clock", "I", false)
  | 8 => ("TaskKernelModel", "stamp", "I", false)
  | 9 => ("TaskKernelModel", "state", "[I", true)
  | 10 => ("TaskKernelModel", "priority", "[I", true)
  | 11 => ("TaskKernelModel", "place", "[I", true)
  | 12 => ("TaskKernelModel", "depth", "[I", true)
  | 13 => ("TaskKernelModel", "stacks", "[I", true)
  | 14 => ("TaskKernelModel", "frames", "[I", true)
  | 15 => ("TaskKernelModel", "returns", "[I", true)
  | 16 => ("TaskKernelModel", "wakes", "[I", true)
  | 17 => ("TaskKernelModel", "waitsAt", "[I", true)
  | 18 => ("TaskKernelModel", "sent", "[I", true)
  | 19 => ("TaskKernelModel", "stamps", "[I", true)
  | 20 => ("TaskKernelModel", "reason", "[I", true)
  | 21 => ("TaskKernelModel", "size", "[I", true)
  | 22 => ("TaskKernelModel", "cells", "[I", true)
  | 23 => ("TaskKernelModel", "emissions", "I", false)
  | 24 => ("TaskKernelModel", "emits", "[I", true)
  | 25 => ("TaskKernelModel", "self", "I", false)
  | _ => ("TaskKernelModel", "trap", "I", false)
def tyX4 : Nat → FieldType := fun k => match k with
  | 0 => .int
  | 1 => .int
  | 2 => .int
  | 3 => .int
  | 4 => .array .int
  | 5 => .array .int
  | 6 => .boolean
  | 7 => .int
  | 8 => .int
  | 9 => .array .int
  | 10 => .array .int
  | 11 => .array .int
  | 12 => .array .int
  | 13 => .array .int
  | 14 => .array .int
  | 15 => .array .int
  | 16 => .array .int
  | 17 => .array .int
  | 18 => .array .int
  | 19 => .array .int
  | 20 => .array .int
  | 21 => .array .int
  | 22 => .array .int
  | 23 => .int
  | 24 => .array .int
  | 25 => .int
  | _ => .int
theorem nmX4 : ∀ a, a < 27 → ∀ b, b < 27 → a ≠ b → (TX4 a).2.1 ≠ (TX4 b).2.1 := by decide +kernel
theorem tyX4_ok : ∀ k, k < 27 → parseFieldDescriptor (TX4 k).2.2.1 = some (tyX4 k) := by decide +kernel
abbrev cls5 : List vw_C := [(RX0, TX0, 3), (RX1, TX1, 2), (RX2, TX2, 11), (RX3, TX3, 9), (RX4, TX4, 27)]
abbrev cX3_init : ByteArray := prog_1_method_1_code
def yX3_init : MethodName := ⟨RX3, "<init>", "(IIII)V"⟩
abbrev wsX3_init : List Cond := .code yX3_init cX3_init 8 none :: lw_gd
abbrev cX3_nearest : ByteArray := prog_1_method_20_code
def yX3_nearest : MethodName := ⟨RX3, "nearest", "(III)I"⟩
abbrev wsX3_nearest : List Cond := .code yX3_nearest cX3_nearest 3 (some .int) :: lw_gd
abbrev cX2_init : ByteArray := prog_4_method_1_code
def yX2_init : MethodName := ⟨RX2, "<init>", "(II)V"⟩
abbrev wsX2_init : List Cond := .code yX2_init cX2_init 3 none :: lw_gd
abbrev cX1_init : ByteArray := prog_3_method_1_code
def yX1_init : MethodName := ⟨RX1, "<init>", "(I)V"⟩
abbrev wsX1_init : List Cond := .code yX1_init cX1_init 2 none :: lw_gd
abbrev cX0_init : ByteArray := prog_2_method_1_code
def yX0_init : MethodName := ⟨RX0, "<init>", "(I)V"⟩
abbrev wsX0_init : List Cond := .code yX0_init cX0_init 2 none :: lw_gd
abbrev cX3_poke : ByteArray := prog_1_method_2_code
def yX3_poke : MethodName := ⟨RX3, "poke", "(II)Z"⟩
abbrev wsX3_poke : List Cond := .code yX3_poke cX3_poke 3 (some .boolean) :: lw_gd
abbrev cX3_isCodePlace : ByteArray := prog_1_method_21_code
def yX3_isCodePlace : MethodName := ⟨RX3, "isCodePlace", "(I)Z"⟩
abbrev wsX3_isCodePlace : List Cond := .code yX3_isCodePlace cX3_isCodePlace 1 (some .boolean) :: lw_gd
abbrev cX3_spawn : ByteArray := prog_1_method_3_code
def yX3_spawn : MethodName := ⟨RX3, "spawn", "(II)I"⟩
abbrev wsX3_spawn : List Cond := .code yX3_spawn cX3_spawn 4 (some .int) :: lw_gd
abbrev cX3_beginLeastFree : ByteArray := prog_1_method_32_code
def yX3_beginLeastFree : MethodName := ⟨RX3, "beginLeastFree", "(II)I"⟩
abbrev wsX3_beginLeastFree : List Cond := .code yX3_beginLeastFree cX3_beginLeastFree 4 (some .int) :: lw_gd
abbrev cX2_reset : ByteArray := prog_4_method_2_code
def yX2_reset : MethodName := ⟨RX2, "reset", "(II)V"⟩
abbrev wsX2_reset : List Cond := .code yX2_reset cX2_reset 3 none :: lw_gd
abbrev cX3_enter : ByteArray := prog_1_method_29_code
def yX3_enter : MethodName := ⟨RX3, "enter", "(LTaskKernel$Task;I)V"⟩
abbrev wsX3_enter : List Cond := .code yX3_enter cX3_enter 3 none :: lw_gd
abbrev cX3_step : ByteArray := prog_1_method_4_code
def yX3_step : MethodName := ⟨RX3, "step", "()I"⟩
abbrev wsX3_step : List Cond := .code yX3_step cX3_step 4 (some .int) :: lw_gd
abbrev cX3_next : ByteArray := prog_1_method_11_code
def yX3_next : MethodName := ⟨RX3, "next", "()I"⟩
abbrev wsX3_next : List Cond := .code yX3_next cX3_next 3 (some .int) :: lw_gd
abbrev cX2_goesBefore : ByteArray := prog_4_method_3_code
def yX2_goesBefore : MethodName := ⟨RX2, "goesBefore", "(LTaskKernel$Task;)Z"⟩
abbrev wsX2_goesBefore : List Cond := .code yX2_goesBefore cX2_goesBefore 2 (some .boolean) :: lw_gd
abbrev cX3_runWord : ByteArray := prog_1_method_36_code
def yX3_runWord : MethodName := ⟨RX3, "runWord", "(LTaskKernel$Task;)I"⟩
abbrev wsX3_runWord : List Cond := .code yX3_runWord cX3_runWord 5 (some .int) :: lw_gd
abbrev cX3_runOnNumbers : ByteArray := prog_1_method_37_code
def yX3_runOnNumbers : MethodName := ⟨RX3, "runOnNumbers", "(LTaskKernel$Task;II)I"⟩
abbrev wsX3_runOnNumbers : List Cond := .code yX3_runOnNumbers cX3_runOnNumbers 4 (some .int) :: lw_gd
abbrev cX3_end : ByteArray := prog_1_method_31_code
def yX3_end : MethodName := ⟨RX3, "end", "(LTaskKernel$Task;I)V"⟩
abbrev wsX3_end : List Cond := .code yX3_end cX3_end 2 none :: lw_gd
abbrev cX2_put : ByteArray := prog_4_method_5_code
def yX2_put : MethodName := ⟨RX2, "put", "(I)I"⟩
abbrev wsX2_put : List Cond := .code yX2_put cX2_put 2 (some .int) :: lw_gd
abbrev cX1_push : ByteArray := prog_3_method_3_code
def yX1_push : MethodName := ⟨RX1, "push", "(I)Z"⟩
abbrev wsX1_push : List Cond := .code yX1_push cX1_push 2 (some .boolean) :: lw_gd
abbrev cX3_copyTop : ByteArray := prog_1_method_41_code
def yX3_copyTop : MethodName := ⟨RX3, "copyTop", "(LTaskKernel$Task;)I"⟩
abbrev wsX3_copyTop : List Cond := .code yX3_copyTop cX3_copyTop 2 (some .int) :: lw_gd
abbrev cX1_fromTop : ByteArray := prog_3_method_5_code
def yX1_fromTop : MethodName := ⟨RX1, "fromTop", "(I)I"⟩
abbrev wsX1_fromTop : List Cond := .code yX1_fromTop cX1_fromTop 2 (some .int) :: lw_gd
abbrev cX3_drop : ByteArray := prog_1_method_42_code
def yX3_drop : MethodName := ⟨RX3, "drop", "(LTaskKernel$Task;)I"⟩
abbrev wsX3_drop : List Cond := .code yX3_drop cX3_drop 2 (some .int) :: lw_gd
abbrev cX1_pop : ByteArray := prog_3_method_4_code
def yX1_pop : MethodName := ⟨RX1, "pop", "()I"⟩
abbrev wsX1_pop : List Cond := .code yX1_pop cX1_pop 1 (some .int) :: lw_gd
abbrev cX3_swap : ByteArray := prog_1_method_43_code
def yX3_swap : MethodName := ⟨RX3, "swap", "(LTaskKernel$Task;)I"⟩
abbrev wsX3_swap : List Cond := .code yX3_swap cX3_swap 4 (some .int) :: lw_gd
abbrev cX3_load : ByteArray := prog_1_method_44_code
def yX3_load : MethodName := ⟨RX3, "load", "(LTaskKernel$Task;)I"⟩
abbrev wsX3_load : List Cond := .code yX3_load cX3_load 3 (some .int) :: lw_gd
abbrev cX3_isCell : ByteArray := prog_1_method_22_code
def yX3_isCell : MethodName := ⟨RX3, "isCell", "(I)Z"⟩
abbrev wsX3_isCell : List Cond := .code yX3_isCell cX3_isCell 1 (some .boolean) :: lw_gd
abbrev cX3_store : ByteArray := prog_1_method_45_code
def yX3_store : MethodName := ⟨RX3, "store", "(LTaskKernel$Task;)I"⟩
abbrev wsX3_store : List Cond := .code yX3_store cX3_store 3 (some .int) :: lw_gd
abbrev cX3_compute : ByteArray := prog_1_method_40_code
def yX3_compute : MethodName := ⟨RX3, "compute", "(LTaskKernel$Task;I)I"⟩
abbrev wsX3_compute : List Cond := .code yX3_compute cX3_compute 5 (some .int) :: lw_gd
abbrev cX3_runOnItself : ByteArray := prog_1_method_38_code
def yX3_runOnItself : MethodName := ⟨RX3, "runOnItself", "(LTaskKernel$Task;II)I"⟩
abbrev wsX3_runOnItself : List Cond := .code yX3_runOnItself cX3_runOnItself 4 (some .int) :: lw_gd
abbrev cX3_jump : ByteArray := prog_1_method_46_code
def yX3_jump : MethodName := ⟨RX3, "jump", "(LTaskKernel$Task;I)I"⟩
abbrev wsX3_jump : List Cond := .code yX3_jump cX3_jump 3 (some .int) :: lw_gd
abbrev cX3_jumpIfZero : ByteArray := prog_1_method_47_code
def yX3_jumpIfZero : MethodName := ⟨RX3, "jumpIfZero", "(LTaskKernel$Task;I)I"⟩
abbrev wsX3_jumpIfZero : List Cond := .code yX3_jumpIfZero cX3_jumpIfZero 3 (some .int) :: lw_gd
abbrev cX3_callPlace : ByteArray := prog_1_method_48_code
def yX3_callPlace : MethodName := ⟨RX3, "callPlace", "(LTaskKernel$Task;I)I"⟩
abbrev wsX3_callPlace : List Cond := .code yX3_callPlace cX3_callPlace 3 (some .int) :: lw_gd
abbrev cX3_goBack : ByteArray := prog_1_method_49_code
def yX3_goBack : MethodName := ⟨RX3, "goBack", "(LTaskKernel$Task;)I"⟩
abbrev wsX3_goBack : List Cond := .code yX3_goBack cX3_goBack 2 (some .int) :: lw_gd
abbrev cX3_emit : ByteArray := prog_1_method_50_code
def yX3_emit : MethodName := ⟨RX3, "emit", "(LTaskKernel$Task;)I"⟩
abbrev wsX3_emit : List Cond := .code yX3_emit cX3_emit 2 (some .int) :: lw_gd
abbrev cX3_outSlot : ByteArray := prog_1_method_23_code
def yX3_outSlot : MethodName := ⟨RX3, "outSlot", "(I)I"⟩
abbrev wsX3_outSlot : List Cond := .code yX3_outSlot cX3_outSlot 1 (some .int) :: lw_gd
abbrev cX3_runWithOthers : ByteArray := prog_1_method_39_code
def yX3_runWithOthers : MethodName := ⟨RX3, "runWithOthers", "(LTaskKernel$Task;II)I"⟩
abbrev wsX3_runWithOthers : List Cond := .code yX3_runWithOthers cX3_runWithOthers 4 (some .int) :: lw_gd
abbrev cX3_beginOther : ByteArray := prog_1_method_51_code
def yX3_beginOther : MethodName := ⟨RX3, "beginOther", "(LTaskKernel$Task;I)I"⟩
abbrev wsX3_beginOther : List Cond := .code yX3_beginOther cX3_beginOther 4 (some .int) :: lw_gd
abbrev cX3_sleep : ByteArray := prog_1_method_52_code
def yX3_sleep : MethodName := ⟨RX3, "sleep", "(LTaskKernel$Task;)I"⟩
abbrev wsX3_sleep : List Cond := .code yX3_sleep cX3_sleep 3 (some .int) :: lw_gd
abbrev cX3_send : ByteArray := prog_1_method_53_code
def yX3_send : MethodName := ⟨RX3, "send", "(LTaskKernel$Task;I)I"⟩
abbrev wsX3_send : List Cond := .code yX3_send cX3_send 5 (some .int) :: lw_gd
abbrev cX3_isQueue : ByteArray := prog_1_method_24_code
def yX3_isQueue : MethodName := ⟨RX3, "isQueue", "(I)Z"⟩
abbrev wsX3_isQueue : List Cond := .code yX3_isQueue cX3_isQueue 2 (some .boolean) :: lw_gd
abbrev cX3_firstWaiting : ByteArray := prog_1_method_34_code
def yX3_firstWaiting : MethodName := ⟨RX3, "firstWaiting", "(II)LTaskKernel$Task;"⟩
abbrev wsX3_firstWaiting : List Cond := .code yX3_firstWaiting cX3_firstWaiting 6 (some (.object "TaskKernel$Task")) :: lw_gd
abbrev cX2_isWaiting : ByteArray := prog_4_method_4_code
def yX2_isWaiting : MethodName := ⟨RX2, "isWaiting", "(II)Z"⟩
abbrev wsX2_isWaiting : List Cond := .code yX2_isWaiting cX2_isWaiting 3 (some .boolean) :: lw_gd
abbrev cX0_addLast : ByteArray := prog_2_method_2_code
def yX0_addLast : MethodName := ⟨RX0, "addLast", "(I)Z"⟩
abbrev wsX0_addLast : List Cond := .code yX0_addLast cX0_addLast 2 (some .boolean) :: lw_gd
abbrev cX0_slot : ByteArray := prog_2_method_5_code
def yX0_slot : MethodName := ⟨RX0, "slot", "(I)I"⟩
abbrev wsX0_slot : List Cond := .code yX0_slot cX0_slot 3 (some .int) :: lw_gd
abbrev cX3_waitAt : ByteArray := prog_1_method_30_code
def yX3_waitAt : MethodName := ⟨RX3, "waitAt", "(LTaskKernel$Task;II)V"⟩
abbrev wsX3_waitAt : List Cond := .code yX3_waitAt cX3_waitAt 4 none :: lw_gd
abbrev cX3_receive : ByteArray := prog_1_method_54_code
def yX3_receive : MethodName := ⟨RX3, "receive", "(LTaskKernel$Task;I)I"⟩
abbrev wsX3_receive : List Cond := .code yX3_receive cX3_receive 5 (some .int) :: lw_gd
abbrev cX1_isFull : ByteArray := prog_3_method_2_code
def yX1_isFull : MethodName := ⟨RX1, "isFull", "()Z"⟩
abbrev wsX1_isFull : List Cond := .code yX1_isFull cX1_isFull 1 (some .boolean) :: lw_gd
abbrev cX0_removeFirst : ByteArray := prog_2_method_3_code
def yX0_removeFirst : MethodName := ⟨RX0, "removeFirst", "()I"⟩
abbrev wsX0_removeFirst : List Cond := .code yX0_removeFirst cX0_removeFirst 2 (some .int) :: lw_gd
abbrev cX3_killOther : ByteArray := prog_1_method_55_code
def yX3_killOther : MethodName := ⟨RX3, "killOther", "(LTaskKernel$Task;)I"⟩
abbrev wsX3_killOther : List Cond := .code yX3_killOther cX3_killOther 3 (some .int) :: lw_gd
abbrev cX3_isLive : ByteArray := prog_1_method_26_code
def yX3_isLive : MethodName := ⟨RX3, "isLive", "(I)Z"⟩
abbrev wsX3_isLive : List Cond := .code yX3_isLive cX3_isLive 2 (some .boolean) :: lw_gd
abbrev cX3_isTask : ByteArray := prog_1_method_25_code
def yX3_isTask : MethodName := ⟨RX3, "isTask", "(I)Z"⟩
abbrev wsX3_isTask : List Cond := .code yX3_isTask cX3_isTask 2 (some .boolean) :: lw_gd
abbrev cX3_markOf : ByteArray := prog_1_method_27_code
def yX3_markOf : MethodName := ⟨RX3, "markOf", "(I)I"⟩
abbrev wsX3_markOf : List Cond := .code yX3_markOf cX3_markOf 1 (some .int) :: lw_gd
abbrev cX3_run : ByteArray := prog_1_method_5_code
def yX3_run : MethodName := ⟨RX3, "run", "(I)I"⟩
abbrev wsX3_run : List Cond := .code yX3_run cX3_run 4 (some .int) :: lw_gd
abbrev cX3_tellsAnEnd : ByteArray := prog_1_method_28_code
def yX3_tellsAnEnd : MethodName := ⟨RX3, "tellsAnEnd", "(I)Z"⟩
abbrev wsX3_tellsAnEnd : List Cond := .code yX3_tellsAnEnd cX3_tellsAnEnd 1 (some .boolean) :: lw_gd
abbrev cX3_tick : ByteArray := prog_1_method_6_code
def yX3_tick : MethodName := ⟨RX3, "tick", "()I"⟩
abbrev wsX3_tick : List Cond := .code yX3_tick cX3_tick 3 (some .int) :: lw_gd
abbrev cX3_firstDueSleeper : ByteArray := prog_1_method_33_code
def yX3_firstDueSleeper : MethodName := ⟨RX3, "firstDueSleeper", "()LTaskKernel$Task;"⟩
abbrev wsX3_firstDueSleeper : List Cond := .code yX3_firstDueSleeper cX3_firstDueSleeper 4 (some (.object "TaskKernel$Task")) :: lw_gd
abbrev cX3_kill : ByteArray := prog_1_method_7_code
def yX3_kill : MethodName := ⟨RX3, "kill", "(I)Z"⟩
abbrev wsX3_kill : List Cond := .code yX3_kill cX3_kill 2 (some .boolean) :: lw_gd
abbrev cX3_state : ByteArray := prog_1_method_8_code
def yX3_state : MethodName := ⟨RX3, "state", "(I)I"⟩
abbrev wsX3_state : List Cond := .code yX3_state cX3_state 2 (some .int) :: lw_gd
abbrev cX3_task : ByteArray := prog_1_method_9_code
def yX3_task : MethodName := ⟨RX3, "task", "(II)I"⟩
abbrev wsX3_task : List Cond := .code yX3_task cX3_task 4 (some .int) :: lw_gd
abbrev cX3_stack : ByteArray := prog_1_method_10_code
def yX3_stack : MethodName := ⟨RX3, "stack", "(II)I"⟩
abbrev wsX3_stack : List Cond := .code yX3_stack cX3_stack 3 (some .int) :: lw_gd
abbrev cX3_queue : ByteArray := prog_1_method_12_code
def yX3_queue : MethodName := ⟨RX3, "queue", "(I)I"⟩
abbrev wsX3_queue : List Cond := .code yX3_queue cX3_queue 2 (some .int) :: lw_gd
abbrev cX3_queued : ByteArray := prog_1_method_13_code
def yX3_queued : MethodName := ⟨RX3, "queued", "(II)I"⟩
abbrev wsX3_queued : List Cond := .code yX3_queued cX3_queued 3 (some .int) :: lw_gd
abbrev cX0_fromFirst : ByteArray := prog_2_method_4_code
def yX0_fromFirst : MethodName := ⟨RX0, "fromFirst", "(I)I"⟩
abbrev wsX0_fromFirst : List Cond := .code yX0_fromFirst cX0_fromFirst 2 (some .int) :: lw_gd
abbrev cX3_waiter : ByteArray := prog_1_method_14_code
def yX3_waiter : MethodName := ⟨RX3, "waiter", "(IZI)I"⟩
abbrev wsX3_waiter : List Cond := .code yX3_waiter cX3_waiter 6 (some .int) :: lw_gd
abbrev cX3_countBefore : ByteArray := prog_1_method_35_code
def yX3_countBefore : MethodName := ⟨RX3, "countBefore", "(LTaskKernel$Task;)I"⟩
abbrev wsX3_countBefore : List Cond := .code yX3_countBefore cX3_countBefore 4 (some .int) :: lw_gd
abbrev cX3_memory : ByteArray := prog_1_method_15_code
def yX3_memory : MethodName := ⟨RX3, "memory", "(I)I"⟩
abbrev wsX3_memory : List Cond := .code yX3_memory cX3_memory 2 (some .int) :: lw_gd
abbrev cX3_emitted : ByteArray := prog_1_method_16_code
def yX3_emitted : MethodName := ⟨RX3, "emitted", "()I"⟩
abbrev wsX3_emitted : List Cond := .code yX3_emitted cX3_emitted 1 (some .int) :: lw_gd
abbrev cX3_out : ByteArray := prog_1_method_17_code
def yX3_out : MethodName := ⟨RX3, "out", "(I)I"⟩
abbrev wsX3_out : List Cond := .code yX3_out cX3_out 2 (some .int) :: lw_gd
abbrev cX3_why : ByteArray := prog_1_method_18_code
def yX3_why : MethodName := ⟨RX3, "why", "(I)I"⟩
abbrev wsX3_why : List Cond := .code yX3_why cX3_why 2 (some .int) :: lw_gd
abbrev cX3_clock : ByteArray := prog_1_method_19_code
def yX3_clock : MethodName := ⟨RX3, "clock", "()I"⟩
abbrev wsX3_clock : List Cond := .code yX3_clock cX3_clock 1 (some .int) :: lw_gd
abbrev cL_cell : ByteArray := method_2_code
def yL_cell : MethodName := ⟨RL, "cell", "([II)I"⟩
abbrev wsL_cell : List Cond := .code yL_cell cL_cell 2 (some .int) :: lw_gd
abbrev cX4_init : ByteArray := prog_6_method_1_code
def yX4_init : MethodName := ⟨RX4, "<init>", "(IIII)V"⟩
abbrev wsX4_init : List Cond := .code yX4_init cX4_init 5 none :: lw_gd
abbrev cX4_near : ByteArray := prog_6_method_2_code
def yX4_near : MethodName := ⟨RX4, "near", "(III)I"⟩
abbrev wsX4_near : List Cond := .code yX4_near cX4_near 3 (some .int) :: lw_gd
abbrev cX4_next : ByteArray := prog_6_method_9_code
def yX4_next : MethodName := ⟨RX4, "next", "()I"⟩
abbrev wsX4_next : List Cond := .code yX4_next cX4_next 4 (some .int) :: lw_gd
abbrev cX4_step : ByteArray := prog_6_method_26_code
def yX4_step : MethodName := ⟨RX4, "step", "()I"⟩
abbrev wsX4_step : List Cond := .code yX4_step cX4_step 2 (some .int) :: lw_gd
abbrev cX4_fall : ByteArray := prog_6_method_10_code
def yX4_fall : MethodName := ⟨RX4, "fall", "(I)V"⟩
abbrev wsX4_fall : List Cond := .code yX4_fall cX4_fall 2 none :: lw_gd
abbrev cX4_perform : ByteArray := prog_6_method_25_code
def yX4_perform : MethodName := ⟨RX4, "perform", "(II)V"⟩
abbrev wsX4_perform : List Cond := .code yX4_perform cX4_perform 3 none :: lw_gd
abbrev cX4_arithmetic : ByteArray := prog_6_method_20_code
def yX4_arithmetic : MethodName := ⟨RX4, "arithmetic", "(I)V"⟩
abbrev wsX4_arithmetic : List Cond := .code yX4_arithmetic cX4_arithmetic 4 none :: lw_gd
abbrev cX4_take : ByteArray := prog_6_method_11_code
def yX4_take : MethodName := ⟨RX4, "take", "()I"⟩
abbrev wsX4_take : List Cond := .code yX4_take cX4_take 1 (some .int) :: lw_gd
abbrev cX4_put : ByteArray := prog_6_method_13_code
def yX4_put : MethodName := ⟨RX4, "put", "(I)V"⟩
abbrev wsX4_put : List Cond := .code yX4_put cX4_put 2 none :: lw_gd
abbrev cX4_give : ByteArray := prog_6_method_12_code
def yX4_give : MethodName := ⟨RX4, "give", "(II)V"⟩
abbrev wsX4_give : List Cond := .code yX4_give cX4_give 3 none :: lw_gd
abbrev cX4_memoryOp : ByteArray := prog_6_method_22_code
def yX4_memoryOp : MethodName := ⟨RX4, "memoryOp", "(I)V"⟩
abbrev wsX4_memoryOp : List Cond := .code yX4_memoryOp cX4_memoryOp 4 none :: lw_gd
abbrev cX4_jumpOp : ByteArray := prog_6_method_23_code
def yX4_jumpOp : MethodName := ⟨RX4, "jumpOp", "(II)V"⟩
abbrev wsX4_jumpOp : List Cond := .code yX4_jumpOp cX4_jumpOp 4 none :: lw_gd
abbrev cX4_jump : ByteArray := prog_6_method_19_code
def yX4_jump : MethodName := ⟨RX4, "jump", "(I)V"⟩
abbrev wsX4_jump : List Cond := .code yX4_jump cX4_jump 2 none :: lw_gd
abbrev cX4_isPlace : ByteArray := prog_6_method_18_code
def yX4_isPlace : MethodName := ⟨RX4, "isPlace", "(I)Z"⟩
abbrev wsX4_isPlace : List Cond := .code yX4_isPlace cX4_isPlace 1 (some .boolean) :: lw_gd
abbrev cX4_send : ByteArray := prog_6_method_16_code
def yX4_send : MethodName := ⟨RX4, "send", "(I)V"⟩
abbrev wsX4_send : List Cond := .code yX4_send cX4_send 4 none :: lw_gd
abbrev cX4_noQueue : ByteArray := prog_6_method_15_code
def yX4_noQueue : MethodName := ⟨RX4, "noQueue", "(I)Z"⟩
abbrev wsX4_noQueue : List Cond := .code yX4_noQueue cX4_noQueue 2 (some .boolean) :: lw_gd
abbrev cX4_inState : ByteArray := prog_6_method_8_code
def yX4_inState : MethodName := ⟨RX4, "inState", "(III)I"⟩
abbrev wsX4_inState : List Cond := .code yX4_inState cX4_inState 8 (some .int) :: lw_gd
abbrev cX4_set : ByteArray := prog_6_method_3_code
def yX4_set : MethodName := ⟨RX4, "set", "(II)V"⟩
abbrev wsX4_set : List Cond := .code yX4_set cX4_set 3 none :: lw_gd
abbrev cX4_append : ByteArray := prog_6_method_14_code
def yX4_append : MethodName := ⟨RX4, "append", "(II)V"⟩
abbrev wsX4_append : List Cond := .code yX4_append cX4_append 3 none :: lw_gd
abbrev cX4_receive : ByteArray := prog_6_method_17_code
def yX4_receive : MethodName := ⟨RX4, "receive", "(I)V"⟩
abbrev wsX4_receive : List Cond := .code yX4_receive cX4_receive 3 none :: lw_gd
abbrev cX4_end : ByteArray := prog_6_method_6_code
def yX4_end : MethodName := ⟨RX4, "end", "(II)V"⟩
abbrev wsX4_end : List Cond := .code yX4_end cX4_end 3 none :: lw_gd
abbrev cX4_stackOp : ByteArray := prog_6_method_21_code
def yX4_stackOp : MethodName := ⟨RX4, "stackOp", "(II)V"⟩
abbrev wsX4_stackOp : List Cond := .code yX4_stackOp cX4_stackOp 5 none :: lw_gd
abbrev cX4_taskOp : ByteArray := prog_6_method_24_code
def yX4_taskOp : MethodName := ⟨RX4, "taskOp", "(II)V"⟩
abbrev wsX4_taskOp : List Cond := .code yX4_taskOp cX4_taskOp 5 none :: lw_gd
abbrev cX4_begin : ByteArray := prog_6_method_5_code
def yX4_begin : MethodName := ⟨RX4, "begin", "(II)I"⟩
abbrev wsX4_begin : List Cond := .code yX4_begin cX4_begin 4 (some .int) :: lw_gd
abbrev cX4_freeTask : ByteArray := prog_6_method_4_code
def yX4_freeTask : MethodName := ⟨RX4, "freeTask", "()I"⟩
abbrev wsX4_freeTask : List Cond := .code yX4_freeTask cX4_freeTask 2 (some .int) :: lw_gd
abbrev cX4_isLive : ByteArray := prog_6_method_7_code
def yX4_isLive : MethodName := ⟨RX4, "isLive", "(I)Z"⟩
abbrev wsX4_isLive : List Cond := .code yX4_isLive cX4_isLive 2 (some .boolean) :: lw_gd
abbrev cX4_run : ByteArray := prog_6_method_27_code
def yX4_run : MethodName := ⟨RX4, "run", "(I)I"⟩
abbrev wsX4_run : List Cond := .code yX4_run cX4_run 6 (some .int) :: lw_gd
abbrev cX4_tick : ByteArray := prog_6_method_28_code
def yX4_tick : MethodName := ⟨RX4, "tick", "()I"⟩
abbrev wsX4_tick : List Cond := .code yX4_tick cX4_tick 4 (some .int) :: lw_gd
abbrev cX4_poke : ByteArray := prog_6_method_29_code
def yX4_poke : MethodName := ⟨RX4, "poke", "(II)Z"⟩
abbrev wsX4_poke : List Cond := .code yX4_poke cX4_poke 3 (some .boolean) :: lw_gd
abbrev cX4_spawn : ByteArray := prog_6_method_30_code
def yX4_spawn : MethodName := ⟨RX4, "spawn", "(II)I"⟩
abbrev wsX4_spawn : List Cond := .code yX4_spawn cX4_spawn 4 (some .int) :: lw_gd
abbrev cX4_kill : ByteArray := prog_6_method_31_code
def yX4_kill : MethodName := ⟨RX4, "kill", "(I)Z"⟩
abbrev wsX4_kill : List Cond := .code yX4_kill cX4_kill 2 (some .boolean) :: lw_gd
abbrev cX4_state : ByteArray := prog_6_method_32_code
def yX4_state : MethodName := ⟨RX4, "state", "(I)I"⟩
abbrev wsX4_state : List Cond := .code yX4_state cX4_state 2 (some .int) :: lw_gd
abbrev cX4_task : ByteArray := prog_6_method_33_code
def yX4_task : MethodName := ⟨RX4, "task", "(II)I"⟩
abbrev wsX4_task : List Cond := .code yX4_task cX4_task 3 (some .int) :: lw_gd
abbrev cX4_stack : ByteArray := prog_6_method_34_code
def yX4_stack : MethodName := ⟨RX4, "stack", "(II)I"⟩
abbrev wsX4_stack : List Cond := .code yX4_stack cX4_stack 3 (some .int) :: lw_gd
abbrev cX4_queue : ByteArray := prog_6_method_35_code
def yX4_queue : MethodName := ⟨RX4, "queue", "(I)I"⟩
abbrev wsX4_queue : List Cond := .code yX4_queue cX4_queue 2 (some .int) :: lw_gd
abbrev cX4_queued : ByteArray := prog_6_method_36_code
def yX4_queued : MethodName := ⟨RX4, "queued", "(II)I"⟩
abbrev wsX4_queued : List Cond := .code yX4_queued cX4_queued 3 (some .int) :: lw_gd
abbrev cX4_waiter : ByteArray := prog_6_method_37_code
def yX4_waiter : MethodName := ⟨RX4, "waiter", "(IZI)I"⟩
abbrev wsX4_waiter : List Cond := .code yX4_waiter cX4_waiter 4 (some .int) :: lw_gd
abbrev cX4_memory : ByteArray := prog_6_method_38_code
def yX4_memory : MethodName := ⟨RX4, "memory", "(I)I"⟩
abbrev wsX4_memory : List Cond := .code yX4_memory cX4_memory 2 (some .int) :: lw_gd
abbrev cX4_emitted : ByteArray := prog_6_method_39_code
def yX4_emitted : MethodName := ⟨RX4, "emitted", "()I"⟩
abbrev wsX4_emitted : List Cond := .code yX4_emitted cX4_emitted 1 (some .int) :: lw_gd
abbrev cX4_out : ByteArray := prog_6_method_40_code
def yX4_out : MethodName := ⟨RX4, "out", "(I)I"⟩
abbrev wsX4_out : List Cond := .code yX4_out cX4_out 2 (some .int) :: lw_gd
abbrev cX4_why : ByteArray := prog_6_method_41_code
def yX4_why : MethodName := ⟨RX4, "why", "(I)I"⟩
abbrev wsX4_why : List Cond := .code yX4_why cX4_why 2 (some .int) :: lw_gd
abbrev cX4_clock : ByteArray := prog_6_method_42_code
def yX4_clock : MethodName := ⟨RX4, "clock", "()I"⟩
abbrev wsX4_clock : List Cond := .code yX4_clock cX4_clock 1 (some .int) :: lw_gd
abbrev cL_law : ByteArray := code
end
section
/-! printed by wip/whole/names.py out of the claim: each word of the tables, by its place there -/
theorem wn_L : (Cond.initialized RL) ∈ lw_gd := List.mem_filter.mpr ⟨List.mem_append_right _ (List.mem_of_getElem? (i := 0) (by decide +kernel)), by first | rfl | decide +kernel⟩
theorem wn_X3 : (Cond.initialized RX3) ∈ lw_gd := List.mem_filter.mpr ⟨List.mem_append_right _ (List.mem_of_getElem? (i := 1) (by decide +kernel)), by first | rfl | decide +kernel⟩
theorem wn_math : (Cond.initialized "java/lang/Math") ∈ lw_gd := List.mem_filter.mpr ⟨List.mem_append_right _ (List.mem_of_getElem? (i := 2) (by decide +kernel)), by first | rfl | decide +kernel⟩
theorem wn_X2 : (Cond.initialized RX2) ∈ lw_gd := List.mem_filter.mpr ⟨List.mem_append_right _ (List.mem_of_getElem? (i := 3) (by decide +kernel)), by first | rfl | decide +kernel⟩
theorem wn_X1 : (Cond.initialized RX1) ∈ lw_gd := List.mem_filter.mpr ⟨List.mem_append_right _ (List.mem_of_getElem? (i := 4) (by decide +kernel)), by first | rfl | decide +kernel⟩
theorem wn_X0 : (Cond.initialized RX0) ∈ lw_gd := List.mem_filter.mpr ⟨List.mem_append_right _ (List.mem_of_getElem? (i := 5) (by decide +kernel)), by first | rfl | decide +kernel⟩
theorem wn_X4 : (Cond.initialized RX4) ∈ lw_gd := List.mem_filter.mpr ⟨List.mem_append_right _ (List.mem_of_getElem? (i := 6) (by decide +kernel)), by first | rfl | decide +kernel⟩
theorem wk_L_7 : (Cond.classLink RL 7 RX3) ∈ lw_gd := List.mem_filter.mpr ⟨List.mem_append_right _ (List.mem_of_getElem? (i := 7) (by decide +kernel)), by first | rfl | decide +kernel⟩
theorem wt_X3 : (Cond.instantiable RX3 9) ∈ lw_gd := List.mem_filter.mpr ⟨List.mem_append_right _ (List.mem_of_getElem? (i := 8) (by decide +kernel)), by first | rfl | decide +kernel⟩
theorem wl_L_15 : (Cond.methodLink RL 15 yX3_init) ∈ lw_gd := List.mem_filter.mpr ⟨List.mem_append_right _ (List.mem_of_getElem? (i := 9) (by decide +kernel)), by first | rfl | decide +kernel⟩
theorem wi_X3_init : (Cond.instanceMethod yX3_init) ∈ lw_gd := List.mem_filter.mpr ⟨List.mem_append_right _ (List.mem_of_getElem? (i := 10) (by decide +kernel)), by first | rfl | decide +kernel⟩
theorem wc_X3_init : (Cond.code yX3_init cX3_init 8 none) ∈ lw_gd := List.mem_filter.mpr ⟨List.mem_append_right _ (List.mem_of_getElem? (i := 11) (by decide +kernel)), by first | rfl | decide +kernel⟩
theorem wl_X3_1 : (Cond.methodLink RX3 1 objectInit) ∈ lw_gd := List.mem_filter.mpr ⟨List.mem_append_right _ (List.mem_of_getElem? (i := 12) (by decide +kernel)), by first | rfl | decide +kernel⟩
theorem wi_obj : (Cond.instanceMethod objectInit) ∈ lw_gd := List.mem_filter.mpr ⟨List.mem_append_right _ (List.mem_of_getElem? (i := 13) (by decide +kernel)), by first | rfl | decide +kernel⟩
theorem wc_obj : (Cond.code objectInit ⟨#[0xb1]⟩ 1 none) ∈ lw_gd := List.mem_filter.mpr ⟨List.mem_append_right _ (List.mem_of_getElem? (i := 14) (by decide +kernel)), by first | rfl | decide +kernel⟩
theorem wl_X3_33 : (Cond.methodLink RX3 33 yX3_nearest) ∈ lw_gd := List.mem_filter.mpr ⟨List.mem_append_right _ (List.mem_of_getElem? (i := 15) (by decide +kernel)), by first | rfl | decide +kernel⟩
theorem wst_X3_nearest : (Cond.static yX3_nearest) ∈ lw_gd := List.mem_filter.mpr ⟨List.mem_append_right _ (List.mem_of_getElem? (i := 16) (by decide +kernel)), by first | rfl | decide +kernel⟩
theorem wc_X3_nearest : (Cond.code yX3_nearest cX3_nearest 3 (some .int)) ∈ lw_gd := List.mem_filter.mpr ⟨List.mem_append_right _ (List.mem_of_getElem? (i := 17) (by decide +kernel)), by first | rfl | decide +kernel⟩
theorem wl_X3_156 : (Cond.methodLink RX3 156 Lib.Math.min.name) ∈ lw_gd := List.mem_filter.mpr ⟨List.mem_append_right _ (List.mem_of_getElem? (i := 18) (by decide +kernel)), by first | rfl | decide +kernel⟩
theorem wst_math_min : (Cond.static Lib.Math.min.name) ∈ lw_gd := List.mem_filter.mpr ⟨List.mem_append_right _ (List.mem_of_getElem? (i := 19) (by decide +kernel)), by first | rfl | decide +kernel⟩
theorem wc_math_min : (Cond.code Lib.Math.min.name Lib.Math.min.code 2 (some .int)) ∈ lw_gd := List.mem_filter.mpr ⟨List.mem_append_right _ (List.mem_of_getElem? (i := 20) (by decide +kernel)), by first | rfl | decide +kernel⟩
theorem wl_X3_161 : (Cond.methodLink RX3 161 Lib.Math.max.name) ∈ lw_gd := List.mem_filter.mpr ⟨List.mem_append_right _ (List.mem_of_getElem? (i := 21) (by decide +kernel)), by first | rfl | decide +kernel⟩
theorem wst_math_max : (Cond.static Lib.Math.max.name) ∈ lw_gd := List.mem_filter.mpr ⟨List.mem_append_right _ (List.mem_of_getElem? (i := 22) (by decide +kernel)), by first | rfl | decide +kernel⟩
theorem wc_math_max : (Cond.code Lib.Math.max.name Lib.Math.max.code 2 (some .int)) ∈ lw_gd := List.mem_filter.mpr ⟨List.mem_append_right _ (List.mem_of_getElem? (i := 23) (by decide +kernel)), by first | rfl | decide +kernel⟩
theorem wk_X3_37 : (Cond.classLink RX3 37 RX2) ∈ lw_gd := List.mem_filter.mpr ⟨List.mem_append_right _ (List.mem_of_getElem? (i := 24) (by decide +kernel)), by first | rfl | decide +kernel⟩
theorem wo_X2 : (Cond.arrayOver (.object RX2)) ∈ lw_tbl := List.mem_append_right _ (List.mem_of_getElem? (i := 25) (by decide +kernel))
theorem wt_X2 : (Cond.instantiable RX2 11) ∈ lw_gd := List.mem_filter.mpr ⟨List.mem_append_right _ (List.mem_of_getElem? (i := 26) (by decide +kernel)), by first | rfl | decide +kernel⟩
theorem wl_X3_43 : (Cond.methodLink RX3 43 yX2_init) ∈ lw_gd := List.mem_filter.mpr ⟨List.mem_append_right _ (List.mem_of_getElem? (i := 27) (by decide +kernel)), by first | rfl | decide +kernel⟩
theorem wi_X2_init : (Cond.instanceMethod yX2_init) ∈ lw_gd := List.mem_filter.mpr ⟨List.mem_append_right _ (List.mem_of_getElem? (i := 28) (by decide +kernel)), by first | rfl | decide +kernel⟩
theorem wc_X2_init : (Cond.code yX2_init cX2_init 3 none) ∈ lw_gd := List.mem_filter.mpr ⟨List.mem_append_right _ (List.mem_of_getElem? (i := 29) (by decide +kernel)), by first | rfl | decide +kernel⟩
theorem wl_X2_3 : (Cond.methodLink RX2 3 objectInit) ∈ lw_gd := List.mem_filter.mpr ⟨List.mem_append_right _ (List.mem_of_getElem? (i := 30) (by decide +kernel)), by first | rfl | decide +kernel⟩
theorem wk_X2_39 : (Cond.classLink RX2 39 RX1) ∈ lw_gd := List.mem_filter.mpr ⟨List.mem_append_right _ (List.mem_of_getElem? (i := 31) (by decide +kernel)), by first | rfl | decide +kernel⟩
theorem wt_X1 : (Cond.instantiable RX1 2) ∈ lw_gd := List.mem_filter.mpr ⟨List.mem_append_right _ (List.mem_of_getElem? (i := 32) (by decide +kernel)), by first | rfl | decide +kernel⟩
theorem wl_X2_41 : (Cond.methodLink RX2 41 yX1_init) ∈ lw_gd := List.mem_filter.mpr ⟨List.mem_append_right _ (List.mem_of_getElem? (i := 33) (by decide +kernel)), by first | rfl | decide +kernel⟩
theorem wi_X1_init : (Cond.instanceMethod yX1_init) ∈ lw_gd := List.mem_filter.mpr ⟨List.mem_append_right _ (List.mem_of_getElem? (i := 34) (by decide +kernel)), by first | rfl | decide +kernel⟩
theorem wc_X1_init : (Cond.code yX1_init cX1_init 2 none) ∈ lw_gd := List.mem_filter.mpr ⟨List.mem_append_right _ (List.mem_of_getElem? (i := 35) (by decide +kernel)), by first | rfl | decide +kernel⟩
theorem wl_X1_3 : (Cond.methodLink RX1 3 objectInit) ∈ lw_gd := List.mem_filter.mpr ⟨List.mem_append_right _ (List.mem_of_getElem? (i := 36) (by decide +kernel)), by first | rfl | decide +kernel⟩
theorem wf_X1_15 : (Cond.fieldLink RX1 15 "TaskKernel$Pile" "held" "[I") ∈ lw_gd := List.mem_filter.mpr ⟨List.mem_append_right _ (List.mem_of_getElem? (i := 37) (by decide +kernel)), by first | rfl | decide +kernel⟩
theorem wf_X1_9 : (Cond.fieldLink RX1 9 "TaskKernel$Pile" "count" "I") ∈ lw_gd := List.mem_filter.mpr ⟨List.mem_append_right _ (List.mem_of_getElem? (i := 38) (by decide +kernel)), by first | rfl | decide +kernel⟩
theorem wf_X2_51 : (Cond.fieldLink RX2 51 "TaskKernel$Pile" "count" "I") ∈ lw_gd := List.mem_filter.mpr ⟨List.mem_append_right _ (List.mem_of_getElem? (i := 39) (by decide +kernel)), by first | rfl | decide +kernel⟩
theorem wf_X3_112 : (Cond.fieldLink RX3 112 "TaskKernel$Pile" "count" "I") ∈ lw_gd := List.mem_filter.mpr ⟨List.mem_append_right _ (List.mem_of_getElem? (i := 40) (by decide +kernel)), by first | rfl | decide +kernel⟩
theorem wa_int : (Cond.arrayClass .int) ∈ lw_gd := List.mem_filter.mpr ⟨List.mem_append_right _ (List.mem_of_getElem? (i := 46) (by decide +kernel)), by first | rfl | decide +kernel⟩
theorem wf_X2_36 : (Cond.fieldLink RX2 36 "TaskKernel$Task" "number" "I") ∈ lw_gd := List.mem_filter.mpr ⟨List.mem_append_right _ (List.mem_of_getElem? (i := 47) (by decide +kernel)), by first | rfl | decide +kernel⟩
theorem wf_X3_229 : (Cond.fieldLink RX3 229 "TaskKernel$Task" "number" "I") ∈ lw_gd := List.mem_filter.mpr ⟨List.mem_append_right _ (List.mem_of_getElem? (i := 48) (by decide +kernel)), by first | rfl | decide +kernel⟩
theorem wf_X2_44 : (Cond.fieldLink RX2 44 "TaskKernel$Task" "numbers" "LTaskKernel$Pile;") ∈ lw_gd := List.mem_filter.mpr ⟨List.mem_append_right _ (List.mem_of_getElem? (i := 49) (by decide +kernel)), by first | rfl | decide +kernel⟩
theorem wf_X3_108 : (Cond.fieldLink RX3 108 "TaskKernel$Task" "numbers" "LTaskKernel$Pile;") ∈ lw_gd := List.mem_filter.mpr ⟨List.mem_append_right _ (List.mem_of_getElem? (i := 50) (by decide +kernel)), by first | rfl | decide +kernel⟩
theorem wf_X2_48 : (Cond.fieldLink RX2 48 "TaskKernel$Task" "frames" "LTaskKernel$Pile;") ∈ lw_gd := List.mem_filter.mpr ⟨List.mem_append_right _ (List.mem_of_getElem? (i := 51) (by decide +kernel)), by first | rfl | decide +kernel⟩
theorem wf_X3_117 : (Cond.fieldLink RX3 117 "TaskKernel$Task" "frames" "LTaskKernel$Pile;") ∈ lw_gd := List.mem_filter.mpr ⟨List.mem_append_right _ (List.mem_of_getElem? (i := 52) (by decide +kernel)), by first | rfl | decide +kernel⟩
theorem wf_X2_9 : (Cond.fieldLink RX2 9 "TaskKernel$Task" "state" "I") ∈ lw_gd := List.mem_filter.mpr ⟨List.mem_append_right _ (List.mem_of_getElem? (i := 53) (by decide +kernel)), by first | rfl | decide +kernel⟩
theorem wf_X3_71 : (Cond.fieldLink RX3 71 "TaskKernel$Task" "state" "I") ∈ lw_gd := List.mem_filter.mpr ⟨List.mem_append_right _ (List.mem_of_getElem? (i := 54) (by decide +kernel)), by first | rfl | decide +kernel⟩
theorem wf_X2_15 : (Cond.fieldLink RX2 15 "TaskKernel$Task" "place" "I") ∈ lw_gd := List.mem_filter.mpr ⟨List.mem_append_right _ (List.mem_of_getElem? (i := 55) (by decide +kernel)), by first | rfl | decide +kernel⟩
theorem wf_X3_102 : (Cond.fieldLink RX3 102 "TaskKernel$Task" "place" "I") ∈ lw_gd := List.mem_filter.mpr ⟨List.mem_append_right _ (List.mem_of_getElem? (i := 56) (by decide +kernel)), by first | rfl | decide +kernel⟩
theorem wf_X2_18 : (Cond.fieldLink RX2 18 "TaskKernel$Task" "priority" "I") ∈ lw_gd := List.mem_filter.mpr ⟨List.mem_append_right _ (List.mem_of_getElem? (i := 57) (by decide +kernel)), by first | rfl | decide +kernel⟩
theorem wf_X3_105 : (Cond.fieldLink RX3 105 "TaskKernel$Task" "priority" "I") ∈ lw_gd := List.mem_filter.mpr ⟨List.mem_append_right _ (List.mem_of_getElem? (i := 58) (by decide +kernel)), by first | rfl | decide +kernel⟩
theorem wf_X2_21 : (Cond.fieldLink RX2 21 "TaskKernel$Task" "ticket" "I") ∈ lw_gd := List.mem_filter.mpr ⟨List.mem_append_right _ (List.mem_of_getElem? (i := 59) (by decide +kernel)), by first | rfl | decide +kernel⟩
theorem wf_X3_164 : (Cond.fieldLink RX3 164 "TaskKernel$Task" "ticket" "I") ∈ lw_gd := List.mem_filter.mpr ⟨List.mem_append_right _ (List.mem_of_getElem? (i := 60) (by decide +kernel)), by first | rfl | decide +kernel⟩
theorem wf_X2_24 : (Cond.fieldLink RX2 24 "TaskKernel$Task" "wakesAt" "I") ∈ lw_gd := List.mem_filter.mpr ⟨List.mem_append_right _ (List.mem_of_getElem? (i := 61) (by decide +kernel)), by first | rfl | decide +kernel⟩
theorem wf_X3_120 : (Cond.fieldLink RX3 120 "TaskKernel$Task" "wakesAt" "I") ∈ lw_gd := List.mem_filter.mpr ⟨List.mem_append_right _ (List.mem_of_getElem? (i := 62) (by decide +kernel)), by first | rfl | decide +kernel⟩
theorem wf_X2_27 : (Cond.fieldLink RX2 27 "TaskKernel$Task" "waitsAt" "I") ∈ lw_gd := List.mem_filter.mpr ⟨List.mem_append_right _ (List.mem_of_getElem? (i := 63) (by decide +kernel)), by first | rfl | decide +kernel⟩
theorem wf_X3_123 : (Cond.fieldLink RX3 123 "TaskKernel$Task" "waitsAt" "I") ∈ lw_gd := List.mem_filter.mpr ⟨List.mem_append_right _ (List.mem_of_getElem? (i := 64) (by decide +kernel)), by first | rfl | decide +kernel⟩
theorem wf_X2_30 : (Cond.fieldLink RX2 30 "TaskKernel$Task" "carries" "I") ∈ lw_gd := List.mem_filter.mpr ⟨List.mem_append_right _ (List.mem_of_getElem? (i := 65) (by decide +kernel)), by first | rfl | decide +kernel⟩
theorem wf_X3_252 : (Cond.fieldLink RX3 252 "TaskKernel$Task" "carries" "I") ∈ lw_gd := List.mem_filter.mpr ⟨List.mem_append_right _ (List.mem_of_getElem? (i := 66) (by decide +kernel)), by first | rfl | decide +kernel⟩
theorem wf_X2_33 : (Cond.fieldLink RX2 33 "TaskKernel$Task" "reason" "I") ∈ lw_gd := List.mem_filter.mpr ⟨List.mem_append_right _ (List.mem_of_getElem? (i := 67) (by decide +kernel)), by first | rfl | decide +kernel⟩
theorem wf_X3_153 : (Cond.fieldLink RX3 153 "TaskKernel$Task" "reason" "I") ∈ lw_gd := List.mem_filter.mpr ⟨List.mem_append_right _ (List.mem_of_getElem? (i := 68) (by decide +kernel)), by first | rfl | decide +kernel⟩
theorem wk_X3_46 : (Cond.classLink RX3 46 RX0) ∈ lw_gd := List.mem_filter.mpr ⟨List.mem_append_right _ (List.mem_of_getElem? (i := 92) (by decide +kernel)), by first | rfl | decide +kernel⟩
theorem wo_X0 : (Cond.arrayOver (.object RX0)) ∈ lw_tbl := List.mem_append_right _ (List.mem_of_getElem? (i := 93) (by decide +kernel))
theorem wt_X0 : (Cond.instantiable RX0 3) ∈ lw_gd := List.mem_filter.mpr ⟨List.mem_append_right _ (List.mem_of_getElem? (i := 94) (by decide +kernel)), by first | rfl | decide +kernel⟩
theorem wl_X3_52 : (Cond.methodLink RX3 52 yX0_init) ∈ lw_gd := List.mem_filter.mpr ⟨List.mem_append_right _ (List.mem_of_getElem? (i := 95) (by decide +kernel)), by first | rfl | decide +kernel⟩
theorem wi_X0_init : (Cond.instanceMethod yX0_init) ∈ lw_gd := List.mem_filter.mpr ⟨List.mem_append_right _ (List.mem_of_getElem? (i := 96) (by decide +kernel)), by first | rfl | decide +kernel⟩
theorem wc_X0_init : (Cond.code yX0_init cX0_init 2 none) ∈ lw_gd := List.mem_filter.mpr ⟨List.mem_append_right _ (List.mem_of_getElem? (i := 97) (by decide +kernel)), by first | rfl | decide +kernel⟩
theorem wl_X0_3 : (Cond.methodLink RX0 3 objectInit) ∈ lw_gd := List.mem_filter.mpr ⟨List.mem_append_right _ (List.mem_of_getElem? (i := 98) (by decide +kernel)), by first | rfl | decide +kernel⟩
theorem wf_X0_18 : (Cond.fieldLink RX0 18 "TaskKernel$Mailbox" "held" "[I") ∈ lw_gd := List.mem_filter.mpr ⟨List.mem_append_right _ (List.mem_of_getElem? (i := 99) (by decide +kernel)), by first | rfl | decide +kernel⟩
theorem wf_X0_9 : (Cond.fieldLink RX0 9 "TaskKernel$Mailbox" "first" "I") ∈ lw_gd := List.mem_filter.mpr ⟨List.mem_append_right _ (List.mem_of_getElem? (i := 100) (by decide +kernel)), by first | rfl | decide +kernel⟩
theorem wf_X0_15 : (Cond.fieldLink RX0 15 "TaskKernel$Mailbox" "count" "I") ∈ lw_gd := List.mem_filter.mpr ⟨List.mem_append_right _ (List.mem_of_getElem? (i := 101) (by decide +kernel)), by first | rfl | decide +kernel⟩
theorem wf_X3_136 : (Cond.fieldLink RX3 136 "TaskKernel$Mailbox" "count" "I") ∈ lw_gd := List.mem_filter.mpr ⟨List.mem_append_right _ (List.mem_of_getElem? (i := 102) (by decide +kernel)), by first | rfl | decide +kernel⟩
theorem wf_X3_39 : (Cond.fieldLink RX3 39 "TaskKernel" "tasks" "[LTaskKernel$Task;") ∈ lw_gd := List.mem_filter.mpr ⟨List.mem_append_right _ (List.mem_of_getElem? (i := 110) (by decide +kernel)), by first | rfl | decide +kernel⟩
theorem wf_X3_48 : (Cond.fieldLink RX3 48 "TaskKernel" "mailboxes" "[LTaskKernel$Mailbox;") ∈ lw_gd := List.mem_filter.mpr ⟨List.mem_append_right _ (List.mem_of_getElem? (i := 111) (by decide +kernel)), by first | rfl | decide +kernel⟩
theorem wf_X3_9 : (Cond.fieldLink RX3 9 "TaskKernel" "code" "[I") ∈ lw_gd := List.mem_filter.mpr ⟨List.mem_append_right _ (List.mem_of_getElem? (i := 112) (by decide +kernel)), by first | rfl | decide +kernel⟩
theorem wf_X3_13 : (Cond.fieldLink RX3 13 "TaskKernel" "cells" "[I") ∈ lw_gd := List.mem_filter.mpr ⟨List.mem_append_right _ (List.mem_of_getElem? (i := 113) (by decide +kernel)), by first | rfl | decide +kernel⟩
theorem wf_X3_16 : (Cond.fieldLink RX3 16 "TaskKernel" "outs" "[I") ∈ lw_gd := List.mem_filter.mpr ⟨List.mem_append_right _ (List.mem_of_getElem? (i := 114) (by decide +kernel)), by first | rfl | decide +kernel⟩
theorem wf_X3_19 : (Cond.fieldLink RX3 19 "TaskKernel" "outCount" "I") ∈ lw_gd := List.mem_filter.mpr ⟨List.mem_append_right _ (List.mem_of_getElem? (i := 115) (by decide +kernel)), by first | rfl | decide +kernel⟩
theorem wf_X3_23 : (Cond.fieldLink RX3 23 "TaskKernel" "now" "I") ∈ lw_gd := List.mem_filter.mpr ⟨List.mem_append_right _ (List.mem_of_getElem? (i := 116) (by decide +kernel)), by first | rfl | decide +kernel⟩
theorem wf_X3_26 : (Cond.fieldLink RX3 26 "TaskKernel" "tickets" "I") ∈ lw_gd := List.mem_filter.mpr ⟨List.mem_append_right _ (List.mem_of_getElem? (i := 117) (by decide +kernel)), by first | rfl | decide +kernel⟩
theorem wf_X3_29 : (Cond.fieldLink RX3 29 "TaskKernel" "spawned" "Z") ∈ lw_gd := List.mem_filter.mpr ⟨List.mem_append_right _ (List.mem_of_getElem? (i := 118) (by decide +kernel)), by first | rfl | decide +kernel⟩
theorem wl_L_21 : (Cond.methodLink RL 21 yX3_poke) ∈ lw_gd := List.mem_filter.mpr ⟨List.mem_append_right _ (List.mem_of_getElem? (i := 138) (by decide +kernel)), by first | rfl | decide +kernel⟩
theorem wi_X3_poke : (Cond.instanceMethod yX3_poke) ∈ lw_gd := List.mem_filter.mpr ⟨List.mem_append_right _ (List.mem_of_getElem? (i := 139) (by decide +kernel)), by first | rfl | decide +kernel⟩
theorem wse_X3_poke : (Cond.selects RX3 yX3_poke yX3_poke) ∈ lw_gd := List.mem_filter.mpr ⟨List.mem_append_right _ (List.mem_of_getElem? (i := 140) (by decide +kernel)), by first | rfl | decide +kernel⟩
theorem wc_X3_poke : (Cond.code yX3_poke cX3_poke 3 (some .boolean)) ∈ lw_gd := List.mem_filter.mpr ⟨List.mem_append_right _ (List.mem_of_getElem? (i := 141) (by decide +kernel)), by first | rfl | decide +kernel⟩
theorem wl_X3_55 : (Cond.methodLink RX3 55 yX3_isCodePlace) ∈ lw_gd := List.mem_filter.mpr ⟨List.mem_append_right _ (List.mem_of_getElem? (i := 142) (by decide +kernel)), by first | rfl | decide +kernel⟩
theorem wst_X3_isCodePlace : (Cond.static yX3_isCodePlace) ∈ lw_gd := List.mem_filter.mpr ⟨List.mem_append_right _ (List.mem_of_getElem? (i := 143) (by decide +kernel)), by first | rfl | decide +kernel⟩
theorem wc_X3_isCodePlace : (Cond.code yX3_isCodePlace cX3_isCodePlace 1 (some .boolean)) ∈ lw_gd := List.mem_filter.mpr ⟨List.mem_append_right _ (List.mem_of_getElem? (i := 144) (by decide +kernel)), by first | rfl | decide +kernel⟩
theorem wl_L_26 : (Cond.methodLink RL 26 yX3_spawn) ∈ lw_gd := List.mem_filter.mpr ⟨List.mem_append_right _ (List.mem_of_getElem? (i := 145) (by decide +kernel)), by first | rfl | decide +kernel⟩
theorem wi_X3_spawn : (Cond.instanceMethod yX3_spawn) ∈ lw_gd := List.mem_filter.mpr ⟨List.mem_append_right _ (List.mem_of_getElem? (i := 146) (by decide +kernel)), by first | rfl | decide +kernel⟩
theorem wse_X3_spawn : (Cond.selects RX3 yX3_spawn yX3_spawn) ∈ lw_gd := List.mem_filter.mpr ⟨List.mem_append_right _ (List.mem_of_getElem? (i := 147) (by decide +kernel)), by first | rfl | decide +kernel⟩
theorem wc_X3_spawn : (Cond.code yX3_spawn cX3_spawn 4 (some .int)) ∈ lw_gd := List.mem_filter.mpr ⟨List.mem_append_right _ (List.mem_of_getElem? (i := 148) (by decide +kernel)), by first | rfl | decide +kernel⟩
theorem wl_X3_59 : (Cond.methodLink RX3 59 yX3_beginLeastFree) ∈ lw_gd := List.mem_filter.mpr ⟨List.mem_append_right _ (List.mem_of_getElem? (i := 149) (by decide +kernel)), by first | rfl | decide +kernel⟩
theorem wi_X3_beginLeastFree : (Cond.instanceMethod yX3_beginLeastFree) ∈ lw_gd := List.mem_filter.mpr ⟨List.mem_append_right _ (List.mem_of_getElem? (i := 151) (by decide +kernel)), by first | rfl | decide +kernel⟩
theorem wc_X3_beginLeastFree : (Cond.code yX3_beginLeastFree cX3_beginLeastFree 4 (some .int)) ∈ lw_gd := List.mem_filter.mpr ⟨List.mem_append_right _ (List.mem_of_getElem? (i := 152) (by decide +kernel)), by first | rfl | decide +kernel⟩
theorem wl_X3_167 : (Cond.methodLink RX3 167 yX2_reset) ∈ lw_gd := List.mem_filter.mpr ⟨List.mem_append_right _ (List.mem_of_getElem? (i := 153) (by decide +kernel)), by first | rfl | decide +kernel⟩
theorem wi_X2_reset : (Cond.instanceMethod yX2_reset) ∈ lw_gd := List.mem_filter.mpr ⟨List.mem_append_right _ (List.mem_of_getElem? (i := 154) (by decide +kernel)), by first | rfl | decide +kernel⟩
theorem wse_X2_reset : (Cond.selects RX2 yX2_reset yX2_reset) ∈ lw_gd := List.mem_filter.mpr ⟨List.mem_append_right _ (List.mem_of_getElem? (i := 155) (by decide +kernel)), by first | rfl | decide +kernel⟩
theorem wc_X2_reset : (Cond.code yX2_reset cX2_reset 3 none) ∈ lw_gd := List.mem_filter.mpr ⟨List.mem_append_right _ (List.mem_of_getElem? (i := 156) (by decide +kernel)), by first | rfl | decide +kernel⟩
theorem wl_X3_92 : (Cond.methodLink RX3 92 yX3_enter) ∈ lw_gd := List.mem_filter.mpr ⟨List.mem_append_right _ (List.mem_of_getElem? (i := 157) (by decide +kernel)), by first | rfl | decide +kernel⟩
theorem wi_X3_enter : (Cond.instanceMethod yX3_enter) ∈ lw_gd := List.mem_filter.mpr ⟨List.mem_append_right _ (List.mem_of_getElem? (i := 159) (by decide +kernel)), by first | rfl | decide +kernel⟩
theorem wc_X3_enter : (Cond.code yX3_enter cX3_enter 3 none) ∈ lw_gd := List.mem_filter.mpr ⟨List.mem_append_right _ (List.mem_of_getElem? (i := 160) (by decide +kernel)), by first | rfl | decide +kernel⟩
theorem wl_L_31 : (Cond.methodLink RL 31 yX3_step) ∈ lw_gd := List.mem_filter.mpr ⟨List.mem_append_right _ (List.mem_of_getElem? (i := 161) (by decide +kernel)), by first | rfl | decide +kernel⟩
theorem wi_X3_step : (Cond.instanceMethod yX3_step) ∈ lw_gd := List.mem_filter.mpr ⟨List.mem_append_right _ (List.mem_of_getElem? (i := 162) (by decide +kernel)), by first | rfl | decide +kernel⟩
theorem wse_X3_step : (Cond.selects RX3 yX3_step yX3_step) ∈ lw_gd := List.mem_filter.mpr ⟨List.mem_append_right _ (List.mem_of_getElem? (i := 163) (by decide +kernel)), by first | rfl | decide +kernel⟩
theorem wc_X3_step : (Cond.code yX3_step cX3_step 4 (some .int)) ∈ lw_gd := List.mem_filter.mpr ⟨List.mem_append_right _ (List.mem_of_getElem? (i := 164) (by decide +kernel)), by first | rfl | decide +kernel⟩
theorem wl_X3_63 : (Cond.methodLink RX3 63 yX3_next) ∈ lw_gd := List.mem_filter.mpr ⟨List.mem_append_right _ (List.mem_of_getElem? (i := 165) (by decide +kernel)), by first | rfl | decide +kernel⟩
theorem wi_X3_next : (Cond.instanceMethod yX3_next) ∈ lw_gd := List.mem_filter.mpr ⟨List.mem_append_right _ (List.mem_of_getElem? (i := 166) (by decide +kernel)), by first | rfl | decide +kernel⟩
theorem wse_X3_next : (Cond.selects RX3 yX3_next yX3_next) ∈ lw_gd := List.mem_filter.mpr ⟨List.mem_append_right _ (List.mem_of_getElem? (i := 167) (by decide +kernel)), by first | rfl | decide +kernel⟩
theorem wc_X3_next : (Cond.code yX3_next cX3_next 3 (some .int)) ∈ lw_gd := List.mem_filter.mpr ⟨List.mem_append_right _ (List.mem_of_getElem? (i := 168) (by decide +kernel)), by first | rfl | decide +kernel⟩
theorem wl_X3_129 : (Cond.methodLink RX3 129 yX2_goesBefore) ∈ lw_gd := List.mem_filter.mpr ⟨List.mem_append_right _ (List.mem_of_getElem? (i := 169) (by decide +kernel)), by first | rfl | decide +kernel⟩
theorem wi_X2_goesBefore : (Cond.instanceMethod yX2_goesBefore) ∈ lw_gd := List.mem_filter.mpr ⟨List.mem_append_right _ (List.mem_of_getElem? (i := 170) (by decide +kernel)), by first | rfl | decide +kernel⟩
theorem wse_X2_goesBefore : (Cond.selects RX2 yX2_goesBefore yX2_goesBefore) ∈ lw_gd := List.mem_filter.mpr ⟨List.mem_append_right _ (List.mem_of_getElem? (i := 171) (by decide +kernel)), by first | rfl | decide +kernel⟩
theorem wc_X2_goesBefore : (Cond.code yX2_goesBefore cX2_goesBefore 2 (some .boolean)) ∈ lw_gd := List.mem_filter.mpr ⟨List.mem_append_right _ (List.mem_of_getElem? (i := 172) (by decide +kernel)), by first | rfl | decide +kernel⟩
theorem wl_X3_67 : (Cond.methodLink RX3 67 yX3_runWord) ∈ lw_gd := List.mem_filter.mpr ⟨List.mem_append_right _ (List.mem_of_getElem? (i := 173) (by decide +kernel)), by first | rfl | decide +kernel⟩
theorem wi_X3_runWord : (Cond.instanceMethod yX3_runWord) ∈ lw_gd := List.mem_filter.mpr ⟨List.mem_append_right _ (List.mem_of_getElem? (i := 175) (by decide +kernel)), by first | rfl | decide +kernel⟩
theorem wc_X3_runWord : (Cond.code yX3_runWord cX3_runWord 5 (some .int)) ∈ lw_gd := List.mem_filter.mpr ⟨List.mem_append_right _ (List.mem_of_getElem? (i := 176) (by decide +kernel)), by first | rfl | decide +kernel⟩
theorem wl_X3_170 : (Cond.methodLink RX3 170 yX3_runOnNumbers) ∈ lw_gd := List.mem_filter.mpr ⟨List.mem_append_right _ (List.mem_of_getElem? (i := 177) (by decide +kernel)), by first | rfl | decide +kernel⟩
theorem wi_X3_runOnNumbers : (Cond.instanceMethod yX3_runOnNumbers) ∈ lw_gd := List.mem_filter.mpr ⟨List.mem_append_right _ (List.mem_of_getElem? (i := 179) (by decide +kernel)), by first | rfl | decide +kernel⟩
theorem wc_X3_runOnNumbers : (Cond.code yX3_runOnNumbers cX3_runOnNumbers 4 (some .int)) ∈ lw_gd := List.mem_filter.mpr ⟨List.mem_append_right _ (List.mem_of_getElem? (i := 180) (by decide +kernel)), by first | rfl | decide +kernel⟩
theorem wl_X3_78 : (Cond.methodLink RX3 78 yX3_end) ∈ lw_gd := List.mem_filter.mpr ⟨List.mem_append_right _ (List.mem_of_getElem? (i := 181) (by decide +kernel)), by first | rfl | decide +kernel⟩
theorem wst_X3_end : (Cond.static yX3_end) ∈ lw_gd := List.mem_filter.mpr ⟨List.mem_append_right _ (List.mem_of_getElem? (i := 182) (by decide +kernel)), by first | rfl | decide +kernel⟩
theorem wc_X3_end : (Cond.code yX3_end cX3_end 2 none) ∈ lw_gd := List.mem_filter.mpr ⟨List.mem_append_right _ (List.mem_of_getElem? (i := 183) (by decide +kernel)), by first | rfl | decide +kernel⟩
theorem wl_X3_180 : (Cond.methodLink RX3 180 yX2_put) ∈ lw_gd := List.mem_filter.mpr ⟨List.mem_append_right _ (List.mem_of_getElem? (i := 184) (by decide +kernel)), by first | rfl | decide +kernel⟩
theorem wi_X2_put : (Cond.instanceMethod yX2_put) ∈ lw_gd := List.mem_filter.mpr ⟨List.mem_append_right _ (List.mem_of_getElem? (i := 185) (by decide +kernel)), by first | rfl | decide +kernel⟩
theorem wse_X2_put : (Cond.selects RX2 yX2_put yX2_put) ∈ lw_gd := List.mem_filter.mpr ⟨List.mem_append_right _ (List.mem_of_getElem? (i := 186) (by decide +kernel)), by first | rfl | decide +kernel⟩
theorem wc_X2_put : (Cond.code yX2_put cX2_put 2 (some .int)) ∈ lw_gd := List.mem_filter.mpr ⟨List.mem_append_right _ (List.mem_of_getElem? (i := 187) (by decide +kernel)), by first | rfl | decide +kernel⟩
theorem wl_X2_54 : (Cond.methodLink RX2 54 yX1_push) ∈ lw_gd := List.mem_filter.mpr ⟨List.mem_append_right _ (List.mem_of_getElem? (i := 188) (by decide +kernel)), by first | rfl | decide +kernel⟩
theorem wi_X1_push : (Cond.instanceMethod yX1_push) ∈ lw_gd := List.mem_filter.mpr ⟨List.mem_append_right _ (List.mem_of_getElem? (i := 189) (by decide +kernel)), by first | rfl | decide +kernel⟩
theorem wse_X1_push : (Cond.selects RX1 yX1_push yX1_push) ∈ lw_gd := List.mem_filter.mpr ⟨List.mem_append_right _ (List.mem_of_getElem? (i := 190) (by decide +kernel)), by first | rfl | decide +kernel⟩
theorem wc_X1_push : (Cond.code yX1_push cX1_push 2 (some .boolean)) ∈ lw_gd := List.mem_filter.mpr ⟨List.mem_append_right _ (List.mem_of_getElem? (i := 191) (by decide +kernel)), by first | rfl | decide +kernel⟩
theorem wl_X3_183 : (Cond.methodLink RX3 183 yX3_copyTop) ∈ lw_gd := List.mem_filter.mpr ⟨List.mem_append_right _ (List.mem_of_getElem? (i := 192) (by decide +kernel)), by first | rfl | decide +kernel⟩
theorem wi_X3_copyTop : (Cond.instanceMethod yX3_copyTop) ∈ lw_gd := List.mem_filter.mpr ⟨List.mem_append_right _ (List.mem_of_getElem? (i := 194) (by decide +kernel)), by first | rfl | decide +kernel⟩
theorem wc_X3_copyTop : (Cond.code yX3_copyTop cX3_copyTop 2 (some .int)) ∈ lw_gd := List.mem_filter.mpr ⟨List.mem_append_right _ (List.mem_of_getElem? (i := 195) (by decide +kernel)), by first | rfl | decide +kernel⟩
theorem wl_X3_126 : (Cond.methodLink RX3 126 yX1_fromTop) ∈ lw_gd := List.mem_filter.mpr ⟨List.mem_append_right _ (List.mem_of_getElem? (i := 196) (by decide +kernel)), by first | rfl | decide +kernel⟩
theorem wi_X1_fromTop : (Cond.instanceMethod yX1_fromTop) ∈ lw_gd := List.mem_filter.mpr ⟨List.mem_append_right _ (List.mem_of_getElem? (i := 197) (by decide +kernel)), by first | rfl | decide +kernel⟩
theorem wse_X1_fromTop : (Cond.selects RX1 yX1_fromTop yX1_fromTop) ∈ lw_gd := List.mem_filter.mpr ⟨List.mem_append_right _ (List.mem_of_getElem? (i := 198) (by decide +kernel)), by first | rfl | decide +kernel⟩
theorem wc_X1_fromTop : (Cond.code yX1_fromTop cX1_fromTop 2 (some .int)) ∈ lw_gd := List.mem_filter.mpr ⟨List.mem_append_right _ (List.mem_of_getElem? (i := 199) (by decide +kernel)), by first | rfl | decide +kernel⟩
theorem wv_X1_19 : (Cond.constant RX1 19 (-2147483648)) ∈ lw_gd := List.mem_filter.mpr ⟨List.mem_append_right _ (List.mem_of_getElem? (i := 200) (by decide +kernel)), by first | rfl | decide +kernel⟩
theorem wl_X3_186 : (Cond.methodLink RX3 186 yX3_drop) ∈ lw_gd := List.mem_filter.mpr ⟨List.mem_append_right _ (List.mem_of_getElem? (i := 201) (by decide +kernel)), by first | rfl | decide +kernel⟩
theorem wi_X3_drop : (Cond.instanceMethod yX3_drop) ∈ lw_gd := List.mem_filter.mpr ⟨List.mem_append_right _ (List.mem_of_getElem? (i := 203) (by decide +kernel)), by first | rfl | decide +kernel⟩
theorem wc_X3_drop : (Cond.code yX3_drop cX3_drop 2 (some .int)) ∈ lw_gd := List.mem_filter.mpr ⟨List.mem_append_right _ (List.mem_of_getElem? (i := 204) (by decide +kernel)), by first | rfl | decide +kernel⟩
theorem wl_X3_235 : (Cond.methodLink RX3 235 yX1_pop) ∈ lw_gd := List.mem_filter.mpr ⟨List.mem_append_right _ (List.mem_of_getElem? (i := 205) (by decide +kernel)), by first | rfl | decide +kernel⟩
theorem wi_X1_pop : (Cond.instanceMethod yX1_pop) ∈ lw_gd := List.mem_filter.mpr ⟨List.mem_append_right _ (List.mem_of_getElem? (i := 206) (by decide +kernel)), by first | rfl | decide +kernel⟩
theorem wse_X1_pop : (Cond.selects RX1 yX1_pop yX1_pop) ∈ lw_gd := List.mem_filter.mpr ⟨List.mem_append_right _ (List.mem_of_getElem? (i := 207) (by decide +kernel)), by first | rfl | decide +kernel⟩
theorem wc_X1_pop : (Cond.code yX1_pop cX1_pop 1 (some .int)) ∈ lw_gd := List.mem_filter.mpr ⟨List.mem_append_right _ (List.mem_of_getElem? (i := 208) (by decide +kernel)), by first | rfl | decide +kernel⟩
theorem wl_X3_189 : (Cond.methodLink RX3 189 yX3_swap) ∈ lw_gd := List.mem_filter.mpr ⟨List.mem_append_right _ (List.mem_of_getElem? (i := 209) (by decide +kernel)), by first | rfl | decide +kernel⟩
theorem wi_X3_swap : (Cond.instanceMethod yX3_swap) ∈ lw_gd := List.mem_filter.mpr ⟨List.mem_append_right _ (List.mem_of_getElem? (i := 211) (by decide +kernel)), by first | rfl | decide +kernel⟩
theorem wc_X3_swap : (Cond.code yX3_swap cX3_swap 4 (some .int)) ∈ lw_gd := List.mem_filter.mpr ⟨List.mem_append_right _ (List.mem_of_getElem? (i := 212) (by decide +kernel)), by first | rfl | decide +kernel⟩
theorem wl_X3_238 : (Cond.methodLink RX3 238 yX1_push) ∈ lw_gd := List.mem_filter.mpr ⟨List.mem_append_right _ (List.mem_of_getElem? (i := 213) (by decide +kernel)), by first | rfl | decide +kernel⟩
theorem wl_X3_192 : (Cond.methodLink RX3 192 yX3_load) ∈ lw_gd := List.mem_filter.mpr ⟨List.mem_append_right _ (List.mem_of_getElem? (i := 214) (by decide +kernel)), by first | rfl | decide +kernel⟩
theorem wi_X3_load : (Cond.instanceMethod yX3_load) ∈ lw_gd := List.mem_filter.mpr ⟨List.mem_append_right _ (List.mem_of_getElem? (i := 216) (by decide +kernel)), by first | rfl | decide +kernel⟩
theorem wc_X3_load : (Cond.code yX3_load cX3_load 3 (some .int)) ∈ lw_gd := List.mem_filter.mpr ⟨List.mem_append_right _ (List.mem_of_getElem? (i := 217) (by decide +kernel)), by first | rfl | decide +kernel⟩
theorem wl_X3_147 : (Cond.methodLink RX3 147 yX3_isCell) ∈ lw_gd := List.mem_filter.mpr ⟨List.mem_append_right _ (List.mem_of_getElem? (i := 218) (by decide +kernel)), by first | rfl | decide +kernel⟩
theorem wst_X3_isCell : (Cond.static yX3_isCell) ∈ lw_gd := List.mem_filter.mpr ⟨List.mem_append_right _ (List.mem_of_getElem? (i := 219) (by decide +kernel)), by first | rfl | decide +kernel⟩
theorem wc_X3_isCell : (Cond.code yX3_isCell cX3_isCell 1 (some .boolean)) ∈ lw_gd := List.mem_filter.mpr ⟨List.mem_append_right _ (List.mem_of_getElem? (i := 220) (by decide +kernel)), by first | rfl | decide +kernel⟩
theorem wl_X3_195 : (Cond.methodLink RX3 195 yX3_store) ∈ lw_gd := List.mem_filter.mpr ⟨List.mem_append_right _ (List.mem_of_getElem? (i := 221) (by decide +kernel)), by first | rfl | decide +kernel⟩
theorem wi_X3_store : (Cond.instanceMethod yX3_store) ∈ lw_gd := List.mem_filter.mpr ⟨List.mem_append_right _ (List.mem_of_getElem? (i := 223) (by decide +kernel)), by first | rfl | decide +kernel⟩
theorem wc_X3_store : (Cond.code yX3_store cX3_store 3 (some .int)) ∈ lw_gd := List.mem_filter.mpr ⟨List.mem_append_right _ (List.mem_of_getElem? (i := 224) (by decide +kernel)), by first | rfl | decide +kernel⟩
theorem wl_X3_198 : (Cond.methodLink RX3 198 yX3_compute) ∈ lw_gd := List.mem_filter.mpr ⟨List.mem_append_right _ (List.mem_of_getElem? (i := 225) (by decide +kernel)), by first | rfl | decide +kernel⟩
theorem wi_X3_compute : (Cond.instanceMethod yX3_compute) ∈ lw_gd := List.mem_filter.mpr ⟨List.mem_append_right _ (List.mem_of_getElem? (i := 227) (by decide +kernel)), by first | rfl | decide +kernel⟩
theorem wc_X3_compute : (Cond.code yX3_compute cX3_compute 5 (some .int)) ∈ lw_gd := List.mem_filter.mpr ⟨List.mem_append_right _ (List.mem_of_getElem? (i := 228) (by decide +kernel)), by first | rfl | decide +kernel⟩
theorem wl_X3_174 : (Cond.methodLink RX3 174 yX3_runOnItself) ∈ lw_gd := List.mem_filter.mpr ⟨List.mem_append_right _ (List.mem_of_getElem? (i := 229) (by decide +kernel)), by first | rfl | decide +kernel⟩
theorem wi_X3_runOnItself : (Cond.instanceMethod yX3_runOnItself) ∈ lw_gd := List.mem_filter.mpr ⟨List.mem_append_right _ (List.mem_of_getElem? (i := 231) (by decide +kernel)), by first | rfl | decide +kernel⟩
theorem wc_X3_runOnItself : (Cond.code yX3_runOnItself cX3_runOnItself 4 (some .int)) ∈ lw_gd := List.mem_filter.mpr ⟨List.mem_append_right _ (List.mem_of_getElem? (i := 232) (by decide +kernel)), by first | rfl | decide +kernel⟩
theorem wl_X3_202 : (Cond.methodLink RX3 202 yX3_jump) ∈ lw_gd := List.mem_filter.mpr ⟨List.mem_append_right _ (List.mem_of_getElem? (i := 233) (by decide +kernel)), by first | rfl | decide +kernel⟩
theorem wi_X3_jump : (Cond.instanceMethod yX3_jump) ∈ lw_gd := List.mem_filter.mpr ⟨List.mem_append_right _ (List.mem_of_getElem? (i := 235) (by decide +kernel)), by first | rfl | decide +kernel⟩
theorem wc_X3_jump : (Cond.code yX3_jump cX3_jump 3 (some .int)) ∈ lw_gd := List.mem_filter.mpr ⟨List.mem_append_right _ (List.mem_of_getElem? (i := 236) (by decide +kernel)), by first | rfl | decide +kernel⟩
theorem wl_X3_205 : (Cond.methodLink RX3 205 yX3_jumpIfZero) ∈ lw_gd := List.mem_filter.mpr ⟨List.mem_append_right _ (List.mem_of_getElem? (i := 237) (by decide +kernel)), by first | rfl | decide +kernel⟩
theorem wi_X3_jumpIfZero : (Cond.instanceMethod yX3_jumpIfZero) ∈ lw_gd := List.mem_filter.mpr ⟨List.mem_append_right _ (List.mem_of_getElem? (i := 239) (by decide +kernel)), by first | rfl | decide +kernel⟩
theorem wc_X3_jumpIfZero : (Cond.code yX3_jumpIfZero cX3_jumpIfZero 3 (some .int)) ∈ lw_gd := List.mem_filter.mpr ⟨List.mem_append_right _ (List.mem_of_getElem? (i := 240) (by decide +kernel)), by first | rfl | decide +kernel⟩
theorem wl_X3_208 : (Cond.methodLink RX3 208 yX3_callPlace) ∈ lw_gd := List.mem_filter.mpr ⟨List.mem_append_right _ (List.mem_of_getElem? (i := 241) (by decide +kernel)), by first | rfl | decide +kernel⟩
theorem wi_X3_callPlace : (Cond.instanceMethod yX3_callPlace) ∈ lw_gd := List.mem_filter.mpr ⟨List.mem_append_right _ (List.mem_of_getElem? (i := 243) (by decide +kernel)), by first | rfl | decide +kernel⟩
theorem wc_X3_callPlace : (Cond.code yX3_callPlace cX3_callPlace 3 (some .int)) ∈ lw_gd := List.mem_filter.mpr ⟨List.mem_append_right _ (List.mem_of_getElem? (i := 244) (by decide +kernel)), by first | rfl | decide +kernel⟩
theorem wl_X3_211 : (Cond.methodLink RX3 211 yX3_goBack) ∈ lw_gd := List.mem_filter.mpr ⟨List.mem_append_right _ (List.mem_of_getElem? (i := 245) (by decide +kernel)), by first | rfl | decide +kernel⟩
theorem wi_X3_goBack : (Cond.instanceMethod yX3_goBack) ∈ lw_gd := List.mem_filter.mpr ⟨List.mem_append_right _ (List.mem_of_getElem? (i := 247) (by decide +kernel)), by first | rfl | decide +kernel⟩
theorem wc_X3_goBack : (Cond.code yX3_goBack cX3_goBack 2 (some .int)) ∈ lw_gd := List.mem_filter.mpr ⟨List.mem_append_right _ (List.mem_of_getElem? (i := 248) (by decide +kernel)), by first | rfl | decide +kernel⟩
theorem wl_X3_214 : (Cond.methodLink RX3 214 yX3_emit) ∈ lw_gd := List.mem_filter.mpr ⟨List.mem_append_right _ (List.mem_of_getElem? (i := 249) (by decide +kernel)), by first | rfl | decide +kernel⟩
theorem wi_X3_emit : (Cond.instanceMethod yX3_emit) ∈ lw_gd := List.mem_filter.mpr ⟨List.mem_append_right _ (List.mem_of_getElem? (i := 251) (by decide +kernel)), by first | rfl | decide +kernel⟩
theorem wc_X3_emit : (Cond.code yX3_emit cX3_emit 2 (some .int)) ∈ lw_gd := List.mem_filter.mpr ⟨List.mem_append_right _ (List.mem_of_getElem? (i := 252) (by decide +kernel)), by first | rfl | decide +kernel⟩
theorem wl_X3_150 : (Cond.methodLink RX3 150 yX3_outSlot) ∈ lw_gd := List.mem_filter.mpr ⟨List.mem_append_right _ (List.mem_of_getElem? (i := 253) (by decide +kernel)), by first | rfl | decide +kernel⟩
theorem wst_X3_outSlot : (Cond.static yX3_outSlot) ∈ lw_gd := List.mem_filter.mpr ⟨List.mem_append_right _ (List.mem_of_getElem? (i := 254) (by decide +kernel)), by first | rfl | decide +kernel⟩
theorem wc_X3_outSlot : (Cond.code yX3_outSlot cX3_outSlot 1 (some .int)) ∈ lw_gd := List.mem_filter.mpr ⟨List.mem_append_right _ (List.mem_of_getElem? (i := 255) (by decide +kernel)), by first | rfl | decide +kernel⟩
theorem wl_X3_177 : (Cond.methodLink RX3 177 yX3_runWithOthers) ∈ lw_gd := List.mem_filter.mpr ⟨List.mem_append_right _ (List.mem_of_getElem? (i := 256) (by decide +kernel)), by first | rfl | decide +kernel⟩
theorem wi_X3_runWithOthers : (Cond.instanceMethod yX3_runWithOthers) ∈ lw_gd := List.mem_filter.mpr ⟨List.mem_append_right _ (List.mem_of_getElem? (i := 258) (by decide +kernel)), by first | rfl | decide +kernel⟩
theorem wc_X3_runWithOthers : (Cond.code yX3_runWithOthers cX3_runWithOthers 4 (some .int)) ∈ lw_gd := List.mem_filter.mpr ⟨List.mem_append_right _ (List.mem_of_getElem? (i := 259) (by decide +kernel)), by first | rfl | decide +kernel⟩
theorem wl_X3_217 : (Cond.methodLink RX3 217 yX3_beginOther) ∈ lw_gd := List.mem_filter.mpr ⟨List.mem_append_right _ (List.mem_of_getElem? (i := 260) (by decide +kernel)), by first | rfl | decide +kernel⟩
theorem wi_X3_beginOther : (Cond.instanceMethod yX3_beginOther) ∈ lw_gd := List.mem_filter.mpr ⟨List.mem_append_right _ (List.mem_of_getElem? (i := 262) (by decide +kernel)), by first | rfl | decide +kernel⟩
theorem wc_X3_beginOther : (Cond.code yX3_beginOther cX3_beginOther 4 (some .int)) ∈ lw_gd := List.mem_filter.mpr ⟨List.mem_append_right _ (List.mem_of_getElem? (i := 263) (by decide +kernel)), by first | rfl | decide +kernel⟩
theorem wl_X3_220 : (Cond.methodLink RX3 220 yX3_sleep) ∈ lw_gd := List.mem_filter.mpr ⟨List.mem_append_right _ (List.mem_of_getElem? (i := 264) (by decide +kernel)), by first | rfl | decide +kernel⟩
theorem wi_X3_sleep : (Cond.instanceMethod yX3_sleep) ∈ lw_gd := List.mem_filter.mpr ⟨List.mem_append_right _ (List.mem_of_getElem? (i := 266) (by decide +kernel)), by first | rfl | decide +kernel⟩
theorem wc_X3_sleep : (Cond.code yX3_sleep cX3_sleep 3 (some .int)) ∈ lw_gd := List.mem_filter.mpr ⟨List.mem_append_right _ (List.mem_of_getElem? (i := 267) (by decide +kernel)), by first | rfl | decide +kernel⟩
theorem wl_X3_223 : (Cond.methodLink RX3 223 yX3_send) ∈ lw_gd := List.mem_filter.mpr ⟨List.mem_append_right _ (List.mem_of_getElem? (i := 268) (by decide +kernel)), by first | rfl | decide +kernel⟩
theorem wi_X3_send : (Cond.instanceMethod yX3_send) ∈ lw_gd := List.mem_filter.mpr ⟨List.mem_append_right _ (List.mem_of_getElem? (i := 270) (by decide +kernel)), by first | rfl | decide +kernel⟩
theorem wc_X3_send : (Cond.code yX3_send cX3_send 5 (some .int)) ∈ lw_gd := List.mem_filter.mpr ⟨List.mem_append_right _ (List.mem_of_getElem? (i := 271) (by decide +kernel)), by first | rfl | decide +kernel⟩
theorem wl_X3_133 : (Cond.methodLink RX3 133 yX3_isQueue) ∈ lw_gd := List.mem_filter.mpr ⟨List.mem_append_right _ (List.mem_of_getElem? (i := 272) (by decide +kernel)), by first | rfl | decide +kernel⟩
theorem wi_X3_isQueue : (Cond.instanceMethod yX3_isQueue) ∈ lw_gd := List.mem_filter.mpr ⟨List.mem_append_right _ (List.mem_of_getElem? (i := 274) (by decide +kernel)), by first | rfl | decide +kernel⟩
theorem wc_X3_isQueue : (Cond.code yX3_isQueue cX3_isQueue 2 (some .boolean)) ∈ lw_gd := List.mem_filter.mpr ⟨List.mem_append_right _ (List.mem_of_getElem? (i := 275) (by decide +kernel)), by first | rfl | decide +kernel⟩
theorem wl_X3_241 : (Cond.methodLink RX3 241 yX3_firstWaiting) ∈ lw_gd := List.mem_filter.mpr ⟨List.mem_append_right _ (List.mem_of_getElem? (i := 276) (by decide +kernel)), by first | rfl | decide +kernel⟩
theorem wi_X3_firstWaiting : (Cond.instanceMethod yX3_firstWaiting) ∈ lw_gd := List.mem_filter.mpr ⟨List.mem_append_right _ (List.mem_of_getElem? (i := 278) (by decide +kernel)), by first | rfl | decide +kernel⟩
theorem wc_X3_firstWaiting : (Cond.code yX3_firstWaiting cX3_firstWaiting 6 (some (.object "TaskKernel$Task"))) ∈ lw_gd := List.mem_filter.mpr ⟨List.mem_append_right _ (List.mem_of_getElem? (i := 279) (by decide +kernel)), by first | rfl | decide +kernel⟩
theorem wl_X3_140 : (Cond.methodLink RX3 140 yX2_isWaiting) ∈ lw_gd := List.mem_filter.mpr ⟨List.mem_append_right _ (List.mem_of_getElem? (i := 280) (by decide +kernel)), by first | rfl | decide +kernel⟩
theorem wi_X2_isWaiting : (Cond.instanceMethod yX2_isWaiting) ∈ lw_gd := List.mem_filter.mpr ⟨List.mem_append_right _ (List.mem_of_getElem? (i := 281) (by decide +kernel)), by first | rfl | decide +kernel⟩
theorem wse_X2_isWaiting : (Cond.selects RX2 yX2_isWaiting yX2_isWaiting) ∈ lw_gd := List.mem_filter.mpr ⟨List.mem_append_right _ (List.mem_of_getElem? (i := 282) (by decide +kernel)), by first | rfl | decide +kernel⟩
theorem wc_X2_isWaiting : (Cond.code yX2_isWaiting cX2_isWaiting 3 (some .boolean)) ∈ lw_gd := List.mem_filter.mpr ⟨List.mem_append_right _ (List.mem_of_getElem? (i := 283) (by decide +kernel)), by first | rfl | decide +kernel⟩
theorem wl_X3_245 : (Cond.methodLink RX3 245 yX0_addLast) ∈ lw_gd := List.mem_filter.mpr ⟨List.mem_append_right _ (List.mem_of_getElem? (i := 284) (by decide +kernel)), by first | rfl | decide +kernel⟩
theorem wi_X0_addLast : (Cond.instanceMethod yX0_addLast) ∈ lw_gd := List.mem_filter.mpr ⟨List.mem_append_right _ (List.mem_of_getElem? (i := 285) (by decide +kernel)), by first | rfl | decide +kernel⟩
theorem wse_X0_addLast : (Cond.selects RX0 yX0_addLast yX0_addLast) ∈ lw_gd := List.mem_filter.mpr ⟨List.mem_append_right _ (List.mem_of_getElem? (i := 286) (by decide +kernel)), by first | rfl | decide +kernel⟩
theorem wc_X0_addLast : (Cond.code yX0_addLast cX0_addLast 2 (some .boolean)) ∈ lw_gd := List.mem_filter.mpr ⟨List.mem_append_right _ (List.mem_of_getElem? (i := 287) (by decide +kernel)), by first | rfl | decide +kernel⟩
theorem wl_X0_22 : (Cond.methodLink RX0 22 yX0_slot) ∈ lw_gd := List.mem_filter.mpr ⟨List.mem_append_right _ (List.mem_of_getElem? (i := 288) (by decide +kernel)), by first | rfl | decide +kernel⟩
theorem wi_X0_slot : (Cond.instanceMethod yX0_slot) ∈ lw_gd := List.mem_filter.mpr ⟨List.mem_append_right _ (List.mem_of_getElem? (i := 290) (by decide +kernel)), by first | rfl | decide +kernel⟩
theorem wc_X0_slot : (Cond.code yX0_slot cX0_slot 3 (some .int)) ∈ lw_gd := List.mem_filter.mpr ⟨List.mem_append_right _ (List.mem_of_getElem? (i := 291) (by decide +kernel)), by first | rfl | decide +kernel⟩
theorem wl_X3_248 : (Cond.methodLink RX3 248 yX3_waitAt) ∈ lw_gd := List.mem_filter.mpr ⟨List.mem_append_right _ (List.mem_of_getElem? (i := 292) (by decide +kernel)), by first | rfl | decide +kernel⟩
theorem wi_X3_waitAt : (Cond.instanceMethod yX3_waitAt) ∈ lw_gd := List.mem_filter.mpr ⟨List.mem_append_right _ (List.mem_of_getElem? (i := 294) (by decide +kernel)), by first | rfl | decide +kernel⟩
theorem wc_X3_waitAt : (Cond.code yX3_waitAt cX3_waitAt 4 none) ∈ lw_gd := List.mem_filter.mpr ⟨List.mem_append_right _ (List.mem_of_getElem? (i := 295) (by decide +kernel)), by first | rfl | decide +kernel⟩
theorem wl_X3_226 : (Cond.methodLink RX3 226 yX3_receive) ∈ lw_gd := List.mem_filter.mpr ⟨List.mem_append_right _ (List.mem_of_getElem? (i := 296) (by decide +kernel)), by first | rfl | decide +kernel⟩
theorem wi_X3_receive : (Cond.instanceMethod yX3_receive) ∈ lw_gd := List.mem_filter.mpr ⟨List.mem_append_right _ (List.mem_of_getElem? (i := 298) (by decide +kernel)), by first | rfl | decide +kernel⟩
theorem wc_X3_receive : (Cond.code yX3_receive cX3_receive 5 (some .int)) ∈ lw_gd := List.mem_filter.mpr ⟨List.mem_append_right _ (List.mem_of_getElem? (i := 299) (by decide +kernel)), by first | rfl | decide +kernel⟩
theorem wl_X3_255 : (Cond.methodLink RX3 255 yX1_isFull) ∈ lw_gd := List.mem_filter.mpr ⟨List.mem_append_right _ (List.mem_of_getElem? (i := 300) (by decide +kernel)), by first | rfl | decide +kernel⟩
theorem wi_X1_isFull : (Cond.instanceMethod yX1_isFull) ∈ lw_gd := List.mem_filter.mpr ⟨List.mem_append_right _ (List.mem_of_getElem? (i := 301) (by decide +kernel)), by first | rfl | decide +kernel⟩
theorem wse_X1_isFull : (Cond.selects RX1 yX1_isFull yX1_isFull) ∈ lw_gd := List.mem_filter.mpr ⟨List.mem_append_right _ (List.mem_of_getElem? (i := 302) (by decide +kernel)), by first | rfl | decide +kernel⟩
theorem wc_X1_isFull : (Cond.code yX1_isFull cX1_isFull 1 (some .boolean)) ∈ lw_gd := List.mem_filter.mpr ⟨List.mem_append_right _ (List.mem_of_getElem? (i := 303) (by decide +kernel)), by first | rfl | decide +kernel⟩
theorem wl_X3_259 : (Cond.methodLink RX3 259 yX0_removeFirst) ∈ lw_gd := List.mem_filter.mpr ⟨List.mem_append_right _ (List.mem_of_getElem? (i := 304) (by decide +kernel)), by first | rfl | decide +kernel⟩
theorem wi_X0_removeFirst : (Cond.instanceMethod yX0_removeFirst) ∈ lw_gd := List.mem_filter.mpr ⟨List.mem_append_right _ (List.mem_of_getElem? (i := 305) (by decide +kernel)), by first | rfl | decide +kernel⟩
theorem wse_X0_removeFirst : (Cond.selects RX0 yX0_removeFirst yX0_removeFirst) ∈ lw_gd := List.mem_filter.mpr ⟨List.mem_append_right _ (List.mem_of_getElem? (i := 306) (by decide +kernel)), by first | rfl | decide +kernel⟩
theorem wc_X0_removeFirst : (Cond.code yX0_removeFirst cX0_removeFirst 2 (some .int)) ∈ lw_gd := List.mem_filter.mpr ⟨List.mem_append_right _ (List.mem_of_getElem? (i := 307) (by decide +kernel)), by first | rfl | decide +kernel⟩
theorem wl_X3_232 : (Cond.methodLink RX3 232 yX3_killOther) ∈ lw_gd := List.mem_filter.mpr ⟨List.mem_append_right _ (List.mem_of_getElem? (i := 308) (by decide +kernel)), by first | rfl | decide +kernel⟩
theorem wi_X3_killOther : (Cond.instanceMethod yX3_killOther) ∈ lw_gd := List.mem_filter.mpr ⟨List.mem_append_right _ (List.mem_of_getElem? (i := 310) (by decide +kernel)), by first | rfl | decide +kernel⟩
theorem wc_X3_killOther : (Cond.code yX3_killOther cX3_killOther 3 (some .int)) ∈ lw_gd := List.mem_filter.mpr ⟨List.mem_append_right _ (List.mem_of_getElem? (i := 311) (by decide +kernel)), by first | rfl | decide +kernel⟩
theorem wl_X3_95 : (Cond.methodLink RX3 95 yX3_isLive) ∈ lw_gd := List.mem_filter.mpr ⟨List.mem_append_right _ (List.mem_of_getElem? (i := 312) (by decide +kernel)), by first | rfl | decide +kernel⟩
theorem wi_X3_isLive : (Cond.instanceMethod yX3_isLive) ∈ lw_gd := List.mem_filter.mpr ⟨List.mem_append_right _ (List.mem_of_getElem? (i := 314) (by decide +kernel)), by first | rfl | decide +kernel⟩
theorem wc_X3_isLive : (Cond.code yX3_isLive cX3_isLive 2 (some .boolean)) ∈ lw_gd := List.mem_filter.mpr ⟨List.mem_append_right _ (List.mem_of_getElem? (i := 315) (by decide +kernel)), by first | rfl | decide +kernel⟩
theorem wl_X3_98 : (Cond.methodLink RX3 98 yX3_isTask) ∈ lw_gd := List.mem_filter.mpr ⟨List.mem_append_right _ (List.mem_of_getElem? (i := 316) (by decide +kernel)), by first | rfl | decide +kernel⟩
theorem wi_X3_isTask : (Cond.instanceMethod yX3_isTask) ∈ lw_gd := List.mem_filter.mpr ⟨List.mem_append_right _ (List.mem_of_getElem? (i := 318) (by decide +kernel)), by first | rfl | decide +kernel⟩
theorem wc_X3_isTask : (Cond.code yX3_isTask cX3_isTask 2 (some .boolean)) ∈ lw_gd := List.mem_filter.mpr ⟨List.mem_append_right _ (List.mem_of_getElem? (i := 319) (by decide +kernel)), by first | rfl | decide +kernel⟩
theorem wl_X3_74 : (Cond.methodLink RX3 74 yX3_markOf) ∈ lw_gd := List.mem_filter.mpr ⟨List.mem_append_right _ (List.mem_of_getElem? (i := 320) (by decide +kernel)), by first | rfl | decide +kernel⟩
theorem wst_X3_markOf : (Cond.static yX3_markOf) ∈ lw_gd := List.mem_filter.mpr ⟨List.mem_append_right _ (List.mem_of_getElem? (i := 321) (by decide +kernel)), by first | rfl | decide +kernel⟩
theorem wc_X3_markOf : (Cond.code yX3_markOf cX3_markOf 1 (some .int)) ∈ lw_gd := List.mem_filter.mpr ⟨List.mem_append_right _ (List.mem_of_getElem? (i := 322) (by decide +kernel)), by first | rfl | decide +kernel⟩
theorem wl_L_36 : (Cond.methodLink RL 36 yX3_run) ∈ lw_gd := List.mem_filter.mpr ⟨List.mem_append_right _ (List.mem_of_getElem? (i := 323) (by decide +kernel)), by first | rfl | decide +kernel⟩
theorem wi_X3_run : (Cond.instanceMethod yX3_run) ∈ lw_gd := List.mem_filter.mpr ⟨List.mem_append_right _ (List.mem_of_getElem? (i := 324) (by decide +kernel)), by first | rfl | decide +kernel⟩
theorem wse_X3_run : (Cond.selects RX3 yX3_run yX3_run) ∈ lw_gd := List.mem_filter.mpr ⟨List.mem_append_right _ (List.mem_of_getElem? (i := 325) (by decide +kernel)), by first | rfl | decide +kernel⟩
theorem wc_X3_run : (Cond.code yX3_run cX3_run 4 (some .int)) ∈ lw_gd := List.mem_filter.mpr ⟨List.mem_append_right _ (List.mem_of_getElem? (i := 326) (by decide +kernel)), by first | rfl | decide +kernel⟩
theorem wl_X3_82 : (Cond.methodLink RX3 82 yX3_step) ∈ lw_gd := List.mem_filter.mpr ⟨List.mem_append_right _ (List.mem_of_getElem? (i := 327) (by decide +kernel)), by first | rfl | decide +kernel⟩
theorem wl_X3_85 : (Cond.methodLink RX3 85 yX3_tellsAnEnd) ∈ lw_gd := List.mem_filter.mpr ⟨List.mem_append_right _ (List.mem_of_getElem? (i := 328) (by decide +kernel)), by first | rfl | decide +kernel⟩
theorem wst_X3_tellsAnEnd : (Cond.static yX3_tellsAnEnd) ∈ lw_gd := List.mem_filter.mpr ⟨List.mem_append_right _ (List.mem_of_getElem? (i := 329) (by decide +kernel)), by first | rfl | decide +kernel⟩
theorem wc_X3_tellsAnEnd : (Cond.code yX3_tellsAnEnd cX3_tellsAnEnd 1 (some .boolean)) ∈ lw_gd := List.mem_filter.mpr ⟨List.mem_append_right _ (List.mem_of_getElem? (i := 330) (by decide +kernel)), by first | rfl | decide +kernel⟩
theorem wl_L_41 : (Cond.methodLink RL 41 yX3_tick) ∈ lw_gd := List.mem_filter.mpr ⟨List.mem_append_right _ (List.mem_of_getElem? (i := 331) (by decide +kernel)), by first | rfl | decide +kernel⟩
theorem wi_X3_tick : (Cond.instanceMethod yX3_tick) ∈ lw_gd := List.mem_filter.mpr ⟨List.mem_append_right _ (List.mem_of_getElem? (i := 332) (by decide +kernel)), by first | rfl | decide +kernel⟩
theorem wse_X3_tick : (Cond.selects RX3 yX3_tick yX3_tick) ∈ lw_gd := List.mem_filter.mpr ⟨List.mem_append_right _ (List.mem_of_getElem? (i := 333) (by decide +kernel)), by first | rfl | decide +kernel⟩
theorem wc_X3_tick : (Cond.code yX3_tick cX3_tick 3 (some .int)) ∈ lw_gd := List.mem_filter.mpr ⟨List.mem_append_right _ (List.mem_of_getElem? (i := 334) (by decide +kernel)), by first | rfl | decide +kernel⟩
theorem wl_X3_88 : (Cond.methodLink RX3 88 yX3_firstDueSleeper) ∈ lw_gd := List.mem_filter.mpr ⟨List.mem_append_right _ (List.mem_of_getElem? (i := 335) (by decide +kernel)), by first | rfl | decide +kernel⟩
theorem wi_X3_firstDueSleeper : (Cond.instanceMethod yX3_firstDueSleeper) ∈ lw_gd := List.mem_filter.mpr ⟨List.mem_append_right _ (List.mem_of_getElem? (i := 337) (by decide +kernel)), by first | rfl | decide +kernel⟩
theorem wc_X3_firstDueSleeper : (Cond.code yX3_firstDueSleeper cX3_firstDueSleeper 4 (some (.object "TaskKernel$Task"))) ∈ lw_gd := List.mem_filter.mpr ⟨List.mem_append_right _ (List.mem_of_getElem? (i := 338) (by decide +kernel)), by first | rfl | decide +kernel⟩
theorem wl_L_45 : (Cond.methodLink RL 45 yX3_kill) ∈ lw_gd := List.mem_filter.mpr ⟨List.mem_append_right _ (List.mem_of_getElem? (i := 339) (by decide +kernel)), by first | rfl | decide +kernel⟩
theorem wi_X3_kill : (Cond.instanceMethod yX3_kill) ∈ lw_gd := List.mem_filter.mpr ⟨List.mem_append_right _ (List.mem_of_getElem? (i := 340) (by decide +kernel)), by first | rfl | decide +kernel⟩
theorem wse_X3_kill : (Cond.selects RX3 yX3_kill yX3_kill) ∈ lw_gd := List.mem_filter.mpr ⟨List.mem_append_right _ (List.mem_of_getElem? (i := 341) (by decide +kernel)), by first | rfl | decide +kernel⟩
theorem wc_X3_kill : (Cond.code yX3_kill cX3_kill 2 (some .boolean)) ∈ lw_gd := List.mem_filter.mpr ⟨List.mem_append_right _ (List.mem_of_getElem? (i := 342) (by decide +kernel)), by first | rfl | decide +kernel⟩
theorem wl_L_50 : (Cond.methodLink RL 50 yX3_state) ∈ lw_gd := List.mem_filter.mpr ⟨List.mem_append_right _ (List.mem_of_getElem? (i := 343) (by decide +kernel)), by first | rfl | decide +kernel⟩
theorem wi_X3_state : (Cond.instanceMethod yX3_state) ∈ lw_gd := List.mem_filter.mpr ⟨List.mem_append_right _ (List.mem_of_getElem? (i := 344) (by decide +kernel)), by first | rfl | decide +kernel⟩
theorem wse_X3_state : (Cond.selects RX3 yX3_state yX3_state) ∈ lw_gd := List.mem_filter.mpr ⟨List.mem_append_right _ (List.mem_of_getElem? (i := 345) (by decide +kernel)), by first | rfl | decide +kernel⟩
theorem wc_X3_state : (Cond.code yX3_state cX3_state 2 (some .int)) ∈ lw_gd := List.mem_filter.mpr ⟨List.mem_append_right _ (List.mem_of_getElem? (i := 346) (by decide +kernel)), by first | rfl | decide +kernel⟩
theorem wl_L_54 : (Cond.methodLink RL 54 yX3_task) ∈ lw_gd := List.mem_filter.mpr ⟨List.mem_append_right _ (List.mem_of_getElem? (i := 347) (by decide +kernel)), by first | rfl | decide +kernel⟩
theorem wi_X3_task : (Cond.instanceMethod yX3_task) ∈ lw_gd := List.mem_filter.mpr ⟨List.mem_append_right _ (List.mem_of_getElem? (i := 348) (by decide +kernel)), by first | rfl | decide +kernel⟩
theorem wse_X3_task : (Cond.selects RX3 yX3_task yX3_task) ∈ lw_gd := List.mem_filter.mpr ⟨List.mem_append_right _ (List.mem_of_getElem? (i := 349) (by decide +kernel)), by first | rfl | decide +kernel⟩
theorem wc_X3_task : (Cond.code yX3_task cX3_task 4 (some .int)) ∈ lw_gd := List.mem_filter.mpr ⟨List.mem_append_right _ (List.mem_of_getElem? (i := 350) (by decide +kernel)), by first | rfl | decide +kernel⟩
theorem wv_X3_101 : (Cond.constant RX3 101 (-2147483648)) ∈ lw_gd := List.mem_filter.mpr ⟨List.mem_append_right _ (List.mem_of_getElem? (i := 351) (by decide +kernel)), by first | rfl | decide +kernel⟩
theorem wl_L_58 : (Cond.methodLink RL 58 yX3_stack) ∈ lw_gd := List.mem_filter.mpr ⟨List.mem_append_right _ (List.mem_of_getElem? (i := 352) (by decide +kernel)), by first | rfl | decide +kernel⟩
theorem wi_X3_stack : (Cond.instanceMethod yX3_stack) ∈ lw_gd := List.mem_filter.mpr ⟨List.mem_append_right _ (List.mem_of_getElem? (i := 353) (by decide +kernel)), by first | rfl | decide +kernel⟩
theorem wse_X3_stack : (Cond.selects RX3 yX3_stack yX3_stack) ∈ lw_gd := List.mem_filter.mpr ⟨List.mem_append_right _ (List.mem_of_getElem? (i := 354) (by decide +kernel)), by first | rfl | decide +kernel⟩
theorem wc_X3_stack : (Cond.code yX3_stack cX3_stack 3 (some .int)) ∈ lw_gd := List.mem_filter.mpr ⟨List.mem_append_right _ (List.mem_of_getElem? (i := 355) (by decide +kernel)), by first | rfl | decide +kernel⟩
theorem wl_L_62 : (Cond.methodLink RL 62 yX3_next) ∈ lw_gd := List.mem_filter.mpr ⟨List.mem_append_right _ (List.mem_of_getElem? (i := 356) (by decide +kernel)), by first | rfl | decide +kernel⟩
theorem wl_L_66 : (Cond.methodLink RL 66 yX3_queue) ∈ lw_gd := List.mem_filter.mpr ⟨List.mem_append_right _ (List.mem_of_getElem? (i := 357) (by decide +kernel)), by first | rfl | decide +kernel⟩
theorem wi_X3_queue : (Cond.instanceMethod yX3_queue) ∈ lw_gd := List.mem_filter.mpr ⟨List.mem_append_right _ (List.mem_of_getElem? (i := 358) (by decide +kernel)), by first | rfl | decide +kernel⟩
theorem wse_X3_queue : (Cond.selects RX3 yX3_queue yX3_queue) ∈ lw_gd := List.mem_filter.mpr ⟨List.mem_append_right _ (List.mem_of_getElem? (i := 359) (by decide +kernel)), by first | rfl | decide +kernel⟩
theorem wc_X3_queue : (Cond.code yX3_queue cX3_queue 2 (some .int)) ∈ lw_gd := List.mem_filter.mpr ⟨List.mem_append_right _ (List.mem_of_getElem? (i := 360) (by decide +kernel)), by first | rfl | decide +kernel⟩
theorem wl_L_70 : (Cond.methodLink RL 70 yX3_queued) ∈ lw_gd := List.mem_filter.mpr ⟨List.mem_append_right _ (List.mem_of_getElem? (i := 361) (by decide +kernel)), by first | rfl | decide +kernel⟩
theorem wi_X3_queued : (Cond.instanceMethod yX3_queued) ∈ lw_gd := List.mem_filter.mpr ⟨List.mem_append_right _ (List.mem_of_getElem? (i := 362) (by decide +kernel)), by first | rfl | decide +kernel⟩
theorem wse_X3_queued : (Cond.selects RX3 yX3_queued yX3_queued) ∈ lw_gd := List.mem_filter.mpr ⟨List.mem_append_right _ (List.mem_of_getElem? (i := 363) (by decide +kernel)), by first | rfl | decide +kernel⟩
theorem wc_X3_queued : (Cond.code yX3_queued cX3_queued 3 (some .int)) ∈ lw_gd := List.mem_filter.mpr ⟨List.mem_append_right _ (List.mem_of_getElem? (i := 364) (by decide +kernel)), by first | rfl | decide +kernel⟩
theorem wl_X3_137 : (Cond.methodLink RX3 137 yX0_fromFirst) ∈ lw_gd := List.mem_filter.mpr ⟨List.mem_append_right _ (List.mem_of_getElem? (i := 365) (by decide +kernel)), by first | rfl | decide +kernel⟩
theorem wi_X0_fromFirst : (Cond.instanceMethod yX0_fromFirst) ∈ lw_gd := List.mem_filter.mpr ⟨List.mem_append_right _ (List.mem_of_getElem? (i := 366) (by decide +kernel)), by first | rfl | decide +kernel⟩
theorem wse_X0_fromFirst : (Cond.selects RX0 yX0_fromFirst yX0_fromFirst) ∈ lw_gd := List.mem_filter.mpr ⟨List.mem_append_right _ (List.mem_of_getElem? (i := 367) (by decide +kernel)), by first | rfl | decide +kernel⟩
theorem wc_X0_fromFirst : (Cond.code yX0_fromFirst cX0_fromFirst 2 (some .int)) ∈ lw_gd := List.mem_filter.mpr ⟨List.mem_append_right _ (List.mem_of_getElem? (i := 368) (by decide +kernel)), by first | rfl | decide +kernel⟩
theorem wv_X0_26 : (Cond.constant RX0 26 (-2147483648)) ∈ lw_gd := List.mem_filter.mpr ⟨List.mem_append_right _ (List.mem_of_getElem? (i := 369) (by decide +kernel)), by first | rfl | decide +kernel⟩
theorem wl_L_74 : (Cond.methodLink RL 74 yX3_waiter) ∈ lw_gd := List.mem_filter.mpr ⟨List.mem_append_right _ (List.mem_of_getElem? (i := 370) (by decide +kernel)), by first | rfl | decide +kernel⟩
theorem wi_X3_waiter : (Cond.instanceMethod yX3_waiter) ∈ lw_gd := List.mem_filter.mpr ⟨List.mem_append_right _ (List.mem_of_getElem? (i := 371) (by decide +kernel)), by first | rfl | decide +kernel⟩
theorem wse_X3_waiter : (Cond.selects RX3 yX3_waiter yX3_waiter) ∈ lw_gd := List.mem_filter.mpr ⟨List.mem_append_right _ (List.mem_of_getElem? (i := 372) (by decide +kernel)), by first | rfl | decide +kernel⟩
theorem wc_X3_waiter : (Cond.code yX3_waiter cX3_waiter 6 (some .int)) ∈ lw_gd := List.mem_filter.mpr ⟨List.mem_append_right _ (List.mem_of_getElem? (i := 373) (by decide +kernel)), by first | rfl | decide +kernel⟩
theorem wl_X3_144 : (Cond.methodLink RX3 144 yX3_countBefore) ∈ lw_gd := List.mem_filter.mpr ⟨List.mem_append_right _ (List.mem_of_getElem? (i := 374) (by decide +kernel)), by first | rfl | decide +kernel⟩
theorem wi_X3_countBefore : (Cond.instanceMethod yX3_countBefore) ∈ lw_gd := List.mem_filter.mpr ⟨List.mem_append_right _ (List.mem_of_getElem? (i := 376) (by decide +kernel)), by first | rfl | decide +kernel⟩
theorem wc_X3_countBefore : (Cond.code yX3_countBefore cX3_countBefore 4 (some .int)) ∈ lw_gd := List.mem_filter.mpr ⟨List.mem_append_right _ (List.mem_of_getElem? (i := 377) (by decide +kernel)), by first | rfl | decide +kernel⟩
theorem wl_L_79 : (Cond.methodLink RL 79 yX3_memory) ∈ lw_gd := List.mem_filter.mpr ⟨List.mem_append_right _ (List.mem_of_getElem? (i := 378) (by decide +kernel)), by first | rfl | decide +kernel⟩
theorem wi_X3_memory : (Cond.instanceMethod yX3_memory) ∈ lw_gd := List.mem_filter.mpr ⟨List.mem_append_right _ (List.mem_of_getElem? (i := 379) (by decide +kernel)), by first | rfl | decide +kernel⟩
theorem wse_X3_memory : (Cond.selects RX3 yX3_memory yX3_memory) ∈ lw_gd := List.mem_filter.mpr ⟨List.mem_append_right _ (List.mem_of_getElem? (i := 380) (by decide +kernel)), by first | rfl | decide +kernel⟩
theorem wc_X3_memory : (Cond.code yX3_memory cX3_memory 2 (some .int)) ∈ lw_gd := List.mem_filter.mpr ⟨List.mem_append_right _ (List.mem_of_getElem? (i := 381) (by decide +kernel)), by first | rfl | decide +kernel⟩
theorem wl_L_83 : (Cond.methodLink RL 83 yX3_emitted) ∈ lw_gd := List.mem_filter.mpr ⟨List.mem_append_right _ (List.mem_of_getElem? (i := 382) (by decide +kernel)), by first | rfl | decide +kernel⟩
theorem wi_X3_emitted : (Cond.instanceMethod yX3_emitted) ∈ lw_gd := List.mem_filter.mpr ⟨List.mem_append_right _ (List.mem_of_getElem? (i := 383) (by decide +kernel)), by first | rfl | decide +kernel⟩
theorem wse_X3_emitted : (Cond.selects RX3 yX3_emitted yX3_emitted) ∈ lw_gd := List.mem_filter.mpr ⟨List.mem_append_right _ (List.mem_of_getElem? (i := 384) (by decide +kernel)), by first | rfl | decide +kernel⟩
theorem wc_X3_emitted : (Cond.code yX3_emitted cX3_emitted 1 (some .int)) ∈ lw_gd := List.mem_filter.mpr ⟨List.mem_append_right _ (List.mem_of_getElem? (i := 385) (by decide +kernel)), by first | rfl | decide +kernel⟩
theorem wl_L_87 : (Cond.methodLink RL 87 yX3_out) ∈ lw_gd := List.mem_filter.mpr ⟨List.mem_append_right _ (List.mem_of_getElem? (i := 386) (by decide +kernel)), by first | rfl | decide +kernel⟩
theorem wi_X3_out : (Cond.instanceMethod yX3_out) ∈ lw_gd := List.mem_filter.mpr ⟨List.mem_append_right _ (List.mem_of_getElem? (i := 387) (by decide +kernel)), by first | rfl | decide +kernel⟩
theorem wse_X3_out : (Cond.selects RX3 yX3_out yX3_out) ∈ lw_gd := List.mem_filter.mpr ⟨List.mem_append_right _ (List.mem_of_getElem? (i := 388) (by decide +kernel)), by first | rfl | decide +kernel⟩
theorem wc_X3_out : (Cond.code yX3_out cX3_out 2 (some .int)) ∈ lw_gd := List.mem_filter.mpr ⟨List.mem_append_right _ (List.mem_of_getElem? (i := 389) (by decide +kernel)), by first | rfl | decide +kernel⟩
theorem wl_L_91 : (Cond.methodLink RL 91 yX3_why) ∈ lw_gd := List.mem_filter.mpr ⟨List.mem_append_right _ (List.mem_of_getElem? (i := 390) (by decide +kernel)), by first | rfl | decide +kernel⟩
theorem wi_X3_why : (Cond.instanceMethod yX3_why) ∈ lw_gd := List.mem_filter.mpr ⟨List.mem_append_right _ (List.mem_of_getElem? (i := 391) (by decide +kernel)), by first | rfl | decide +kernel⟩
theorem wse_X3_why : (Cond.selects RX3 yX3_why yX3_why) ∈ lw_gd := List.mem_filter.mpr ⟨List.mem_append_right _ (List.mem_of_getElem? (i := 392) (by decide +kernel)), by first | rfl | decide +kernel⟩
theorem wc_X3_why : (Cond.code yX3_why cX3_why 2 (some .int)) ∈ lw_gd := List.mem_filter.mpr ⟨List.mem_append_right _ (List.mem_of_getElem? (i := 393) (by decide +kernel)), by first | rfl | decide +kernel⟩
theorem wl_L_95 : (Cond.methodLink RL 95 yX3_clock) ∈ lw_gd := List.mem_filter.mpr ⟨List.mem_append_right _ (List.mem_of_getElem? (i := 394) (by decide +kernel)), by first | rfl | decide +kernel⟩
theorem wi_X3_clock : (Cond.instanceMethod yX3_clock) ∈ lw_gd := List.mem_filter.mpr ⟨List.mem_append_right _ (List.mem_of_getElem? (i := 395) (by decide +kernel)), by first | rfl | decide +kernel⟩
theorem wse_X3_clock : (Cond.selects RX3 yX3_clock yX3_clock) ∈ lw_gd := List.mem_filter.mpr ⟨List.mem_append_right _ (List.mem_of_getElem? (i := 396) (by decide +kernel)), by first | rfl | decide +kernel⟩
theorem wc_X3_clock : (Cond.code yX3_clock cX3_clock 1 (some .int)) ∈ lw_gd := List.mem_filter.mpr ⟨List.mem_append_right _ (List.mem_of_getElem? (i := 397) (by decide +kernel)), by first | rfl | decide +kernel⟩
theorem wl_L_9 : (Cond.methodLink RL 9 yL_cell) ∈ lw_gd := List.mem_filter.mpr ⟨List.mem_append_right _ (List.mem_of_getElem? (i := 398) (by decide +kernel)), by first | rfl | decide +kernel⟩
theorem wst_L_cell : (Cond.static yL_cell) ∈ lw_gd := List.mem_filter.mpr ⟨List.mem_append_right _ (List.mem_of_getElem? (i := 399) (by decide +kernel)), by first | rfl | decide +kernel⟩
theorem wc_L_cell : (Cond.code yL_cell cL_cell 2 (some .int)) ∈ lw_gd := List.mem_filter.mpr ⟨List.mem_append_right _ (List.mem_of_getElem? (i := 400) (by decide +kernel)), by first | rfl | decide +kernel⟩
theorem wk_L_18 : (Cond.classLink RL 18 RX4) ∈ lw_gd := List.mem_filter.mpr ⟨List.mem_append_right _ (List.mem_of_getElem? (i := 401) (by decide +kernel)), by first | rfl | decide +kernel⟩
theorem wt_X4 : (Cond.instantiable RX4 27) ∈ lw_gd := List.mem_filter.mpr ⟨List.mem_append_right _ (List.mem_of_getElem? (i := 402) (by decide +kernel)), by first | rfl | decide +kernel⟩
theorem wl_L_20 : (Cond.methodLink RL 20 yX4_init) ∈ lw_gd := List.mem_filter.mpr ⟨List.mem_append_right _ (List.mem_of_getElem? (i := 403) (by decide +kernel)), by first | rfl | decide +kernel⟩
theorem wi_X4_init : (Cond.instanceMethod yX4_init) ∈ lw_gd := List.mem_filter.mpr ⟨List.mem_append_right _ (List.mem_of_getElem? (i := 404) (by decide +kernel)), by first | rfl | decide +kernel⟩
theorem wc_X4_init : (Cond.code yX4_init cX4_init 5 none) ∈ lw_gd := List.mem_filter.mpr ⟨List.mem_append_right _ (List.mem_of_getElem? (i := 405) (by decide +kernel)), by first | rfl | decide +kernel⟩
theorem wl_X4_1 : (Cond.methodLink RX4 1 objectInit) ∈ lw_gd := List.mem_filter.mpr ⟨List.mem_append_right _ (List.mem_of_getElem? (i := 406) (by decide +kernel)), by first | rfl | decide +kernel⟩
theorem wl_X4_61 : (Cond.methodLink RX4 61 yX4_near) ∈ lw_gd := List.mem_filter.mpr ⟨List.mem_append_right _ (List.mem_of_getElem? (i := 407) (by decide +kernel)), by first | rfl | decide +kernel⟩
theorem wst_X4_near : (Cond.static yX4_near) ∈ lw_gd := List.mem_filter.mpr ⟨List.mem_append_right _ (List.mem_of_getElem? (i := 408) (by decide +kernel)), by first | rfl | decide +kernel⟩
theorem wc_X4_near : (Cond.code yX4_near cX4_near 3 (some .int)) ∈ lw_gd := List.mem_filter.mpr ⟨List.mem_append_right _ (List.mem_of_getElem? (i := 409) (by decide +kernel)), by first | rfl | decide +kernel⟩
theorem wf_X4_65 : (Cond.fieldLink RX4 65 "TaskKernelModel" "tasks" "I") ∈ lw_gd := List.mem_filter.mpr ⟨List.mem_append_right _ (List.mem_of_getElem? (i := 410) (by decide +kernel)), by first | rfl | decide +kernel⟩
theorem wf_X4_69 : (Cond.fieldLink RX4 69 "TaskKernelModel" "width" "I") ∈ lw_gd := List.mem_filter.mpr ⟨List.mem_append_right _ (List.mem_of_getElem? (i := 411) (by decide +kernel)), by first | rfl | decide +kernel⟩
theorem wf_X4_72 : (Cond.fieldLink RX4 72 "TaskKernelModel" "queues" "I") ∈ lw_gd := List.mem_filter.mpr ⟨List.mem_append_right _ (List.mem_of_getElem? (i := 412) (by decide +kernel)), by first | rfl | decide +kernel⟩
theorem wf_X4_75 : (Cond.fieldLink RX4 75 "TaskKernelModel" "room" "I") ∈ lw_gd := List.mem_filter.mpr ⟨List.mem_append_right _ (List.mem_of_getElem? (i := 413) (by decide +kernel)), by first | rfl | decide +kernel⟩
theorem wf_X4_7 : (Cond.fieldLink RX4 7 "TaskKernelModel" "code" "[I") ∈ lw_gd := List.mem_filter.mpr ⟨List.mem_append_right _ (List.mem_of_getElem? (i := 414) (by decide +kernel)), by first | rfl | decide +kernel⟩
theorem wf_X4_13 : (Cond.fieldLink RX4 13 "TaskKernelModel" "memory" "[I") ∈ lw_gd := List.mem_filter.mpr ⟨List.mem_append_right _ (List.mem_of_getElem? (i := 415) (by decide +kernel)), by first | rfl | decide +kernel⟩
theorem wf_X4_170 : (Cond.fieldLink RX4 170 "TaskKernelModel" "begun" "Z") ∈ lw_gd := List.mem_filter.mpr ⟨List.mem_append_right _ (List.mem_of_getElem? (i := 416) (by decide +kernel)), by first | rfl | decide +kernel⟩
theorem wf_X4_121 : (Cond.fieldLink RX4 121 "TaskKernelModel" "clock" "I") ∈ lw_gd := List.mem_filter.mpr ⟨List.mem_append_right _ (List.mem_of_getElem? (i := 417) (by decide +kernel)), by first | rfl | decide +kernel⟩
theorem wf_X4_78 : (Cond.fieldLink RX4 78 "TaskKernelModel" "stamp" "I") ∈ lw_gd := List.mem_filter.mpr ⟨List.mem_append_right _ (List.mem_of_getElem? (i := 418) (by decide +kernel)), by first | rfl | decide +kernel⟩
theorem wf_X4_16 : (Cond.fieldLink RX4 16 "TaskKernelModel" "state" "[I") ∈ lw_gd := List.mem_filter.mpr ⟨List.mem_append_right _ (List.mem_of_getElem? (i := 419) (by decide +kernel)), by first | rfl | decide +kernel⟩
theorem wf_X4_19 : (Cond.fieldLink RX4 19 "TaskKernelModel" "priority" "[I") ∈ lw_gd := List.mem_filter.mpr ⟨List.mem_append_right _ (List.mem_of_getElem? (i := 420) (by decide +kernel)), by first | rfl | decide +kernel⟩
theorem wf_X4_22 : (Cond.fieldLink RX4 22 "TaskKernelModel" "place" "[I") ∈ lw_gd := List.mem_filter.mpr ⟨List.mem_append_right _ (List.mem_of_getElem? (i := 421) (by decide +kernel)), by first | rfl | decide +kernel⟩
theorem wf_X4_25 : (Cond.fieldLink RX4 25 "TaskKernelModel" "depth" "[I") ∈ lw_gd := List.mem_filter.mpr ⟨List.mem_append_right _ (List.mem_of_getElem? (i := 422) (by decide +kernel)), by first | rfl | decide +kernel⟩
theorem wf_X4_28 : (Cond.fieldLink RX4 28 "TaskKernelModel" "stacks" "[I") ∈ lw_gd := List.mem_filter.mpr ⟨List.mem_append_right _ (List.mem_of_getElem? (i := 423) (by decide +kernel)), by first | rfl | decide +kernel⟩
theorem wf_X4_31 : (Cond.fieldLink RX4 31 "TaskKernelModel" "frames" "[I") ∈ lw_gd := List.mem_filter.mpr ⟨List.mem_append_right _ (List.mem_of_getElem? (i := 424) (by decide +kernel)), by first | rfl | decide +kernel⟩
theorem wf_X4_34 : (Cond.fieldLink RX4 34 "TaskKernelModel" "returns" "[I") ∈ lw_gd := List.mem_filter.mpr ⟨List.mem_append_right _ (List.mem_of_getElem? (i := 425) (by decide +kernel)), by first | rfl | decide +kernel⟩
theorem wf_X4_37 : (Cond.fieldLink RX4 37 "TaskKernelModel" "wakes" "[I") ∈ lw_gd := List.mem_filter.mpr ⟨List.mem_append_right _ (List.mem_of_getElem? (i := 426) (by decide +kernel)), by first | rfl | decide +kernel⟩
theorem wf_X4_40 : (Cond.fieldLink RX4 40 "TaskKernelModel" "waitsAt" "[I") ∈ lw_gd := List.mem_filter.mpr ⟨List.mem_append_right _ (List.mem_of_getElem? (i := 427) (by decide +kernel)), by first | rfl | decide +kernel⟩
theorem wf_X4_43 : (Cond.fieldLink RX4 43 "TaskKernelModel" "sent" "[I") ∈ lw_gd := List.mem_filter.mpr ⟨List.mem_append_right _ (List.mem_of_getElem? (i := 428) (by decide +kernel)), by first | rfl | decide +kernel⟩
theorem wf_X4_46 : (Cond.fieldLink RX4 46 "TaskKernelModel" "stamps" "[I") ∈ lw_gd := List.mem_filter.mpr ⟨List.mem_append_right _ (List.mem_of_getElem? (i := 429) (by decide +kernel)), by first | rfl | decide +kernel⟩
theorem wf_X4_49 : (Cond.fieldLink RX4 49 "TaskKernelModel" "reason" "[I") ∈ lw_gd := List.mem_filter.mpr ⟨List.mem_append_right _ (List.mem_of_getElem? (i := 430) (by decide +kernel)), by first | rfl | decide +kernel⟩
theorem wf_X4_52 : (Cond.fieldLink RX4 52 "TaskKernelModel" "size" "[I") ∈ lw_gd := List.mem_filter.mpr ⟨List.mem_append_right _ (List.mem_of_getElem? (i := 431) (by decide +kernel)), by first | rfl | decide +kernel⟩
theorem wf_X4_55 : (Cond.fieldLink RX4 55 "TaskKernelModel" "cells" "[I") ∈ lw_gd := List.mem_filter.mpr ⟨List.mem_append_right _ (List.mem_of_getElem? (i := 432) (by decide +kernel)), by first | rfl | decide +kernel⟩
theorem wf_X4_127 : (Cond.fieldLink RX4 127 "TaskKernelModel" "emissions" "I") ∈ lw_gd := List.mem_filter.mpr ⟨List.mem_append_right _ (List.mem_of_getElem? (i := 433) (by decide +kernel)), by first | rfl | decide +kernel⟩
theorem wf_X4_58 : (Cond.fieldLink RX4 58 "TaskKernelModel" "emits" "[I") ∈ lw_gd := List.mem_filter.mpr ⟨List.mem_append_right _ (List.mem_of_getElem? (i := 434) (by decide +kernel)), by first | rfl | decide +kernel⟩
theorem wf_X4_92 : (Cond.fieldLink RX4 92 "TaskKernelModel" "self" "I") ∈ lw_gd := List.mem_filter.mpr ⟨List.mem_append_right _ (List.mem_of_getElem? (i := 435) (by decide +kernel)), by first | rfl | decide +kernel⟩
theorem wf_X4_89 : (Cond.fieldLink RX4 89 "TaskKernelModel" "trap" "I") ∈ lw_gd := List.mem_filter.mpr ⟨List.mem_append_right _ (List.mem_of_getElem? (i := 436) (by decide +kernel)), by first | rfl | decide +kernel⟩
theorem wl_L_65 : (Cond.methodLink RL 65 yX4_next) ∈ lw_gd := List.mem_filter.mpr ⟨List.mem_append_right _ (List.mem_of_getElem? (i := 492) (by decide +kernel)), by first | rfl | decide +kernel⟩
theorem wi_X4_next : (Cond.instanceMethod yX4_next) ∈ lw_gd := List.mem_filter.mpr ⟨List.mem_append_right _ (List.mem_of_getElem? (i := 493) (by decide +kernel)), by first | rfl | decide +kernel⟩
theorem wse_X4_next : (Cond.selects RX4 yX4_next yX4_next) ∈ lw_gd := List.mem_filter.mpr ⟨List.mem_append_right _ (List.mem_of_getElem? (i := 494) (by decide +kernel)), by first | rfl | decide +kernel⟩
theorem wc_X4_next : (Cond.code yX4_next cX4_next 4 (some .int)) ∈ lw_gd := List.mem_filter.mpr ⟨List.mem_append_right _ (List.mem_of_getElem? (i := 495) (by decide +kernel)), by first | rfl | decide +kernel⟩
theorem wl_L_35 : (Cond.methodLink RL 35 yX4_step) ∈ lw_gd := List.mem_filter.mpr ⟨List.mem_append_right _ (List.mem_of_getElem? (i := 496) (by decide +kernel)), by first | rfl | decide +kernel⟩
theorem wi_X4_step : (Cond.instanceMethod yX4_step) ∈ lw_gd := List.mem_filter.mpr ⟨List.mem_append_right _ (List.mem_of_getElem? (i := 497) (by decide +kernel)), by first | rfl | decide +kernel⟩
theorem wse_X4_step : (Cond.selects RX4 yX4_step yX4_step) ∈ lw_gd := List.mem_filter.mpr ⟨List.mem_append_right _ (List.mem_of_getElem? (i := 498) (by decide +kernel)), by first | rfl | decide +kernel⟩
theorem wc_X4_step : (Cond.code yX4_step cX4_step 2 (some .int)) ∈ lw_gd := List.mem_filter.mpr ⟨List.mem_append_right _ (List.mem_of_getElem? (i := 499) (by decide +kernel)), by first | rfl | decide +kernel⟩
theorem wl_X4_161 : (Cond.methodLink RX4 161 yX4_next) ∈ lw_gd := List.mem_filter.mpr ⟨List.mem_append_right _ (List.mem_of_getElem? (i := 500) (by decide +kernel)), by first | rfl | decide +kernel⟩
theorem wl_X4_95 : (Cond.methodLink RX4 95 yX4_fall) ∈ lw_gd := List.mem_filter.mpr ⟨List.mem_append_right _ (List.mem_of_getElem? (i := 501) (by decide +kernel)), by first | rfl | decide +kernel⟩
theorem wi_X4_fall : (Cond.instanceMethod yX4_fall) ∈ lw_gd := List.mem_filter.mpr ⟨List.mem_append_right _ (List.mem_of_getElem? (i := 503) (by decide +kernel)), by first | rfl | decide +kernel⟩
theorem wc_X4_fall : (Cond.code yX4_fall cX4_fall 2 none) ∈ lw_gd := List.mem_filter.mpr ⟨List.mem_append_right _ (List.mem_of_getElem? (i := 504) (by decide +kernel)), by first | rfl | decide +kernel⟩
theorem wl_X4_164 : (Cond.methodLink RX4 164 yX4_perform) ∈ lw_gd := List.mem_filter.mpr ⟨List.mem_append_right _ (List.mem_of_getElem? (i := 505) (by decide +kernel)), by first | rfl | decide +kernel⟩
theorem wi_X4_perform : (Cond.instanceMethod yX4_perform) ∈ lw_gd := List.mem_filter.mpr ⟨List.mem_append_right _ (List.mem_of_getElem? (i := 507) (by decide +kernel)), by first | rfl | decide +kernel⟩
theorem wc_X4_perform : (Cond.code yX4_perform cX4_perform 3 none) ∈ lw_gd := List.mem_filter.mpr ⟨List.mem_append_right _ (List.mem_of_getElem? (i := 508) (by decide +kernel)), by first | rfl | decide +kernel⟩
theorem wl_X4_140 : (Cond.methodLink RX4 140 yX4_arithmetic) ∈ lw_gd := List.mem_filter.mpr ⟨List.mem_append_right _ (List.mem_of_getElem? (i := 509) (by decide +kernel)), by first | rfl | decide +kernel⟩
theorem wi_X4_arithmetic : (Cond.instanceMethod yX4_arithmetic) ∈ lw_gd := List.mem_filter.mpr ⟨List.mem_append_right _ (List.mem_of_getElem? (i := 511) (by decide +kernel)), by first | rfl | decide +kernel⟩
theorem wc_X4_arithmetic : (Cond.code yX4_arithmetic cX4_arithmetic 4 none) ∈ lw_gd := List.mem_filter.mpr ⟨List.mem_append_right _ (List.mem_of_getElem? (i := 512) (by decide +kernel)), by first | rfl | decide +kernel⟩
theorem wl_X4_106 : (Cond.methodLink RX4 106 yX4_take) ∈ lw_gd := List.mem_filter.mpr ⟨List.mem_append_right _ (List.mem_of_getElem? (i := 513) (by decide +kernel)), by first | rfl | decide +kernel⟩
theorem wi_X4_take : (Cond.instanceMethod yX4_take) ∈ lw_gd := List.mem_filter.mpr ⟨List.mem_append_right _ (List.mem_of_getElem? (i := 515) (by decide +kernel)), by first | rfl | decide +kernel⟩
theorem wc_X4_take : (Cond.code yX4_take cX4_take 1 (some .int)) ∈ lw_gd := List.mem_filter.mpr ⟨List.mem_append_right _ (List.mem_of_getElem? (i := 516) (by decide +kernel)), by first | rfl | decide +kernel⟩
theorem wl_X4_115 : (Cond.methodLink RX4 115 yX4_put) ∈ lw_gd := List.mem_filter.mpr ⟨List.mem_append_right _ (List.mem_of_getElem? (i := 517) (by decide +kernel)), by first | rfl | decide +kernel⟩
theorem wi_X4_put : (Cond.instanceMethod yX4_put) ∈ lw_gd := List.mem_filter.mpr ⟨List.mem_append_right _ (List.mem_of_getElem? (i := 519) (by decide +kernel)), by first | rfl | decide +kernel⟩
theorem wc_X4_put : (Cond.code yX4_put cX4_put 2 none) ∈ lw_gd := List.mem_filter.mpr ⟨List.mem_append_right _ (List.mem_of_getElem? (i := 520) (by decide +kernel)), by first | rfl | decide +kernel⟩
theorem wl_X4_99 : (Cond.methodLink RX4 99 yX4_give) ∈ lw_gd := List.mem_filter.mpr ⟨List.mem_append_right _ (List.mem_of_getElem? (i := 521) (by decide +kernel)), by first | rfl | decide +kernel⟩
theorem wi_X4_give : (Cond.instanceMethod yX4_give) ∈ lw_gd := List.mem_filter.mpr ⟨List.mem_append_right _ (List.mem_of_getElem? (i := 523) (by decide +kernel)), by first | rfl | decide +kernel⟩
theorem wc_X4_give : (Cond.code yX4_give cX4_give 3 none) ∈ lw_gd := List.mem_filter.mpr ⟨List.mem_append_right _ (List.mem_of_getElem? (i := 524) (by decide +kernel)), by first | rfl | decide +kernel⟩
theorem wl_X4_143 : (Cond.methodLink RX4 143 yX4_memoryOp) ∈ lw_gd := List.mem_filter.mpr ⟨List.mem_append_right _ (List.mem_of_getElem? (i := 525) (by decide +kernel)), by first | rfl | decide +kernel⟩
theorem wi_X4_memoryOp : (Cond.instanceMethod yX4_memoryOp) ∈ lw_gd := List.mem_filter.mpr ⟨List.mem_append_right _ (List.mem_of_getElem? (i := 527) (by decide +kernel)), by first | rfl | decide +kernel⟩
theorem wc_X4_memoryOp : (Cond.code yX4_memoryOp cX4_memoryOp 4 none) ∈ lw_gd := List.mem_filter.mpr ⟨List.mem_append_right _ (List.mem_of_getElem? (i := 528) (by decide +kernel)), by first | rfl | decide +kernel⟩
theorem wl_X4_146 : (Cond.methodLink RX4 146 yX4_jumpOp) ∈ lw_gd := List.mem_filter.mpr ⟨List.mem_append_right _ (List.mem_of_getElem? (i := 529) (by decide +kernel)), by first | rfl | decide +kernel⟩
theorem wi_X4_jumpOp : (Cond.instanceMethod yX4_jumpOp) ∈ lw_gd := List.mem_filter.mpr ⟨List.mem_append_right _ (List.mem_of_getElem? (i := 531) (by decide +kernel)), by first | rfl | decide +kernel⟩
theorem wc_X4_jumpOp : (Cond.code yX4_jumpOp cX4_jumpOp 4 none) ∈ lw_gd := List.mem_filter.mpr ⟨List.mem_append_right _ (List.mem_of_getElem? (i := 532) (by decide +kernel)), by first | rfl | decide +kernel⟩
theorem wl_X4_124 : (Cond.methodLink RX4 124 yX4_jump) ∈ lw_gd := List.mem_filter.mpr ⟨List.mem_append_right _ (List.mem_of_getElem? (i := 533) (by decide +kernel)), by first | rfl | decide +kernel⟩
theorem wi_X4_jump : (Cond.instanceMethod yX4_jump) ∈ lw_gd := List.mem_filter.mpr ⟨List.mem_append_right _ (List.mem_of_getElem? (i := 535) (by decide +kernel)), by first | rfl | decide +kernel⟩
theorem wc_X4_jump : (Cond.code yX4_jump cX4_jump 2 none) ∈ lw_gd := List.mem_filter.mpr ⟨List.mem_append_right _ (List.mem_of_getElem? (i := 536) (by decide +kernel)), by first | rfl | decide +kernel⟩
theorem wl_X4_118 : (Cond.methodLink RX4 118 yX4_isPlace) ∈ lw_gd := List.mem_filter.mpr ⟨List.mem_append_right _ (List.mem_of_getElem? (i := 537) (by decide +kernel)), by first | rfl | decide +kernel⟩
theorem wst_X4_isPlace : (Cond.static yX4_isPlace) ∈ lw_gd := List.mem_filter.mpr ⟨List.mem_append_right _ (List.mem_of_getElem? (i := 538) (by decide +kernel)), by first | rfl | decide +kernel⟩
theorem wc_X4_isPlace : (Cond.code yX4_isPlace cX4_isPlace 1 (some .boolean)) ∈ lw_gd := List.mem_filter.mpr ⟨List.mem_append_right _ (List.mem_of_getElem? (i := 539) (by decide +kernel)), by first | rfl | decide +kernel⟩
theorem wl_X4_149 : (Cond.methodLink RX4 149 yX4_send) ∈ lw_gd := List.mem_filter.mpr ⟨List.mem_append_right _ (List.mem_of_getElem? (i := 540) (by decide +kernel)), by first | rfl | decide +kernel⟩
theorem wi_X4_send : (Cond.instanceMethod yX4_send) ∈ lw_gd := List.mem_filter.mpr ⟨List.mem_append_right _ (List.mem_of_getElem? (i := 542) (by decide +kernel)), by first | rfl | decide +kernel⟩
theorem wc_X4_send : (Cond.code yX4_send cX4_send 4 none) ∈ lw_gd := List.mem_filter.mpr ⟨List.mem_append_right _ (List.mem_of_getElem? (i := 543) (by decide +kernel)), by first | rfl | decide +kernel⟩
theorem wl_X4_102 : (Cond.methodLink RX4 102 yX4_noQueue) ∈ lw_gd := List.mem_filter.mpr ⟨List.mem_append_right _ (List.mem_of_getElem? (i := 544) (by decide +kernel)), by first | rfl | decide +kernel⟩
theorem wi_X4_noQueue : (Cond.instanceMethod yX4_noQueue) ∈ lw_gd := List.mem_filter.mpr ⟨List.mem_append_right _ (List.mem_of_getElem? (i := 546) (by decide +kernel)), by first | rfl | decide +kernel⟩
theorem wc_X4_noQueue : (Cond.code yX4_noQueue cX4_noQueue 2 (some .boolean)) ∈ lw_gd := List.mem_filter.mpr ⟨List.mem_append_right _ (List.mem_of_getElem? (i := 547) (by decide +kernel)), by first | rfl | decide +kernel⟩
theorem wl_X4_109 : (Cond.methodLink RX4 109 yX4_inState) ∈ lw_gd := List.mem_filter.mpr ⟨List.mem_append_right _ (List.mem_of_getElem? (i := 548) (by decide +kernel)), by first | rfl | decide +kernel⟩
theorem wi_X4_inState : (Cond.instanceMethod yX4_inState) ∈ lw_gd := List.mem_filter.mpr ⟨List.mem_append_right _ (List.mem_of_getElem? (i := 550) (by decide +kernel)), by first | rfl | decide +kernel⟩
theorem wc_X4_inState : (Cond.code yX4_inState cX4_inState 8 (some .int)) ∈ lw_gd := List.mem_filter.mpr ⟨List.mem_append_right _ (List.mem_of_getElem? (i := 551) (by decide +kernel)), by first | rfl | decide +kernel⟩
theorem wl_X4_85 : (Cond.methodLink RX4 85 yX4_set) ∈ lw_gd := List.mem_filter.mpr ⟨List.mem_append_right _ (List.mem_of_getElem? (i := 552) (by decide +kernel)), by first | rfl | decide +kernel⟩
theorem wi_X4_set : (Cond.instanceMethod yX4_set) ∈ lw_gd := List.mem_filter.mpr ⟨List.mem_append_right _ (List.mem_of_getElem? (i := 554) (by decide +kernel)), by first | rfl | decide +kernel⟩
theorem wc_X4_set : (Cond.code yX4_set cX4_set 3 none) ∈ lw_gd := List.mem_filter.mpr ⟨List.mem_append_right _ (List.mem_of_getElem? (i := 555) (by decide +kernel)), by first | rfl | decide +kernel⟩
theorem wl_X4_112 : (Cond.methodLink RX4 112 yX4_append) ∈ lw_gd := List.mem_filter.mpr ⟨List.mem_append_right _ (List.mem_of_getElem? (i := 556) (by decide +kernel)), by first | rfl | decide +kernel⟩
theorem wi_X4_append : (Cond.instanceMethod yX4_append) ∈ lw_gd := List.mem_filter.mpr ⟨List.mem_append_right _ (List.mem_of_getElem? (i := 558) (by decide +kernel)), by first | rfl | decide +kernel⟩
theorem wc_X4_append : (Cond.code yX4_append cX4_append 3 none) ∈ lw_gd := List.mem_filter.mpr ⟨List.mem_append_right _ (List.mem_of_getElem? (i := 559) (by decide +kernel)), by first | rfl | decide +kernel⟩
theorem wl_X4_152 : (Cond.methodLink RX4 152 yX4_receive) ∈ lw_gd := List.mem_filter.mpr ⟨List.mem_append_right _ (List.mem_of_getElem? (i := 560) (by decide +kernel)), by first | rfl | decide +kernel⟩
theorem wi_X4_receive : (Cond.instanceMethod yX4_receive) ∈ lw_gd := List.mem_filter.mpr ⟨List.mem_append_right _ (List.mem_of_getElem? (i := 562) (by decide +kernel)), by first | rfl | decide +kernel⟩
theorem wc_X4_receive : (Cond.code yX4_receive cX4_receive 3 none) ∈ lw_gd := List.mem_filter.mpr ⟨List.mem_append_right _ (List.mem_of_getElem? (i := 563) (by decide +kernel)), by first | rfl | decide +kernel⟩
theorem wl_X4_137 : (Cond.methodLink RX4 137 yX4_end) ∈ lw_gd := List.mem_filter.mpr ⟨List.mem_append_right _ (List.mem_of_getElem? (i := 564) (by decide +kernel)), by first | rfl | decide +kernel⟩
theorem wi_X4_end : (Cond.instanceMethod yX4_end) ∈ lw_gd := List.mem_filter.mpr ⟨List.mem_append_right _ (List.mem_of_getElem? (i := 566) (by decide +kernel)), by first | rfl | decide +kernel⟩
theorem wc_X4_end : (Cond.code yX4_end cX4_end 3 none) ∈ lw_gd := List.mem_filter.mpr ⟨List.mem_append_right _ (List.mem_of_getElem? (i := 567) (by decide +kernel)), by first | rfl | decide +kernel⟩
theorem wl_X4_155 : (Cond.methodLink RX4 155 yX4_stackOp) ∈ lw_gd := List.mem_filter.mpr ⟨List.mem_append_right _ (List.mem_of_getElem? (i := 568) (by decide +kernel)), by first | rfl | decide +kernel⟩
theorem wi_X4_stackOp : (Cond.instanceMethod yX4_stackOp) ∈ lw_gd := List.mem_filter.mpr ⟨List.mem_append_right _ (List.mem_of_getElem? (i := 570) (by decide +kernel)), by first | rfl | decide +kernel⟩
theorem wc_X4_stackOp : (Cond.code yX4_stackOp cX4_stackOp 5 none) ∈ lw_gd := List.mem_filter.mpr ⟨List.mem_append_right _ (List.mem_of_getElem? (i := 571) (by decide +kernel)), by first | rfl | decide +kernel⟩
theorem wl_X4_158 : (Cond.methodLink RX4 158 yX4_taskOp) ∈ lw_gd := List.mem_filter.mpr ⟨List.mem_append_right _ (List.mem_of_getElem? (i := 572) (by decide +kernel)), by first | rfl | decide +kernel⟩
theorem wi_X4_taskOp : (Cond.instanceMethod yX4_taskOp) ∈ lw_gd := List.mem_filter.mpr ⟨List.mem_append_right _ (List.mem_of_getElem? (i := 574) (by decide +kernel)), by first | rfl | decide +kernel⟩
theorem wc_X4_taskOp : (Cond.code yX4_taskOp cX4_taskOp 5 none) ∈ lw_gd := List.mem_filter.mpr ⟨List.mem_append_right _ (List.mem_of_getElem? (i := 575) (by decide +kernel)), by first | rfl | decide +kernel⟩
theorem wl_X4_130 : (Cond.methodLink RX4 130 yX4_begin) ∈ lw_gd := List.mem_filter.mpr ⟨List.mem_append_right _ (List.mem_of_getElem? (i := 576) (by decide +kernel)), by first | rfl | decide +kernel⟩
theorem wi_X4_begin : (Cond.instanceMethod yX4_begin) ∈ lw_gd := List.mem_filter.mpr ⟨List.mem_append_right _ (List.mem_of_getElem? (i := 578) (by decide +kernel)), by first | rfl | decide +kernel⟩
theorem wc_X4_begin : (Cond.code yX4_begin cX4_begin 4 (some .int)) ∈ lw_gd := List.mem_filter.mpr ⟨List.mem_append_right _ (List.mem_of_getElem? (i := 579) (by decide +kernel)), by first | rfl | decide +kernel⟩
theorem wl_X4_81 : (Cond.methodLink RX4 81 yX4_freeTask) ∈ lw_gd := List.mem_filter.mpr ⟨List.mem_append_right _ (List.mem_of_getElem? (i := 580) (by decide +kernel)), by first | rfl | decide +kernel⟩
theorem wi_X4_freeTask : (Cond.instanceMethod yX4_freeTask) ∈ lw_gd := List.mem_filter.mpr ⟨List.mem_append_right _ (List.mem_of_getElem? (i := 582) (by decide +kernel)), by first | rfl | decide +kernel⟩
theorem wc_X4_freeTask : (Cond.code yX4_freeTask cX4_freeTask 2 (some .int)) ∈ lw_gd := List.mem_filter.mpr ⟨List.mem_append_right _ (List.mem_of_getElem? (i := 583) (by decide +kernel)), by first | rfl | decide +kernel⟩
theorem wl_X4_134 : (Cond.methodLink RX4 134 yX4_isLive) ∈ lw_gd := List.mem_filter.mpr ⟨List.mem_append_right _ (List.mem_of_getElem? (i := 584) (by decide +kernel)), by first | rfl | decide +kernel⟩
theorem wi_X4_isLive : (Cond.instanceMethod yX4_isLive) ∈ lw_gd := List.mem_filter.mpr ⟨List.mem_append_right _ (List.mem_of_getElem? (i := 586) (by decide +kernel)), by first | rfl | decide +kernel⟩
theorem wc_X4_isLive : (Cond.code yX4_isLive cX4_isLive 2 (some .boolean)) ∈ lw_gd := List.mem_filter.mpr ⟨List.mem_append_right _ (List.mem_of_getElem? (i := 587) (by decide +kernel)), by first | rfl | decide +kernel⟩
theorem wl_L_40 : (Cond.methodLink RL 40 yX4_run) ∈ lw_gd := List.mem_filter.mpr ⟨List.mem_append_right _ (List.mem_of_getElem? (i := 588) (by decide +kernel)), by first | rfl | decide +kernel⟩
theorem wi_X4_run : (Cond.instanceMethod yX4_run) ∈ lw_gd := List.mem_filter.mpr ⟨List.mem_append_right _ (List.mem_of_getElem? (i := 589) (by decide +kernel)), by first | rfl | decide +kernel⟩
theorem wse_X4_run : (Cond.selects RX4 yX4_run yX4_run) ∈ lw_gd := List.mem_filter.mpr ⟨List.mem_append_right _ (List.mem_of_getElem? (i := 590) (by decide +kernel)), by first | rfl | decide +kernel⟩
theorem wc_X4_run : (Cond.code yX4_run cX4_run 6 (some .int)) ∈ lw_gd := List.mem_filter.mpr ⟨List.mem_append_right _ (List.mem_of_getElem? (i := 591) (by decide +kernel)), by first | rfl | decide +kernel⟩
theorem wl_X4_167 : (Cond.methodLink RX4 167 yX4_step) ∈ lw_gd := List.mem_filter.mpr ⟨List.mem_append_right _ (List.mem_of_getElem? (i := 592) (by decide +kernel)), by first | rfl | decide +kernel⟩
theorem wl_L_44 : (Cond.methodLink RL 44 yX4_tick) ∈ lw_gd := List.mem_filter.mpr ⟨List.mem_append_right _ (List.mem_of_getElem? (i := 593) (by decide +kernel)), by first | rfl | decide +kernel⟩
theorem wi_X4_tick : (Cond.instanceMethod yX4_tick) ∈ lw_gd := List.mem_filter.mpr ⟨List.mem_append_right _ (List.mem_of_getElem? (i := 594) (by decide +kernel)), by first | rfl | decide +kernel⟩
theorem wse_X4_tick : (Cond.selects RX4 yX4_tick yX4_tick) ∈ lw_gd := List.mem_filter.mpr ⟨List.mem_append_right _ (List.mem_of_getElem? (i := 595) (by decide +kernel)), by first | rfl | decide +kernel⟩
theorem wc_X4_tick : (Cond.code yX4_tick cX4_tick 4 (some .int)) ∈ lw_gd := List.mem_filter.mpr ⟨List.mem_append_right _ (List.mem_of_getElem? (i := 596) (by decide +kernel)), by first | rfl | decide +kernel⟩
theorem wl_L_25 : (Cond.methodLink RL 25 yX4_poke) ∈ lw_gd := List.mem_filter.mpr ⟨List.mem_append_right _ (List.mem_of_getElem? (i := 597) (by decide +kernel)), by first | rfl | decide +kernel⟩
theorem wi_X4_poke : (Cond.instanceMethod yX4_poke) ∈ lw_gd := List.mem_filter.mpr ⟨List.mem_append_right _ (List.mem_of_getElem? (i := 598) (by decide +kernel)), by first | rfl | decide +kernel⟩
theorem wse_X4_poke : (Cond.selects RX4 yX4_poke yX4_poke) ∈ lw_gd := List.mem_filter.mpr ⟨List.mem_append_right _ (List.mem_of_getElem? (i := 599) (by decide +kernel)), by first | rfl | decide +kernel⟩
theorem wc_X4_poke : (Cond.code yX4_poke cX4_poke 3 (some .boolean)) ∈ lw_gd := List.mem_filter.mpr ⟨List.mem_append_right _ (List.mem_of_getElem? (i := 600) (by decide +kernel)), by first | rfl | decide +kernel⟩
theorem wl_L_30 : (Cond.methodLink RL 30 yX4_spawn) ∈ lw_gd := List.mem_filter.mpr ⟨List.mem_append_right _ (List.mem_of_getElem? (i := 601) (by decide +kernel)), by first | rfl | decide +kernel⟩
theorem wi_X4_spawn : (Cond.instanceMethod yX4_spawn) ∈ lw_gd := List.mem_filter.mpr ⟨List.mem_append_right _ (List.mem_of_getElem? (i := 602) (by decide +kernel)), by first | rfl | decide +kernel⟩
theorem wse_X4_spawn : (Cond.selects RX4 yX4_spawn yX4_spawn) ∈ lw_gd := List.mem_filter.mpr ⟨List.mem_append_right _ (List.mem_of_getElem? (i := 603) (by decide +kernel)), by first | rfl | decide +kernel⟩
theorem wc_X4_spawn : (Cond.code yX4_spawn cX4_spawn 4 (some .int)) ∈ lw_gd := List.mem_filter.mpr ⟨List.mem_append_right _ (List.mem_of_getElem? (i := 604) (by decide +kernel)), by first | rfl | decide +kernel⟩
theorem wl_L_49 : (Cond.methodLink RL 49 yX4_kill) ∈ lw_gd := List.mem_filter.mpr ⟨List.mem_append_right _ (List.mem_of_getElem? (i := 605) (by decide +kernel)), by first | rfl | decide +kernel⟩
theorem wi_X4_kill : (Cond.instanceMethod yX4_kill) ∈ lw_gd := List.mem_filter.mpr ⟨List.mem_append_right _ (List.mem_of_getElem? (i := 606) (by decide +kernel)), by first | rfl | decide +kernel⟩
theorem wse_X4_kill : (Cond.selects RX4 yX4_kill yX4_kill) ∈ lw_gd := List.mem_filter.mpr ⟨List.mem_append_right _ (List.mem_of_getElem? (i := 607) (by decide +kernel)), by first | rfl | decide +kernel⟩
theorem wc_X4_kill : (Cond.code yX4_kill cX4_kill 2 (some .boolean)) ∈ lw_gd := List.mem_filter.mpr ⟨List.mem_append_right _ (List.mem_of_getElem? (i := 608) (by decide +kernel)), by first | rfl | decide +kernel⟩
theorem wl_L_53 : (Cond.methodLink RL 53 yX4_state) ∈ lw_gd := List.mem_filter.mpr ⟨List.mem_append_right _ (List.mem_of_getElem? (i := 609) (by decide +kernel)), by first | rfl | decide +kernel⟩
theorem wi_X4_state : (Cond.instanceMethod yX4_state) ∈ lw_gd := List.mem_filter.mpr ⟨List.mem_append_right _ (List.mem_of_getElem? (i := 610) (by decide +kernel)), by first | rfl | decide +kernel⟩
theorem wse_X4_state : (Cond.selects RX4 yX4_state yX4_state) ∈ lw_gd := List.mem_filter.mpr ⟨List.mem_append_right _ (List.mem_of_getElem? (i := 611) (by decide +kernel)), by first | rfl | decide +kernel⟩
theorem wc_X4_state : (Cond.code yX4_state cX4_state 2 (some .int)) ∈ lw_gd := List.mem_filter.mpr ⟨List.mem_append_right _ (List.mem_of_getElem? (i := 612) (by decide +kernel)), by first | rfl | decide +kernel⟩
theorem wl_L_57 : (Cond.methodLink RL 57 yX4_task) ∈ lw_gd := List.mem_filter.mpr ⟨List.mem_append_right _ (List.mem_of_getElem? (i := 613) (by decide +kernel)), by first | rfl | decide +kernel⟩
theorem wi_X4_task : (Cond.instanceMethod yX4_task) ∈ lw_gd := List.mem_filter.mpr ⟨List.mem_append_right _ (List.mem_of_getElem? (i := 614) (by decide +kernel)), by first | rfl | decide +kernel⟩
theorem wse_X4_task : (Cond.selects RX4 yX4_task yX4_task) ∈ lw_gd := List.mem_filter.mpr ⟨List.mem_append_right _ (List.mem_of_getElem? (i := 615) (by decide +kernel)), by first | rfl | decide +kernel⟩
theorem wc_X4_task : (Cond.code yX4_task cX4_task 3 (some .int)) ∈ lw_gd := List.mem_filter.mpr ⟨List.mem_append_right _ (List.mem_of_getElem? (i := 616) (by decide +kernel)), by first | rfl | decide +kernel⟩
theorem wv_X4_174 : (Cond.constant RX4 174 (-2147483648)) ∈ lw_gd := List.mem_filter.mpr ⟨List.mem_append_right _ (List.mem_of_getElem? (i := 617) (by decide +kernel)), by first | rfl | decide +kernel⟩
theorem wl_L_61 : (Cond.methodLink RL 61 yX4_stack) ∈ lw_gd := List.mem_filter.mpr ⟨List.mem_append_right _ (List.mem_of_getElem? (i := 618) (by decide +kernel)), by first | rfl | decide +kernel⟩
theorem wi_X4_stack : (Cond.instanceMethod yX4_stack) ∈ lw_gd := List.mem_filter.mpr ⟨List.mem_append_right _ (List.mem_of_getElem? (i := 619) (by decide +kernel)), by first | rfl | decide +kernel⟩
theorem wse_X4_stack : (Cond.selects RX4 yX4_stack yX4_stack) ∈ lw_gd := List.mem_filter.mpr ⟨List.mem_append_right _ (List.mem_of_getElem? (i := 620) (by decide +kernel)), by first | rfl | decide +kernel⟩
theorem wc_X4_stack : (Cond.code yX4_stack cX4_stack 3 (some .int)) ∈ lw_gd := List.mem_filter.mpr ⟨List.mem_append_right _ (List.mem_of_getElem? (i := 621) (by decide +kernel)), by first | rfl | decide +kernel⟩
theorem wl_L_69 : (Cond.methodLink RL 69 yX4_queue) ∈ lw_gd := List.mem_filter.mpr ⟨List.mem_append_right _ (List.mem_of_getElem? (i := 622) (by decide +kernel)), by first | rfl | decide +kernel⟩
theorem wi_X4_queue : (Cond.instanceMethod yX4_queue) ∈ lw_gd := List.mem_filter.mpr ⟨List.mem_append_right _ (List.mem_of_getElem? (i := 623) (by decide +kernel)), by first | rfl | decide +kernel⟩
theorem wse_X4_queue : (Cond.selects RX4 yX4_queue yX4_queue) ∈ lw_gd := List.mem_filter.mpr ⟨List.mem_append_right _ (List.mem_of_getElem? (i := 624) (by decide +kernel)), by first | rfl | decide +kernel⟩
theorem wc_X4_queue : (Cond.code yX4_queue cX4_queue 2 (some .int)) ∈ lw_gd := List.mem_filter.mpr ⟨List.mem_append_right _ (List.mem_of_getElem? (i := 625) (by decide +kernel)), by first | rfl | decide +kernel⟩
theorem wl_L_73 : (Cond.methodLink RL 73 yX4_queued) ∈ lw_gd := List.mem_filter.mpr ⟨List.mem_append_right _ (List.mem_of_getElem? (i := 626) (by decide +kernel)), by first | rfl | decide +kernel⟩
theorem wi_X4_queued : (Cond.instanceMethod yX4_queued) ∈ lw_gd := List.mem_filter.mpr ⟨List.mem_append_right _ (List.mem_of_getElem? (i := 627) (by decide +kernel)), by first | rfl | decide +kernel⟩
theorem wse_X4_queued : (Cond.selects RX4 yX4_queued yX4_queued) ∈ lw_gd := List.mem_filter.mpr ⟨List.mem_append_right _ (List.mem_of_getElem? (i := 628) (by decide +kernel)), by first | rfl | decide +kernel⟩
theorem wc_X4_queued : (Cond.code yX4_queued cX4_queued 3 (some .int)) ∈ lw_gd := List.mem_filter.mpr ⟨List.mem_append_right _ (List.mem_of_getElem? (i := 629) (by decide +kernel)), by first | rfl | decide +kernel⟩
theorem wl_L_78 : (Cond.methodLink RL 78 yX4_waiter) ∈ lw_gd := List.mem_filter.mpr ⟨List.mem_append_right _ (List.mem_of_getElem? (i := 630) (by decide +kernel)), by first | rfl | decide +kernel⟩
theorem wi_X4_waiter : (Cond.instanceMethod yX4_waiter) ∈ lw_gd := List.mem_filter.mpr ⟨List.mem_append_right _ (List.mem_of_getElem? (i := 631) (by decide +kernel)), by first | rfl | decide +kernel⟩
theorem wse_X4_waiter : (Cond.selects RX4 yX4_waiter yX4_waiter) ∈ lw_gd := List.mem_filter.mpr ⟨List.mem_append_right _ (List.mem_of_getElem? (i := 632) (by decide +kernel)), by first | rfl | decide +kernel⟩
theorem wc_X4_waiter : (Cond.code yX4_waiter cX4_waiter 4 (some .int)) ∈ lw_gd := List.mem_filter.mpr ⟨List.mem_append_right _ (List.mem_of_getElem? (i := 633) (by decide +kernel)), by first | rfl | decide +kernel⟩
theorem wl_L_82 : (Cond.methodLink RL 82 yX4_memory) ∈ lw_gd := List.mem_filter.mpr ⟨List.mem_append_right _ (List.mem_of_getElem? (i := 634) (by decide +kernel)), by first | rfl | decide +kernel⟩
theorem wi_X4_memory : (Cond.instanceMethod yX4_memory) ∈ lw_gd := List.mem_filter.mpr ⟨List.mem_append_right _ (List.mem_of_getElem? (i := 635) (by decide +kernel)), by first | rfl | decide +kernel⟩
theorem wse_X4_memory : (Cond.selects RX4 yX4_memory yX4_memory) ∈ lw_gd := List.mem_filter.mpr ⟨List.mem_append_right _ (List.mem_of_getElem? (i := 636) (by decide +kernel)), by first | rfl | decide +kernel⟩
theorem wc_X4_memory : (Cond.code yX4_memory cX4_memory 2 (some .int)) ∈ lw_gd := List.mem_filter.mpr ⟨List.mem_append_right _ (List.mem_of_getElem? (i := 637) (by decide +kernel)), by first | rfl | decide +kernel⟩
theorem wl_L_86 : (Cond.methodLink RL 86 yX4_emitted) ∈ lw_gd := List.mem_filter.mpr ⟨List.mem_append_right _ (List.mem_of_getElem? (i := 638) (by decide +kernel)), by first | rfl | decide +kernel⟩
theorem wi_X4_emitted : (Cond.instanceMethod yX4_emitted) ∈ lw_gd := List.mem_filter.mpr ⟨List.mem_append_right _ (List.mem_of_getElem? (i := 639) (by decide +kernel)), by first | rfl | decide +kernel⟩
theorem wse_X4_emitted : (Cond.selects RX4 yX4_emitted yX4_emitted) ∈ lw_gd := List.mem_filter.mpr ⟨List.mem_append_right _ (List.mem_of_getElem? (i := 640) (by decide +kernel)), by first | rfl | decide +kernel⟩
theorem wc_X4_emitted : (Cond.code yX4_emitted cX4_emitted 1 (some .int)) ∈ lw_gd := List.mem_filter.mpr ⟨List.mem_append_right _ (List.mem_of_getElem? (i := 641) (by decide +kernel)), by first | rfl | decide +kernel⟩
theorem wl_L_90 : (Cond.methodLink RL 90 yX4_out) ∈ lw_gd := List.mem_filter.mpr ⟨List.mem_append_right _ (List.mem_of_getElem? (i := 642) (by decide +kernel)), by first | rfl | decide +kernel⟩
theorem wi_X4_out : (Cond.instanceMethod yX4_out) ∈ lw_gd := List.mem_filter.mpr ⟨List.mem_append_right _ (List.mem_of_getElem? (i := 643) (by decide +kernel)), by first | rfl | decide +kernel⟩
theorem wse_X4_out : (Cond.selects RX4 yX4_out yX4_out) ∈ lw_gd := List.mem_filter.mpr ⟨List.mem_append_right _ (List.mem_of_getElem? (i := 644) (by decide +kernel)), by first | rfl | decide +kernel⟩
theorem wc_X4_out : (Cond.code yX4_out cX4_out 2 (some .int)) ∈ lw_gd := List.mem_filter.mpr ⟨List.mem_append_right _ (List.mem_of_getElem? (i := 645) (by decide +kernel)), by first | rfl | decide +kernel⟩
theorem wl_L_94 : (Cond.methodLink RL 94 yX4_why) ∈ lw_gd := List.mem_filter.mpr ⟨List.mem_append_right _ (List.mem_of_getElem? (i := 646) (by decide +kernel)), by first | rfl | decide +kernel⟩
theorem wi_X4_why : (Cond.instanceMethod yX4_why) ∈ lw_gd := List.mem_filter.mpr ⟨List.mem_append_right _ (List.mem_of_getElem? (i := 647) (by decide +kernel)), by first | rfl | decide +kernel⟩
theorem wse_X4_why : (Cond.selects RX4 yX4_why yX4_why) ∈ lw_gd := List.mem_filter.mpr ⟨List.mem_append_right _ (List.mem_of_getElem? (i := 648) (by decide +kernel)), by first | rfl | decide +kernel⟩
theorem wc_X4_why : (Cond.code yX4_why cX4_why 2 (some .int)) ∈ lw_gd := List.mem_filter.mpr ⟨List.mem_append_right _ (List.mem_of_getElem? (i := 649) (by decide +kernel)), by first | rfl | decide +kernel⟩
theorem wl_L_98 : (Cond.methodLink RL 98 yX4_clock) ∈ lw_gd := List.mem_filter.mpr ⟨List.mem_append_right _ (List.mem_of_getElem? (i := 650) (by decide +kernel)), by first | rfl | decide +kernel⟩
theorem wi_X4_clock : (Cond.instanceMethod yX4_clock) ∈ lw_gd := List.mem_filter.mpr ⟨List.mem_append_right _ (List.mem_of_getElem? (i := 651) (by decide +kernel)), by first | rfl | decide +kernel⟩
theorem wse_X4_clock : (Cond.selects RX4 yX4_clock yX4_clock) ∈ lw_gd := List.mem_filter.mpr ⟨List.mem_append_right _ (List.mem_of_getElem? (i := 652) (by decide +kernel)), by first | rfl | decide +kernel⟩
theorem wc_X4_clock : (Cond.code yX4_clock cX4_clock 1 (some .int)) ∈ lw_gd := List.mem_filter.mpr ⟨List.mem_append_right _ (List.mem_of_getElem? (i := 653) (by decide +kernel)), by first | rfl | decide +kernel⟩
theorem wse_X3_beginLeastFree : (Cond.selects RX3 yX3_beginLeastFree yX3_beginLeastFree) ∈ lw_gd := List.mem_filter.mpr ⟨List.mem_append_left _ (List.mem_of_getElem? (i := 0) (by decide +kernel)), by first | rfl | decide +kernel⟩
theorem wse_X3_enter : (Cond.selects RX3 yX3_enter yX3_enter) ∈ lw_gd := List.mem_filter.mpr ⟨List.mem_append_left _ (List.mem_of_getElem? (i := 1) (by decide +kernel)), by first | rfl | decide +kernel⟩
theorem wse_X3_runWord : (Cond.selects RX3 yX3_runWord yX3_runWord) ∈ lw_gd := List.mem_filter.mpr ⟨List.mem_append_left _ (List.mem_of_getElem? (i := 2) (by decide +kernel)), by first | rfl | decide +kernel⟩
theorem wse_X3_runOnNumbers : (Cond.selects RX3 yX3_runOnNumbers yX3_runOnNumbers) ∈ lw_gd := List.mem_filter.mpr ⟨List.mem_append_left _ (List.mem_of_getElem? (i := 3) (by decide +kernel)), by first | rfl | decide +kernel⟩
theorem wse_X3_copyTop : (Cond.selects RX3 yX3_copyTop yX3_copyTop) ∈ lw_gd := List.mem_filter.mpr ⟨List.mem_append_left _ (List.mem_of_getElem? (i := 4) (by decide +kernel)), by first | rfl | decide +kernel⟩
theorem wse_X3_drop : (Cond.selects RX3 yX3_drop yX3_drop) ∈ lw_gd := List.mem_filter.mpr ⟨List.mem_append_left _ (List.mem_of_getElem? (i := 5) (by decide +kernel)), by first | rfl | decide +kernel⟩
theorem wse_X3_swap : (Cond.selects RX3 yX3_swap yX3_swap) ∈ lw_gd := List.mem_filter.mpr ⟨List.mem_append_left _ (List.mem_of_getElem? (i := 6) (by decide +kernel)), by first | rfl | decide +kernel⟩
theorem wse_X3_load : (Cond.selects RX3 yX3_load yX3_load) ∈ lw_gd := List.mem_filter.mpr ⟨List.mem_append_left _ (List.mem_of_getElem? (i := 7) (by decide +kernel)), by first | rfl | decide +kernel⟩
theorem wse_X3_store : (Cond.selects RX3 yX3_store yX3_store) ∈ lw_gd := List.mem_filter.mpr ⟨List.mem_append_left _ (List.mem_of_getElem? (i := 8) (by decide +kernel)), by first | rfl | decide +kernel⟩
theorem wse_X3_compute : (Cond.selects RX3 yX3_compute yX3_compute) ∈ lw_gd := List.mem_filter.mpr ⟨List.mem_append_left _ (List.mem_of_getElem? (i := 9) (by decide +kernel)), by first | rfl | decide +kernel⟩
theorem wse_X3_runOnItself : (Cond.selects RX3 yX3_runOnItself yX3_runOnItself) ∈ lw_gd := List.mem_filter.mpr ⟨List.mem_append_left _ (List.mem_of_getElem? (i := 10) (by decide +kernel)), by first | rfl | decide +kernel⟩
theorem wse_X3_jump : (Cond.selects RX3 yX3_jump yX3_jump) ∈ lw_gd := List.mem_filter.mpr ⟨List.mem_append_left _ (List.mem_of_getElem? (i := 11) (by decide +kernel)), by first | rfl | decide +kernel⟩
theorem wse_X3_jumpIfZero : (Cond.selects RX3 yX3_jumpIfZero yX3_jumpIfZero) ∈ lw_gd := List.mem_filter.mpr ⟨List.mem_append_left _ (List.mem_of_getElem? (i := 12) (by decide +kernel)), by first | rfl | decide +kernel⟩
theorem wse_X3_callPlace : (Cond.selects RX3 yX3_callPlace yX3_callPlace) ∈ lw_gd := List.mem_filter.mpr ⟨List.mem_append_left _ (List.mem_of_getElem? (i := 13) (by decide +kernel)), by first | rfl | decide +kernel⟩
theorem wse_X3_goBack : (Cond.selects RX3 yX3_goBack yX3_goBack) ∈ lw_gd := List.mem_filter.mpr ⟨List.mem_append_left _ (List.mem_of_getElem? (i := 14) (by decide +kernel)), by first | rfl | decide +kernel⟩
theorem wse_X3_emit : (Cond.selects RX3 yX3_emit yX3_emit) ∈ lw_gd := List.mem_filter.mpr ⟨List.mem_append_left _ (List.mem_of_getElem? (i := 15) (by decide +kernel)), by first | rfl | decide +kernel⟩
theorem wse_X3_runWithOthers : (Cond.selects RX3 yX3_runWithOthers yX3_runWithOthers) ∈ lw_gd := List.mem_filter.mpr ⟨List.mem_append_left _ (List.mem_of_getElem? (i := 16) (by decide +kernel)), by first | rfl | decide +kernel⟩
theorem wse_X3_beginOther : (Cond.selects RX3 yX3_beginOther yX3_beginOther) ∈ lw_gd := List.mem_filter.mpr ⟨List.mem_append_left _ (List.mem_of_getElem? (i := 17) (by decide +kernel)), by first | rfl | decide +kernel⟩
theorem wse_X3_sleep : (Cond.selects RX3 yX3_sleep yX3_sleep) ∈ lw_gd := List.mem_filter.mpr ⟨List.mem_append_left _ (List.mem_of_getElem? (i := 18) (by decide +kernel)), by first | rfl | decide +kernel⟩
theorem wse_X3_send : (Cond.selects RX3 yX3_send yX3_send) ∈ lw_gd := List.mem_filter.mpr ⟨List.mem_append_left _ (List.mem_of_getElem? (i := 19) (by decide +kernel)), by first | rfl | decide +kernel⟩
theorem wse_X3_isQueue : (Cond.selects RX3 yX3_isQueue yX3_isQueue) ∈ lw_gd := List.mem_filter.mpr ⟨List.mem_append_left _ (List.mem_of_getElem? (i := 20) (by decide +kernel)), by first | rfl | decide +kernel⟩
theorem wse_X3_firstWaiting : (Cond.selects RX3 yX3_firstWaiting yX3_firstWaiting) ∈ lw_gd := List.mem_filter.mpr ⟨List.mem_append_left _ (List.mem_of_getElem? (i := 21) (by decide +kernel)), by first | rfl | decide +kernel⟩
theorem wse_X0_slot : (Cond.selects RX0 yX0_slot yX0_slot) ∈ lw_gd := List.mem_filter.mpr ⟨List.mem_append_left _ (List.mem_of_getElem? (i := 22) (by decide +kernel)), by first | rfl | decide +kernel⟩
theorem wse_X3_waitAt : (Cond.selects RX3 yX3_waitAt yX3_waitAt) ∈ lw_gd := List.mem_filter.mpr ⟨List.mem_append_left _ (List.mem_of_getElem? (i := 23) (by decide +kernel)), by first | rfl | decide +kernel⟩
theorem wse_X3_receive : (Cond.selects RX3 yX3_receive yX3_receive) ∈ lw_gd := List.mem_filter.mpr ⟨List.mem_append_left _ (List.mem_of_getElem? (i := 24) (by decide +kernel)), by first | rfl | decide +kernel⟩
theorem wse_X3_killOther : (Cond.selects RX3 yX3_killOther yX3_killOther) ∈ lw_gd := List.mem_filter.mpr ⟨List.mem_append_left _ (List.mem_of_getElem? (i := 25) (by decide +kernel)), by first | rfl | decide +kernel⟩
theorem wse_X3_isLive : (Cond.selects RX3 yX3_isLive yX3_isLive) ∈ lw_gd := List.mem_filter.mpr ⟨List.mem_append_left _ (List.mem_of_getElem? (i := 26) (by decide +kernel)), by first | rfl | decide +kernel⟩
theorem wse_X3_isTask : (Cond.selects RX3 yX3_isTask yX3_isTask) ∈ lw_gd := List.mem_filter.mpr ⟨List.mem_append_left _ (List.mem_of_getElem? (i := 27) (by decide +kernel)), by first | rfl | decide +kernel⟩
theorem wse_X3_firstDueSleeper : (Cond.selects RX3 yX3_firstDueSleeper yX3_firstDueSleeper) ∈ lw_gd := List.mem_filter.mpr ⟨List.mem_append_left _ (List.mem_of_getElem? (i := 28) (by decide +kernel)), by first | rfl | decide +kernel⟩
theorem wse_X3_countBefore : (Cond.selects RX3 yX3_countBefore yX3_countBefore) ∈ lw_gd := List.mem_filter.mpr ⟨List.mem_append_left _ (List.mem_of_getElem? (i := 29) (by decide +kernel)), by first | rfl | decide +kernel⟩
theorem wse_X4_fall : (Cond.selects RX4 yX4_fall yX4_fall) ∈ lw_gd := List.mem_filter.mpr ⟨List.mem_append_left _ (List.mem_of_getElem? (i := 30) (by decide +kernel)), by first | rfl | decide +kernel⟩
theorem wse_X4_perform : (Cond.selects RX4 yX4_perform yX4_perform) ∈ lw_gd := List.mem_filter.mpr ⟨List.mem_append_left _ (List.mem_of_getElem? (i := 31) (by decide +kernel)), by first | rfl | decide +kernel⟩
theorem wse_X4_arithmetic : (Cond.selects RX4 yX4_arithmetic yX4_arithmetic) ∈ lw_gd := List.mem_filter.mpr ⟨List.mem_append_left _ (List.mem_of_getElem? (i := 32) (by decide +kernel)), by first | rfl | decide +kernel⟩
theorem wse_X4_take : (Cond.selects RX4 yX4_take yX4_take) ∈ lw_gd := List.mem_filter.mpr ⟨List.mem_append_left _ (List.mem_of_getElem? (i := 33) (by decide +kernel)), by first | rfl | decide +kernel⟩
theorem wse_X4_put : (Cond.selects RX4 yX4_put yX4_put) ∈ lw_gd := List.mem_filter.mpr ⟨List.mem_append_left _ (List.mem_of_getElem? (i := 34) (by decide +kernel)), by first | rfl | decide +kernel⟩
theorem wse_X4_give : (Cond.selects RX4 yX4_give yX4_give) ∈ lw_gd := List.mem_filter.mpr ⟨List.mem_append_left _ (List.mem_of_getElem? (i := 35) (by decide +kernel)), by first | rfl | decide +kernel⟩
theorem wse_X4_memoryOp : (Cond.selects RX4 yX4_memoryOp yX4_memoryOp) ∈ lw_gd := List.mem_filter.mpr ⟨List.mem_append_left _ (List.mem_of_getElem? (i := 36) (by decide +kernel)), by first | rfl | decide +kernel⟩
theorem wse_X4_jumpOp : (Cond.selects RX4 yX4_jumpOp yX4_jumpOp) ∈ lw_gd := List.mem_filter.mpr ⟨List.mem_append_left _ (List.mem_of_getElem? (i := 37) (by decide +kernel)), by first | rfl | decide +kernel⟩
theorem wse_X4_jump : (Cond.selects RX4 yX4_jump yX4_jump) ∈ lw_gd := List.mem_filter.mpr ⟨List.mem_append_left _ (List.mem_of_getElem? (i := 38) (by decide +kernel)), by first | rfl | decide +kernel⟩
theorem wse_X4_send : (Cond.selects RX4 yX4_send yX4_send) ∈ lw_gd := List.mem_filter.mpr ⟨List.mem_append_left _ (List.mem_of_getElem? (i := 39) (by decide +kernel)), by first | rfl | decide +kernel⟩
theorem wse_X4_noQueue : (Cond.selects RX4 yX4_noQueue yX4_noQueue) ∈ lw_gd := List.mem_filter.mpr ⟨List.mem_append_left _ (List.mem_of_getElem? (i := 40) (by decide +kernel)), by first | rfl | decide +kernel⟩
theorem wse_X4_inState : (Cond.selects RX4 yX4_inState yX4_inState) ∈ lw_gd := List.mem_filter.mpr ⟨List.mem_append_left _ (List.mem_of_getElem? (i := 41) (by decide +kernel)), by first | rfl | decide +kernel⟩
theorem wse_X4_set : (Cond.selects RX4 yX4_set yX4_set) ∈ lw_gd := List.mem_filter.mpr ⟨List.mem_append_left _ (List.mem_of_getElem? (i := 42) (by decide +kernel)), by first | rfl | decide +kernel⟩
theorem wse_X4_append : (Cond.selects RX4 yX4_append yX4_append) ∈ lw_gd := List.mem_filter.mpr ⟨List.mem_append_left _ (List.mem_of_getElem? (i := 43) (by decide +kernel)), by first | rfl | decide +kernel⟩
theorem wse_X4_receive : (Cond.selects RX4 yX4_receive yX4_receive) ∈ lw_gd := List.mem_filter.mpr ⟨List.mem_append_left _ (List.mem_of_getElem? (i := 44) (by decide +kernel)), by first | rfl | decide +kernel⟩
theorem wse_X4_end : (Cond.selects RX4 yX4_end yX4_end) ∈ lw_gd := List.mem_filter.mpr ⟨List.mem_append_left _ (List.mem_of_getElem? (i := 45) (by decide +kernel)), by first | rfl | decide +kernel⟩
theorem wse_X4_stackOp : (Cond.selects RX4 yX4_stackOp yX4_stackOp) ∈ lw_gd := List.mem_filter.mpr ⟨List.mem_append_left _ (List.mem_of_getElem? (i := 46) (by decide +kernel)), by first | rfl | decide +kernel⟩
theorem wse_X4_taskOp : (Cond.selects RX4 yX4_taskOp yX4_taskOp) ∈ lw_gd := List.mem_filter.mpr ⟨List.mem_append_left _ (List.mem_of_getElem? (i := 47) (by decide +kernel)), by first | rfl | decide +kernel⟩
theorem wse_X4_begin : (Cond.selects RX4 yX4_begin yX4_begin) ∈ lw_gd := List.mem_filter.mpr ⟨List.mem_append_left _ (List.mem_of_getElem? (i := 48) (by decide +kernel)), by first | rfl | decide +kernel⟩
theorem wse_X4_freeTask : (Cond.selects RX4 yX4_freeTask yX4_freeTask) ∈ lw_gd := List.mem_filter.mpr ⟨List.mem_append_left _ (List.mem_of_getElem? (i := 49) (by decide +kernel)), by first | rfl | decide +kernel⟩
theorem wse_X4_isLive : (Cond.selects RX4 yX4_isLive yX4_isLive) ∈ lw_gd := List.mem_filter.mpr ⟨List.mem_append_left _ (List.mem_of_getElem? (i := 50) (by decide +kernel)), by first | rfl | decide +kernel⟩
theorem inX0 : ∀ w ∈ u_ws RX0 TX0 3, w ∈ lw_gd := fun w h => List.mem_filter.mpr ⟨List.mem_append_right _ (by
  have hp : u_ws RX0 TX0 3 = ([103, 105, 107] : List Nat).filterMap (fun i => tables_1[i]?) := by decide +kernel
  rw [hp] at h
  obtain ⟨i, -, hi⟩ := List.mem_filterMap.mp h
  exact List.mem_of_getElem? hi), List.all_eq_true.mp (show (u_ws RX0 TX0 3).all goodWord = true by decide +kernel) w h⟩
theorem inX1 : ∀ w ∈ u_ws RX1 TX1 2, w ∈ lw_gd := fun w h => List.mem_filter.mpr ⟨List.mem_append_right _ (by
  have hp : u_ws RX1 TX1 2 = ([41, 43] : List Nat).filterMap (fun i => tables_1[i]?) := by decide +kernel
  rw [hp] at h
  obtain ⟨i, -, hi⟩ := List.mem_filterMap.mp h
  exact List.mem_of_getElem? hi), List.all_eq_true.mp (show (u_ws RX1 TX1 2).all goodWord = true by decide +kernel) w h⟩
theorem inX2 : ∀ w ∈ u_ws RX2 TX2 11, w ∈ lw_gd := fun w h => List.mem_filter.mpr ⟨List.mem_append_right _ (by
  have hp : u_ws RX2 TX2 11 = ([69, 71, 73, 75, 77, 79, 81, 83, 85, 87, 89] : List Nat).filterMap (fun i => tables_1[i]?) := by decide +kernel
  rw [hp] at h
  obtain ⟨i, -, hi⟩ := List.mem_filterMap.mp h
  exact List.mem_of_getElem? hi), List.all_eq_true.mp (show (u_ws RX2 TX2 11).all goodWord = true by decide +kernel) w h⟩
theorem inX3 : ∀ w ∈ u_ws RX3 TX3 9, w ∈ lw_gd := fun w h => List.mem_filter.mpr ⟨List.mem_append_right _ (by
  have hp : u_ws RX3 TX3 9 = ([119, 121, 123, 125, 127, 129, 131, 133, 135] : List Nat).filterMap (fun i => tables_1[i]?) := by decide +kernel
  rw [hp] at h
  obtain ⟨i, -, hi⟩ := List.mem_filterMap.mp h
  exact List.mem_of_getElem? hi), List.all_eq_true.mp (show (u_ws RX3 TX3 9).all goodWord = true by decide +kernel) w h⟩
theorem inX4 : ∀ w ∈ u_ws RX4 TX4 27, w ∈ lw_gd := fun w h => List.mem_filter.mpr ⟨List.mem_append_right _ (by
  have hp : u_ws RX4 TX4 27 = ([437, 439, 441, 443, 445, 447, 449, 451, 453, 455, 457, 459, 461, 463, 465, 467, 469, 471, 473, 475, 477, 479, 481, 483, 485, 487, 489] : List Nat).filterMap (fun i => tables_1[i]?) := by decide +kernel
  rw [hp] at h
  obtain ⟨i, -, hi⟩ := List.mem_filterMap.mp h
  exact List.mem_of_getElem? hi), List.all_eq_true.mp (show (u_ws RX4 TX4 27).all goodWord = true by decide +kernel) w h⟩
theorem goodT {y : MethodName} {cc : ByteArray} {n : Nat} {r : Option FieldType} (h : Cond.code y cc n r ∈ lw_gd) : GoodIn lw_gd (.code y cc n r :: lw_gd) := fun w hw => by
  rcases List.mem_cons.mp hw with rfl | hw
  · exact ⟨h, good_of_word (List.mem_filter.mp h).2⟩
  · exact ⟨hw, good_of_word (List.mem_filter.mp hw).2⟩
end
section
/-! the world by keys: a cell stands at the address of its key (kind, number); rows over such a world, an instruction each -/
abbrev ka_T : Type := Nat → Nat → Nat → Int32
def k3_up (x : ka_T) (f n j : Nat) (v : Int32) : ka_T := fun f' n' j' => if f' = f ∧ n' = n ∧ j' = j then v else x f' n' j'
theorem k3_same (x : ka_T) (f n j : Nat) (v : Int32) : k3_up x f n j v f n j = v := by simp [k3_up]
def kk_up (c : Nat × Nat → va_E) (q : Nat × Nat) (e : va_E) : Nat × Nat → va_E := fun x => if x = q then e else c x
def kw_w (ks : List (Nat × Nat)) (ad : Nat × Nat → Nat) (c : Nat × Nat → va_E) : va_W := ks.map (fun q => (ad q, c q))
theorem kw_get {ks : List (Nat × Nat)} {ad : Nat × Nat → Nat} {c : Nat × Nat → va_E} {q : Nat × Nat} (h : q ∈ ks) : ∃ k : Nat, ks[k]? = some q ∧ (kw_w ks ad c)[k]? = some (ad q, c q) := by
  obtain ⟨k, hk⟩ := List.getElem?_of_mem h
  exact ⟨k, hk, by simp [kw_w, hk]⟩
theorem kw_set {A : Nat → Prop} {ks : List (Nat × Nat)} {ad : Nat × Nat → Nat} {c : Nat × Nat → va_E} {q : Nat × Nat} {k : Nat} {e : va_E} (hD : va_D A (kw_w ks ad c)) (hk : ks[k]? = some q) : (kw_w ks ad c).set k (ad q, e) = kw_w ks ad (kk_up c q e) := by
  apply List.ext_getElem?
  intro i
  by_cases hi : i = k
  · subst hi
    have hl : i < (kw_w ks ad c).length := by
      have := (List.getElem?_eq_some_iff.mp hk).1
      simpa [kw_w] using this
    rw [List.getElem?_set_self hl]
    simp [kw_w, hk, kk_up]
  · rw [List.getElem?_set_ne (fun h => hi h.symm)]
    simp only [kw_w, List.getElem?_map]
    cases hq : ks[i]? with
    | none => rfl
    | some x =>
      have hne : x ≠ q := fun ee => hi (hD.1 i k (ad x, c x) (ad q, c q) (by simp [kw_w, hq]) (by simp [kw_w, hk]) (by rw [ee]))
      simp [kk_up, hne]
theorem i32_ne {x k : Int32} {n : Int} (hk : k.toInt = n) (h : ¬ x = k) : ¬ x.toInt = n := fun e => h (Int32.toInt_inj.mp (e.trans hk.symm))
theorem ii_1 (x : Int32) : x + Int32.ofInt 1 = x + 1 := by rw [show Int32.ofInt 1 = (1 : Int32) from by decide]
theorem ii_4 (x : Int32) : x + Int32.ofInt 4 = x + 4 := by rw [show Int32.ofInt 4 = (4 : Int32) from by decide]
theorem vp_lt {i : Int32} {n : Nat} (h : vp_in i n) : i.toNatClampNeg < n := Nat.not_le.mp fun q => h (Or.inr q)
/-- an answer that is a Task or null, by its number -/
abbrev pq_ (cf : Nat → Nat) (ad : Nat × Nat → Nat) (post : Option Nat → ka_T → Prop) : Option Nat → ka_T → Prop := fun a u => ∃ r : Option Nat, a = r.map (fun n => ad (6, n)) ∧ (∀ n : Nat, r = some n → n < cf 0) ∧ post r u
/-- the world inside a method, at its start and end -/
def Wg_ (D : va_G) (tys : List (ClassId × FieldType)) (A : Nat → Prop) (ks : List (Nat × Nat)) (ad : Nat × Nat → Nat) (ce : Nat × Nat → va_E) (s : State) (H : Heap) (locs : List Loc) : Prop :=
  va_P D cls5 (kw_w ks ad ce) H ∧ va_K D cls5 tys s ∧ va_D A (kw_w ks ad ce) ∧ va_S A s.heap H locs
def Wu_ (D : va_G) (tys : List (ClassId × FieldType)) (A : Nat → Prop) (ks : List (Nat × Nat)) (ad : Nat × Nat → Nat) (ce : Nat × Nat → va_E) (U : State) : Prop :=
  va_P D cls5 (kw_w ks ad ce) U.heap ∧ va_K D cls5 tys U ∧ va_D A (kw_w ks ad ce)
section KB
variable {p : Program} {l : Launch} {e : Env} {R : Room} {s : State} {m : MethodId} {args : Array Value} {below : List Frame} {meth : Method} {c : Code} {H : Heap} {locs : List Loc} {cells slots : Nat} {Q : State → Prop}
variable {cc : ByteArray} {nL pc : Nat} {ls : Array Slot} {rest : List Value} {own : String} {D : va_G} {A : Nat → Prop} {tys : List (ClassId × FieldType)} {ks : List (Nat × Nat)} {ad : Nat × Nat → Nat} {ce : Nat × Nat → va_E}
theorem kg_get (S : CallFix p m c cc nL s args lw_gd own) (hw : Wg_ D tys A ks ad ce s H locs) {q : Nat × Nat} (hq : q ∈ ks) {ci : Nat} {fs : List Value} {C : String} {T : u_T} {N : Nat} (he : ce q = .inr (ci, fs)) (hc : cls5[ci]? = some (C, T, N)) (hin : ∀ w ∈ u_ws C T N, w ∈ lw_gd) (k : Nat) (hk : k < N) {index : Nat} (hl : Cond.fieldLink own index (T k).1 (T k).2.1 (T k).2.2.1 ∈ lw_gd) {v : Value} (hv : fs[k]? = some v) (hd : decode cc pc = .ok (.getfield index, 3))
    (kk : W p l e R s m args below meth c H locs cells slots Q (F0 m (pc + 3) ls (v :: rest))) : W p l e R s m args below meth c H locs cells slots Q (F0 m pc ls (.ref (ad q) :: rest)) := by
  obtain ⟨hx, hb, hml, hown, hts⟩ := S
  obtain ⟨hP, hK, hD, hS⟩ := hw
  obtain ⟨j, hj, hg⟩ := kw_get (ad := ad) (c := ce) hq
  rw [he] at hg
  exact va_get hx hb hts hin hown hK hP j hg hc k hk (hts _ hl) (fun _ h => h) hv hd kk
theorem kg_put (S : CallFix p m c cc nL s args lw_gd own) (hw : Wg_ D tys A ks ad ce s H locs) {q : Nat × Nat} (hq : q ∈ ks) {ci : Nat} {fs : List Value} {C : String} {T : u_T} {N : Nat} (he : ce q = .inr (ci, fs)) (hc : cls5[ci]? = some (C, T, N)) (hin : ∀ w ∈ u_ws C T N, w ∈ lw_gd) (ty0 : Nat → FieldType) (hty : ∀ k, k < N → parseFieldDescriptor (T k).2.2.1 = some (ty0 k)) (hnm : ∀ a, a < N → ∀ b, b < N → a ≠ b → (T a).2.1 ≠ (T b).2.1) (k : Nat) (hk : k < N) {index : Nat} (hl : Cond.fieldLink own index (T k).1 (T k).2.1 (T k).2.2.1 ∈ lw_gd) (hfin : (T k).2.2.2 = false) {ty : FieldType} {v : Value} (hpd : parseFieldDescriptor (T k).2.2.1 = some ty) (hn : narrow ty v = v) (hfit : fits ty v = true) (hlen : k < fs.length) {ce' : Nat × Nat → va_E} (hu : kk_up ce q (.inr (ci, fs.set k v)) = ce') (hd : decode cc pc = .ok (.putfield index, 3))
    (kk : ∀ (H1 : Heap) (locs1 : List Loc), Wg_ D tys A ks ad ce' s H1 locs1 → W p l e R s m args below meth c H1 locs1 cells slots Q (F0 m (pc + 3) ls rest)) : W p l e R s m args below meth c H locs cells slots Q (F0 m pc ls (v :: .ref (ad q) :: rest)) := by
  obtain ⟨hx, hb, hml, hown, hts⟩ := S
  obtain ⟨hP, hK, hD, hS⟩ := hw
  obtain ⟨j, hj, hg⟩ := kw_get (ad := ad) (c := ce) hq
  rw [he] at hg
  refine va_put hx hb hts hin ty0 hty hnm hown hK hP hD hS j hg hc k hk (hts _ hl) (fun _ h => h) hfin hpd hn hfit hlen hd (fun H1 locs1 h1 h2 h3 => ?_)
  rw [kw_set hD hj, hu] at h1 h2
  exact kk H1 locs1 ⟨h1, hK, h2, h3⟩
theorem kg_ild (S : CallFix p m c cc nL s args lw_gd own) (hw : Wg_ D tys A ks ad ce s H locs) {q : Nat × Nat} (hq : q ∈ ks) {cA : ClassId} {n : Nat} {f : Nat → Int32} (he : ce q = .inl (cA, n, .inl f)) (t0 : Nat) (ht : tys[t0]? = some (cA, .int)) {i : Int32} (hin : vp_in i n) (hd : decode cc pc = .ok (.iaload, 1))
    (kk : W p l e R s m args below meth c H locs cells slots Q (F0 m (pc + 1) ls (.int (f i.toNatClampNeg) :: rest))) : W p l e R s m args below meth c H locs cells slots Q (F0 m pc ls (.int i :: .ref (ad q) :: rest)) := by
  obtain ⟨hx, hb, hml, hown, hts⟩ := S
  obtain ⟨hP, hK, hD, hS⟩ := hw
  obtain ⟨j, hj, hg⟩ := kw_get (ad := ad) (c := ce) hq
  rw [he] at hg
  exact va_iald hx hb hK hP j t0 hg ht hin hd kk
theorem kg_ist (S : CallFix p m c cc nL s args lw_gd own) (hw : Wg_ D tys A ks ad ce s H locs) {q : Nat × Nat} (hq : q ∈ ks) {cA : ClassId} {n : Nat} {f : Nat → Int32} (he : ce q = .inl (cA, n, .inl f)) (t0 : Nat) (ht : tys[t0]? = some (cA, .int)) {i x : Int32} (hin : vp_in i n) {ce' : Nat × Nat → va_E} (hu : kk_up ce q (.inl (cA, n, .inl (upd f i.toNatClampNeg x))) = ce') (hd : decode cc pc = .ok (.iastore, 1))
    (kk : ∀ (H1 : Heap) (locs1 : List Loc), Wg_ D tys A ks ad ce' s H1 locs1 → W p l e R s m args below meth c H1 locs1 cells slots Q (F0 m (pc + 1) ls rest)) : W p l e R s m args below meth c H locs cells slots Q (F0 m pc ls (.int x :: .int i :: .ref (ad q) :: rest)) := by
  obtain ⟨hx, hb, hml, hown, hts⟩ := S
  obtain ⟨hP, hK, hD, hS⟩ := hw
  obtain ⟨j, hj, hg⟩ := kw_get (ad := ad) (c := ce) hq
  rw [he] at hg
  refine va_iast hx hb hK hP hD hS j t0 hg ht hin hd (fun H1 locs1 h1 h2 h3 => ?_)
  rw [kw_set hD hj, hu] at h1 h2
  exact kk H1 locs1 ⟨h1, hK, h2, h3⟩
theorem kg_ald (S : CallFix p m c cc nL s args lw_gd own) (hw : Wg_ D tys A ks ad ce s H locs) {q : Nat × Nat} (hq : q ∈ ks) {cA : ClassId} {n : Nat} {f : Nat → Option Nat} (he : ce q = .inl (cA, n, .inr (.inr (.inr (.inr f))))) (t0 : Nat) {C : String} (ht : tys[t0]? = some (cA, .object C)) {i : Int32} (hin : vp_in i n) {a : Nat} (hf : f i.toNatClampNeg = some a) (hd : decode cc pc = .ok (.aaload, 1))
    (kk : W p l e R s m args below meth c H locs cells slots Q (F0 m (pc + 1) ls (.ref a :: rest))) : W p l e R s m args below meth c H locs cells slots Q (F0 m pc ls (.int i :: .ref (ad q) :: rest)) := by
  obtain ⟨hx, hb, hml, hown, hts⟩ := S
  obtain ⟨hP, hK, hD, hS⟩ := hw
  obtain ⟨j, hj, hg⟩ := kw_get (ad := ad) (c := ce) hq
  rw [he] at hg
  exact va_aldq hx hb hK hP j t0 hg ht hin hd (by rw [hf]; exact kk)
theorem kg_len (S : CallFix p m c cc nL s args lw_gd own) (hw : Wg_ D tys A ks ad ce s H locs) {q : Nat × Nat} (hq : q ∈ ks) {cA : ClassId} {x : vp_A} (he : ce q = .inl (cA, x)) (t0 : Nat) {ty : FieldType} (ht : tys[t0]? = some (cA, ty)) (hd : decode cc pc = .ok (.arraylength, 1))
    (kk : W p l e R s m args below meth c H locs cells slots Q (F0 m (pc + 1) ls (.int (nI x.1) :: rest))) : W p l e R s m args below meth c H locs cells slots Q (F0 m pc ls (.ref (ad q) :: rest)) := by
  obtain ⟨hx, hb, hml, hown, hts⟩ := S
  obtain ⟨hP, hK, hD, hS⟩ := hw
  obtain ⟨j, hj, hg⟩ := kw_get (ad := ad) (c := ce) hq
  rw [he] at hg
  exact va_alen hx hb hK hP j t0 hg ht rfl hd kk
theorem kg_bl (av : List Value) : FrameBlind (va_Pc av (Wu_ D tys A ks ad ce)) := fun a U g mk h => by
  obtain ⟨h0, hP, hK, hD⟩ := h
  exact ⟨h0, hP, va_K.moved (u := U) (U := U.calling g mk a) (Vm.Alike.refl U.vm) hK, hD⟩
variable {S0 : Type} {cu : S0 → Nat × Nat → va_E} {y : MethodName} {bytes : ByteArray} {maxL index : Nat} {ret : Option FieldType} {rm : Room} {As st0 : List Value}
theorem kg_sv (hw : Wg_ D tys A ks ad ce s H locs) (av : List Value) : PreS s H (va_Pc av (Wu_ D tys A ks ad ce)) av := ⟨kg_bl av, fun U hU hW => ⟨rfl, by rw [hU]; exact hw.1, va_K.moved hW.alike hw.2.1, hw.2.2.1⟩⟩
/-- a call of a method of an object: int, void, a reference or null -/
theorem kg_vi {post : Int32 → S0 → Prop} (S : CallFix p m c cc nL s args lw_gd own) (hw : Wg_ D tys A ks ad ce s H locs) {q : Nat × Nat} (hM : Met l y (.code y bytes maxL ret :: lw_gd) rm (va_Pc (.ref (ad q) :: As) (Wu_ D tys A ks ad ce)) (va_Qi post (fun u t => Wu_ D tys A ks ad (cu u) t) A) 0 0 A) (hcm : Cond.code y bytes maxL ret ∈ lw_gd) (hini : Cond.initialized y.cls ∈ lw_gd) (hlk : Cond.methodLink own index y ∈ lw_gd) (him : Cond.instanceMethod y ∈ lw_gd) {C : String} {T : u_T} {N ci : Nat} {fs : List Value} (hse : Cond.selects C y y ∈ lw_gd) (hq : q ∈ ks) (he : ce q = .inr (ci, fs)) (hc : cls5[ci]? = some (C, T, N)) (hds : y.cls ≠ "java/lang/invoke/MethodHandle" ∧ y.cls ≠ "java/lang/invoke/VarHandle" ∧ (parseMethodDescriptor y.desc).map (fun d => d.parameters.length) = some As.length) (hr0 : rm.cells = 0) (hr1 : rm.slots = 0) (hR : rm.frames + 1 ≤ R.frames ∧ 8 + (maxL + 11) + rm.locals ≤ R.locals) (hls : ls.size = nL) (hst : st0 = As.reverse ++ .ref (ad q) :: rest) (hro : (rest.map fun v => v.category).sum ≤ 8) (hcs : cells ≤ R.cells ∧ slots ≤ R.slots) (hd : decode cc pc = .ok (.invokevirtual index, 3))
    (kk : ∀ (r : Int32) (u : S0) (H1 : Heap) (locs1 : List Loc), post r u → Wg_ D tys A ks ad (cu u) s H1 locs1 → W p l e R s m args below meth c H1 locs1 cells slots Q (F0 m (pc + 3) ls (.int r :: rest))) : W p l e R s m args below meth c H locs cells slots Q (F0 m pc ls st0) := by
  have hts := S.2.2.2.2
  obtain ⟨j, hj, hg⟩ := kw_get (ad := ad) (c := ce) hq
  rw [he] at hg
  have hv := kg_sv (s := s) hw (.ref (ad q) :: As)
  refine va_calli (va_runV (As := As) (rest := rest) S hM ⟨callB_of As.length hts (goodT hcm) rfl hr0 hr1 (hts _ hini) (hts _ hlk) hds hR, hts _ him, hts _ hse⟩ ⟨hv.1, va_recv hw.2.1 hw.1 hc hg, hv.2⟩ rfl rfl hls hst (lv_room hro) hd hcs) hw.2.2.2 (fun _ _ h => h) (fun _ h => h) (fun r u t H1 locs1 ht hvm hp hB hz hk hS1 => ?_)
  obtain ⟨hP1, hK1, hD1⟩ := hB
  rw [ht] at hP1
  exact kk r u H1 locs1 hp ⟨hP1, hw.2.1, hD1, hS1⟩
theorem kg_vv {post : S0 → Prop} (S : CallFix p m c cc nL s args lw_gd own) (hw : Wg_ D tys A ks ad ce s H locs) {q : Nat × Nat} (hM : Met l y (.code y bytes maxL ret :: lw_gd) rm (va_Pc (.ref (ad q) :: As) (Wu_ D tys A ks ad ce)) (va_Qv post (fun u t => Wu_ D tys A ks ad (cu u) t) A) 0 0 A) (hcm : Cond.code y bytes maxL ret ∈ lw_gd) (hini : Cond.initialized y.cls ∈ lw_gd) (hlk : Cond.methodLink own index y ∈ lw_gd) (him : Cond.instanceMethod y ∈ lw_gd) {C : String} {T : u_T} {N ci : Nat} {fs : List Value} (hse : Cond.selects C y y ∈ lw_gd) (hq : q ∈ ks) (he : ce q = .inr (ci, fs)) (hc : cls5[ci]? = some (C, T, N)) (hds : y.cls ≠ "java/lang/invoke/MethodHandle" ∧ y.cls ≠ "java/lang/invoke/VarHandle" ∧ (parseMethodDescriptor y.desc).map (fun d => d.parameters.length) = some As.length) (hr0 : rm.cells = 0) (hr1 : rm.slots = 0) (hR : rm.frames + 1 ≤ R.frames ∧ 8 + (maxL + 11) + rm.locals ≤ R.locals) (hls : ls.size = nL) (hst : st0 = As.reverse ++ .ref (ad q) :: rest) (hro : (rest.map fun v => v.category).sum ≤ 8) (hcs : cells ≤ R.cells ∧ slots ≤ R.slots) (hd : decode cc pc = .ok (.invokevirtual index, 3))
    (kk : ∀ (u : S0) (H1 : Heap) (locs1 : List Loc), post u → Wg_ D tys A ks ad (cu u) s H1 locs1 → W p l e R s m args below meth c H1 locs1 cells slots Q (F0 m (pc + 3) ls rest)) : W p l e R s m args below meth c H locs cells slots Q (F0 m pc ls st0) := by
  have hts := S.2.2.2.2
  obtain ⟨j, hj, hg⟩ := kw_get (ad := ad) (c := ce) hq
  rw [he] at hg
  have hv := kg_sv (s := s) hw (.ref (ad q) :: As)
  refine va_callv (va_runV (As := As) (rest := rest) S hM ⟨callB_of As.length hts (goodT hcm) rfl hr0 hr1 (hts _ hini) (hts _ hlk) hds hR, hts _ him, hts _ hse⟩ ⟨hv.1, va_recv hw.2.1 hw.1 hc hg, hv.2⟩ rfl rfl hls hst (lv_room hro) hd hcs) hw.2.2.2 (fun _ _ h => h) (fun _ h => h) (fun u t H1 locs1 ht hvm hp hB hz hk hS1 => ?_)
  obtain ⟨hP1, hK1, hD1⟩ := hB
  rw [ht] at hP1
  exact kk u H1 locs1 hp ⟨hP1, hw.2.1, hD1, hS1⟩
theorem kg_vq {post : Option Nat → S0 → Prop} (S : CallFix p m c cc nL s args lw_gd own) (hw : Wg_ D tys A ks ad ce s H locs) {q : Nat × Nat} (hM : Met l y (.code y bytes maxL ret :: lw_gd) rm (va_Pc (.ref (ad q) :: As) (Wu_ D tys A ks ad ce)) (va_Qq post (fun u t => Wu_ D tys A ks ad (cu u) t) A) 0 0 A) (hcm : Cond.code y bytes maxL ret ∈ lw_gd) (hini : Cond.initialized y.cls ∈ lw_gd) (hlk : Cond.methodLink own index y ∈ lw_gd) (him : Cond.instanceMethod y ∈ lw_gd) {C : String} {T : u_T} {N ci : Nat} {fs : List Value} (hse : Cond.selects C y y ∈ lw_gd) (hq : q ∈ ks) (he : ce q = .inr (ci, fs)) (hc : cls5[ci]? = some (C, T, N)) (hds : y.cls ≠ "java/lang/invoke/MethodHandle" ∧ y.cls ≠ "java/lang/invoke/VarHandle" ∧ (parseMethodDescriptor y.desc).map (fun d => d.parameters.length) = some As.length) (hr0 : rm.cells = 0) (hr1 : rm.slots = 0) (hR : rm.frames + 1 ≤ R.frames ∧ 8 + (maxL + 11) + rm.locals ≤ R.locals) (hls : ls.size = nL) (hst : st0 = As.reverse ++ .ref (ad q) :: rest) (hro : (rest.map fun v => v.category).sum ≤ 8) (hcs : cells ≤ R.cells ∧ slots ≤ R.slots) (hd : decode cc pc = .ok (.invokevirtual index, 3))
    (kk : ∀ (r : Option Nat) (u : S0) (H1 : Heap) (locs1 : List Loc), post r u → Wg_ D tys A ks ad (cu u) s H1 locs1 → W p l e R s m args below meth c H1 locs1 cells slots Q (F0 m (pc + 3) ls (va_rf r :: rest))) : W p l e R s m args below meth c H locs cells slots Q (F0 m pc ls st0) := by
  have hts := S.2.2.2.2
  obtain ⟨j, hj, hg⟩ := kw_get (ad := ad) (c := ce) hq
  rw [he] at hg
  have hv := kg_sv (s := s) hw (.ref (ad q) :: As)
  refine va_callq (va_runV (As := As) (rest := rest) S hM ⟨callB_of As.length hts (goodT hcm) rfl hr0 hr1 (hts _ hini) (hts _ hlk) hds hR, hts _ him, hts _ hse⟩ ⟨hv.1, va_recv hw.2.1 hw.1 hc hg, hv.2⟩ rfl rfl hls hst (lv_room hro) hd hcs) hw.2.2.2 (fun _ _ h => h) (fun _ h => h) (fun r u t H1 locs1 ht hvm hp hB hz hk hS1 => ?_)
  obtain ⟨hP1, hK1, hD1⟩ := hB
  rw [ht] at hP1
  exact kk r u H1 locs1 hp ⟨hP1, hw.2.1, hD1, hS1⟩
/-- a call of a static method: int, void -/
theorem kg_si {post : Int32 → S0 → Prop} (S : CallFix p m c cc nL s args lw_gd own) (hw : Wg_ D tys A ks ad ce s H locs) (hM : Met l y (.code y bytes maxL ret :: lw_gd) rm (va_Pc As (Wu_ D tys A ks ad ce)) (va_Qi post (fun u t => Wu_ D tys A ks ad (cu u) t) A) 0 0 A) (hcm : Cond.code y bytes maxL ret ∈ lw_gd) (hini : Cond.initialized y.cls ∈ lw_gd) (hlk : Cond.methodLink own index y ∈ lw_gd) (him : Cond.static y ∈ lw_gd) (hds : y.cls ≠ "java/lang/invoke/MethodHandle" ∧ y.cls ≠ "java/lang/invoke/VarHandle" ∧ (parseMethodDescriptor y.desc).map (fun d => d.parameters.length) = some As.length) (hr0 : rm.cells = 0) (hr1 : rm.slots = 0) (hR : rm.frames + 1 ≤ R.frames ∧ 8 + (maxL + 11) + rm.locals ≤ R.locals) (hls : ls.size = nL) (hst : st0 = As.reverse ++ rest) (hro : (rest.map fun v => v.category).sum ≤ 8) (hcs : cells ≤ R.cells ∧ slots ≤ R.slots) (hd : decode cc pc = .ok (.invokestatic index, 3))
    (kk : ∀ (r : Int32) (u : S0) (H1 : Heap) (locs1 : List Loc), post r u → Wg_ D tys A ks ad (cu u) s H1 locs1 → W p l e R s m args below meth c H1 locs1 cells slots Q (F0 m (pc + 3) ls (.int r :: rest))) : W p l e R s m args below meth c H locs cells slots Q (F0 m pc ls st0) := by
  have hts := S.2.2.2.2
  refine va_calli (va_runS (As := As) (rest := rest) S hM ⟨callB_of As.length hts (goodT hcm) rfl hr0 hr1 (hts _ hini) (hts _ hlk) hds hR, hts _ him⟩ (kg_sv hw As) rfl rfl hls hst (lv_room hro) hd hcs) hw.2.2.2 (fun _ _ h => h) (fun _ h => h) (fun r u t H1 locs1 ht hvm hp hB hz hk hS1 => ?_)
  obtain ⟨hP1, hK1, hD1⟩ := hB
  rw [ht] at hP1
  exact kk r u H1 locs1 hp ⟨hP1, hw.2.1, hD1, hS1⟩
theorem kg_sw {post : S0 → Prop} (S : CallFix p m c cc nL s args lw_gd own) (hw : Wg_ D tys A ks ad ce s H locs) (hM : Met l y (.code y bytes maxL ret :: lw_gd) rm (va_Pc As (Wu_ D tys A ks ad ce)) (va_Qv post (fun u t => Wu_ D tys A ks ad (cu u) t) A) 0 0 A) (hcm : Cond.code y bytes maxL ret ∈ lw_gd) (hini : Cond.initialized y.cls ∈ lw_gd) (hlk : Cond.methodLink own index y ∈ lw_gd) (him : Cond.static y ∈ lw_gd) (hds : y.cls ≠ "java/lang/invoke/MethodHandle" ∧ y.cls ≠ "java/lang/invoke/VarHandle" ∧ (parseMethodDescriptor y.desc).map (fun d => d.parameters.length) = some As.length) (hr0 : rm.cells = 0) (hr1 : rm.slots = 0) (hR : rm.frames + 1 ≤ R.frames ∧ 8 + (maxL + 11) + rm.locals ≤ R.locals) (hls : ls.size = nL) (hst : st0 = As.reverse ++ rest) (hro : (rest.map fun v => v.category).sum ≤ 8) (hcs : cells ≤ R.cells ∧ slots ≤ R.slots) (hd : decode cc pc = .ok (.invokestatic index, 3))
    (kk : ∀ (u : S0) (H1 : Heap) (locs1 : List Loc), post u → Wg_ D tys A ks ad (cu u) s H1 locs1 → W p l e R s m args below meth c H1 locs1 cells slots Q (F0 m (pc + 3) ls rest)) : W p l e R s m args below meth c H locs cells slots Q (F0 m pc ls st0) := by
  have hts := S.2.2.2.2
  refine va_callv (va_runS (As := As) (rest := rest) S hM ⟨callB_of As.length hts (goodT hcm) rfl hr0 hr1 (hts _ hini) (hts _ hlk) hds hR, hts _ him⟩ (kg_sv hw As) rfl rfl hls hst (lv_room hro) hd hcs) hw.2.2.2 (fun _ _ h => h) (fun _ h => h) (fun u t H1 locs1 ht hvm hp hB hz hk hS1 => ?_)
  obtain ⟨hP1, hK1, hD1⟩ := hB
  rw [ht] at hP1
  exact kk u H1 locs1 hp ⟨hP1, hw.2.1, hD1, hS1⟩
/-- the ends -/
theorem kr_i {post : Int32 → S0 → Prop} {v : Int32} {ty : FieldType} (S : CallFix p m c cc nL s args lw_gd own) (hr : meth.sig.returnType = some ty) (hn : narrow ty (.int v) = .int v) (hk : meth.locks = false) {u : S0} (hw : Wg_ D tys A ks ad (cu u) s H locs) (hp : post v u) (hd : decode cc pc = .ok (.ireturn, 1)) : W p l e R s m args below meth c H locs 0 0 (MQ below (va_Qi post (fun u t => Wu_ D tys A ks ad (cu u) t) A) args s 0 0 A) (F0 m pc ls [.int v]) :=
  W.zret S.1 S.2.1 hr hn (fun t ht hW => ⟨⟨v, u, rfl, hp, by rw [ht]; exact hw.1, va_K.moved hW.alike hw.2.1, hw.2.2.1⟩, hw.2.2.2.F ht⟩) hw.2.2.2.2.2 hd hk
theorem kr_v {post : S0 → Prop} (S : CallFix p m c cc nL s args lw_gd own) (hr : meth.sig.returnType = none) (hk : meth.locks = false) {u : S0} (hw : Wg_ D tys A ks ad (cu u) s H locs) (hp : post u) (hd : decode cc pc = .ok (.return_, 1)) : W p l e R s m args below meth c H locs 0 0 (MQ below (va_Qv post (fun u t => Wu_ D tys A ks ad (cu u) t) A) args s 0 0 A) (F0 m pc ls []) :=
  W.vret S.1 S.2.1 hr (fun t ht hW => ⟨⟨u, rfl, hp, by rw [ht]; exact hw.1, va_K.moved hW.alike hw.2.1, hw.2.2.1⟩, hw.2.2.2.F ht⟩) hw.2.2.2.2.2 hd hk
theorem kr_q {post : Option Nat → S0 → Prop} (r : Option Nat) {C : String} (S : CallFix p m c cc nL s args lw_gd own) (hr : meth.sig.returnType = some (.object C)) (hk : meth.locks = false) {u : S0} (hw : Wg_ D tys A ks ad (cu u) s H locs) (hp : post r u) (hd : decode cc pc = .ok (.areturn, 1)) : W p l e R s m args below meth c H locs 0 0 (MQ below (va_Qq post (fun u t => Wu_ D tys A ks ad (cu u) t) A) args s 0 0 A) (F0 m pc ls [va_rf r]) :=
  W.aret S.1 S.2.1 hr (Or.inl ⟨C, rfl⟩) (va_rf_or r) (fun t ht hW => ⟨⟨r, u, rfl, hp, by rw [ht]; exact hw.1, va_K.moved hW.alike hw.2.1, hw.2.2.1⟩, hw.2.2.2.F ht⟩) hw.2.2.2.2.2 hd hk
/-- a contract out of its walk -/
theorem kp_met {Qc : Array Value → State → Outcome → State → Prop} (hy : plainName y.cls = true) (avs : List Value) (hlen : (lg_sl avs).length ≤ maxL)
    (body : ∀ (p : Program) (e : Env) (s : State) (m : MethodId) (args : Array Value) (below : List Frame) (meth : Method) (c : Code) (ls : Array Slot), CallFix p m c bytes maxL s args lw_gd y.cls → meth.sig.returnType = ret → meth.locks = false → Wg_ D tys A ks ad ce s s.heap [] → lv_has ls maxL (lv_args 0 avs) → W p l e rm s m args below meth c s.heap [] 0 0 (MQ below Qc args s 0 0 A) (F0 m 0 ls [])) :
    Met l y (.code y bytes maxL ret :: lw_gd) rm (va_Pc avs (Wu_ D tys A ks ad ce)) Qc 0 0 A := by
  refine Met.ofW (cc := bytes) (maxL := maxL) (ret := ret) hy rfl ?_
  intro p e s m args below meth c s₁ B hml hv
  obtain ⟨rfl, hP, hK, hD⟩ := hv
  have hts := atoms_spec (ws := .code y bytes maxL ret :: lw_gd) B.pre
  have hl := lv_entry avs (n := maxL) hlen
  rw [lg_entry_eq]
  exact body p e s m _ below meth c _ ⟨B.exec, B.bytes, hml, findClass_of_methodNamed B.named, fun w h => hts w (List.mem_cons_of_mem _ h)⟩ B.returns B.notSynchronized ⟨hP, hK, hD, va_S.rf⟩ hl
/-- a switch: the default, also where the table names it -/
theorem kg_tab {dflt lo hi : Int} {offs : Array Int} {len : Nat} {x : Int32} {tgt : Nat} (S : CallFix p m c cc nL s args lw_gd own) (hd : decode cc pc = .ok (.tableswitch dflt lo hi offs, len)) (h : (x.toInt < lo ∨ hi < x.toInt) ∨ (¬ x.toInt < lo ∧ ¬ hi < x.toInt ∧ offs[(x.toInt - lo).toNat]? = some dflt)) (ht : (pc : Int) + dflt = (tgt : Int)) (k : W p l e R s m args below meth c H locs cells slots Q (F0 m tgt ls rest)) : W p l e R s m args below meth c H locs cells slots Q (F0 m pc ls (.int x :: rest)) := by
  rcases h with h | ⟨h1, h2, h3⟩
  · exact lv_tableOut S.1 S.2.1 hd h ht k
  · exact lv_tableIn S.1 S.2.1 hd h1 h2 h3 ht k
end KB
end
section
/-! printed by wip/whole/gen.py: the cells of both objects by their keys; a row for each field and array -/
def pl_n (cf : Nat → Nat) (n : Nat) : Nat := if n % 2 = 0 then cf 1 else 4
abbrev tys_3 (cA : Nat → ClassId) : List (ClassId × FieldType) := [(cA 0, .int), (cA 1, .object "TaskKernel$Task"), (cA 2, .object "TaskKernel$Mailbox")]
def ks_a (cf : Nat → Nat) : List (Nat × Nat) := [(0, 0), (1, 0), (2, 0), (3, 0), (4, 0), (5, 0), (11, 0), (12, 0), (13, 0), (14, 0), (15, 0), (16, 0), (17, 0), (18, 0), (19, 0), (20, 0), (21, 0), (22, 0), (23, 0), (24, 0), (25, 0), (26, 0), (27, 0), (28, 0)] ++ ((List.range (cf 0)).map (fun n => (6, n)) ++ ((List.range (2 * cf 0)).map (fun n => (7, n)) ++ ((List.range (2 * cf 0)).map (fun n => (8, n)) ++ ((List.range (cf 2)).map (fun n => (9, n)) ++ (List.range (cf 2)).map (fun n => (10, n))))))
theorem km_0 {cf : Nat → Nat} : ((0, 0) : Nat × Nat) ∈ ks_a cf := List.mem_append_left _ (by decide)
theorem km_1 {cf : Nat → Nat} : ((1, 0) : Nat × Nat) ∈ ks_a cf := List.mem_append_left _ (by decide)
theorem km_2 {cf : Nat → Nat} : ((2, 0) : Nat × Nat) ∈ ks_a cf := List.mem_append_left _ (by decide)
theorem km_3 {cf : Nat → Nat} : ((3, 0) : Nat × Nat) ∈ ks_a cf := List.mem_append_left _ (by decide)
theorem km_4 {cf : Nat → Nat} : ((4, 0) : Nat × Nat) ∈ ks_a cf := List.mem_append_left _ (by decide)
theorem km_5 {cf : Nat → Nat} : ((5, 0) : Nat × Nat) ∈ ks_a cf := List.mem_append_left _ (by decide)
theorem km_11 {cf : Nat → Nat} : ((11, 0) : Nat × Nat) ∈ ks_a cf := List.mem_append_left _ (by decide)
theorem km_12 {cf : Nat → Nat} : ((12, 0) : Nat × Nat) ∈ ks_a cf := List.mem_append_left _ (by decide)
theorem km_13 {cf : Nat → Nat} : ((13, 0) : Nat × Nat) ∈ ks_a cf := List.mem_append_left _ (by decide)
theorem km_14 {cf : Nat → Nat} : ((14, 0) : Nat × Nat) ∈ ks_a cf := List.mem_append_left _ (by decide)
theorem km_15 {cf : Nat → Nat} : ((15, 0) : Nat × Nat) ∈ ks_a cf := List.mem_append_left _ (by decide)
theorem km_16 {cf : Nat → Nat} : ((16, 0) : Nat × Nat) ∈ ks_a cf := List.mem_append_left _ (by decide)
theorem km_17 {cf : Nat → Nat} : ((17, 0) : Nat × Nat) ∈ ks_a cf := List.mem_append_left _ (by decide)
theorem km_18 {cf : Nat → Nat} : ((18, 0) : Nat × Nat) ∈ ks_a cf := List.mem_append_left _ (by decide)
theorem km_19 {cf : Nat → Nat} : ((19, 0) : Nat × Nat) ∈ ks_a cf := List.mem_append_left _ (by decide)
theorem km_20 {cf : Nat → Nat} : ((20, 0) : Nat × Nat) ∈ ks_a cf := List.mem_append_left _ (by decide)
theorem km_21 {cf : Nat → Nat} : ((21, 0) : Nat × Nat) ∈ ks_a cf := List.mem_append_left _ (by decide)
theorem km_22 {cf : Nat → Nat} : ((22, 0) : Nat × Nat) ∈ ks_a cf := List.mem_append_left _ (by decide)
theorem km_23 {cf : Nat → Nat} : ((23, 0) : Nat × Nat) ∈ ks_a cf := List.mem_append_left _ (by decide)
theorem km_24 {cf : Nat → Nat} : ((24, 0) : Nat × Nat) ∈ ks_a cf := List.mem_append_left _ (by decide)
theorem km_25 {cf : Nat → Nat} : ((25, 0) : Nat × Nat) ∈ ks_a cf := List.mem_append_left _ (by decide)
theorem km_26 {cf : Nat → Nat} : ((26, 0) : Nat × Nat) ∈ ks_a cf := List.mem_append_left _ (by decide)
theorem km_27 {cf : Nat → Nat} : ((27, 0) : Nat × Nat) ∈ ks_a cf := List.mem_append_left _ (by decide)
theorem km_28 {cf : Nat → Nat} : ((28, 0) : Nat × Nat) ∈ ks_a cf := List.mem_append_left _ (by decide)
theorem km_6 {cf : Nat → Nat} {n : Nat} (h : n < cf 0) : ((6, n) : Nat × Nat) ∈ ks_a cf := by simp [ks_a, h]
theorem km_7 {cf : Nat → Nat} {n : Nat} (h : n < 2 * cf 0) : ((7, n) : Nat × Nat) ∈ ks_a cf := by simp [ks_a, h]
theorem km_8 {cf : Nat → Nat} {n : Nat} (h : n < 2 * cf 0) : ((8, n) : Nat × Nat) ∈ ks_a cf := by simp [ks_a, h]
theorem km_9 {cf : Nat → Nat} {n : Nat} (h : n < cf 2) : ((9, n) : Nat × Nat) ∈ ks_a cf := by simp [ks_a, h]
theorem km_10 {cf : Nat → Nat} {n : Nat} (h : n < cf 2) : ((10, n) : Nat × Nat) ∈ ks_a cf := by simp [ks_a, h]
theorem vl_n {cf : Nat → Nat} {n : Nat} (h : n < cf 0) : 2 * n < 2 * cf 0 := by omega
theorem vl_f {cf : Nat → Nat} {n : Nat} (h : n < cf 0) : 2 * n + 1 < 2 * cf 0 := by omega
def fx_0 (cf : Nat → Nat) (ad : Nat × Nat → Nat) (ka : ka_T) (n : Nat) : List Value := [.ref (ad (1, 0)), .ref (ad (2, 0)), .ref (ad (3, 0)), .ref (ad (4, 0)), .ref (ad (5, 0)), .int (ka 305 n 0), .int (ka 306 n 0), .int (ka 307 n 0), .int (ka 308 n 0)]
def fx_6 (cf : Nat → Nat) (ad : Nat × Nat → Nat) (ka : ka_T) (n : Nat) : List Value := [.int (nI n), .ref (ad (7, 2 * n)), .ref (ad (7, 2 * n + 1)), .int (ka 203 n 0), .int (ka 204 n 0), .int (ka 205 n 0), .int (ka 206 n 0), .int (ka 207 n 0), .int (ka 208 n 0), .int (ka 209 n 0), .int (ka 210 n 0)]
def fx_7 (cf : Nat → Nat) (ad : Nat × Nat → Nat) (ka : ka_T) (n : Nat) : List Value := [.ref (ad (8, n)), .int (ka 101 n 0)]
def fx_9 (cf : Nat → Nat) (ad : Nat × Nat → Nat) (ka : ka_T) (n : Nat) : List Value := [.ref (ad (10, n)), .int (ka 1 n 0), .int (ka 2 n 0)]
def fx_11 (cf : Nat → Nat) (ad : Nat × Nat → Nat) (mo : ka_T) (n : Nat) : List Value := [.int (nI (cf 0)), .int (nI (cf 1)), .int (nI (cf 2)), .int (nI (cf 3)), .ref (ad (12, 0)), .ref (ad (13, 0)), .int (mo 406 n 0), .int (mo 407 n 0), .int (mo 408 n 0), .ref (ad (14, 0)), .ref (ad (15, 0)), .ref (ad (16, 0)), .ref (ad (17, 0)), .ref (ad (18, 0)), .ref (ad (19, 0)), .ref (ad (20, 0)), .ref (ad (21, 0)), .ref (ad (22, 0)), .ref (ad (23, 0)), .ref (ad (24, 0)), .ref (ad (25, 0)), .ref (ad (26, 0)), .ref (ad (27, 0)), .int (mo 423 n 0), .ref (ad (28, 0)), .int (mo 425 n 0), .int (mo 426 n 0)]
def ce_l (cA : Nat → ClassId) (cf : Nat → Nat) (ad : Nat × Nat → Nat) (ka mo : ka_T) (q : Nat × Nat) : va_E := match q.1 with
  | 0 => .inr (3, fx_0 cf ad ka q.2)
  | 1 => .inl (cA 1, cf 0, .inr (.inr (.inr (.inr (fun i => some (ad (6, i)))))))
  | 2 => .inl (cA 2, cf 2, .inr (.inr (.inr (.inr (fun i => some (ad (9, i)))))))
  | 3 => .inl (cA 0, 64, .inl (ka 302 q.2))
  | 4 => .inl (cA 0, 16, .inl (ka 303 q.2))
  | 5 => .inl (cA 0, 32, .inl (ka 304 q.2))
  | 6 => .inr (2, fx_6 cf ad ka q.2)
  | 7 => .inr (1, fx_7 cf ad ka q.2)
  | 8 => .inl (cA 0, (pl_n cf q.2), .inl (ka 100 q.2))
  | 9 => .inr (0, fx_9 cf ad ka q.2)
  | 10 => .inl (cA 0, (cf 3), .inl (ka 0 q.2))
  | 11 => .inr (4, fx_11 cf ad mo q.2)
  | 12 => .inl (cA 0, 64, .inl (mo 404 q.2))
  | 13 => .inl (cA 0, 16, .inl (mo 405 q.2))
  | 14 => .inl (cA 0, 8, .inl (mo 409 q.2))
  | 15 => .inl (cA 0, 8, .inl (mo 410 q.2))
  | 16 => .inl (cA 0, 8, .inl (mo 411 q.2))
  | 17 => .inl (cA 0, 8, .inl (mo 412 q.2))
  | 18 => .inl (cA 0, 128, .inl (fun j => if q.2 = 0 then mo 413 (j / 16) (j % 16) else 0))
  | 19 => .inl (cA 0, 8, .inl (mo 414 q.2))
  | 20 => .inl (cA 0, 32, .inl (fun j => if q.2 = 0 then mo 415 (j / 4) (j % 4) else 0))
  | 21 => .inl (cA 0, 8, .inl (mo 416 q.2))
  | 22 => .inl (cA 0, 8, .inl (mo 417 q.2))
  | 23 => .inl (cA 0, 8, .inl (mo 418 q.2))
  | 24 => .inl (cA 0, 8, .inl (mo 419 q.2))
  | 25 => .inl (cA 0, 8, .inl (mo 420 q.2))
  | 26 => .inl (cA 0, 4, .inl (mo 421 q.2))
  | 27 => .inl (cA 0, 24, .inl (fun j => if q.2 = 0 then mo 422 (j / 6) (j % 6) else 0))
  | 28 => .inl (cA 0, 32, .inl (mo 424 q.2))
  | _ => .inl (cA 0, 0, .inl (fun _ => 0))
abbrev Wo_ (D : va_G) (cA : Nat → ClassId) (cf : Nat → Nat) (ad : Nat × Nat → Nat) (A : Nat → Prop) (ka mo : ka_T) (s : State) (H : Heap) (locs : List Loc) : Prop := Wg_ D (tys_3 cA) A (ks_a cf) ad (ce_l cA cf ad ka mo) s H locs
abbrev Wx_ (D : va_G) (cA : Nat → ClassId) (cf : Nat → Nat) (ad : Nat × Nat → Nat) (A : Nat → Prop) (ka mo : ka_T) (U : State) : Prop := Wu_ D (tys_3 cA) A (ks_a cf) ad (ce_l cA cf ad ka mo) U
theorem up_tw (x : ka_T) (f d j : Nat) (v : Int32) (hd : 0 < d) : upd (fun i => x f (i / d) (i % d)) j v = fun i => k3_up x f (j / d) (j % d) v f (i / d) (i % d) := by
  funext i
  by_cases h : i = j
  · subst h; simp [upd, k3_up]
  · have h2 : ¬ (i / d = j / d ∧ i % d = j % d) := fun hh => h (by rw [← Nat.div_add_mod i d, ← Nat.div_add_mod j d, hh.1, hh.2])
    simp only [upd, k3_up, if_neg h]
    rw [if_neg (fun hh => h2 ⟨hh.2.1, hh.2.2⟩)]
theorem cu_1 {cA : Nat → ClassId} {cf : Nat → Nat} {ad : Nat × Nat → Nat} {ka mo : ka_T} {n : Nat} {v : Int32} {j : Nat} : kk_up (ce_l cA cf ad ka mo) (9, n) (.inr (0, (fx_9 cf ad ka n).set 1 (.int v))) = ce_l cA cf ad (k3_up ka 1 n 0 v) mo := by
  funext q
  obtain ⟨k, n9⟩ := q
  by_cases hk : k = 9
  · subst hk
    by_cases hn : n9 = n
    · subst hn; simp [kk_up, ce_l, fx_9, k3_up, upd]
    · have h9 : ¬ ((9, n9) : Nat × Nat) = (9, n) := fun h => hn (Prod.mk.inj h).2
      simp [kk_up, h9, ce_l, fx_9, k3_up, hn]
  · have h9 : ¬ ((k, n9) : Nat × Nat) = (9, n) := fun h => hk (Prod.mk.inj h).1
    simp only [kk_up, if_neg h9]
    exact match k, hk with | 0, _ => rfl | 1, _ => rfl | 2, _ => rfl | 3, _ => rfl | 4, _ => rfl | 5, _ => rfl | 6, _ => rfl | 7, _ => rfl | 8, _ => rfl | 9, h => absurd rfl h | 10, _ => rfl | 11, _ => rfl | 12, _ => rfl | 13, _ => rfl | 14, _ => rfl | 15, _ => rfl | 16, _ => rfl | 17, _ => rfl | 18, _ => rfl | 19, _ => rfl | 20, _ => rfl | 21, _ => rfl | 22, _ => rfl | 23, _ => rfl | 24, _ => rfl | 25, _ => rfl | 26, _ => rfl | 27, _ => rfl | 28, _ => rfl | _ + 29, _ => rfl
theorem cu_2 {cA : Nat → ClassId} {cf : Nat → Nat} {ad : Nat × Nat → Nat} {ka mo : ka_T} {n : Nat} {v : Int32} {j : Nat} : kk_up (ce_l cA cf ad ka mo) (9, n) (.inr (0, (fx_9 cf ad ka n).set 2 (.int v))) = ce_l cA cf ad (k3_up ka 2 n 0 v) mo := by
  funext q
  obtain ⟨k, n9⟩ := q
  by_cases hk : k = 9
  · subst hk
    by_cases hn : n9 = n
    · subst hn; simp [kk_up, ce_l, fx_9, k3_up, upd]
    · have h9 : ¬ ((9, n9) : Nat × Nat) = (9, n) := fun h => hn (Prod.mk.inj h).2
      simp [kk_up, h9, ce_l, fx_9, k3_up, hn]
  · have h9 : ¬ ((k, n9) : Nat × Nat) = (9, n) := fun h => hk (Prod.mk.inj h).1
    simp only [kk_up, if_neg h9]
    exact match k, hk with | 0, _ => rfl | 1, _ => rfl | 2, _ => rfl | 3, _ => rfl | 4, _ => rfl | 5, _ => rfl | 6, _ => rfl | 7, _ => rfl | 8, _ => rfl | 9, h => absurd rfl h | 10, _ => rfl | 11, _ => rfl | 12, _ => rfl | 13, _ => rfl | 14, _ => rfl | 15, _ => rfl | 16, _ => rfl | 17, _ => rfl | 18, _ => rfl | 19, _ => rfl | 20, _ => rfl | 21, _ => rfl | 22, _ => rfl | 23, _ => rfl | 24, _ => rfl | 25, _ => rfl | 26, _ => rfl | 27, _ => rfl | 28, _ => rfl | _ + 29, _ => rfl
theorem cu_101 {cA : Nat → ClassId} {cf : Nat → Nat} {ad : Nat × Nat → Nat} {ka mo : ka_T} {n : Nat} {v : Int32} {j : Nat} : kk_up (ce_l cA cf ad ka mo) (7, n) (.inr (1, (fx_7 cf ad ka n).set 1 (.int v))) = ce_l cA cf ad (k3_up ka 101 n 0 v) mo := by
  funext q
  obtain ⟨k, n9⟩ := q
  by_cases hk : k = 7
  · subst hk
    by_cases hn : n9 = n
    · subst hn; simp [kk_up, ce_l, fx_7, k3_up, upd]
    · have h9 : ¬ ((7, n9) : Nat × Nat) = (7, n) := fun h => hn (Prod.mk.inj h).2
      simp [kk_up, h9, ce_l, fx_7, k3_up, hn]
  · have h9 : ¬ ((k, n9) : Nat × Nat) = (7, n) := fun h => hk (Prod.mk.inj h).1
    simp only [kk_up, if_neg h9]
    exact match k, hk with | 0, _ => rfl | 1, _ => rfl | 2, _ => rfl | 3, _ => rfl | 4, _ => rfl | 5, _ => rfl | 6, _ => rfl | 7, h => absurd rfl h | 8, _ => rfl | 9, _ => rfl | 10, _ => rfl | 11, _ => rfl | 12, _ => rfl | 13, _ => rfl | 14, _ => rfl | 15, _ => rfl | 16, _ => rfl | 17, _ => rfl | 18, _ => rfl | 19, _ => rfl | 20, _ => rfl | 21, _ => rfl | 22, _ => rfl | 23, _ => rfl | 24, _ => rfl | 25, _ => rfl | 26, _ => rfl | 27, _ => rfl | 28, _ => rfl | _ + 29, _ => rfl
theorem cu_203 {cA : Nat → ClassId} {cf : Nat → Nat} {ad : Nat × Nat → Nat} {ka mo : ka_T} {n : Nat} {v : Int32} {j : Nat} : kk_up (ce_l cA cf ad ka mo) (6, n) (.inr (2, (fx_6 cf ad ka n).set 3 (.int v))) = ce_l cA cf ad (k3_up ka 203 n 0 v) mo := by
  funext q
  obtain ⟨k, n9⟩ := q
  by_cases hk : k = 6
  · subst hk
    by_cases hn : n9 = n
    · subst hn; simp [kk_up, ce_l, fx_6, k3_up, upd]
    · have h9 : ¬ ((6, n9) : Nat × Nat) = (6, n) := fun h => hn (Prod.mk.inj h).2
      simp [kk_up, h9, ce_l, fx_6, k3_up, hn]
  · have h9 : ¬ ((k, n9) : Nat × Nat) = (6, n) := fun h => hk (Prod.mk.inj h).1
    simp only [kk_up, if_neg h9]
    exact match k, hk with | 0, _ => rfl | 1, _ => rfl | 2, _ => rfl | 3, _ => rfl | 4, _ => rfl | 5, _ => rfl | 6, h => absurd rfl h | 7, _ => rfl | 8, _ => rfl | 9, _ => rfl | 10, _ => rfl | 11, _ => rfl | 12, _ => rfl | 13, _ => rfl | 14, _ => rfl | 15, _ => rfl | 16, _ => rfl | 17, _ => rfl | 18, _ => rfl | 19, _ => rfl | 20, _ => rfl | 21, _ => rfl | 22, _ => rfl | 23, _ => rfl | 24, _ => rfl | 25, _ => rfl | 26, _ => rfl | 27, _ => rfl | 28, _ => rfl | _ + 29, _ => rfl
theorem cu_204 {cA : Nat → ClassId} {cf : Nat → Nat} {ad : Nat × Nat → Nat} {ka mo : ka_T} {n : Nat} {v : Int32} {j : Nat} : kk_up (ce_l cA cf ad ka mo) (6, n) (.inr (2, (fx_6 cf ad ka n).set 4 (.int v))) = ce_l cA cf ad (k3_up ka 204 n 0 v) mo := by
  funext q
  obtain ⟨k, n9⟩ := q
  by_cases hk : k = 6
  · subst hk
    by_cases hn : n9 = n
    · subst hn; simp [kk_up, ce_l, fx_6, k3_up, upd]
    · have h9 : ¬ ((6, n9) : Nat × Nat) = (6, n) := fun h => hn (Prod.mk.inj h).2
      simp [kk_up, h9, ce_l, fx_6, k3_up, hn]
  · have h9 : ¬ ((k, n9) : Nat × Nat) = (6, n) := fun h => hk (Prod.mk.inj h).1
    simp only [kk_up, if_neg h9]
    exact match k, hk with | 0, _ => rfl | 1, _ => rfl | 2, _ => rfl | 3, _ => rfl | 4, _ => rfl | 5, _ => rfl | 6, h => absurd rfl h | 7, _ => rfl | 8, _ => rfl | 9, _ => rfl | 10, _ => rfl | 11, _ => rfl | 12, _ => rfl | 13, _ => rfl | 14, _ => rfl | 15, _ => rfl | 16, _ => rfl | 17, _ => rfl | 18, _ => rfl | 19, _ => rfl | 20, _ => rfl | 21, _ => rfl | 22, _ => rfl | 23, _ => rfl | 24, _ => rfl | 25, _ => rfl | 26, _ => rfl | 27, _ => rfl | 28, _ => rfl | _ + 29, _ => rfl
theorem cu_205 {cA : Nat → ClassId} {cf : Nat → Nat} {ad : Nat × Nat → Nat} {ka mo : ka_T} {n : Nat} {v : Int32} {j : Nat} : kk_up (ce_l cA cf ad ka mo) (6, n) (.inr (2, (fx_6 cf ad ka n).set 5 (.int v))) = ce_l cA cf ad (k3_up ka 205 n 0 v) mo := by
  funext q
  obtain ⟨k, n9⟩ := q
  by_cases hk : k = 6
  · subst hk
    by_cases hn : n9 = n
    · subst hn; simp [kk_up, ce_l, fx_6, k3_up, upd]
    · have h9 : ¬ ((6, n9) : Nat × Nat) = (6, n) := fun h => hn (Prod.mk.inj h).2
      simp [kk_up, h9, ce_l, fx_6, k3_up, hn]
  · have h9 : ¬ ((k, n9) : Nat × Nat) = (6, n) := fun h => hk (Prod.mk.inj h).1
    simp only [kk_up, if_neg h9]
    exact match k, hk with | 0, _ => rfl | 1, _ => rfl | 2, _ => rfl | 3, _ => rfl | 4, _ => rfl | 5, _ => rfl | 6, h => absurd rfl h | 7, _ => rfl | 8, _ => rfl | 9, _ => rfl | 10, _ => rfl | 11, _ => rfl | 12, _ => rfl | 13, _ => rfl | 14, _ => rfl | 15, _ => rfl | 16, _ => rfl | 17, _ => rfl | 18, _ => rfl | 19, _ => rfl | 20, _ => rfl | 21, _ => rfl | 22, _ => rfl | 23, _ => rfl | 24, _ => rfl | 25, _ => rfl | 26, _ => rfl | 27, _ => rfl | 28, _ => rfl | _ + 29, _ => rfl
theorem cu_206 {cA : Nat → ClassId} {cf : Nat → Nat} {ad : Nat × Nat → Nat} {ka mo : ka_T} {n : Nat} {v : Int32} {j : Nat} : kk_up (ce_l cA cf ad ka mo) (6, n) (.inr (2, (fx_6 cf ad ka n).set 6 (.int v))) = ce_l cA cf ad (k3_up ka 206 n 0 v) mo := by
  funext q
  obtain ⟨k, n9⟩ := q
  by_cases hk : k = 6
  · subst hk
    by_cases hn : n9 = n
    · subst hn; simp [kk_up, ce_l, fx_6, k3_up, upd]
    · have h9 : ¬ ((6, n9) : Nat × Nat) = (6, n) := fun h => hn (Prod.mk.inj h).2
      simp [kk_up, h9, ce_l, fx_6, k3_up, hn]
  · have h9 : ¬ ((k, n9) : Nat × Nat) = (6, n) := fun h => hk (Prod.mk.inj h).1
    simp only [kk_up, if_neg h9]
    exact match k, hk with | 0, _ => rfl | 1, _ => rfl | 2, _ => rfl | 3, _ => rfl | 4, _ => rfl | 5, _ => rfl | 6, h => absurd rfl h | 7, _ => rfl | 8, _ => rfl | 9, _ => rfl | 10, _ => rfl | 11, _ => rfl | 12, _ => rfl | 13, _ => rfl | 14, _ => rfl | 15, _ => rfl | 16, _ => rfl | 17, _ => rfl | 18, _ => rfl | 19, _ => rfl | 20, _ => rfl | 21, _ => rfl | 22, _ => rfl | 23, _ => rfl | 24, _ => rfl | 25, _ => rfl | 26, _ => rfl | 27, _ => rfl | 28, _ => rfl | _ + 29, _ => rfl
theorem cu_207 {cA : Nat → ClassId} {cf : Nat → Nat} {ad : Nat × Nat → Nat} {ka mo : ka_T} {n : Nat} {v : Int32} {j : Nat} : kk_up (ce_l cA cf ad ka mo) (6, n) (.inr (2, (fx_6 cf ad ka n).set 7 (.int v))) = ce_l cA cf ad (k3_up ka 207 n 0 v) mo := by
  funext q
  obtain ⟨k, n9⟩ := q
  by_cases hk : k = 6
  · subst hk
    by_cases hn : n9 = n
    · subst hn; simp [kk_up, ce_l, fx_6, k3_up, upd]
    · have h9 : ¬ ((6, n9) : Nat × Nat) = (6, n) := fun h => hn (Prod.mk.inj h).2
      simp [kk_up, h9, ce_l, fx_6, k3_up, hn]
  · have h9 : ¬ ((k, n9) : Nat × Nat) = (6, n) := fun h => hk (Prod.mk.inj h).1
    simp only [kk_up, if_neg h9]
    exact match k, hk with | 0, _ => rfl | 1, _ => rfl | 2, _ => rfl | 3, _ => rfl | 4, _ => rfl | 5, _ => rfl | 6, h => absurd rfl h | 7, _ => rfl | 8, _ => rfl | 9, _ => rfl | 10, _ => rfl | 11, _ => rfl | 12, _ => rfl | 13, _ => rfl | 14, _ => rfl | 15, _ => rfl | 16, _ => rfl | 17, _ => rfl | 18, _ => rfl | 19, _ => rfl | 20, _ => rfl | 21, _ => rfl | 22, _ => rfl | 23, _ => rfl | 24, _ => rfl | 25, _ => rfl | 26, _ => rfl | 27, _ => rfl | 28, _ => rfl | _ + 29, _ => rfl
theorem cu_208 {cA : Nat → ClassId} {cf : Nat → Nat} {ad : Nat × Nat → Nat} {ka mo : ka_T} {n : Nat} {v : Int32} {j : Nat} : kk_up (ce_l cA cf ad ka mo) (6, n) (.inr (2, (fx_6 cf ad ka n).set 8 (.int v))) = ce_l cA cf ad (k3_up ka 208 n 0 v) mo := by
  funext q
  obtain ⟨k, n9⟩ := q
  by_cases hk : k = 6
  · subst hk
    by_cases hn : n9 = n
    · subst hn; simp [kk_up, ce_l, fx_6, k3_up, upd]
    · have h9 : ¬ ((6, n9) : Nat × Nat) = (6, n) := fun h => hn (Prod.mk.inj h).2
      simp [kk_up, h9, ce_l, fx_6, k3_up, hn]
  · have h9 : ¬ ((k, n9) : Nat × Nat) = (6, n) := fun h => hk (Prod.mk.inj h).1
    simp only [kk_up, if_neg h9]
    exact match k, hk with | 0, _ => rfl | 1, _ => rfl | 2, _ => rfl | 3, _ => rfl | 4, _ => rfl | 5, _ => rfl | 6, h => absurd rfl h | 7, _ => rfl | 8, _ => rfl | 9, _ => rfl | 10, _ => rfl | 11, _ => rfl | 12, _ => rfl | 13, _ => rfl | 14, _ => rfl | 15, _ => rfl | 16, _ => rfl | 17, _ => rfl | 18, _ => rfl | 19, _ => rfl | 20, _ => rfl | 21, _ => rfl | 22, _ => rfl | 23, _ => rfl | 24, _ => rfl | 25, _ => rfl | 26, _ => rfl | 27, _ => rfl | 28, _ => rfl | _ + 29, _ => rfl
theorem cu_209 {cA : Nat → ClassId} {cf : Nat → Nat} {ad : Nat × Nat → Nat} {ka mo : ka_T} {n : Nat} {v : Int32} {j : Nat} : kk_up (ce_l cA cf ad ka mo) (6, n) (.inr (2, (fx_6 cf ad ka n).set 9 (.int v))) = ce_l cA cf ad (k3_up ka 209 n 0 v) mo := by
  funext q
  obtain ⟨k, n9⟩ := q
  by_cases hk : k = 6
  · subst hk
    by_cases hn : n9 = n
    · subst hn; simp [kk_up, ce_l, fx_6, k3_up, upd]
    · have h9 : ¬ ((6, n9) : Nat × Nat) = (6, n) := fun h => hn (Prod.mk.inj h).2
      simp [kk_up, h9, ce_l, fx_6, k3_up, hn]
  · have h9 : ¬ ((k, n9) : Nat × Nat) = (6, n) := fun h => hk (Prod.mk.inj h).1
    simp only [kk_up, if_neg h9]
    exact match k, hk with | 0, _ => rfl | 1, _ => rfl | 2, _ => rfl | 3, _ => rfl | 4, _ => rfl | 5, _ => rfl | 6, h => absurd rfl h | 7, _ => rfl | 8, _ => rfl | 9, _ => rfl | 10, _ => rfl | 11, _ => rfl | 12, _ => rfl | 13, _ => rfl | 14, _ => rfl | 15, _ => rfl | 16, _ => rfl | 17, _ => rfl | 18, _ => rfl | 19, _ => rfl | 20, _ => rfl | 21, _ => rfl | 22, _ => rfl | 23, _ => rfl | 24, _ => rfl | 25, _ => rfl | 26, _ => rfl | 27, _ => rfl | 28, _ => rfl | _ + 29, _ => rfl
theorem cu_210 {cA : Nat → ClassId} {cf : Nat → Nat} {ad : Nat × Nat → Nat} {ka mo : ka_T} {n : Nat} {v : Int32} {j : Nat} : kk_up (ce_l cA cf ad ka mo) (6, n) (.inr (2, (fx_6 cf ad ka n).set 10 (.int v))) = ce_l cA cf ad (k3_up ka 210 n 0 v) mo := by
  funext q
  obtain ⟨k, n9⟩ := q
  by_cases hk : k = 6
  · subst hk
    by_cases hn : n9 = n
    · subst hn; simp [kk_up, ce_l, fx_6, k3_up, upd]
    · have h9 : ¬ ((6, n9) : Nat × Nat) = (6, n) := fun h => hn (Prod.mk.inj h).2
      simp [kk_up, h9, ce_l, fx_6, k3_up, hn]
  · have h9 : ¬ ((k, n9) : Nat × Nat) = (6, n) := fun h => hk (Prod.mk.inj h).1
    simp only [kk_up, if_neg h9]
    exact match k, hk with | 0, _ => rfl | 1, _ => rfl | 2, _ => rfl | 3, _ => rfl | 4, _ => rfl | 5, _ => rfl | 6, h => absurd rfl h | 7, _ => rfl | 8, _ => rfl | 9, _ => rfl | 10, _ => rfl | 11, _ => rfl | 12, _ => rfl | 13, _ => rfl | 14, _ => rfl | 15, _ => rfl | 16, _ => rfl | 17, _ => rfl | 18, _ => rfl | 19, _ => rfl | 20, _ => rfl | 21, _ => rfl | 22, _ => rfl | 23, _ => rfl | 24, _ => rfl | 25, _ => rfl | 26, _ => rfl | 27, _ => rfl | 28, _ => rfl | _ + 29, _ => rfl
theorem cu_305 {cA : Nat → ClassId} {cf : Nat → Nat} {ad : Nat × Nat → Nat} {ka mo : ka_T} {n : Nat} {v : Int32} {j : Nat} : kk_up (ce_l cA cf ad ka mo) (0, n) (.inr (3, (fx_0 cf ad ka n).set 5 (.int v))) = ce_l cA cf ad (k3_up ka 305 n 0 v) mo := by
  funext q
  obtain ⟨k, n9⟩ := q
  by_cases hk : k = 0
  · subst hk
    by_cases hn : n9 = n
    · subst hn; simp [kk_up, ce_l, fx_0, k3_up, upd]
    · have h9 : ¬ ((0, n9) : Nat × Nat) = (0, n) := fun h => hn (Prod.mk.inj h).2
      simp [kk_up, h9, ce_l, fx_0, k3_up, hn]
  · have h9 : ¬ ((k, n9) : Nat × Nat) = (0, n) := fun h => hk (Prod.mk.inj h).1
    simp only [kk_up, if_neg h9]
    exact match k, hk with | 0, h => absurd rfl h | 1, _ => rfl | 2, _ => rfl | 3, _ => rfl | 4, _ => rfl | 5, _ => rfl | 6, _ => rfl | 7, _ => rfl | 8, _ => rfl | 9, _ => rfl | 10, _ => rfl | 11, _ => rfl | 12, _ => rfl | 13, _ => rfl | 14, _ => rfl | 15, _ => rfl | 16, _ => rfl | 17, _ => rfl | 18, _ => rfl | 19, _ => rfl | 20, _ => rfl | 21, _ => rfl | 22, _ => rfl | 23, _ => rfl | 24, _ => rfl | 25, _ => rfl | 26, _ => rfl | 27, _ => rfl | 28, _ => rfl | _ + 29, _ => rfl
theorem cu_306 {cA : Nat → ClassId} {cf : Nat → Nat} {ad : Nat × Nat → Nat} {ka mo : ka_T} {n : Nat} {v : Int32} {j : Nat} : kk_up (ce_l cA cf ad ka mo) (0, n) (.inr (3, (fx_0 cf ad ka n).set 6 (.int v))) = ce_l cA cf ad (k3_up ka 306 n 0 v) mo := by
  funext q
  obtain ⟨k, n9⟩ := q
  by_cases hk : k = 0
  · subst hk
    by_cases hn : n9 = n
    · subst hn; simp [kk_up, ce_l, fx_0, k3_up, upd]
    · have h9 : ¬ ((0, n9) : Nat × Nat) = (0, n) := fun h => hn (Prod.mk.inj h).2
      simp [kk_up, h9, ce_l, fx_0, k3_up, hn]
  · have h9 : ¬ ((k, n9) : Nat × Nat) = (0, n) := fun h => hk (Prod.mk.inj h).1
    simp only [kk_up, if_neg h9]
    exact match k, hk with | 0, h => absurd rfl h | 1, _ => rfl | 2, _ => rfl | 3, _ => rfl | 4, _ => rfl | 5, _ => rfl | 6, _ => rfl | 7, _ => rfl | 8, _ => rfl | 9, _ => rfl | 10, _ => rfl | 11, _ => rfl | 12, _ => rfl | 13, _ => rfl | 14, _ => rfl | 15, _ => rfl | 16, _ => rfl | 17, _ => rfl | 18, _ => rfl | 19, _ => rfl | 20, _ => rfl | 21, _ => rfl | 22, _ => rfl | 23, _ => rfl | 24, _ => rfl | 25, _ => rfl | 26, _ => rfl | 27, _ => rfl | 28, _ => rfl | _ + 29, _ => rfl
theorem cu_307 {cA : Nat → ClassId} {cf : Nat → Nat} {ad : Nat × Nat → Nat} {ka mo : ka_T} {n : Nat} {v : Int32} {j : Nat} : kk_up (ce_l cA cf ad ka mo) (0, n) (.inr (3, (fx_0 cf ad ka n).set 7 (.int v))) = ce_l cA cf ad (k3_up ka 307 n 0 v) mo := by
  funext q
  obtain ⟨k, n9⟩ := q
  by_cases hk : k = 0
  · subst hk
    by_cases hn : n9 = n
    · subst hn; simp [kk_up, ce_l, fx_0, k3_up, upd]
    · have h9 : ¬ ((0, n9) : Nat × Nat) = (0, n) := fun h => hn (Prod.mk.inj h).2
      simp [kk_up, h9, ce_l, fx_0, k3_up, hn]
  · have h9 : ¬ ((k, n9) : Nat × Nat) = (0, n) := fun h => hk (Prod.mk.inj h).1
    simp only [kk_up, if_neg h9]
    exact match k, hk with | 0, h => absurd rfl h | 1, _ => rfl | 2, _ => rfl | 3, _ => rfl | 4, _ => rfl | 5, _ => rfl | 6, _ => rfl | 7, _ => rfl | 8, _ => rfl | 9, _ => rfl | 10, _ => rfl | 11, _ => rfl | 12, _ => rfl | 13, _ => rfl | 14, _ => rfl | 15, _ => rfl | 16, _ => rfl | 17, _ => rfl | 18, _ => rfl | 19, _ => rfl | 20, _ => rfl | 21, _ => rfl | 22, _ => rfl | 23, _ => rfl | 24, _ => rfl | 25, _ => rfl | 26, _ => rfl | 27, _ => rfl | 28, _ => rfl | _ + 29, _ => rfl
theorem cu_308 {cA : Nat → ClassId} {cf : Nat → Nat} {ad : Nat × Nat → Nat} {ka mo : ka_T} {n : Nat} {v : Int32} {j : Nat} : kk_up (ce_l cA cf ad ka mo) (0, n) (.inr (3, (fx_0 cf ad ka n).set 8 (.int v))) = ce_l cA cf ad (k3_up ka 308 n 0 v) mo := by
  funext q
  obtain ⟨k, n9⟩ := q
  by_cases hk : k = 0
  · subst hk
    by_cases hn : n9 = n
    · subst hn; simp [kk_up, ce_l, fx_0, k3_up, upd]
    · have h9 : ¬ ((0, n9) : Nat × Nat) = (0, n) := fun h => hn (Prod.mk.inj h).2
      simp [kk_up, h9, ce_l, fx_0, k3_up, hn]
  · have h9 : ¬ ((k, n9) : Nat × Nat) = (0, n) := fun h => hk (Prod.mk.inj h).1
    simp only [kk_up, if_neg h9]
    exact match k, hk with | 0, h => absurd rfl h | 1, _ => rfl | 2, _ => rfl | 3, _ => rfl | 4, _ => rfl | 5, _ => rfl | 6, _ => rfl | 7, _ => rfl | 8, _ => rfl | 9, _ => rfl | 10, _ => rfl | 11, _ => rfl | 12, _ => rfl | 13, _ => rfl | 14, _ => rfl | 15, _ => rfl | 16, _ => rfl | 17, _ => rfl | 18, _ => rfl | 19, _ => rfl | 20, _ => rfl | 21, _ => rfl | 22, _ => rfl | 23, _ => rfl | 24, _ => rfl | 25, _ => rfl | 26, _ => rfl | 27, _ => rfl | 28, _ => rfl | _ + 29, _ => rfl
theorem cu_406 {cA : Nat → ClassId} {cf : Nat → Nat} {ad : Nat × Nat → Nat} {ka mo : ka_T} {n : Nat} {v : Int32} {j : Nat} : kk_up (ce_l cA cf ad ka mo) (11, n) (.inr (4, (fx_11 cf ad mo n).set 6 (.int v))) = ce_l cA cf ad ka (k3_up mo 406 n 0 v) := by
  funext q
  obtain ⟨k, n9⟩ := q
  by_cases hk : k = 11
  · subst hk
    by_cases hn : n9 = n
    · subst hn; simp [kk_up, ce_l, fx_11, k3_up, upd]
    · have h9 : ¬ ((11, n9) : Nat × Nat) = (11, n) := fun h => hn (Prod.mk.inj h).2
      simp [kk_up, h9, ce_l, fx_11, k3_up, hn]
  · have h9 : ¬ ((k, n9) : Nat × Nat) = (11, n) := fun h => hk (Prod.mk.inj h).1
    simp only [kk_up, if_neg h9]
    exact match k, hk with | 0, _ => rfl | 1, _ => rfl | 2, _ => rfl | 3, _ => rfl | 4, _ => rfl | 5, _ => rfl | 6, _ => rfl | 7, _ => rfl | 8, _ => rfl | 9, _ => rfl | 10, _ => rfl | 11, h => absurd rfl h | 12, _ => rfl | 13, _ => rfl | 14, _ => rfl | 15, _ => rfl | 16, _ => rfl | 17, _ => rfl | 18, _ => rfl | 19, _ => rfl | 20, _ => rfl | 21, _ => rfl | 22, _ => rfl | 23, _ => rfl | 24, _ => rfl | 25, _ => rfl | 26, _ => rfl | 27, _ => rfl | 28, _ => rfl | _ + 29, _ => rfl
theorem cu_407 {cA : Nat → ClassId} {cf : Nat → Nat} {ad : Nat × Nat → Nat} {ka mo : ka_T} {n : Nat} {v : Int32} {j : Nat} : kk_up (ce_l cA cf ad ka mo) (11, n) (.inr (4, (fx_11 cf ad mo n).set 7 (.int v))) = ce_l cA cf ad ka (k3_up mo 407 n 0 v) := by
  funext q
  obtain ⟨k, n9⟩ := q
  by_cases hk : k = 11
  · subst hk
    by_cases hn : n9 = n
    · subst hn; simp [kk_up, ce_l, fx_11, k3_up, upd]
    · have h9 : ¬ ((11, n9) : Nat × Nat) = (11, n) := fun h => hn (Prod.mk.inj h).2
      simp [kk_up, h9, ce_l, fx_11, k3_up, hn]
  · have h9 : ¬ ((k, n9) : Nat × Nat) = (11, n) := fun h => hk (Prod.mk.inj h).1
    simp only [kk_up, if_neg h9]
    exact match k, hk with | 0, _ => rfl | 1, _ => rfl | 2, _ => rfl | 3, _ => rfl | 4, _ => rfl | 5, _ => rfl | 6, _ => rfl | 7, _ => rfl | 8, _ => rfl | 9, _ => rfl | 10, _ => rfl | 11, h => absurd rfl h | 12, _ => rfl | 13, _ => rfl | 14, _ => rfl | 15, _ => rfl | 16, _ => rfl | 17, _ => rfl | 18, _ => rfl | 19, _ => rfl | 20, _ => rfl | 21, _ => rfl | 22, _ => rfl | 23, _ => rfl | 24, _ => rfl | 25, _ => rfl | 26, _ => rfl | 27, _ => rfl | 28, _ => rfl | _ + 29, _ => rfl
theorem cu_408 {cA : Nat → ClassId} {cf : Nat → Nat} {ad : Nat × Nat → Nat} {ka mo : ka_T} {n : Nat} {v : Int32} {j : Nat} : kk_up (ce_l cA cf ad ka mo) (11, n) (.inr (4, (fx_11 cf ad mo n).set 8 (.int v))) = ce_l cA cf ad ka (k3_up mo 408 n 0 v) := by
  funext q
  obtain ⟨k, n9⟩ := q
  by_cases hk : k = 11
  · subst hk
    by_cases hn : n9 = n
    · subst hn; simp [kk_up, ce_l, fx_11, k3_up, upd]
    · have h9 : ¬ ((11, n9) : Nat × Nat) = (11, n) := fun h => hn (Prod.mk.inj h).2
      simp [kk_up, h9, ce_l, fx_11, k3_up, hn]
  · have h9 : ¬ ((k, n9) : Nat × Nat) = (11, n) := fun h => hk (Prod.mk.inj h).1
    simp only [kk_up, if_neg h9]
    exact match k, hk with | 0, _ => rfl | 1, _ => rfl | 2, _ => rfl | 3, _ => rfl | 4, _ => rfl | 5, _ => rfl | 6, _ => rfl | 7, _ => rfl | 8, _ => rfl | 9, _ => rfl | 10, _ => rfl | 11, h => absurd rfl h | 12, _ => rfl | 13, _ => rfl | 14, _ => rfl | 15, _ => rfl | 16, _ => rfl | 17, _ => rfl | 18, _ => rfl | 19, _ => rfl | 20, _ => rfl | 21, _ => rfl | 22, _ => rfl | 23, _ => rfl | 24, _ => rfl | 25, _ => rfl | 26, _ => rfl | 27, _ => rfl | 28, _ => rfl | _ + 29, _ => rfl
theorem cu_423 {cA : Nat → ClassId} {cf : Nat → Nat} {ad : Nat × Nat → Nat} {ka mo : ka_T} {n : Nat} {v : Int32} {j : Nat} : kk_up (ce_l cA cf ad ka mo) (11, n) (.inr (4, (fx_11 cf ad mo n).set 23 (.int v))) = ce_l cA cf ad ka (k3_up mo 423 n 0 v) := by
  funext q
  obtain ⟨k, n9⟩ := q
  by_cases hk : k = 11
  · subst hk
    by_cases hn : n9 = n
    · subst hn; simp [kk_up, ce_l, fx_11, k3_up, upd]
    · have h9 : ¬ ((11, n9) : Nat × Nat) = (11, n) := fun h => hn (Prod.mk.inj h).2
      simp [kk_up, h9, ce_l, fx_11, k3_up, hn]
  · have h9 : ¬ ((k, n9) : Nat × Nat) = (11, n) := fun h => hk (Prod.mk.inj h).1
    simp only [kk_up, if_neg h9]
    exact match k, hk with | 0, _ => rfl | 1, _ => rfl | 2, _ => rfl | 3, _ => rfl | 4, _ => rfl | 5, _ => rfl | 6, _ => rfl | 7, _ => rfl | 8, _ => rfl | 9, _ => rfl | 10, _ => rfl | 11, h => absurd rfl h | 12, _ => rfl | 13, _ => rfl | 14, _ => rfl | 15, _ => rfl | 16, _ => rfl | 17, _ => rfl | 18, _ => rfl | 19, _ => rfl | 20, _ => rfl | 21, _ => rfl | 22, _ => rfl | 23, _ => rfl | 24, _ => rfl | 25, _ => rfl | 26, _ => rfl | 27, _ => rfl | 28, _ => rfl | _ + 29, _ => rfl
theorem cu_425 {cA : Nat → ClassId} {cf : Nat → Nat} {ad : Nat × Nat → Nat} {ka mo : ka_T} {n : Nat} {v : Int32} {j : Nat} : kk_up (ce_l cA cf ad ka mo) (11, n) (.inr (4, (fx_11 cf ad mo n).set 25 (.int v))) = ce_l cA cf ad ka (k3_up mo 425 n 0 v) := by
  funext q
  obtain ⟨k, n9⟩ := q
  by_cases hk : k = 11
  · subst hk
    by_cases hn : n9 = n
    · subst hn; simp [kk_up, ce_l, fx_11, k3_up, upd]
    · have h9 : ¬ ((11, n9) : Nat × Nat) = (11, n) := fun h => hn (Prod.mk.inj h).2
      simp [kk_up, h9, ce_l, fx_11, k3_up, hn]
  · have h9 : ¬ ((k, n9) : Nat × Nat) = (11, n) := fun h => hk (Prod.mk.inj h).1
    simp only [kk_up, if_neg h9]
    exact match k, hk with | 0, _ => rfl | 1, _ => rfl | 2, _ => rfl | 3, _ => rfl | 4, _ => rfl | 5, _ => rfl | 6, _ => rfl | 7, _ => rfl | 8, _ => rfl | 9, _ => rfl | 10, _ => rfl | 11, h => absurd rfl h | 12, _ => rfl | 13, _ => rfl | 14, _ => rfl | 15, _ => rfl | 16, _ => rfl | 17, _ => rfl | 18, _ => rfl | 19, _ => rfl | 20, _ => rfl | 21, _ => rfl | 22, _ => rfl | 23, _ => rfl | 24, _ => rfl | 25, _ => rfl | 26, _ => rfl | 27, _ => rfl | 28, _ => rfl | _ + 29, _ => rfl
theorem cu_426 {cA : Nat → ClassId} {cf : Nat → Nat} {ad : Nat × Nat → Nat} {ka mo : ka_T} {n : Nat} {v : Int32} {j : Nat} : kk_up (ce_l cA cf ad ka mo) (11, n) (.inr (4, (fx_11 cf ad mo n).set 26 (.int v))) = ce_l cA cf ad ka (k3_up mo 426 n 0 v) := by
  funext q
  obtain ⟨k, n9⟩ := q
  by_cases hk : k = 11
  · subst hk
    by_cases hn : n9 = n
    · subst hn; simp [kk_up, ce_l, fx_11, k3_up, upd]
    · have h9 : ¬ ((11, n9) : Nat × Nat) = (11, n) := fun h => hn (Prod.mk.inj h).2
      simp [kk_up, h9, ce_l, fx_11, k3_up, hn]
  · have h9 : ¬ ((k, n9) : Nat × Nat) = (11, n) := fun h => hk (Prod.mk.inj h).1
    simp only [kk_up, if_neg h9]
    exact match k, hk with | 0, _ => rfl | 1, _ => rfl | 2, _ => rfl | 3, _ => rfl | 4, _ => rfl | 5, _ => rfl | 6, _ => rfl | 7, _ => rfl | 8, _ => rfl | 9, _ => rfl | 10, _ => rfl | 11, h => absurd rfl h | 12, _ => rfl | 13, _ => rfl | 14, _ => rfl | 15, _ => rfl | 16, _ => rfl | 17, _ => rfl | 18, _ => rfl | 19, _ => rfl | 20, _ => rfl | 21, _ => rfl | 22, _ => rfl | 23, _ => rfl | 24, _ => rfl | 25, _ => rfl | 26, _ => rfl | 27, _ => rfl | 28, _ => rfl | _ + 29, _ => rfl
theorem cu_302 {cA : Nat → ClassId} {cf : Nat → Nat} {ad : Nat × Nat → Nat} {ka mo : ka_T} {n : Nat} {v : Int32} {j : Nat} : kk_up (ce_l cA cf ad ka mo) (3, n) (.inl (cA 0, 64, .inl (upd (ka 302 n) j v))) = ce_l cA cf ad (k3_up ka 302 n j v) mo := by
  funext q
  obtain ⟨k, n9⟩ := q
  by_cases hk : k = 3
  · subst hk
    by_cases hn : n9 = n
    · subst hn; simp only [kk_up, ce_l, if_true]; congr 3; refine congrArg Sum.inl ?_; funext i; simp [k3_up, upd]
    · have h9 : ¬ ((3, n9) : Nat × Nat) = (3, n) := fun h => hn (Prod.mk.inj h).2
      simp only [kk_up, if_neg h9, ce_l]; congr 3; refine congrArg Sum.inl ?_; funext i; simp [k3_up, hn]
  · have h9 : ¬ ((k, n9) : Nat × Nat) = (3, n) := fun h => hk (Prod.mk.inj h).1
    simp only [kk_up, if_neg h9]
    exact match k, hk with | 0, _ => rfl | 1, _ => rfl | 2, _ => rfl | 3, h => absurd rfl h | 4, _ => rfl | 5, _ => rfl | 6, _ => rfl | 7, _ => rfl | 8, _ => rfl | 9, _ => rfl | 10, _ => rfl | 11, _ => rfl | 12, _ => rfl | 13, _ => rfl | 14, _ => rfl | 15, _ => rfl | 16, _ => rfl | 17, _ => rfl | 18, _ => rfl | 19, _ => rfl | 20, _ => rfl | 21, _ => rfl | 22, _ => rfl | 23, _ => rfl | 24, _ => rfl | 25, _ => rfl | 26, _ => rfl | 27, _ => rfl | 28, _ => rfl | _ + 29, _ => rfl
theorem cu_303 {cA : Nat → ClassId} {cf : Nat → Nat} {ad : Nat × Nat → Nat} {ka mo : ka_T} {n : Nat} {v : Int32} {j : Nat} : kk_up (ce_l cA cf ad ka mo) (4, n) (.inl (cA 0, 16, .inl (upd (ka 303 n) j v))) = ce_l cA cf ad (k3_up ka 303 n j v) mo := by
  funext q
  obtain ⟨k, n9⟩ := q
  by_cases hk : k = 4
  · subst hk
    by_cases hn : n9 = n
    · subst hn; simp only [kk_up, ce_l, if_true]; congr 3; refine congrArg Sum.inl ?_; funext i; simp [k3_up, upd]
    · have h9 : ¬ ((4, n9) : Nat × Nat) = (4, n) := fun h => hn (Prod.mk.inj h).2
      simp only [kk_up, if_neg h9, ce_l]; congr 3; refine congrArg Sum.inl ?_; funext i; simp [k3_up, hn]
  · have h9 : ¬ ((k, n9) : Nat × Nat) = (4, n) := fun h => hk (Prod.mk.inj h).1
    simp only [kk_up, if_neg h9]
    exact match k, hk with | 0, _ => rfl | 1, _ => rfl | 2, _ => rfl | 3, _ => rfl | 4, h => absurd rfl h | 5, _ => rfl | 6, _ => rfl | 7, _ => rfl | 8, _ => rfl | 9, _ => rfl | 10, _ => rfl | 11, _ => rfl | 12, _ => rfl | 13, _ => rfl | 14, _ => rfl | 15, _ => rfl | 16, _ => rfl | 17, _ => rfl | 18, _ => rfl | 19, _ => rfl | 20, _ => rfl | 21, _ => rfl | 22, _ => rfl | 23, _ => rfl | 24, _ => rfl | 25, _ => rfl | 26, _ => rfl | 27, _ => rfl | 28, _ => rfl | _ + 29, _ => rfl
theorem cu_304 {cA : Nat → ClassId} {cf : Nat → Nat} {ad : Nat × Nat → Nat} {ka mo : ka_T} {n : Nat} {v : Int32} {j : Nat} : kk_up (ce_l cA cf ad ka mo) (5, n) (.inl (cA 0, 32, .inl (upd (ka 304 n) j v))) = ce_l cA cf ad (k3_up ka 304 n j v) mo := by
  funext q
  obtain ⟨k, n9⟩ := q
  by_cases hk : k = 5
  · subst hk
    by_cases hn : n9 = n
    · subst hn; simp only [kk_up, ce_l, if_true]; congr 3; refine congrArg Sum.inl ?_; funext i; simp [k3_up, upd]
    · have h9 : ¬ ((5, n9) : Nat × Nat) = (5, n) := fun h => hn (Prod.mk.inj h).2
      simp only [kk_up, if_neg h9, ce_l]; congr 3; refine congrArg Sum.inl ?_; funext i; simp [k3_up, hn]
  · have h9 : ¬ ((k, n9) : Nat × Nat) = (5, n) := fun h => hk (Prod.mk.inj h).1
    simp only [kk_up, if_neg h9]
    exact match k, hk with | 0, _ => rfl | 1, _ => rfl | 2, _ => rfl | 3, _ => rfl | 4, _ => rfl | 5, h => absurd rfl h | 6, _ => rfl | 7, _ => rfl | 8, _ => rfl | 9, _ => rfl | 10, _ => rfl | 11, _ => rfl | 12, _ => rfl | 13, _ => rfl | 14, _ => rfl | 15, _ => rfl | 16, _ => rfl | 17, _ => rfl | 18, _ => rfl | 19, _ => rfl | 20, _ => rfl | 21, _ => rfl | 22, _ => rfl | 23, _ => rfl | 24, _ => rfl | 25, _ => rfl | 26, _ => rfl | 27, _ => rfl | 28, _ => rfl | _ + 29, _ => rfl
theorem cu_100 {cA : Nat → ClassId} {cf : Nat → Nat} {ad : Nat × Nat → Nat} {ka mo : ka_T} {n : Nat} {v : Int32} {j : Nat} : kk_up (ce_l cA cf ad ka mo) (8, n) (.inl (cA 0, (pl_n cf n), .inl (upd (ka 100 n) j v))) = ce_l cA cf ad (k3_up ka 100 n j v) mo := by
  funext q
  obtain ⟨k, n9⟩ := q
  by_cases hk : k = 8
  · subst hk
    by_cases hn : n9 = n
    · subst hn; simp only [kk_up, ce_l, if_true]; congr 3; refine congrArg Sum.inl ?_; funext i; simp [k3_up, upd]
    · have h9 : ¬ ((8, n9) : Nat × Nat) = (8, n) := fun h => hn (Prod.mk.inj h).2
      simp only [kk_up, if_neg h9, ce_l]; congr 3; refine congrArg Sum.inl ?_; funext i; simp [k3_up, hn]
  · have h9 : ¬ ((k, n9) : Nat × Nat) = (8, n) := fun h => hk (Prod.mk.inj h).1
    simp only [kk_up, if_neg h9]
    exact match k, hk with | 0, _ => rfl | 1, _ => rfl | 2, _ => rfl | 3, _ => rfl | 4, _ => rfl | 5, _ => rfl | 6, _ => rfl | 7, _ => rfl | 8, h => absurd rfl h | 9, _ => rfl | 10, _ => rfl | 11, _ => rfl | 12, _ => rfl | 13, _ => rfl | 14, _ => rfl | 15, _ => rfl | 16, _ => rfl | 17, _ => rfl | 18, _ => rfl | 19, _ => rfl | 20, _ => rfl | 21, _ => rfl | 22, _ => rfl | 23, _ => rfl | 24, _ => rfl | 25, _ => rfl | 26, _ => rfl | 27, _ => rfl | 28, _ => rfl | _ + 29, _ => rfl
theorem cu_0 {cA : Nat → ClassId} {cf : Nat → Nat} {ad : Nat × Nat → Nat} {ka mo : ka_T} {n : Nat} {v : Int32} {j : Nat} : kk_up (ce_l cA cf ad ka mo) (10, n) (.inl (cA 0, (cf 3), .inl (upd (ka 0 n) j v))) = ce_l cA cf ad (k3_up ka 0 n j v) mo := by
  funext q
  obtain ⟨k, n9⟩ := q
  by_cases hk : k = 10
  · subst hk
    by_cases hn : n9 = n
    · subst hn; simp only [kk_up, ce_l, if_true]; congr 3; refine congrArg Sum.inl ?_; funext i; simp [k3_up, upd]
    · have h9 : ¬ ((10, n9) : Nat × Nat) = (10, n) := fun h => hn (Prod.mk.inj h).2
      simp only [kk_up, if_neg h9, ce_l]; congr 3; refine congrArg Sum.inl ?_; funext i; simp [k3_up, hn]
  · have h9 : ¬ ((k, n9) : Nat × Nat) = (10, n) := fun h => hk (Prod.mk.inj h).1
    simp only [kk_up, if_neg h9]
    exact match k, hk with | 0, _ => rfl | 1, _ => rfl | 2, _ => rfl | 3, _ => rfl | 4, _ => rfl | 5, _ => rfl | 6, _ => rfl | 7, _ => rfl | 8, _ => rfl | 9, _ => rfl | 10, h => absurd rfl h | 11, _ => rfl | 12, _ => rfl | 13, _ => rfl | 14, _ => rfl | 15, _ => rfl | 16, _ => rfl | 17, _ => rfl | 18, _ => rfl | 19, _ => rfl | 20, _ => rfl | 21, _ => rfl | 22, _ => rfl | 23, _ => rfl | 24, _ => rfl | 25, _ => rfl | 26, _ => rfl | 27, _ => rfl | 28, _ => rfl | _ + 29, _ => rfl
theorem cu_404 {cA : Nat → ClassId} {cf : Nat → Nat} {ad : Nat × Nat → Nat} {ka mo : ka_T} {n : Nat} {v : Int32} {j : Nat} : kk_up (ce_l cA cf ad ka mo) (12, n) (.inl (cA 0, 64, .inl (upd (mo 404 n) j v))) = ce_l cA cf ad ka (k3_up mo 404 n j v) := by
  funext q
  obtain ⟨k, n9⟩ := q
  by_cases hk : k = 12
  · subst hk
    by_cases hn : n9 = n
    · subst hn; simp only [kk_up, ce_l, if_true]; congr 3; refine congrArg Sum.inl ?_; funext i; simp [k3_up, upd]
    · have h9 : ¬ ((12, n9) : Nat × Nat) = (12, n) := fun h => hn (Prod.mk.inj h).2
      simp only [kk_up, if_neg h9, ce_l]; congr 3; refine congrArg Sum.inl ?_; funext i; simp [k3_up, hn]
  · have h9 : ¬ ((k, n9) : Nat × Nat) = (12, n) := fun h => hk (Prod.mk.inj h).1
    simp only [kk_up, if_neg h9]
    exact match k, hk with | 0, _ => rfl | 1, _ => rfl | 2, _ => rfl | 3, _ => rfl | 4, _ => rfl | 5, _ => rfl | 6, _ => rfl | 7, _ => rfl | 8, _ => rfl | 9, _ => rfl | 10, _ => rfl | 11, _ => rfl | 12, h => absurd rfl h | 13, _ => rfl | 14, _ => rfl | 15, _ => rfl | 16, _ => rfl | 17, _ => rfl | 18, _ => rfl | 19, _ => rfl | 20, _ => rfl | 21, _ => rfl | 22, _ => rfl | 23, _ => rfl | 24, _ => rfl | 25, _ => rfl | 26, _ => rfl | 27, _ => rfl | 28, _ => rfl | _ + 29, _ => rfl
theorem cu_405 {cA : Nat → ClassId} {cf : Nat → Nat} {ad : Nat × Nat → Nat} {ka mo : ka_T} {n : Nat} {v : Int32} {j : Nat} : kk_up (ce_l cA cf ad ka mo) (13, n) (.inl (cA 0, 16, .inl (upd (mo 405 n) j v))) = ce_l cA cf ad ka (k3_up mo 405 n j v) := by
  funext q
  obtain ⟨k, n9⟩ := q
  by_cases hk : k = 13
  · subst hk
    by_cases hn : n9 = n
    · subst hn; simp only [kk_up, ce_l, if_true]; congr 3; refine congrArg Sum.inl ?_; funext i; simp [k3_up, upd]
    · have h9 : ¬ ((13, n9) : Nat × Nat) = (13, n) := fun h => hn (Prod.mk.inj h).2
      simp only [kk_up, if_neg h9, ce_l]; congr 3; refine congrArg Sum.inl ?_; funext i; simp [k3_up, hn]
  · have h9 : ¬ ((k, n9) : Nat × Nat) = (13, n) := fun h => hk (Prod.mk.inj h).1
    simp only [kk_up, if_neg h9]
    exact match k, hk with | 0, _ => rfl | 1, _ => rfl | 2, _ => rfl | 3, _ => rfl | 4, _ => rfl | 5, _ => rfl | 6, _ => rfl | 7, _ => rfl | 8, _ => rfl | 9, _ => rfl | 10, _ => rfl | 11, _ => rfl | 12, _ => rfl | 13, h => absurd rfl h | 14, _ => rfl | 15, _ => rfl | 16, _ => rfl | 17, _ => rfl | 18, _ => rfl | 19, _ => rfl | 20, _ => rfl | 21, _ => rfl | 22, _ => rfl | 23, _ => rfl | 24, _ => rfl | 25, _ => rfl | 26, _ => rfl | 27, _ => rfl | 28, _ => rfl | _ + 29, _ => rfl
theorem cu_409 {cA : Nat → ClassId} {cf : Nat → Nat} {ad : Nat × Nat → Nat} {ka mo : ka_T} {n : Nat} {v : Int32} {j : Nat} : kk_up (ce_l cA cf ad ka mo) (14, n) (.inl (cA 0, 8, .inl (upd (mo 409 n) j v))) = ce_l cA cf ad ka (k3_up mo 409 n j v) := by
  funext q
  obtain ⟨k, n9⟩ := q
  by_cases hk : k = 14
  · subst hk
    by_cases hn : n9 = n
    · subst hn; simp only [kk_up, ce_l, if_true]; congr 3; refine congrArg Sum.inl ?_; funext i; simp [k3_up, upd]
    · have h9 : ¬ ((14, n9) : Nat × Nat) = (14, n) := fun h => hn (Prod.mk.inj h).2
      simp only [kk_up, if_neg h9, ce_l]; congr 3; refine congrArg Sum.inl ?_; funext i; simp [k3_up, hn]
  · have h9 : ¬ ((k, n9) : Nat × Nat) = (14, n) := fun h => hk (Prod.mk.inj h).1
    simp only [kk_up, if_neg h9]
    exact match k, hk with | 0, _ => rfl | 1, _ => rfl | 2, _ => rfl | 3, _ => rfl | 4, _ => rfl | 5, _ => rfl | 6, _ => rfl | 7, _ => rfl | 8, _ => rfl | 9, _ => rfl | 10, _ => rfl | 11, _ => rfl | 12, _ => rfl | 13, _ => rfl | 14, h => absurd rfl h | 15, _ => rfl | 16, _ => rfl | 17, _ => rfl | 18, _ => rfl | 19, _ => rfl | 20, _ => rfl | 21, _ => rfl | 22, _ => rfl | 23, _ => rfl | 24, _ => rfl | 25, _ => rfl | 26, _ => rfl | 27, _ => rfl | 28, _ => rfl | _ + 29, _ => rfl
theorem cu_410 {cA : Nat → ClassId} {cf : Nat → Nat} {ad : Nat × Nat → Nat} {ka mo : ka_T} {n : Nat} {v : Int32} {j : Nat} : kk_up (ce_l cA cf ad ka mo) (15, n) (.inl (cA 0, 8, .inl (upd (mo 410 n) j v))) = ce_l cA cf ad ka (k3_up mo 410 n j v) := by
  funext q
  obtain ⟨k, n9⟩ := q
  by_cases hk : k = 15
  · subst hk
    by_cases hn : n9 = n
    · subst hn; simp only [kk_up, ce_l, if_true]; congr 3; refine congrArg Sum.inl ?_; funext i; simp [k3_up, upd]
    · have h9 : ¬ ((15, n9) : Nat × Nat) = (15, n) := fun h => hn (Prod.mk.inj h).2
      simp only [kk_up, if_neg h9, ce_l]; congr 3; refine congrArg Sum.inl ?_; funext i; simp [k3_up, hn]
  · have h9 : ¬ ((k, n9) : Nat × Nat) = (15, n) := fun h => hk (Prod.mk.inj h).1
    simp only [kk_up, if_neg h9]
    exact match k, hk with | 0, _ => rfl | 1, _ => rfl | 2, _ => rfl | 3, _ => rfl | 4, _ => rfl | 5, _ => rfl | 6, _ => rfl | 7, _ => rfl | 8, _ => rfl | 9, _ => rfl | 10, _ => rfl | 11, _ => rfl | 12, _ => rfl | 13, _ => rfl | 14, _ => rfl | 15, h => absurd rfl h | 16, _ => rfl | 17, _ => rfl | 18, _ => rfl | 19, _ => rfl | 20, _ => rfl | 21, _ => rfl | 22, _ => rfl | 23, _ => rfl | 24, _ => rfl | 25, _ => rfl | 26, _ => rfl | 27, _ => rfl | 28, _ => rfl | _ + 29, _ => rfl
theorem cu_411 {cA : Nat → ClassId} {cf : Nat → Nat} {ad : Nat × Nat → Nat} {ka mo : ka_T} {n : Nat} {v : Int32} {j : Nat} : kk_up (ce_l cA cf ad ka mo) (16, n) (.inl (cA 0, 8, .inl (upd (mo 411 n) j v))) = ce_l cA cf ad ka (k3_up mo 411 n j v) := by
  funext q
  obtain ⟨k, n9⟩ := q
  by_cases hk : k = 16
  · subst hk
    by_cases hn : n9 = n
    · subst hn; simp only [kk_up, ce_l, if_true]; congr 3; refine congrArg Sum.inl ?_; funext i; simp [k3_up, upd]
    · have h9 : ¬ ((16, n9) : Nat × Nat) = (16, n) := fun h => hn (Prod.mk.inj h).2
      simp only [kk_up, if_neg h9, ce_l]; congr 3; refine congrArg Sum.inl ?_; funext i; simp [k3_up, hn]
  · have h9 : ¬ ((k, n9) : Nat × Nat) = (16, n) := fun h => hk (Prod.mk.inj h).1
    simp only [kk_up, if_neg h9]
    exact match k, hk with | 0, _ => rfl | 1, _ => rfl | 2, _ => rfl | 3, _ => rfl | 4, _ => rfl | 5, _ => rfl | 6, _ => rfl | 7, _ => rfl | 8, _ => rfl | 9, _ => rfl | 10, _ => rfl | 11, _ => rfl | 12, _ => rfl | 13, _ => rfl | 14, _ => rfl | 15, _ => rfl | 16, h => absurd rfl h | 17, _ => rfl | 18, _ => rfl | 19, _ => rfl | 20, _ => rfl | 21, _ => rfl | 22, _ => rfl | 23, _ => rfl | 24, _ => rfl | 25, _ => rfl | 26, _ => rfl | 27, _ => rfl | 28, _ => rfl | _ + 29, _ => rfl
theorem cu_412 {cA : Nat → ClassId} {cf : Nat → Nat} {ad : Nat × Nat → Nat} {ka mo : ka_T} {n : Nat} {v : Int32} {j : Nat} : kk_up (ce_l cA cf ad ka mo) (17, n) (.inl (cA 0, 8, .inl (upd (mo 412 n) j v))) = ce_l cA cf ad ka (k3_up mo 412 n j v) := by
  funext q
  obtain ⟨k, n9⟩ := q
  by_cases hk : k = 17
  · subst hk
    by_cases hn : n9 = n
    · subst hn; simp only [kk_up, ce_l, if_true]; congr 3; refine congrArg Sum.inl ?_; funext i; simp [k3_up, upd]
    · have h9 : ¬ ((17, n9) : Nat × Nat) = (17, n) := fun h => hn (Prod.mk.inj h).2
      simp only [kk_up, if_neg h9, ce_l]; congr 3; refine congrArg Sum.inl ?_; funext i; simp [k3_up, hn]
  · have h9 : ¬ ((k, n9) : Nat × Nat) = (17, n) := fun h => hk (Prod.mk.inj h).1
    simp only [kk_up, if_neg h9]
    exact match k, hk with | 0, _ => rfl | 1, _ => rfl | 2, _ => rfl | 3, _ => rfl | 4, _ => rfl | 5, _ => rfl | 6, _ => rfl | 7, _ => rfl | 8, _ => rfl | 9, _ => rfl | 10, _ => rfl | 11, _ => rfl | 12, _ => rfl | 13, _ => rfl | 14, _ => rfl | 15, _ => rfl | 16, _ => rfl | 17, h => absurd rfl h | 18, _ => rfl | 19, _ => rfl | 20, _ => rfl | 21, _ => rfl | 22, _ => rfl | 23, _ => rfl | 24, _ => rfl | 25, _ => rfl | 26, _ => rfl | 27, _ => rfl | 28, _ => rfl | _ + 29, _ => rfl
theorem cu_413 {cA : Nat → ClassId} {cf : Nat → Nat} {ad : Nat × Nat → Nat} {ka mo : ka_T} {v : Int32} {j : Nat} : kk_up (ce_l cA cf ad ka mo) (18, 0) (.inl (cA 0, 128, .inl (upd (fun j => mo 413 (j / 16) (j % 16)) j v))) = ce_l cA cf ad ka (k3_up mo 413 (j / 16) (j % 16) v) := by
  funext q
  obtain ⟨k, n9⟩ := q
  by_cases hk : k = 18
  · subst hk
    by_cases hn : n9 = 0
    · subst hn
      rw [up_tw mo 413 16 j v (by decide)]
      simp [kk_up, ce_l]
    · have h9 : ¬ ((18, n9) : Nat × Nat) = (18, 0) := fun h => hn (Prod.mk.inj h).2
      simp [kk_up, h9, ce_l, hn]
  · have h9 : ¬ ((k, n9) : Nat × Nat) = (18, 0) := fun h => hk (Prod.mk.inj h).1
    simp only [kk_up, if_neg h9]
    exact match k, hk with | 0, _ => rfl | 1, _ => rfl | 2, _ => rfl | 3, _ => rfl | 4, _ => rfl | 5, _ => rfl | 6, _ => rfl | 7, _ => rfl | 8, _ => rfl | 9, _ => rfl | 10, _ => rfl | 11, _ => rfl | 12, _ => rfl | 13, _ => rfl | 14, _ => rfl | 15, _ => rfl | 16, _ => rfl | 17, _ => rfl | 18, h => absurd rfl h | 19, _ => rfl | 20, _ => rfl | 21, _ => rfl | 22, _ => rfl | 23, _ => rfl | 24, _ => rfl | 25, _ => rfl | 26, _ => rfl | 27, _ => rfl | 28, _ => rfl | _ + 29, _ => rfl
theorem cu_414 {cA : Nat → ClassId} {cf : Nat → Nat} {ad : Nat × Nat → Nat} {ka mo : ka_T} {n : Nat} {v : Int32} {j : Nat} : kk_up (ce_l cA cf ad ka mo) (19, n) (.inl (cA 0, 8, .inl (upd (mo 414 n) j v))) = ce_l cA cf ad ka (k3_up mo 414 n j v) := by
  funext q
  obtain ⟨k, n9⟩ := q
  by_cases hk : k = 19
  · subst hk
    by_cases hn : n9 = n
    · subst hn; simp only [kk_up, ce_l, if_true]; congr 3; refine congrArg Sum.inl ?_; funext i; simp [k3_up, upd]
    · have h9 : ¬ ((19, n9) : Nat × Nat) = (19, n) := fun h => hn (Prod.mk.inj h).2
      simp only [kk_up, if_neg h9, ce_l]; congr 3; refine congrArg Sum.inl ?_; funext i; simp [k3_up, hn]
  · have h9 : ¬ ((k, n9) : Nat × Nat) = (19, n) := fun h => hk (Prod.mk.inj h).1
    simp only [kk_up, if_neg h9]
    exact match k, hk with | 0, _ => rfl | 1, _ => rfl | 2, _ => rfl | 3, _ => rfl | 4, _ => rfl | 5, _ => rfl | 6, _ => rfl | 7, _ => rfl | 8, _ => rfl | 9, _ => rfl | 10, _ => rfl | 11, _ => rfl | 12, _ => rfl | 13, _ => rfl | 14, _ => rfl | 15, _ => rfl | 16, _ => rfl | 17, _ => rfl | 18, _ => rfl | 19, h => absurd rfl h | 20, _ => rfl | 21, _ => rfl | 22, _ => rfl | 23, _ => rfl | 24, _ => rfl | 25, _ => rfl | 26, _ => rfl | 27, _ => rfl | 28, _ => rfl | _ + 29, _ => rfl
theorem cu_415 {cA : Nat → ClassId} {cf : Nat → Nat} {ad : Nat × Nat → Nat} {ka mo : ka_T} {v : Int32} {j : Nat} : kk_up (ce_l cA cf ad ka mo) (20, 0) (.inl (cA 0, 32, .inl (upd (fun j => mo 415 (j / 4) (j % 4)) j v))) = ce_l cA cf ad ka (k3_up mo 415 (j / 4) (j % 4) v) := by
  funext q
  obtain ⟨k, n9⟩ := q
  by_cases hk : k = 20
  · subst hk
    by_cases hn : n9 = 0
    · subst hn
      rw [up_tw mo 415 4 j v (by decide)]
      simp [kk_up, ce_l]
    · have h9 : ¬ ((20, n9) : Nat × Nat) = (20, 0) := fun h => hn (Prod.mk.inj h).2
      simp [kk_up, h9, ce_l, hn]
  · have h9 : ¬ ((k, n9) : Nat × Nat) = (20, 0) := fun h => hk (Prod.mk.inj h).1
    simp only [kk_up, if_neg h9]
    exact match k, hk with | 0, _ => rfl | 1, _ => rfl | 2, _ => rfl | 3, _ => rfl | 4, _ => rfl | 5, _ => rfl | 6, _ => rfl | 7, _ => rfl | 8, _ => rfl | 9, _ => rfl | 10, _ => rfl | 11, _ => rfl | 12, _ => rfl | 13, _ => rfl | 14, _ => rfl | 15, _ => rfl | 16, _ => rfl | 17, _ => rfl | 18, _ => rfl | 19, _ => rfl | 20, h => absurd rfl h | 21, _ => rfl | 22, _ => rfl | 23, _ => rfl | 24, _ => rfl | 25, _ => rfl | 26, _ => rfl | 27, _ => rfl | 28, _ => rfl | _ + 29, _ => rfl
theorem cu_416 {cA : Nat → ClassId} {cf : Nat → Nat} {ad : Nat × Nat → Nat} {ka mo : ka_T} {n : Nat} {v : Int32} {j : Nat} : kk_up (ce_l cA cf ad ka mo) (21, n) (.inl (cA 0, 8, .inl (upd (mo 416 n) j v))) = ce_l cA cf ad ka (k3_up mo 416 n j v) := by
  funext q
  obtain ⟨k, n9⟩ := q
  by_cases hk : k = 21
  · subst hk
    by_cases hn : n9 = n
    · subst hn; simp only [kk_up, ce_l, if_true]; congr 3; refine congrArg Sum.inl ?_; funext i; simp [k3_up, upd]
    · have h9 : ¬ ((21, n9) : Nat × Nat) = (21, n) := fun h => hn (Prod.mk.inj h).2
      simp only [kk_up, if_neg h9, ce_l]; congr 3; refine congrArg Sum.inl ?_; funext i; simp [k3_up, hn]
  · have h9 : ¬ ((k, n9) : Nat × Nat) = (21, n) := fun h => hk (Prod.mk.inj h).1
    simp only [kk_up, if_neg h9]
    exact match k, hk with | 0, _ => rfl | 1, _ => rfl | 2, _ => rfl | 3, _ => rfl | 4, _ => rfl | 5, _ => rfl | 6, _ => rfl | 7, _ => rfl | 8, _ => rfl | 9, _ => rfl | 10, _ => rfl | 11, _ => rfl | 12, _ => rfl | 13, _ => rfl | 14, _ => rfl | 15, _ => rfl | 16, _ => rfl | 17, _ => rfl | 18, _ => rfl | 19, _ => rfl | 20, _ => rfl | 21, h => absurd rfl h | 22, _ => rfl | 23, _ => rfl | 24, _ => rfl | 25, _ => rfl | 26, _ => rfl | 27, _ => rfl | 28, _ => rfl | _ + 29, _ => rfl
theorem cu_417 {cA : Nat → ClassId} {cf : Nat → Nat} {ad : Nat × Nat → Nat} {ka mo : ka_T} {n : Nat} {v : Int32} {j : Nat} : kk_up (ce_l cA cf ad ka mo) (22, n) (.inl (cA 0, 8, .inl (upd (mo 417 n) j v))) = ce_l cA cf ad ka (k3_up mo 417 n j v) := by
  funext q
  obtain ⟨k, n9⟩ := q
  by_cases hk : k = 22
  · subst hk
    by_cases hn : n9 = n
    · subst hn; simp only [kk_up, ce_l, if_true]; congr 3; refine congrArg Sum.inl ?_; funext i; simp [k3_up, upd]
    · have h9 : ¬ ((22, n9) : Nat × Nat) = (22, n) := fun h => hn (Prod.mk.inj h).2
      simp only [kk_up, if_neg h9, ce_l]; congr 3; refine congrArg Sum.inl ?_; funext i; simp [k3_up, hn]
  · have h9 : ¬ ((k, n9) : Nat × Nat) = (22, n) := fun h => hk (Prod.mk.inj h).1
    simp only [kk_up, if_neg h9]
    exact match k, hk with | 0, _ => rfl | 1, _ => rfl | 2, _ => rfl | 3, _ => rfl | 4, _ => rfl | 5, _ => rfl | 6, _ => rfl | 7, _ => rfl | 8, _ => rfl | 9, _ => rfl | 10, _ => rfl | 11, _ => rfl | 12, _ => rfl | 13, _ => rfl | 14, _ => rfl | 15, _ => rfl | 16, _ => rfl | 17, _ => rfl | 18, _ => rfl | 19, _ => rfl | 20, _ => rfl | 21, _ => rfl | 22, h => absurd rfl h | 23, _ => rfl | 24, _ => rfl | 25, _ => rfl | 26, _ => rfl | 27, _ => rfl | 28, _ => rfl | _ + 29, _ => rfl
theorem cu_418 {cA : Nat → ClassId} {cf : Nat → Nat} {ad : Nat × Nat → Nat} {ka mo : ka_T} {n : Nat} {v : Int32} {j : Nat} : kk_up (ce_l cA cf ad ka mo) (23, n) (.inl (cA 0, 8, .inl (upd (mo 418 n) j v))) = ce_l cA cf ad ka (k3_up mo 418 n j v) := by
  funext q
  obtain ⟨k, n9⟩ := q
  by_cases hk : k = 23
  · subst hk
    by_cases hn : n9 = n
    · subst hn; simp only [kk_up, ce_l, if_true]; congr 3; refine congrArg Sum.inl ?_; funext i; simp [k3_up, upd]
    · have h9 : ¬ ((23, n9) : Nat × Nat) = (23, n) := fun h => hn (Prod.mk.inj h).2
      simp only [kk_up, if_neg h9, ce_l]; congr 3; refine congrArg Sum.inl ?_; funext i; simp [k3_up, hn]
  · have h9 : ¬ ((k, n9) : Nat × Nat) = (23, n) := fun h => hk (Prod.mk.inj h).1
    simp only [kk_up, if_neg h9]
    exact match k, hk with | 0, _ => rfl | 1, _ => rfl | 2, _ => rfl | 3, _ => rfl | 4, _ => rfl | 5, _ => rfl | 6, _ => rfl | 7, _ => rfl | 8, _ => rfl | 9, _ => rfl | 10, _ => rfl | 11, _ => rfl | 12, _ => rfl | 13, _ => rfl | 14, _ => rfl | 15, _ => rfl | 16, _ => rfl | 17, _ => rfl | 18, _ => rfl | 19, _ => rfl | 20, _ => rfl | 21, _ => rfl | 22, _ => rfl | 23, h => absurd rfl h | 24, _ => rfl | 25, _ => rfl | 26, _ => rfl | 27, _ => rfl | 28, _ => rfl | _ + 29, _ => rfl
theorem cu_419 {cA : Nat → ClassId} {cf : Nat → Nat} {ad : Nat × Nat → Nat} {ka mo : ka_T} {n : Nat} {v : Int32} {j : Nat} : kk_up (ce_l cA cf ad ka mo) (24, n) (.inl (cA 0, 8, .inl (upd (mo 419 n) j v))) = ce_l cA cf ad ka (k3_up mo 419 n j v) := by
  funext q
  obtain ⟨k, n9⟩ := q
  by_cases hk : k = 24
  · subst hk
    by_cases hn : n9 = n
    · subst hn; simp only [kk_up, ce_l, if_true]; congr 3; refine congrArg Sum.inl ?_; funext i; simp [k3_up, upd]
    · have h9 : ¬ ((24, n9) : Nat × Nat) = (24, n) := fun h => hn (Prod.mk.inj h).2
      simp only [kk_up, if_neg h9, ce_l]; congr 3; refine congrArg Sum.inl ?_; funext i; simp [k3_up, hn]
  · have h9 : ¬ ((k, n9) : Nat × Nat) = (24, n) := fun h => hk (Prod.mk.inj h).1
    simp only [kk_up, if_neg h9]
    exact match k, hk with | 0, _ => rfl | 1, _ => rfl | 2, _ => rfl | 3, _ => rfl | 4, _ => rfl | 5, _ => rfl | 6, _ => rfl | 7, _ => rfl | 8, _ => rfl | 9, _ => rfl | 10, _ => rfl | 11, _ => rfl | 12, _ => rfl | 13, _ => rfl | 14, _ => rfl | 15, _ => rfl | 16, _ => rfl | 17, _ => rfl | 18, _ => rfl | 19, _ => rfl | 20, _ => rfl | 21, _ => rfl | 22, _ => rfl | 23, _ => rfl | 24, h => absurd rfl h | 25, _ => rfl | 26, _ => rfl | 27, _ => rfl | 28, _ => rfl | _ + 29, _ => rfl
theorem cu_420 {cA : Nat → ClassId} {cf : Nat → Nat} {ad : Nat × Nat → Nat} {ka mo : ka_T} {n : Nat} {v : Int32} {j : Nat} : kk_up (ce_l cA cf ad ka mo) (25, n) (.inl (cA 0, 8, .inl (upd (mo 420 n) j v))) = ce_l cA cf ad ka (k3_up mo 420 n j v) := by
  funext q
  obtain ⟨k, n9⟩ := q
  by_cases hk : k = 25
  · subst hk
    by_cases hn : n9 = n
    · subst hn; simp only [kk_up, ce_l, if_true]; congr 3; refine congrArg Sum.inl ?_; funext i; simp [k3_up, upd]
    · have h9 : ¬ ((25, n9) : Nat × Nat) = (25, n) := fun h => hn (Prod.mk.inj h).2
      simp only [kk_up, if_neg h9, ce_l]; congr 3; refine congrArg Sum.inl ?_; funext i; simp [k3_up, hn]
  · have h9 : ¬ ((k, n9) : Nat × Nat) = (25, n) := fun h => hk (Prod.mk.inj h).1
    simp only [kk_up, if_neg h9]
    exact match k, hk with | 0, _ => rfl | 1, _ => rfl | 2, _ => rfl | 3, _ => rfl | 4, _ => rfl | 5, _ => rfl | 6, _ => rfl | 7, _ => rfl | 8, _ => rfl | 9, _ => rfl | 10, _ => rfl | 11, _ => rfl | 12, _ => rfl | 13, _ => rfl | 14, _ => rfl | 15, _ => rfl | 16, _ => rfl | 17, _ => rfl | 18, _ => rfl | 19, _ => rfl | 20, _ => rfl | 21, _ => rfl | 22, _ => rfl | 23, _ => rfl | 24, _ => rfl | 25, h => absurd rfl h | 26, _ => rfl | 27, _ => rfl | 28, _ => rfl | _ + 29, _ => rfl
theorem cu_421 {cA : Nat → ClassId} {cf : Nat → Nat} {ad : Nat × Nat → Nat} {ka mo : ka_T} {n : Nat} {v : Int32} {j : Nat} : kk_up (ce_l cA cf ad ka mo) (26, n) (.inl (cA 0, 4, .inl (upd (mo 421 n) j v))) = ce_l cA cf ad ka (k3_up mo 421 n j v) := by
  funext q
  obtain ⟨k, n9⟩ := q
  by_cases hk : k = 26
  · subst hk
    by_cases hn : n9 = n
    · subst hn; simp only [kk_up, ce_l, if_true]; congr 3; refine congrArg Sum.inl ?_; funext i; simp [k3_up, upd]
    · have h9 : ¬ ((26, n9) : Nat × Nat) = (26, n) := fun h => hn (Prod.mk.inj h).2
      simp only [kk_up, if_neg h9, ce_l]; congr 3; refine congrArg Sum.inl ?_; funext i; simp [k3_up, hn]
  · have h9 : ¬ ((k, n9) : Nat × Nat) = (26, n) := fun h => hk (Prod.mk.inj h).1
    simp only [kk_up, if_neg h9]
    exact match k, hk with | 0, _ => rfl | 1, _ => rfl | 2, _ => rfl | 3, _ => rfl | 4, _ => rfl | 5, _ => rfl | 6, _ => rfl | 7, _ => rfl | 8, _ => rfl | 9, _ => rfl | 10, _ => rfl | 11, _ => rfl | 12, _ => rfl | 13, _ => rfl | 14, _ => rfl | 15, _ => rfl | 16, _ => rfl | 17, _ => rfl | 18, _ => rfl | 19, _ => rfl | 20, _ => rfl | 21, _ => rfl | 22, _ => rfl | 23, _ => rfl | 24, _ => rfl | 25, _ => rfl | 26, h => absurd rfl h | 27, _ => rfl | 28, _ => rfl | _ + 29, _ => rfl
theorem cu_422 {cA : Nat → ClassId} {cf : Nat → Nat} {ad : Nat × Nat → Nat} {ka mo : ka_T} {v : Int32} {j : Nat} : kk_up (ce_l cA cf ad ka mo) (27, 0) (.inl (cA 0, 24, .inl (upd (fun j => mo 422 (j / 6) (j % 6)) j v))) = ce_l cA cf ad ka (k3_up mo 422 (j / 6) (j % 6) v) := by
  funext q
  obtain ⟨k, n9⟩ := q
  by_cases hk : k = 27
  · subst hk
    by_cases hn : n9 = 0
    · subst hn
      rw [up_tw mo 422 6 j v (by decide)]
      simp [kk_up, ce_l]
    · have h9 : ¬ ((27, n9) : Nat × Nat) = (27, 0) := fun h => hn (Prod.mk.inj h).2
      simp [kk_up, h9, ce_l, hn]
  · have h9 : ¬ ((k, n9) : Nat × Nat) = (27, 0) := fun h => hk (Prod.mk.inj h).1
    simp only [kk_up, if_neg h9]
    exact match k, hk with | 0, _ => rfl | 1, _ => rfl | 2, _ => rfl | 3, _ => rfl | 4, _ => rfl | 5, _ => rfl | 6, _ => rfl | 7, _ => rfl | 8, _ => rfl | 9, _ => rfl | 10, _ => rfl | 11, _ => rfl | 12, _ => rfl | 13, _ => rfl | 14, _ => rfl | 15, _ => rfl | 16, _ => rfl | 17, _ => rfl | 18, _ => rfl | 19, _ => rfl | 20, _ => rfl | 21, _ => rfl | 22, _ => rfl | 23, _ => rfl | 24, _ => rfl | 25, _ => rfl | 26, _ => rfl | 27, h => absurd rfl h | 28, _ => rfl | _ + 29, _ => rfl
theorem cu_424 {cA : Nat → ClassId} {cf : Nat → Nat} {ad : Nat × Nat → Nat} {ka mo : ka_T} {n : Nat} {v : Int32} {j : Nat} : kk_up (ce_l cA cf ad ka mo) (28, n) (.inl (cA 0, 32, .inl (upd (mo 424 n) j v))) = ce_l cA cf ad ka (k3_up mo 424 n j v) := by
  funext q
  obtain ⟨k, n9⟩ := q
  by_cases hk : k = 28
  · subst hk
    by_cases hn : n9 = n
    · subst hn; simp only [kk_up, ce_l, if_true]; congr 3; refine congrArg Sum.inl ?_; funext i; simp [k3_up, upd]
    · have h9 : ¬ ((28, n9) : Nat × Nat) = (28, n) := fun h => hn (Prod.mk.inj h).2
      simp only [kk_up, if_neg h9, ce_l]; congr 3; refine congrArg Sum.inl ?_; funext i; simp [k3_up, hn]
  · have h9 : ¬ ((k, n9) : Nat × Nat) = (28, n) := fun h => hk (Prod.mk.inj h).1
    simp only [kk_up, if_neg h9]
    exact match k, hk with | 0, _ => rfl | 1, _ => rfl | 2, _ => rfl | 3, _ => rfl | 4, _ => rfl | 5, _ => rfl | 6, _ => rfl | 7, _ => rfl | 8, _ => rfl | 9, _ => rfl | 10, _ => rfl | 11, _ => rfl | 12, _ => rfl | 13, _ => rfl | 14, _ => rfl | 15, _ => rfl | 16, _ => rfl | 17, _ => rfl | 18, _ => rfl | 19, _ => rfl | 20, _ => rfl | 21, _ => rfl | 22, _ => rfl | 23, _ => rfl | 24, _ => rfl | 25, _ => rfl | 26, _ => rfl | 27, _ => rfl | 28, h => absurd rfl h | _ + 29, _ => rfl
end
section
/-! printed by wip/whole/gen.py: a row for each field and array of the two objects -/
section KF
variable {p : Program} {l : Launch} {e : Env} {R : Room} {s : State} {m : MethodId} {args : Array Value} {below : List Frame} {meth : Method} {c : Code} {H : Heap} {locs : List Loc} {cells slots : Nat} {Q : State → Prop}
variable {cc : ByteArray} {nL pc : Nat} {ls : Array Slot} {rest : List Value} {own : String} {D : va_G} {A : Nat → Prop} {cA : Nat → ClassId} {cf : Nat → Nat} {ad : Nat × Nat → Nat} {ka mo : ka_T}
theorem gf_0 (S : CallFix p m c cc nL s args lw_gd own) (hw : Wo_ D cA cf ad A ka mo s H locs) {n : Nat} (hn : n < cf 2) {index : Nat} (hl : Cond.fieldLink own index "TaskKernel$Mailbox" "held" "[I" ∈ lw_gd) (hd : decode cc pc = .ok (.getfield index, 3)) (kk : W p l e R s m args below meth c H locs cells slots Q (F0 m (pc + 3) ls (.ref (ad (10, n)) :: rest))) : W p l e R s m args below meth c H locs cells slots Q (F0 m pc ls (.ref (ad (9, n)) :: rest)) :=
  kg_get S hw (q := (9, n)) (km_9 hn) (ci := 0) (fs := fx_9 cf ad ka n) rfl rfl inX0 0 (by decide) hl rfl hd kk
theorem gf_1 (S : CallFix p m c cc nL s args lw_gd own) (hw : Wo_ D cA cf ad A ka mo s H locs) {n : Nat} (hn : n < cf 2) {index : Nat} (hl : Cond.fieldLink own index "TaskKernel$Mailbox" "first" "I" ∈ lw_gd) (hd : decode cc pc = .ok (.getfield index, 3)) (kk : W p l e R s m args below meth c H locs cells slots Q (F0 m (pc + 3) ls (.int (ka 1 n 0) :: rest))) : W p l e R s m args below meth c H locs cells slots Q (F0 m pc ls (.ref (ad (9, n)) :: rest)) :=
  kg_get S hw (q := (9, n)) (km_9 hn) (ci := 0) (fs := fx_9 cf ad ka n) rfl rfl inX0 1 (by decide) hl rfl hd kk
theorem pf_1 (S : CallFix p m c cc nL s args lw_gd own) (hw : Wo_ D cA cf ad A ka mo s H locs) {n : Nat} (hn : n < cf 2) {index : Nat} (hl : Cond.fieldLink own index "TaskKernel$Mailbox" "first" "I" ∈ lw_gd) {v : Int32} (hd : decode cc pc = .ok (.putfield index, 3)) (kk : ∀ (k1 : ka_T) (H1 : Heap) (locs1 : List Loc), k1 = k3_up ka 1 n 0 v → Wo_ D cA cf ad A k1 mo s H1 locs1 → W p l e R s m args below meth c H1 locs1 cells slots Q (F0 m (pc + 3) ls rest)) : W p l e R s m args below meth c H locs cells slots Q (F0 m pc ls (.int v :: .ref (ad (9, n)) :: rest)) :=
  kg_put S hw (q := (9, n)) (km_9 hn) (ci := 0) (fs := fx_9 cf ad ka n) rfl rfl inX0 tyX0 tyX0_ok nmX0 1 (by decide) hl rfl (ty := .int) (v := .int v) (by decide +kernel) rfl rfl (by simp [fx_9]) (cu_1 (j := 0)) hd (fun H1 locs1 h => kk _ H1 locs1 rfl h)
theorem gf_2 (S : CallFix p m c cc nL s args lw_gd own) (hw : Wo_ D cA cf ad A ka mo s H locs) {n : Nat} (hn : n < cf 2) {index : Nat} (hl : Cond.fieldLink own index "TaskKernel$Mailbox" "count" "I" ∈ lw_gd) (hd : decode cc pc = .ok (.getfield index, 3)) (kk : W p l e R s m args below meth c H locs cells slots Q (F0 m (pc + 3) ls (.int (ka 2 n 0) :: rest))) : W p l e R s m args below meth c H locs cells slots Q (F0 m pc ls (.ref (ad (9, n)) :: rest)) :=
  kg_get S hw (q := (9, n)) (km_9 hn) (ci := 0) (fs := fx_9 cf ad ka n) rfl rfl inX0 2 (by decide) hl rfl hd kk
theorem pf_2 (S : CallFix p m c cc nL s args lw_gd own) (hw : Wo_ D cA cf ad A ka mo s H locs) {n : Nat} (hn : n < cf 2) {index : Nat} (hl : Cond.fieldLink own index "TaskKernel$Mailbox" "count" "I" ∈ lw_gd) {v : Int32} (hd : decode cc pc = .ok (.putfield index, 3)) (kk : ∀ (k1 : ka_T) (H1 : Heap) (locs1 : List Loc), k1 = k3_up ka 2 n 0 v → Wo_ D cA cf ad A k1 mo s H1 locs1 → W p l e R s m args below meth c H1 locs1 cells slots Q (F0 m (pc + 3) ls rest)) : W p l e R s m args below meth c H locs cells slots Q (F0 m pc ls (.int v :: .ref (ad (9, n)) :: rest)) :=
  kg_put S hw (q := (9, n)) (km_9 hn) (ci := 0) (fs := fx_9 cf ad ka n) rfl rfl inX0 tyX0 tyX0_ok nmX0 2 (by decide) hl rfl (ty := .int) (v := .int v) (by decide +kernel) rfl rfl (by simp [fx_9]) (cu_2 (j := 0)) hd (fun H1 locs1 h => kk _ H1 locs1 rfl h)
theorem gf_100 (S : CallFix p m c cc nL s args lw_gd own) (hw : Wo_ D cA cf ad A ka mo s H locs) {n : Nat} (hn : n < 2 * cf 0) {index : Nat} (hl : Cond.fieldLink own index "TaskKernel$Pile" "held" "[I" ∈ lw_gd) (hd : decode cc pc = .ok (.getfield index, 3)) (kk : W p l e R s m args below meth c H locs cells slots Q (F0 m (pc + 3) ls (.ref (ad (8, n)) :: rest))) : W p l e R s m args below meth c H locs cells slots Q (F0 m pc ls (.ref (ad (7, n)) :: rest)) :=
  kg_get S hw (q := (7, n)) (km_7 hn) (ci := 1) (fs := fx_7 cf ad ka n) rfl rfl inX1 0 (by decide) hl rfl hd kk
theorem gf_101 (S : CallFix p m c cc nL s args lw_gd own) (hw : Wo_ D cA cf ad A ka mo s H locs) {n : Nat} (hn : n < 2 * cf 0) {index : Nat} (hl : Cond.fieldLink own index "TaskKernel$Pile" "count" "I" ∈ lw_gd) (hd : decode cc pc = .ok (.getfield index, 3)) (kk : W p l e R s m args below meth c H locs cells slots Q (F0 m (pc + 3) ls (.int (ka 101 n 0) :: rest))) : W p l e R s m args below meth c H locs cells slots Q (F0 m pc ls (.ref (ad (7, n)) :: rest)) :=
  kg_get S hw (q := (7, n)) (km_7 hn) (ci := 1) (fs := fx_7 cf ad ka n) rfl rfl inX1 1 (by decide) hl rfl hd kk
theorem pf_101 (S : CallFix p m c cc nL s args lw_gd own) (hw : Wo_ D cA cf ad A ka mo s H locs) {n : Nat} (hn : n < 2 * cf 0) {index : Nat} (hl : Cond.fieldLink own index "TaskKernel$Pile" "count" "I" ∈ lw_gd) {v : Int32} (hd : decode cc pc = .ok (.putfield index, 3)) (kk : ∀ (k1 : ka_T) (H1 : Heap) (locs1 : List Loc), k1 = k3_up ka 101 n 0 v → Wo_ D cA cf ad A k1 mo s H1 locs1 → W p l e R s m args below meth c H1 locs1 cells slots Q (F0 m (pc + 3) ls rest)) : W p l e R s m args below meth c H locs cells slots Q (F0 m pc ls (.int v :: .ref (ad (7, n)) :: rest)) :=
  kg_put S hw (q := (7, n)) (km_7 hn) (ci := 1) (fs := fx_7 cf ad ka n) rfl rfl inX1 tyX1 tyX1_ok nmX1 1 (by decide) hl rfl (ty := .int) (v := .int v) (by decide +kernel) rfl rfl (by simp [fx_7]) (cu_101 (j := 0)) hd (fun H1 locs1 h => kk _ H1 locs1 rfl h)
theorem gf_200 (S : CallFix p m c cc nL s args lw_gd own) (hw : Wo_ D cA cf ad A ka mo s H locs) {n : Nat} (hn : n < cf 0) {index : Nat} (hl : Cond.fieldLink own index "TaskKernel$Task" "number" "I" ∈ lw_gd) (hd : decode cc pc = .ok (.getfield index, 3)) (kk : W p l e R s m args below meth c H locs cells slots Q (F0 m (pc + 3) ls (.int (nI n) :: rest))) : W p l e R s m args below meth c H locs cells slots Q (F0 m pc ls (.ref (ad (6, n)) :: rest)) :=
  kg_get S hw (q := (6, n)) (km_6 hn) (ci := 2) (fs := fx_6 cf ad ka n) rfl rfl inX2 0 (by decide) hl rfl hd kk
theorem gf_201 (S : CallFix p m c cc nL s args lw_gd own) (hw : Wo_ D cA cf ad A ka mo s H locs) {n : Nat} (hn : n < cf 0) {index : Nat} (hl : Cond.fieldLink own index "TaskKernel$Task" "numbers" "LTaskKernel$Pile;" ∈ lw_gd) (hd : decode cc pc = .ok (.getfield index, 3)) (kk : W p l e R s m args below meth c H locs cells slots Q (F0 m (pc + 3) ls (.ref (ad (7, 2 * n)) :: rest))) : W p l e R s m args below meth c H locs cells slots Q (F0 m pc ls (.ref (ad (6, n)) :: rest)) :=
  kg_get S hw (q := (6, n)) (km_6 hn) (ci := 2) (fs := fx_6 cf ad ka n) rfl rfl inX2 1 (by decide) hl rfl hd kk
theorem gf_202 (S : CallFix p m c cc nL s args lw_gd own) (hw : Wo_ D cA cf ad A ka mo s H locs) {n : Nat} (hn : n < cf 0) {index : Nat} (hl : Cond.fieldLink own index "TaskKernel$Task" "frames" "LTaskKernel$Pile;" ∈ lw_gd) (hd : decode cc pc = .ok (.getfield index, 3)) (kk : W p l e R s m args below meth c H locs cells slots Q (F0 m (pc + 3) ls (.ref (ad (7, 2 * n + 1)) :: rest))) : W p l e R s m args below meth c H locs cells slots Q (F0 m pc ls (.ref (ad (6, n)) :: rest)) :=
  kg_get S hw (q := (6, n)) (km_6 hn) (ci := 2) (fs := fx_6 cf ad ka n) rfl rfl inX2 2 (by decide) hl rfl hd kk
theorem gf_203 (S : CallFix p m c cc nL s args lw_gd own) (hw : Wo_ D cA cf ad A ka mo s H locs) {n : Nat} (hn : n < cf 0) {index : Nat} (hl : Cond.fieldLink own index "TaskKernel$Task" "state" "I" ∈ lw_gd) (hd : decode cc pc = .ok (.getfield index, 3)) (kk : W p l e R s m args below meth c H locs cells slots Q (F0 m (pc + 3) ls (.int (ka 203 n 0) :: rest))) : W p l e R s m args below meth c H locs cells slots Q (F0 m pc ls (.ref (ad (6, n)) :: rest)) :=
  kg_get S hw (q := (6, n)) (km_6 hn) (ci := 2) (fs := fx_6 cf ad ka n) rfl rfl inX2 3 (by decide) hl rfl hd kk
theorem pf_203 (S : CallFix p m c cc nL s args lw_gd own) (hw : Wo_ D cA cf ad A ka mo s H locs) {n : Nat} (hn : n < cf 0) {index : Nat} (hl : Cond.fieldLink own index "TaskKernel$Task" "state" "I" ∈ lw_gd) {v : Int32} (hd : decode cc pc = .ok (.putfield index, 3)) (kk : ∀ (k1 : ka_T) (H1 : Heap) (locs1 : List Loc), k1 = k3_up ka 203 n 0 v → Wo_ D cA cf ad A k1 mo s H1 locs1 → W p l e R s m args below meth c H1 locs1 cells slots Q (F0 m (pc + 3) ls rest)) : W p l e R s m args below meth c H locs cells slots Q (F0 m pc ls (.int v :: .ref (ad (6, n)) :: rest)) :=
  kg_put S hw (q := (6, n)) (km_6 hn) (ci := 2) (fs := fx_6 cf ad ka n) rfl rfl inX2 tyX2 tyX2_ok nmX2 3 (by decide) hl rfl (ty := .int) (v := .int v) (by decide +kernel) rfl rfl (by simp [fx_6]) (cu_203 (j := 0)) hd (fun H1 locs1 h => kk _ H1 locs1 rfl h)
theorem gf_204 (S : CallFix p m c cc nL s args lw_gd own) (hw : Wo_ D cA cf ad A ka mo s H locs) {n : Nat} (hn : n < cf 0) {index : Nat} (hl : Cond.fieldLink own index "TaskKernel$Task" "place" "I" ∈ lw_gd) (hd : decode cc pc = .ok (.getfield index, 3)) (kk : W p l e R s m args below meth c H locs cells slots Q (F0 m (pc + 3) ls (.int (ka 204 n 0) :: rest))) : W p l e R s m args below meth c H locs cells slots Q (F0 m pc ls (.ref (ad (6, n)) :: rest)) :=
  kg_get S hw (q := (6, n)) (km_6 hn) (ci := 2) (fs := fx_6 cf ad ka n) rfl rfl inX2 4 (by decide) hl rfl hd kk
theorem pf_204 (S : CallFix p m c cc nL s args lw_gd own) (hw : Wo_ D cA cf ad A ka mo s H locs) {n : Nat} (hn : n < cf 0) {index : Nat} (hl : Cond.fieldLink own index "TaskKernel$Task" "place" "I" ∈ lw_gd) {v : Int32} (hd : decode cc pc = .ok (.putfield index, 3)) (kk : ∀ (k1 : ka_T) (H1 : Heap) (locs1 : List Loc), k1 = k3_up ka 204 n 0 v → Wo_ D cA cf ad A k1 mo s H1 locs1 → W p l e R s m args below meth c H1 locs1 cells slots Q (F0 m (pc + 3) ls rest)) : W p l e R s m args below meth c H locs cells slots Q (F0 m pc ls (.int v :: .ref (ad (6, n)) :: rest)) :=
  kg_put S hw (q := (6, n)) (km_6 hn) (ci := 2) (fs := fx_6 cf ad ka n) rfl rfl inX2 tyX2 tyX2_ok nmX2 4 (by decide) hl rfl (ty := .int) (v := .int v) (by decide +kernel) rfl rfl (by simp [fx_6]) (cu_204 (j := 0)) hd (fun H1 locs1 h => kk _ H1 locs1 rfl h)
theorem gf_205 (S : CallFix p m c cc nL s args lw_gd own) (hw : Wo_ D cA cf ad A ka mo s H locs) {n : Nat} (hn : n < cf 0) {index : Nat} (hl : Cond.fieldLink own index "TaskKernel$Task" "priority" "I" ∈ lw_gd) (hd : decode cc pc = .ok (.getfield index, 3)) (kk : W p l e R s m args below meth c H locs cells slots Q (F0 m (pc + 3) ls (.int (ka 205 n 0) :: rest))) : W p l e R s m args below meth c H locs cells slots Q (F0 m pc ls (.ref (ad (6, n)) :: rest)) :=
  kg_get S hw (q := (6, n)) (km_6 hn) (ci := 2) (fs := fx_6 cf ad ka n) rfl rfl inX2 5 (by decide) hl rfl hd kk
theorem pf_205 (S : CallFix p m c cc nL s args lw_gd own) (hw : Wo_ D cA cf ad A ka mo s H locs) {n : Nat} (hn : n < cf 0) {index : Nat} (hl : Cond.fieldLink own index "TaskKernel$Task" "priority" "I" ∈ lw_gd) {v : Int32} (hd : decode cc pc = .ok (.putfield index, 3)) (kk : ∀ (k1 : ka_T) (H1 : Heap) (locs1 : List Loc), k1 = k3_up ka 205 n 0 v → Wo_ D cA cf ad A k1 mo s H1 locs1 → W p l e R s m args below meth c H1 locs1 cells slots Q (F0 m (pc + 3) ls rest)) : W p l e R s m args below meth c H locs cells slots Q (F0 m pc ls (.int v :: .ref (ad (6, n)) :: rest)) :=
  kg_put S hw (q := (6, n)) (km_6 hn) (ci := 2) (fs := fx_6 cf ad ka n) rfl rfl inX2 tyX2 tyX2_ok nmX2 5 (by decide) hl rfl (ty := .int) (v := .int v) (by decide +kernel) rfl rfl (by simp [fx_6]) (cu_205 (j := 0)) hd (fun H1 locs1 h => kk _ H1 locs1 rfl h)
theorem gf_206 (S : CallFix p m c cc nL s args lw_gd own) (hw : Wo_ D cA cf ad A ka mo s H locs) {n : Nat} (hn : n < cf 0) {index : Nat} (hl : Cond.fieldLink own index "TaskKernel$Task" "ticket" "I" ∈ lw_gd) (hd : decode cc pc = .ok (.getfield index, 3)) (kk : W p l e R s m args below meth c H locs cells slots Q (F0 m (pc + 3) ls (.int (ka 206 n 0) :: rest))) : W p l e R s m args below meth c H locs cells slots Q (F0 m pc ls (.ref (ad (6, n)) :: rest)) :=
  kg_get S hw (q := (6, n)) (km_6 hn) (ci := 2) (fs := fx_6 cf ad ka n) rfl rfl inX2 6 (by decide) hl rfl hd kk
theorem pf_206 (S : CallFix p m c cc nL s args lw_gd own) (hw : Wo_ D cA cf ad A ka mo s H locs) {n : Nat} (hn : n < cf 0) {index : Nat} (hl : Cond.fieldLink own index "TaskKernel$Task" "ticket" "I" ∈ lw_gd) {v : Int32} (hd : decode cc pc = .ok (.putfield index, 3)) (kk : ∀ (k1 : ka_T) (H1 : Heap) (locs1 : List Loc), k1 = k3_up ka 206 n 0 v → Wo_ D cA cf ad A k1 mo s H1 locs1 → W p l e R s m args below meth c H1 locs1 cells slots Q (F0 m (pc + 3) ls rest)) : W p l e R s m args below meth c H locs cells slots Q (F0 m pc ls (.int v :: .ref (ad (6, n)) :: rest)) :=
  kg_put S hw (q := (6, n)) (km_6 hn) (ci := 2) (fs := fx_6 cf ad ka n) rfl rfl inX2 tyX2 tyX2_ok nmX2 6 (by decide) hl rfl (ty := .int) (v := .int v) (by decide +kernel) rfl rfl (by simp [fx_6]) (cu_206 (j := 0)) hd (fun H1 locs1 h => kk _ H1 locs1 rfl h)
theorem gf_207 (S : CallFix p m c cc nL s args lw_gd own) (hw : Wo_ D cA cf ad A ka mo s H locs) {n : Nat} (hn : n < cf 0) {index : Nat} (hl : Cond.fieldLink own index "TaskKernel$Task" "wakesAt" "I" ∈ lw_gd) (hd : decode cc pc = .ok (.getfield index, 3)) (kk : W p l e R s m args below meth c H locs cells slots Q (F0 m (pc + 3) ls (.int (ka 207 n 0) :: rest))) : W p l e R s m args below meth c H locs cells slots Q (F0 m pc ls (.ref (ad (6, n)) :: rest)) :=
  kg_get S hw (q := (6, n)) (km_6 hn) (ci := 2) (fs := fx_6 cf ad ka n) rfl rfl inX2 7 (by decide) hl rfl hd kk
theorem pf_207 (S : CallFix p m c cc nL s args lw_gd own) (hw : Wo_ D cA cf ad A ka mo s H locs) {n : Nat} (hn : n < cf 0) {index : Nat} (hl : Cond.fieldLink own index "TaskKernel$Task" "wakesAt" "I" ∈ lw_gd) {v : Int32} (hd : decode cc pc = .ok (.putfield index, 3)) (kk : ∀ (k1 : ka_T) (H1 : Heap) (locs1 : List Loc), k1 = k3_up ka 207 n 0 v → Wo_ D cA cf ad A k1 mo s H1 locs1 → W p l e R s m args below meth c H1 locs1 cells slots Q (F0 m (pc + 3) ls rest)) : W p l e R s m args below meth c H locs cells slots Q (F0 m pc ls (.int v :: .ref (ad (6, n)) :: rest)) :=
  kg_put S hw (q := (6, n)) (km_6 hn) (ci := 2) (fs := fx_6 cf ad ka n) rfl rfl inX2 tyX2 tyX2_ok nmX2 7 (by decide) hl rfl (ty := .int) (v := .int v) (by decide +kernel) rfl rfl (by simp [fx_6]) (cu_207 (j := 0)) hd (fun H1 locs1 h => kk _ H1 locs1 rfl h)
theorem gf_208 (S : CallFix p m c cc nL s args lw_gd own) (hw : Wo_ D cA cf ad A ka mo s H locs) {n : Nat} (hn : n < cf 0) {index : Nat} (hl : Cond.fieldLink own index "TaskKernel$Task" "waitsAt" "I" ∈ lw_gd) (hd : decode cc pc = .ok (.getfield index, 3)) (kk : W p l e R s m args below meth c H locs cells slots Q (F0 m (pc + 3) ls (.int (ka 208 n 0) :: rest))) : W p l e R s m args below meth c H locs cells slots Q (F0 m pc ls (.ref (ad (6, n)) :: rest)) :=
  kg_get S hw (q := (6, n)) (km_6 hn) (ci := 2) (fs := fx_6 cf ad ka n) rfl rfl inX2 8 (by decide) hl rfl hd kk
theorem pf_208 (S : CallFix p m c cc nL s args lw_gd own) (hw : Wo_ D cA cf ad A ka mo s H locs) {n : Nat} (hn : n < cf 0) {index : Nat} (hl : Cond.fieldLink own index "TaskKernel$Task" "waitsAt" "I" ∈ lw_gd) {v : Int32} (hd : decode cc pc = .ok (.putfield index, 3)) (kk : ∀ (k1 : ka_T) (H1 : Heap) (locs1 : List Loc), k1 = k3_up ka 208 n 0 v → Wo_ D cA cf ad A k1 mo s H1 locs1 → W p l e R s m args below meth c H1 locs1 cells slots Q (F0 m (pc + 3) ls rest)) : W p l e R s m args below meth c H locs cells slots Q (F0 m pc ls (.int v :: .ref (ad (6, n)) :: rest)) :=
  kg_put S hw (q := (6, n)) (km_6 hn) (ci := 2) (fs := fx_6 cf ad ka n) rfl rfl inX2 tyX2 tyX2_ok nmX2 8 (by decide) hl rfl (ty := .int) (v := .int v) (by decide +kernel) rfl rfl (by simp [fx_6]) (cu_208 (j := 0)) hd (fun H1 locs1 h => kk _ H1 locs1 rfl h)
theorem gf_209 (S : CallFix p m c cc nL s args lw_gd own) (hw : Wo_ D cA cf ad A ka mo s H locs) {n : Nat} (hn : n < cf 0) {index : Nat} (hl : Cond.fieldLink own index "TaskKernel$Task" "carries" "I" ∈ lw_gd) (hd : decode cc pc = .ok (.getfield index, 3)) (kk : W p l e R s m args below meth c H locs cells slots Q (F0 m (pc + 3) ls (.int (ka 209 n 0) :: rest))) : W p l e R s m args below meth c H locs cells slots Q (F0 m pc ls (.ref (ad (6, n)) :: rest)) :=
  kg_get S hw (q := (6, n)) (km_6 hn) (ci := 2) (fs := fx_6 cf ad ka n) rfl rfl inX2 9 (by decide) hl rfl hd kk
theorem pf_209 (S : CallFix p m c cc nL s args lw_gd own) (hw : Wo_ D cA cf ad A ka mo s H locs) {n : Nat} (hn : n < cf 0) {index : Nat} (hl : Cond.fieldLink own index "TaskKernel$Task" "carries" "I" ∈ lw_gd) {v : Int32} (hd : decode cc pc = .ok (.putfield index, 3)) (kk : ∀ (k1 : ka_T) (H1 : Heap) (locs1 : List Loc), k1 = k3_up ka 209 n 0 v → Wo_ D cA cf ad A k1 mo s H1 locs1 → W p l e R s m args below meth c H1 locs1 cells slots Q (F0 m (pc + 3) ls rest)) : W p l e R s m args below meth c H locs cells slots Q (F0 m pc ls (.int v :: .ref (ad (6, n)) :: rest)) :=
  kg_put S hw (q := (6, n)) (km_6 hn) (ci := 2) (fs := fx_6 cf ad ka n) rfl rfl inX2 tyX2 tyX2_ok nmX2 9 (by decide) hl rfl (ty := .int) (v := .int v) (by decide +kernel) rfl rfl (by simp [fx_6]) (cu_209 (j := 0)) hd (fun H1 locs1 h => kk _ H1 locs1 rfl h)
theorem gf_210 (S : CallFix p m c cc nL s args lw_gd own) (hw : Wo_ D cA cf ad A ka mo s H locs) {n : Nat} (hn : n < cf 0) {index : Nat} (hl : Cond.fieldLink own index "TaskKernel$Task" "reason" "I" ∈ lw_gd) (hd : decode cc pc = .ok (.getfield index, 3)) (kk : W p l e R s m args below meth c H locs cells slots Q (F0 m (pc + 3) ls (.int (ka 210 n 0) :: rest))) : W p l e R s m args below meth c H locs cells slots Q (F0 m pc ls (.ref (ad (6, n)) :: rest)) :=
  kg_get S hw (q := (6, n)) (km_6 hn) (ci := 2) (fs := fx_6 cf ad ka n) rfl rfl inX2 10 (by decide) hl rfl hd kk
theorem pf_210 (S : CallFix p m c cc nL s args lw_gd own) (hw : Wo_ D cA cf ad A ka mo s H locs) {n : Nat} (hn : n < cf 0) {index : Nat} (hl : Cond.fieldLink own index "TaskKernel$Task" "reason" "I" ∈ lw_gd) {v : Int32} (hd : decode cc pc = .ok (.putfield index, 3)) (kk : ∀ (k1 : ka_T) (H1 : Heap) (locs1 : List Loc), k1 = k3_up ka 210 n 0 v → Wo_ D cA cf ad A k1 mo s H1 locs1 → W p l e R s m args below meth c H1 locs1 cells slots Q (F0 m (pc + 3) ls rest)) : W p l e R s m args below meth c H locs cells slots Q (F0 m pc ls (.int v :: .ref (ad (6, n)) :: rest)) :=
  kg_put S hw (q := (6, n)) (km_6 hn) (ci := 2) (fs := fx_6 cf ad ka n) rfl rfl inX2 tyX2 tyX2_ok nmX2 10 (by decide) hl rfl (ty := .int) (v := .int v) (by decide +kernel) rfl rfl (by simp [fx_6]) (cu_210 (j := 0)) hd (fun H1 locs1 h => kk _ H1 locs1 rfl h)
theorem gf_300 (S : CallFix p m c cc nL s args lw_gd own) (hw : Wo_ D cA cf ad A ka mo s H locs) {index : Nat} (hl : Cond.fieldLink own index "TaskKernel" "tasks" "[LTaskKernel$Task;" ∈ lw_gd) (hd : decode cc pc = .ok (.getfield index, 3)) (kk : W p l e R s m args below meth c H locs cells slots Q (F0 m (pc + 3) ls (.ref (ad (1, 0)) :: rest))) : W p l e R s m args below meth c H locs cells slots Q (F0 m pc ls (.ref (ad (0, 0)) :: rest)) :=
  kg_get S hw (q := (0, 0)) (km_0) (ci := 3) (fs := fx_0 cf ad ka 0) rfl rfl inX3 0 (by decide) hl rfl hd kk
theorem gf_301 (S : CallFix p m c cc nL s args lw_gd own) (hw : Wo_ D cA cf ad A ka mo s H locs) {index : Nat} (hl : Cond.fieldLink own index "TaskKernel" "mailboxes" "[LTaskKernel$Mailbox;" ∈ lw_gd) (hd : decode cc pc = .ok (.getfield index, 3)) (kk : W p l e R s m args below meth c H locs cells slots Q (F0 m (pc + 3) ls (.ref (ad (2, 0)) :: rest))) : W p l e R s m args below meth c H locs cells slots Q (F0 m pc ls (.ref (ad (0, 0)) :: rest)) :=
  kg_get S hw (q := (0, 0)) (km_0) (ci := 3) (fs := fx_0 cf ad ka 0) rfl rfl inX3 1 (by decide) hl rfl hd kk
theorem gf_302 (S : CallFix p m c cc nL s args lw_gd own) (hw : Wo_ D cA cf ad A ka mo s H locs) {index : Nat} (hl : Cond.fieldLink own index "TaskKernel" "code" "[I" ∈ lw_gd) (hd : decode cc pc = .ok (.getfield index, 3)) (kk : W p l e R s m args below meth c H locs cells slots Q (F0 m (pc + 3) ls (.ref (ad (3, 0)) :: rest))) : W p l e R s m args below meth c H locs cells slots Q (F0 m pc ls (.ref (ad (0, 0)) :: rest)) :=
  kg_get S hw (q := (0, 0)) (km_0) (ci := 3) (fs := fx_0 cf ad ka 0) rfl rfl inX3 2 (by decide) hl rfl hd kk
theorem gf_303 (S : CallFix p m c cc nL s args lw_gd own) (hw : Wo_ D cA cf ad A ka mo s H locs) {index : Nat} (hl : Cond.fieldLink own index "TaskKernel" "cells" "[I" ∈ lw_gd) (hd : decode cc pc = .ok (.getfield index, 3)) (kk : W p l e R s m args below meth c H locs cells slots Q (F0 m (pc + 3) ls (.ref (ad (4, 0)) :: rest))) : W p l e R s m args below meth c H locs cells slots Q (F0 m pc ls (.ref (ad (0, 0)) :: rest)) :=
  kg_get S hw (q := (0, 0)) (km_0) (ci := 3) (fs := fx_0 cf ad ka 0) rfl rfl inX3 3 (by decide) hl rfl hd kk
theorem gf_304 (S : CallFix p m c cc nL s args lw_gd own) (hw : Wo_ D cA cf ad A ka mo s H locs) {index : Nat} (hl : Cond.fieldLink own index "TaskKernel" "outs" "[I" ∈ lw_gd) (hd : decode cc pc = .ok (.getfield index, 3)) (kk : W p l e R s m args below meth c H locs cells slots Q (F0 m (pc + 3) ls (.ref (ad (5, 0)) :: rest))) : W p l e R s m args below meth c H locs cells slots Q (F0 m pc ls (.ref (ad (0, 0)) :: rest)) :=
  kg_get S hw (q := (0, 0)) (km_0) (ci := 3) (fs := fx_0 cf ad ka 0) rfl rfl inX3 4 (by decide) hl rfl hd kk
theorem gf_305 (S : CallFix p m c cc nL s args lw_gd own) (hw : Wo_ D cA cf ad A ka mo s H locs) {index : Nat} (hl : Cond.fieldLink own index "TaskKernel" "outCount" "I" ∈ lw_gd) (hd : decode cc pc = .ok (.getfield index, 3)) (kk : W p l e R s m args below meth c H locs cells slots Q (F0 m (pc + 3) ls (.int (ka 305 0 0) :: rest))) : W p l e R s m args below meth c H locs cells slots Q (F0 m pc ls (.ref (ad (0, 0)) :: rest)) :=
  kg_get S hw (q := (0, 0)) (km_0) (ci := 3) (fs := fx_0 cf ad ka 0) rfl rfl inX3 5 (by decide) hl rfl hd kk
theorem pf_305 (S : CallFix p m c cc nL s args lw_gd own) (hw : Wo_ D cA cf ad A ka mo s H locs) {index : Nat} (hl : Cond.fieldLink own index "TaskKernel" "outCount" "I" ∈ lw_gd) {v : Int32} (hd : decode cc pc = .ok (.putfield index, 3)) (kk : ∀ (k1 : ka_T) (H1 : Heap) (locs1 : List Loc), k1 = k3_up ka 305 0 0 v → Wo_ D cA cf ad A k1 mo s H1 locs1 → W p l e R s m args below meth c H1 locs1 cells slots Q (F0 m (pc + 3) ls rest)) : W p l e R s m args below meth c H locs cells slots Q (F0 m pc ls (.int v :: .ref (ad (0, 0)) :: rest)) :=
  kg_put S hw (q := (0, 0)) (km_0) (ci := 3) (fs := fx_0 cf ad ka 0) rfl rfl inX3 tyX3 tyX3_ok nmX3 5 (by decide) hl rfl (ty := .int) (v := .int v) (by decide +kernel) rfl rfl (by simp [fx_0]) (cu_305 (j := 0)) hd (fun H1 locs1 h => kk _ H1 locs1 rfl h)
theorem gf_306 (S : CallFix p m c cc nL s args lw_gd own) (hw : Wo_ D cA cf ad A ka mo s H locs) {index : Nat} (hl : Cond.fieldLink own index "TaskKernel" "now" "I" ∈ lw_gd) (hd : decode cc pc = .ok (.getfield index, 3)) (kk : W p l e R s m args below meth c H locs cells slots Q (F0 m (pc + 3) ls (.int (ka 306 0 0) :: rest))) : W p l e R s m args below meth c H locs cells slots Q (F0 m pc ls (.ref (ad (0, 0)) :: rest)) :=
  kg_get S hw (q := (0, 0)) (km_0) (ci := 3) (fs := fx_0 cf ad ka 0) rfl rfl inX3 6 (by decide) hl rfl hd kk
theorem pf_306 (S : CallFix p m c cc nL s args lw_gd own) (hw : Wo_ D cA cf ad A ka mo s H locs) {index : Nat} (hl : Cond.fieldLink own index "TaskKernel" "now" "I" ∈ lw_gd) {v : Int32} (hd : decode cc pc = .ok (.putfield index, 3)) (kk : ∀ (k1 : ka_T) (H1 : Heap) (locs1 : List Loc), k1 = k3_up ka 306 0 0 v → Wo_ D cA cf ad A k1 mo s H1 locs1 → W p l e R s m args below meth c H1 locs1 cells slots Q (F0 m (pc + 3) ls rest)) : W p l e R s m args below meth c H locs cells slots Q (F0 m pc ls (.int v :: .ref (ad (0, 0)) :: rest)) :=
  kg_put S hw (q := (0, 0)) (km_0) (ci := 3) (fs := fx_0 cf ad ka 0) rfl rfl inX3 tyX3 tyX3_ok nmX3 6 (by decide) hl rfl (ty := .int) (v := .int v) (by decide +kernel) rfl rfl (by simp [fx_0]) (cu_306 (j := 0)) hd (fun H1 locs1 h => kk _ H1 locs1 rfl h)
theorem gf_307 (S : CallFix p m c cc nL s args lw_gd own) (hw : Wo_ D cA cf ad A ka mo s H locs) {index : Nat} (hl : Cond.fieldLink own index "TaskKernel" "tickets" "I" ∈ lw_gd) (hd : decode cc pc = .ok (.getfield index, 3)) (kk : W p l e R s m args below meth c H locs cells slots Q (F0 m (pc + 3) ls (.int (ka 307 0 0) :: rest))) : W p l e R s m args below meth c H locs cells slots Q (F0 m pc ls (.ref (ad (0, 0)) :: rest)) :=
  kg_get S hw (q := (0, 0)) (km_0) (ci := 3) (fs := fx_0 cf ad ka 0) rfl rfl inX3 7 (by decide) hl rfl hd kk
theorem pf_307 (S : CallFix p m c cc nL s args lw_gd own) (hw : Wo_ D cA cf ad A ka mo s H locs) {index : Nat} (hl : Cond.fieldLink own index "TaskKernel" "tickets" "I" ∈ lw_gd) {v : Int32} (hd : decode cc pc = .ok (.putfield index, 3)) (kk : ∀ (k1 : ka_T) (H1 : Heap) (locs1 : List Loc), k1 = k3_up ka 307 0 0 v → Wo_ D cA cf ad A k1 mo s H1 locs1 → W p l e R s m args below meth c H1 locs1 cells slots Q (F0 m (pc + 3) ls rest)) : W p l e R s m args below meth c H locs cells slots Q (F0 m pc ls (.int v :: .ref (ad (0, 0)) :: rest)) :=
  kg_put S hw (q := (0, 0)) (km_0) (ci := 3) (fs := fx_0 cf ad ka 0) rfl rfl inX3 tyX3 tyX3_ok nmX3 7 (by decide) hl rfl (ty := .int) (v := .int v) (by decide +kernel) rfl rfl (by simp [fx_0]) (cu_307 (j := 0)) hd (fun H1 locs1 h => kk _ H1 locs1 rfl h)
theorem gf_308 (S : CallFix p m c cc nL s args lw_gd own) (hw : Wo_ D cA cf ad A ka mo s H locs) {index : Nat} (hl : Cond.fieldLink own index "TaskKernel" "spawned" "Z" ∈ lw_gd) (hd : decode cc pc = .ok (.getfield index, 3)) (kk : W p l e R s m args below meth c H locs cells slots Q (F0 m (pc + 3) ls (.int (ka 308 0 0) :: rest))) : W p l e R s m args below meth c H locs cells slots Q (F0 m pc ls (.ref (ad (0, 0)) :: rest)) :=
  kg_get S hw (q := (0, 0)) (km_0) (ci := 3) (fs := fx_0 cf ad ka 0) rfl rfl inX3 8 (by decide) hl rfl hd kk
theorem pf_308 (S : CallFix p m c cc nL s args lw_gd own) (hw : Wo_ D cA cf ad A ka mo s H locs) {index : Nat} (hl : Cond.fieldLink own index "TaskKernel" "spawned" "Z" ∈ lw_gd) {v : Int32} (hn0 : narrow .boolean (.int v) = .int v) (hf0 : fits .boolean (.int v) = true) (hd : decode cc pc = .ok (.putfield index, 3)) (kk : ∀ (k1 : ka_T) (H1 : Heap) (locs1 : List Loc), k1 = k3_up ka 308 0 0 v → Wo_ D cA cf ad A k1 mo s H1 locs1 → W p l e R s m args below meth c H1 locs1 cells slots Q (F0 m (pc + 3) ls rest)) : W p l e R s m args below meth c H locs cells slots Q (F0 m pc ls (.int v :: .ref (ad (0, 0)) :: rest)) :=
  kg_put S hw (q := (0, 0)) (km_0) (ci := 3) (fs := fx_0 cf ad ka 0) rfl rfl inX3 tyX3 tyX3_ok nmX3 8 (by decide) hl rfl (ty := .boolean) (v := .int v) (by decide +kernel) hn0 hf0 (by simp [fx_0]) (cu_308 (j := 0)) hd (fun H1 locs1 h => kk _ H1 locs1 rfl h)
theorem gf_400 (S : CallFix p m c cc nL s args lw_gd own) (hw : Wo_ D cA cf ad A ka mo s H locs) {index : Nat} (hl : Cond.fieldLink own index "TaskKernelModel" "tasks" "I" ∈ lw_gd) (hd : decode cc pc = .ok (.getfield index, 3)) (kk : W p l e R s m args below meth c H locs cells slots Q (F0 m (pc + 3) ls (.int (nI (cf 0)) :: rest))) : W p l e R s m args below meth c H locs cells slots Q (F0 m pc ls (.ref (ad (11, 0)) :: rest)) :=
  kg_get S hw (q := (11, 0)) (km_11) (ci := 4) (fs := fx_11 cf ad mo 0) rfl rfl inX4 0 (by decide) hl rfl hd kk
theorem gf_401 (S : CallFix p m c cc nL s args lw_gd own) (hw : Wo_ D cA cf ad A ka mo s H locs) {index : Nat} (hl : Cond.fieldLink own index "TaskKernelModel" "width" "I" ∈ lw_gd) (hd : decode cc pc = .ok (.getfield index, 3)) (kk : W p l e R s m args below meth c H locs cells slots Q (F0 m (pc + 3) ls (.int (nI (cf 1)) :: rest))) : W p l e R s m args below meth c H locs cells slots Q (F0 m pc ls (.ref (ad (11, 0)) :: rest)) :=
  kg_get S hw (q := (11, 0)) (km_11) (ci := 4) (fs := fx_11 cf ad mo 0) rfl rfl inX4 1 (by decide) hl rfl hd kk
theorem gf_402 (S : CallFix p m c cc nL s args lw_gd own) (hw : Wo_ D cA cf ad A ka mo s H locs) {index : Nat} (hl : Cond.fieldLink own index "TaskKernelModel" "queues" "I" ∈ lw_gd) (hd : decode cc pc = .ok (.getfield index, 3)) (kk : W p l e R s m args below meth c H locs cells slots Q (F0 m (pc + 3) ls (.int (nI (cf 2)) :: rest))) : W p l e R s m args below meth c H locs cells slots Q (F0 m pc ls (.ref (ad (11, 0)) :: rest)) :=
  kg_get S hw (q := (11, 0)) (km_11) (ci := 4) (fs := fx_11 cf ad mo 0) rfl rfl inX4 2 (by decide) hl rfl hd kk
theorem gf_403 (S : CallFix p m c cc nL s args lw_gd own) (hw : Wo_ D cA cf ad A ka mo s H locs) {index : Nat} (hl : Cond.fieldLink own index "TaskKernelModel" "room" "I" ∈ lw_gd) (hd : decode cc pc = .ok (.getfield index, 3)) (kk : W p l e R s m args below meth c H locs cells slots Q (F0 m (pc + 3) ls (.int (nI (cf 3)) :: rest))) : W p l e R s m args below meth c H locs cells slots Q (F0 m pc ls (.ref (ad (11, 0)) :: rest)) :=
  kg_get S hw (q := (11, 0)) (km_11) (ci := 4) (fs := fx_11 cf ad mo 0) rfl rfl inX4 3 (by decide) hl rfl hd kk
theorem gf_404 (S : CallFix p m c cc nL s args lw_gd own) (hw : Wo_ D cA cf ad A ka mo s H locs) {index : Nat} (hl : Cond.fieldLink own index "TaskKernelModel" "code" "[I" ∈ lw_gd) (hd : decode cc pc = .ok (.getfield index, 3)) (kk : W p l e R s m args below meth c H locs cells slots Q (F0 m (pc + 3) ls (.ref (ad (12, 0)) :: rest))) : W p l e R s m args below meth c H locs cells slots Q (F0 m pc ls (.ref (ad (11, 0)) :: rest)) :=
  kg_get S hw (q := (11, 0)) (km_11) (ci := 4) (fs := fx_11 cf ad mo 0) rfl rfl inX4 4 (by decide) hl rfl hd kk
theorem gf_405 (S : CallFix p m c cc nL s args lw_gd own) (hw : Wo_ D cA cf ad A ka mo s H locs) {index : Nat} (hl : Cond.fieldLink own index "TaskKernelModel" "memory" "[I" ∈ lw_gd) (hd : decode cc pc = .ok (.getfield index, 3)) (kk : W p l e R s m args below meth c H locs cells slots Q (F0 m (pc + 3) ls (.ref (ad (13, 0)) :: rest))) : W p l e R s m args below meth c H locs cells slots Q (F0 m pc ls (.ref (ad (11, 0)) :: rest)) :=
  kg_get S hw (q := (11, 0)) (km_11) (ci := 4) (fs := fx_11 cf ad mo 0) rfl rfl inX4 5 (by decide) hl rfl hd kk
theorem gf_406 (S : CallFix p m c cc nL s args lw_gd own) (hw : Wo_ D cA cf ad A ka mo s H locs) {index : Nat} (hl : Cond.fieldLink own index "TaskKernelModel" "begun" "Z" ∈ lw_gd) (hd : decode cc pc = .ok (.getfield index, 3)) (kk : W p l e R s m args below meth c H locs cells slots Q (F0 m (pc + 3) ls (.int (mo 406 0 0) :: rest))) : W p l e R s m args below meth c H locs cells slots Q (F0 m pc ls (.ref (ad (11, 0)) :: rest)) :=
  kg_get S hw (q := (11, 0)) (km_11) (ci := 4) (fs := fx_11 cf ad mo 0) rfl rfl inX4 6 (by decide) hl rfl hd kk
theorem pf_406 (S : CallFix p m c cc nL s args lw_gd own) (hw : Wo_ D cA cf ad A ka mo s H locs) {index : Nat} (hl : Cond.fieldLink own index "TaskKernelModel" "begun" "Z" ∈ lw_gd) {v : Int32} (hn0 : narrow .boolean (.int v) = .int v) (hf0 : fits .boolean (.int v) = true) (hd : decode cc pc = .ok (.putfield index, 3)) (kk : ∀ (k1 : ka_T) (H1 : Heap) (locs1 : List Loc), k1 = k3_up mo 406 0 0 v → Wo_ D cA cf ad A ka k1 s H1 locs1 → W p l e R s m args below meth c H1 locs1 cells slots Q (F0 m (pc + 3) ls rest)) : W p l e R s m args below meth c H locs cells slots Q (F0 m pc ls (.int v :: .ref (ad (11, 0)) :: rest)) :=
  kg_put S hw (q := (11, 0)) (km_11) (ci := 4) (fs := fx_11 cf ad mo 0) rfl rfl inX4 tyX4 tyX4_ok nmX4 6 (by decide) hl rfl (ty := .boolean) (v := .int v) (by decide +kernel) hn0 hf0 (by simp [fx_11]) (cu_406 (j := 0)) hd (fun H1 locs1 h => kk _ H1 locs1 rfl h)
theorem gf_407 (S : CallFix p m c cc nL s args lw_gd own) (hw : Wo_ D cA cf ad A ka mo s H locs) {index : Nat} (hl : Cond.fieldLink own index "TaskKernelModel" "clock" "I" ∈ lw_gd) (hd : decode cc pc = .ok (.getfield index, 3)) (kk : W p l e R s m args below meth c H locs cells slots Q (F0 m (pc + 3) ls (.int (mo 407 0 0) :: rest))) : W p l e R s m args below meth c H locs cells slots Q (F0 m pc ls (.ref (ad (11, 0)) :: rest)) :=
  kg_get S hw (q := (11, 0)) (km_11) (ci := 4) (fs := fx_11 cf ad mo 0) rfl rfl inX4 7 (by decide) hl rfl hd kk
theorem pf_407 (S : CallFix p m c cc nL s args lw_gd own) (hw : Wo_ D cA cf ad A ka mo s H locs) {index : Nat} (hl : Cond.fieldLink own index "TaskKernelModel" "clock" "I" ∈ lw_gd) {v : Int32} (hd : decode cc pc = .ok (.putfield index, 3)) (kk : ∀ (k1 : ka_T) (H1 : Heap) (locs1 : List Loc), k1 = k3_up mo 407 0 0 v → Wo_ D cA cf ad A ka k1 s H1 locs1 → W p l e R s m args below meth c H1 locs1 cells slots Q (F0 m (pc + 3) ls rest)) : W p l e R s m args below meth c H locs cells slots Q (F0 m pc ls (.int v :: .ref (ad (11, 0)) :: rest)) :=
  kg_put S hw (q := (11, 0)) (km_11) (ci := 4) (fs := fx_11 cf ad mo 0) rfl rfl inX4 tyX4 tyX4_ok nmX4 7 (by decide) hl rfl (ty := .int) (v := .int v) (by decide +kernel) rfl rfl (by simp [fx_11]) (cu_407 (j := 0)) hd (fun H1 locs1 h => kk _ H1 locs1 rfl h)
theorem gf_408 (S : CallFix p m c cc nL s args lw_gd own) (hw : Wo_ D cA cf ad A ka mo s H locs) {index : Nat} (hl : Cond.fieldLink own index "TaskKernelModel" "stamp" "I" ∈ lw_gd) (hd : decode cc pc = .ok (.getfield index, 3)) (kk : W p l e R s m args below meth c H locs cells slots Q (F0 m (pc + 3) ls (.int (mo 408 0 0) :: rest))) : W p l e R s m args below meth c H locs cells slots Q (F0 m pc ls (.ref (ad (11, 0)) :: rest)) :=
  kg_get S hw (q := (11, 0)) (km_11) (ci := 4) (fs := fx_11 cf ad mo 0) rfl rfl inX4 8 (by decide) hl rfl hd kk
theorem pf_408 (S : CallFix p m c cc nL s args lw_gd own) (hw : Wo_ D cA cf ad A ka mo s H locs) {index : Nat} (hl : Cond.fieldLink own index "TaskKernelModel" "stamp" "I" ∈ lw_gd) {v : Int32} (hd : decode cc pc = .ok (.putfield index, 3)) (kk : ∀ (k1 : ka_T) (H1 : Heap) (locs1 : List Loc), k1 = k3_up mo 408 0 0 v → Wo_ D cA cf ad A ka k1 s H1 locs1 → W p l e R s m args below meth c H1 locs1 cells slots Q (F0 m (pc + 3) ls rest)) : W p l e R s m args below meth c H locs cells slots Q (F0 m pc ls (.int v :: .ref (ad (11, 0)) :: rest)) :=
  kg_put S hw (q := (11, 0)) (km_11) (ci := 4) (fs := fx_11 cf ad mo 0) rfl rfl inX4 tyX4 tyX4_ok nmX4 8 (by decide) hl rfl (ty := .int) (v := .int v) (by decide +kernel) rfl rfl (by simp [fx_11]) (cu_408 (j := 0)) hd (fun H1 locs1 h => kk _ H1 locs1 rfl h)
theorem gf_409 (S : CallFix p m c cc nL s args lw_gd own) (hw : Wo_ D cA cf ad A ka mo s H locs) {index : Nat} (hl : Cond.fieldLink own index "TaskKernelModel" "state" "[I" ∈ lw_gd) (hd : decode cc pc = .ok (.getfield index, 3)) (kk : W p l e R s m args below meth c H locs cells slots Q (F0 m (pc + 3) ls (.ref (ad (14, 0)) :: rest))) : W p l e R s m args below meth c H locs cells slots Q (F0 m pc ls (.ref (ad (11, 0)) :: rest)) :=
  kg_get S hw (q := (11, 0)) (km_11) (ci := 4) (fs := fx_11 cf ad mo 0) rfl rfl inX4 9 (by decide) hl rfl hd kk
theorem gf_410 (S : CallFix p m c cc nL s args lw_gd own) (hw : Wo_ D cA cf ad A ka mo s H locs) {index : Nat} (hl : Cond.fieldLink own index "TaskKernelModel" "priority" "[I" ∈ lw_gd) (hd : decode cc pc = .ok (.getfield index, 3)) (kk : W p l e R s m args below meth c H locs cells slots Q (F0 m (pc + 3) ls (.ref (ad (15, 0)) :: rest))) : W p l e R s m args below meth c H locs cells slots Q (F0 m pc ls (.ref (ad (11, 0)) :: rest)) :=
  kg_get S hw (q := (11, 0)) (km_11) (ci := 4) (fs := fx_11 cf ad mo 0) rfl rfl inX4 10 (by decide) hl rfl hd kk
theorem gf_411 (S : CallFix p m c cc nL s args lw_gd own) (hw : Wo_ D cA cf ad A ka mo s H locs) {index : Nat} (hl : Cond.fieldLink own index "TaskKernelModel" "place" "[I" ∈ lw_gd) (hd : decode cc pc = .ok (.getfield index, 3)) (kk : W p l e R s m args below meth c H locs cells slots Q (F0 m (pc + 3) ls (.ref (ad (16, 0)) :: rest))) : W p l e R s m args below meth c H locs cells slots Q (F0 m pc ls (.ref (ad (11, 0)) :: rest)) :=
  kg_get S hw (q := (11, 0)) (km_11) (ci := 4) (fs := fx_11 cf ad mo 0) rfl rfl inX4 11 (by decide) hl rfl hd kk
theorem gf_412 (S : CallFix p m c cc nL s args lw_gd own) (hw : Wo_ D cA cf ad A ka mo s H locs) {index : Nat} (hl : Cond.fieldLink own index "TaskKernelModel" "depth" "[I" ∈ lw_gd) (hd : decode cc pc = .ok (.getfield index, 3)) (kk : W p l e R s m args below meth c H locs cells slots Q (F0 m (pc + 3) ls (.ref (ad (17, 0)) :: rest))) : W p l e R s m args below meth c H locs cells slots Q (F0 m pc ls (.ref (ad (11, 0)) :: rest)) :=
  kg_get S hw (q := (11, 0)) (km_11) (ci := 4) (fs := fx_11 cf ad mo 0) rfl rfl inX4 12 (by decide) hl rfl hd kk
theorem gf_413 (S : CallFix p m c cc nL s args lw_gd own) (hw : Wo_ D cA cf ad A ka mo s H locs) {index : Nat} (hl : Cond.fieldLink own index "TaskKernelModel" "stacks" "[I" ∈ lw_gd) (hd : decode cc pc = .ok (.getfield index, 3)) (kk : W p l e R s m args below meth c H locs cells slots Q (F0 m (pc + 3) ls (.ref (ad (18, 0)) :: rest))) : W p l e R s m args below meth c H locs cells slots Q (F0 m pc ls (.ref (ad (11, 0)) :: rest)) :=
  kg_get S hw (q := (11, 0)) (km_11) (ci := 4) (fs := fx_11 cf ad mo 0) rfl rfl inX4 13 (by decide) hl rfl hd kk
theorem gf_414 (S : CallFix p m c cc nL s args lw_gd own) (hw : Wo_ D cA cf ad A ka mo s H locs) {index : Nat} (hl : Cond.fieldLink own index "TaskKernelModel" "frames" "[I" ∈ lw_gd) (hd : decode cc pc = .ok (.getfield index, 3)) (kk : W p l e R s m args below meth c H locs cells slots Q (F0 m (pc + 3) ls (.ref (ad (19, 0)) :: rest))) : W p l e R s m args below meth c H locs cells slots Q (F0 m pc ls (.ref (ad (11, 0)) :: rest)) :=
  kg_get S hw (q := (11, 0)) (km_11) (ci := 4) (fs := fx_11 cf ad mo 0) rfl rfl inX4 14 (by decide) hl rfl hd kk
theorem gf_415 (S : CallFix p m c cc nL s args lw_gd own) (hw : Wo_ D cA cf ad A ka mo s H locs) {index : Nat} (hl : Cond.fieldLink own index "TaskKernelModel" "returns" "[I" ∈ lw_gd) (hd : decode cc pc = .ok (.getfield index, 3)) (kk : W p l e R s m args below meth c H locs cells slots Q (F0 m (pc + 3) ls (.ref (ad (20, 0)) :: rest))) : W p l e R s m args below meth c H locs cells slots Q (F0 m pc ls (.ref (ad (11, 0)) :: rest)) :=
  kg_get S hw (q := (11, 0)) (km_11) (ci := 4) (fs := fx_11 cf ad mo 0) rfl rfl inX4 15 (by decide) hl rfl hd kk
theorem gf_416 (S : CallFix p m c cc nL s args lw_gd own) (hw : Wo_ D cA cf ad A ka mo s H locs) {index : Nat} (hl : Cond.fieldLink own index "TaskKernelModel" "wakes" "[I" ∈ lw_gd) (hd : decode cc pc = .ok (.getfield index, 3)) (kk : W p l e R s m args below meth c H locs cells slots Q (F0 m (pc + 3) ls (.ref (ad (21, 0)) :: rest))) : W p l e R s m args below meth c H locs cells slots Q (F0 m pc ls (.ref (ad (11, 0)) :: rest)) :=
  kg_get S hw (q := (11, 0)) (km_11) (ci := 4) (fs := fx_11 cf ad mo 0) rfl rfl inX4 16 (by decide) hl rfl hd kk
theorem gf_417 (S : CallFix p m c cc nL s args lw_gd own) (hw : Wo_ D cA cf ad A ka mo s H locs) {index : Nat} (hl : Cond.fieldLink own index "TaskKernelModel" "waitsAt" "[I" ∈ lw_gd) (hd : decode cc pc = .ok (.getfield index, 3)) (kk : W p l e R s m args below meth c H locs cells slots Q (F0 m (pc + 3) ls (.ref (ad (22, 0)) :: rest))) : W p l e R s m args below meth c H locs cells slots Q (F0 m pc ls (.ref (ad (11, 0)) :: rest)) :=
  kg_get S hw (q := (11, 0)) (km_11) (ci := 4) (fs := fx_11 cf ad mo 0) rfl rfl inX4 17 (by decide) hl rfl hd kk
theorem gf_418 (S : CallFix p m c cc nL s args lw_gd own) (hw : Wo_ D cA cf ad A ka mo s H locs) {index : Nat} (hl : Cond.fieldLink own index "TaskKernelModel" "sent" "[I" ∈ lw_gd) (hd : decode cc pc = .ok (.getfield index, 3)) (kk : W p l e R s m args below meth c H locs cells slots Q (F0 m (pc + 3) ls (.ref (ad (23, 0)) :: rest))) : W p l e R s m args below meth c H locs cells slots Q (F0 m pc ls (.ref (ad (11, 0)) :: rest)) :=
  kg_get S hw (q := (11, 0)) (km_11) (ci := 4) (fs := fx_11 cf ad mo 0) rfl rfl inX4 18 (by decide) hl rfl hd kk
theorem gf_419 (S : CallFix p m c cc nL s args lw_gd own) (hw : Wo_ D cA cf ad A ka mo s H locs) {index : Nat} (hl : Cond.fieldLink own index "TaskKernelModel" "stamps" "[I" ∈ lw_gd) (hd : decode cc pc = .ok (.getfield index, 3)) (kk : W p l e R s m args below meth c H locs cells slots Q (F0 m (pc + 3) ls (.ref (ad (24, 0)) :: rest))) : W p l e R s m args below meth c H locs cells slots Q (F0 m pc ls (.ref (ad (11, 0)) :: rest)) :=
  kg_get S hw (q := (11, 0)) (km_11) (ci := 4) (fs := fx_11 cf ad mo 0) rfl rfl inX4 19 (by decide) hl rfl hd kk
theorem gf_420 (S : CallFix p m c cc nL s args lw_gd own) (hw : Wo_ D cA cf ad A ka mo s H locs) {index : Nat} (hl : Cond.fieldLink own index "TaskKernelModel" "reason" "[I" ∈ lw_gd) (hd : decode cc pc = .ok (.getfield index, 3)) (kk : W p l e R s m args below meth c H locs cells slots Q (F0 m (pc + 3) ls (.ref (ad (25, 0)) :: rest))) : W p l e R s m args below meth c H locs cells slots Q (F0 m pc ls (.ref (ad (11, 0)) :: rest)) :=
  kg_get S hw (q := (11, 0)) (km_11) (ci := 4) (fs := fx_11 cf ad mo 0) rfl rfl inX4 20 (by decide) hl rfl hd kk
theorem gf_421 (S : CallFix p m c cc nL s args lw_gd own) (hw : Wo_ D cA cf ad A ka mo s H locs) {index : Nat} (hl : Cond.fieldLink own index "TaskKernelModel" "size" "[I" ∈ lw_gd) (hd : decode cc pc = .ok (.getfield index, 3)) (kk : W p l e R s m args below meth c H locs cells slots Q (F0 m (pc + 3) ls (.ref (ad (26, 0)) :: rest))) : W p l e R s m args below meth c H locs cells slots Q (F0 m pc ls (.ref (ad (11, 0)) :: rest)) :=
  kg_get S hw (q := (11, 0)) (km_11) (ci := 4) (fs := fx_11 cf ad mo 0) rfl rfl inX4 21 (by decide) hl rfl hd kk
theorem gf_422 (S : CallFix p m c cc nL s args lw_gd own) (hw : Wo_ D cA cf ad A ka mo s H locs) {index : Nat} (hl : Cond.fieldLink own index "TaskKernelModel" "cells" "[I" ∈ lw_gd) (hd : decode cc pc = .ok (.getfield index, 3)) (kk : W p l e R s m args below meth c H locs cells slots Q (F0 m (pc + 3) ls (.ref (ad (27, 0)) :: rest))) : W p l e R s m args below meth c H locs cells slots Q (F0 m pc ls (.ref (ad (11, 0)) :: rest)) :=
  kg_get S hw (q := (11, 0)) (km_11) (ci := 4) (fs := fx_11 cf ad mo 0) rfl rfl inX4 22 (by decide) hl rfl hd kk
theorem gf_423 (S : CallFix p m c cc nL s args lw_gd own) (hw : Wo_ D cA cf ad A ka mo s H locs) {index : Nat} (hl : Cond.fieldLink own index "TaskKernelModel" "emissions" "I" ∈ lw_gd) (hd : decode cc pc = .ok (.getfield index, 3)) (kk : W p l e R s m args below meth c H locs cells slots Q (F0 m (pc + 3) ls (.int (mo 423 0 0) :: rest))) : W p l e R s m args below meth c H locs cells slots Q (F0 m pc ls (.ref (ad (11, 0)) :: rest)) :=
  kg_get S hw (q := (11, 0)) (km_11) (ci := 4) (fs := fx_11 cf ad mo 0) rfl rfl inX4 23 (by decide) hl rfl hd kk
theorem pf_423 (S : CallFix p m c cc nL s args lw_gd own) (hw : Wo_ D cA cf ad A ka mo s H locs) {index : Nat} (hl : Cond.fieldLink own index "TaskKernelModel" "emissions" "I" ∈ lw_gd) {v : Int32} (hd : decode cc pc = .ok (.putfield index, 3)) (kk : ∀ (k1 : ka_T) (H1 : Heap) (locs1 : List Loc), k1 = k3_up mo 423 0 0 v → Wo_ D cA cf ad A ka k1 s H1 locs1 → W p l e R s m args below meth c H1 locs1 cells slots Q (F0 m (pc + 3) ls rest)) : W p l e R s m args below meth c H locs cells slots Q (F0 m pc ls (.int v :: .ref (ad (11, 0)) :: rest)) :=
  kg_put S hw (q := (11, 0)) (km_11) (ci := 4) (fs := fx_11 cf ad mo 0) rfl rfl inX4 tyX4 tyX4_ok nmX4 23 (by decide) hl rfl (ty := .int) (v := .int v) (by decide +kernel) rfl rfl (by simp [fx_11]) (cu_423 (j := 0)) hd (fun H1 locs1 h => kk _ H1 locs1 rfl h)
theorem gf_424 (S : CallFix p m c cc nL s args lw_gd own) (hw : Wo_ D cA cf ad A ka mo s H locs) {index : Nat} (hl : Cond.fieldLink own index "TaskKernelModel" "emits" "[I" ∈ lw_gd) (hd : decode cc pc = .ok (.getfield index, 3)) (kk : W p l e R s m args below meth c H locs cells slots Q (F0 m (pc + 3) ls (.ref (ad (28, 0)) :: rest))) : W p l e R s m args below meth c H locs cells slots Q (F0 m pc ls (.ref (ad (11, 0)) :: rest)) :=
  kg_get S hw (q := (11, 0)) (km_11) (ci := 4) (fs := fx_11 cf ad mo 0) rfl rfl inX4 24 (by decide) hl rfl hd kk
theorem gf_425 (S : CallFix p m c cc nL s args lw_gd own) (hw : Wo_ D cA cf ad A ka mo s H locs) {index : Nat} (hl : Cond.fieldLink own index "TaskKernelModel" "self" "I" ∈ lw_gd) (hd : decode cc pc = .ok (.getfield index, 3)) (kk : W p l e R s m args below meth c H locs cells slots Q (F0 m (pc + 3) ls (.int (mo 425 0 0) :: rest))) : W p l e R s m args below meth c H locs cells slots Q (F0 m pc ls (.ref (ad (11, 0)) :: rest)) :=
  kg_get S hw (q := (11, 0)) (km_11) (ci := 4) (fs := fx_11 cf ad mo 0) rfl rfl inX4 25 (by decide) hl rfl hd kk
theorem pf_425 (S : CallFix p m c cc nL s args lw_gd own) (hw : Wo_ D cA cf ad A ka mo s H locs) {index : Nat} (hl : Cond.fieldLink own index "TaskKernelModel" "self" "I" ∈ lw_gd) {v : Int32} (hd : decode cc pc = .ok (.putfield index, 3)) (kk : ∀ (k1 : ka_T) (H1 : Heap) (locs1 : List Loc), k1 = k3_up mo 425 0 0 v → Wo_ D cA cf ad A ka k1 s H1 locs1 → W p l e R s m args below meth c H1 locs1 cells slots Q (F0 m (pc + 3) ls rest)) : W p l e R s m args below meth c H locs cells slots Q (F0 m pc ls (.int v :: .ref (ad (11, 0)) :: rest)) :=
  kg_put S hw (q := (11, 0)) (km_11) (ci := 4) (fs := fx_11 cf ad mo 0) rfl rfl inX4 tyX4 tyX4_ok nmX4 25 (by decide) hl rfl (ty := .int) (v := .int v) (by decide +kernel) rfl rfl (by simp [fx_11]) (cu_425 (j := 0)) hd (fun H1 locs1 h => kk _ H1 locs1 rfl h)
theorem gf_426 (S : CallFix p m c cc nL s args lw_gd own) (hw : Wo_ D cA cf ad A ka mo s H locs) {index : Nat} (hl : Cond.fieldLink own index "TaskKernelModel" "trap" "I" ∈ lw_gd) (hd : decode cc pc = .ok (.getfield index, 3)) (kk : W p l e R s m args below meth c H locs cells slots Q (F0 m (pc + 3) ls (.int (mo 426 0 0) :: rest))) : W p l e R s m args below meth c H locs cells slots Q (F0 m pc ls (.ref (ad (11, 0)) :: rest)) :=
  kg_get S hw (q := (11, 0)) (km_11) (ci := 4) (fs := fx_11 cf ad mo 0) rfl rfl inX4 26 (by decide) hl rfl hd kk
theorem pf_426 (S : CallFix p m c cc nL s args lw_gd own) (hw : Wo_ D cA cf ad A ka mo s H locs) {index : Nat} (hl : Cond.fieldLink own index "TaskKernelModel" "trap" "I" ∈ lw_gd) {v : Int32} (hd : decode cc pc = .ok (.putfield index, 3)) (kk : ∀ (k1 : ka_T) (H1 : Heap) (locs1 : List Loc), k1 = k3_up mo 426 0 0 v → Wo_ D cA cf ad A ka k1 s H1 locs1 → W p l e R s m args below meth c H1 locs1 cells slots Q (F0 m (pc + 3) ls rest)) : W p l e R s m args below meth c H locs cells slots Q (F0 m pc ls (.int v :: .ref (ad (11, 0)) :: rest)) :=
  kg_put S hw (q := (11, 0)) (km_11) (ci := 4) (fs := fx_11 cf ad mo 0) rfl rfl inX4 tyX4 tyX4_ok nmX4 26 (by decide) hl rfl (ty := .int) (v := .int v) (by decide +kernel) rfl rfl (by simp [fx_11]) (cu_426 (j := 0)) hd (fun H1 locs1 h => kk _ H1 locs1 rfl h)
theorem al_3 (S : CallFix p m c cc nL s args lw_gd own) (hw : Wo_ D cA cf ad A ka mo s H locs) {i : Int32} (hi : vp_in i 64) (hd : decode cc pc = .ok (.iaload, 1)) (kk : W p l e R s m args below meth c H locs cells slots Q (F0 m (pc + 1) ls (.int (ka 302 0 i.toNatClampNeg) :: rest))) : W p l e R s m args below meth c H locs cells slots Q (F0 m pc ls (.int i :: .ref (ad (3, 0)) :: rest)) :=
  kg_ild S hw (q := (3, 0)) (km_3) (cA := cA 0) (n := 64) (f := (ka 302 0)) rfl 0 rfl hi hd kk
theorem as_3 (S : CallFix p m c cc nL s args lw_gd own) (hw : Wo_ D cA cf ad A ka mo s H locs) {i v : Int32} (hi : vp_in i 64) (hd : decode cc pc = .ok (.iastore, 1)) (kk : ∀ (k1 : ka_T) (H1 : Heap) (locs1 : List Loc), k1 = k3_up ka 302 0 i.toNatClampNeg v → Wo_ D cA cf ad A k1 mo s H1 locs1 → W p l e R s m args below meth c H1 locs1 cells slots Q (F0 m (pc + 1) ls rest)) : W p l e R s m args below meth c H locs cells slots Q (F0 m pc ls (.int v :: .int i :: .ref (ad (3, 0)) :: rest)) :=
  kg_ist S hw (q := (3, 0)) (km_3) (cA := cA 0) (n := 64) (f := (ka 302 0)) rfl 0 rfl hi cu_302 hd (fun H1 locs1 h => kk _ H1 locs1 rfl h)
theorem an_3 (S : CallFix p m c cc nL s args lw_gd own) (hw : Wo_ D cA cf ad A ka mo s H locs) (hd : decode cc pc = .ok (.arraylength, 1)) (kk : W p l e R s m args below meth c H locs cells slots Q (F0 m (pc + 1) ls (.int (nI 64) :: rest))) : W p l e R s m args below meth c H locs cells slots Q (F0 m pc ls (.ref (ad (3, 0)) :: rest)) :=
  kg_len S hw (q := (3, 0)) (km_3) (cA := cA 0) (x := (64, .inl (ka 302 0))) rfl 0 (ty := .int) rfl hd kk
theorem al_4 (S : CallFix p m c cc nL s args lw_gd own) (hw : Wo_ D cA cf ad A ka mo s H locs) {i : Int32} (hi : vp_in i 16) (hd : decode cc pc = .ok (.iaload, 1)) (kk : W p l e R s m args below meth c H locs cells slots Q (F0 m (pc + 1) ls (.int (ka 303 0 i.toNatClampNeg) :: rest))) : W p l e R s m args below meth c H locs cells slots Q (F0 m pc ls (.int i :: .ref (ad (4, 0)) :: rest)) :=
  kg_ild S hw (q := (4, 0)) (km_4) (cA := cA 0) (n := 16) (f := (ka 303 0)) rfl 0 rfl hi hd kk
theorem as_4 (S : CallFix p m c cc nL s args lw_gd own) (hw : Wo_ D cA cf ad A ka mo s H locs) {i v : Int32} (hi : vp_in i 16) (hd : decode cc pc = .ok (.iastore, 1)) (kk : ∀ (k1 : ka_T) (H1 : Heap) (locs1 : List Loc), k1 = k3_up ka 303 0 i.toNatClampNeg v → Wo_ D cA cf ad A k1 mo s H1 locs1 → W p l e R s m args below meth c H1 locs1 cells slots Q (F0 m (pc + 1) ls rest)) : W p l e R s m args below meth c H locs cells slots Q (F0 m pc ls (.int v :: .int i :: .ref (ad (4, 0)) :: rest)) :=
  kg_ist S hw (q := (4, 0)) (km_4) (cA := cA 0) (n := 16) (f := (ka 303 0)) rfl 0 rfl hi cu_303 hd (fun H1 locs1 h => kk _ H1 locs1 rfl h)
theorem an_4 (S : CallFix p m c cc nL s args lw_gd own) (hw : Wo_ D cA cf ad A ka mo s H locs) (hd : decode cc pc = .ok (.arraylength, 1)) (kk : W p l e R s m args below meth c H locs cells slots Q (F0 m (pc + 1) ls (.int (nI 16) :: rest))) : W p l e R s m args below meth c H locs cells slots Q (F0 m pc ls (.ref (ad (4, 0)) :: rest)) :=
  kg_len S hw (q := (4, 0)) (km_4) (cA := cA 0) (x := (16, .inl (ka 303 0))) rfl 0 (ty := .int) rfl hd kk
theorem al_5 (S : CallFix p m c cc nL s args lw_gd own) (hw : Wo_ D cA cf ad A ka mo s H locs) {i : Int32} (hi : vp_in i 32) (hd : decode cc pc = .ok (.iaload, 1)) (kk : W p l e R s m args below meth c H locs cells slots Q (F0 m (pc + 1) ls (.int (ka 304 0 i.toNatClampNeg) :: rest))) : W p l e R s m args below meth c H locs cells slots Q (F0 m pc ls (.int i :: .ref (ad (5, 0)) :: rest)) :=
  kg_ild S hw (q := (5, 0)) (km_5) (cA := cA 0) (n := 32) (f := (ka 304 0)) rfl 0 rfl hi hd kk
theorem as_5 (S : CallFix p m c cc nL s args lw_gd own) (hw : Wo_ D cA cf ad A ka mo s H locs) {i v : Int32} (hi : vp_in i 32) (hd : decode cc pc = .ok (.iastore, 1)) (kk : ∀ (k1 : ka_T) (H1 : Heap) (locs1 : List Loc), k1 = k3_up ka 304 0 i.toNatClampNeg v → Wo_ D cA cf ad A k1 mo s H1 locs1 → W p l e R s m args below meth c H1 locs1 cells slots Q (F0 m (pc + 1) ls rest)) : W p l e R s m args below meth c H locs cells slots Q (F0 m pc ls (.int v :: .int i :: .ref (ad (5, 0)) :: rest)) :=
  kg_ist S hw (q := (5, 0)) (km_5) (cA := cA 0) (n := 32) (f := (ka 304 0)) rfl 0 rfl hi cu_304 hd (fun H1 locs1 h => kk _ H1 locs1 rfl h)
theorem an_5 (S : CallFix p m c cc nL s args lw_gd own) (hw : Wo_ D cA cf ad A ka mo s H locs) (hd : decode cc pc = .ok (.arraylength, 1)) (kk : W p l e R s m args below meth c H locs cells slots Q (F0 m (pc + 1) ls (.int (nI 32) :: rest))) : W p l e R s m args below meth c H locs cells slots Q (F0 m pc ls (.ref (ad (5, 0)) :: rest)) :=
  kg_len S hw (q := (5, 0)) (km_5) (cA := cA 0) (x := (32, .inl (ka 304 0))) rfl 0 (ty := .int) rfl hd kk
theorem al_8 (S : CallFix p m c cc nL s args lw_gd own) (hw : Wo_ D cA cf ad A ka mo s H locs) {n : Nat} (hn : n < 2 * cf 0) {i : Int32} (hi : vp_in i (pl_n cf n)) (hd : decode cc pc = .ok (.iaload, 1)) (kk : W p l e R s m args below meth c H locs cells slots Q (F0 m (pc + 1) ls (.int (ka 100 n i.toNatClampNeg) :: rest))) : W p l e R s m args below meth c H locs cells slots Q (F0 m pc ls (.int i :: .ref (ad (8, n)) :: rest)) :=
  kg_ild S hw (q := (8, n)) (km_8 hn) (cA := cA 0) (n := (pl_n cf n)) (f := (ka 100 n)) rfl 0 rfl hi hd kk
theorem as_8 (S : CallFix p m c cc nL s args lw_gd own) (hw : Wo_ D cA cf ad A ka mo s H locs) {n : Nat} (hn : n < 2 * cf 0) {i v : Int32} (hi : vp_in i (pl_n cf n)) (hd : decode cc pc = .ok (.iastore, 1)) (kk : ∀ (k1 : ka_T) (H1 : Heap) (locs1 : List Loc), k1 = k3_up ka 100 n i.toNatClampNeg v → Wo_ D cA cf ad A k1 mo s H1 locs1 → W p l e R s m args below meth c H1 locs1 cells slots Q (F0 m (pc + 1) ls rest)) : W p l e R s m args below meth c H locs cells slots Q (F0 m pc ls (.int v :: .int i :: .ref (ad (8, n)) :: rest)) :=
  kg_ist S hw (q := (8, n)) (km_8 hn) (cA := cA 0) (n := (pl_n cf n)) (f := (ka 100 n)) rfl 0 rfl hi cu_100 hd (fun H1 locs1 h => kk _ H1 locs1 rfl h)
theorem an_8 (S : CallFix p m c cc nL s args lw_gd own) (hw : Wo_ D cA cf ad A ka mo s H locs) {n : Nat} (hn : n < 2 * cf 0) (hd : decode cc pc = .ok (.arraylength, 1)) (kk : W p l e R s m args below meth c H locs cells slots Q (F0 m (pc + 1) ls (.int (nI (pl_n cf n)) :: rest))) : W p l e R s m args below meth c H locs cells slots Q (F0 m pc ls (.ref (ad (8, n)) :: rest)) :=
  kg_len S hw (q := (8, n)) (km_8 hn) (cA := cA 0) (x := ((pl_n cf n), .inl (ka 100 n))) rfl 0 (ty := .int) rfl hd kk
theorem al_10 (S : CallFix p m c cc nL s args lw_gd own) (hw : Wo_ D cA cf ad A ka mo s H locs) {n : Nat} (hn : n < cf 2) {i : Int32} (hi : vp_in i (cf 3)) (hd : decode cc pc = .ok (.iaload, 1)) (kk : W p l e R s m args below meth c H locs cells slots Q (F0 m (pc + 1) ls (.int (ka 0 n i.toNatClampNeg) :: rest))) : W p l e R s m args below meth c H locs cells slots Q (F0 m pc ls (.int i :: .ref (ad (10, n)) :: rest)) :=
  kg_ild S hw (q := (10, n)) (km_10 hn) (cA := cA 0) (n := (cf 3)) (f := (ka 0 n)) rfl 0 rfl hi hd kk
theorem as_10 (S : CallFix p m c cc nL s args lw_gd own) (hw : Wo_ D cA cf ad A ka mo s H locs) {n : Nat} (hn : n < cf 2) {i v : Int32} (hi : vp_in i (cf 3)) (hd : decode cc pc = .ok (.iastore, 1)) (kk : ∀ (k1 : ka_T) (H1 : Heap) (locs1 : List Loc), k1 = k3_up ka 0 n i.toNatClampNeg v → Wo_ D cA cf ad A k1 mo s H1 locs1 → W p l e R s m args below meth c H1 locs1 cells slots Q (F0 m (pc + 1) ls rest)) : W p l e R s m args below meth c H locs cells slots Q (F0 m pc ls (.int v :: .int i :: .ref (ad (10, n)) :: rest)) :=
  kg_ist S hw (q := (10, n)) (km_10 hn) (cA := cA 0) (n := (cf 3)) (f := (ka 0 n)) rfl 0 rfl hi cu_0 hd (fun H1 locs1 h => kk _ H1 locs1 rfl h)
theorem an_10 (S : CallFix p m c cc nL s args lw_gd own) (hw : Wo_ D cA cf ad A ka mo s H locs) {n : Nat} (hn : n < cf 2) (hd : decode cc pc = .ok (.arraylength, 1)) (kk : W p l e R s m args below meth c H locs cells slots Q (F0 m (pc + 1) ls (.int (nI (cf 3)) :: rest))) : W p l e R s m args below meth c H locs cells slots Q (F0 m pc ls (.ref (ad (10, n)) :: rest)) :=
  kg_len S hw (q := (10, n)) (km_10 hn) (cA := cA 0) (x := ((cf 3), .inl (ka 0 n))) rfl 0 (ty := .int) rfl hd kk
theorem al_12 (S : CallFix p m c cc nL s args lw_gd own) (hw : Wo_ D cA cf ad A ka mo s H locs) {i : Int32} (hi : vp_in i 64) (hd : decode cc pc = .ok (.iaload, 1)) (kk : W p l e R s m args below meth c H locs cells slots Q (F0 m (pc + 1) ls (.int (mo 404 0 i.toNatClampNeg) :: rest))) : W p l e R s m args below meth c H locs cells slots Q (F0 m pc ls (.int i :: .ref (ad (12, 0)) :: rest)) :=
  kg_ild S hw (q := (12, 0)) (km_12) (cA := cA 0) (n := 64) (f := (mo 404 0)) rfl 0 rfl hi hd kk
theorem as_12 (S : CallFix p m c cc nL s args lw_gd own) (hw : Wo_ D cA cf ad A ka mo s H locs) {i v : Int32} (hi : vp_in i 64) (hd : decode cc pc = .ok (.iastore, 1)) (kk : ∀ (k1 : ka_T) (H1 : Heap) (locs1 : List Loc), k1 = k3_up mo 404 0 i.toNatClampNeg v → Wo_ D cA cf ad A ka k1 s H1 locs1 → W p l e R s m args below meth c H1 locs1 cells slots Q (F0 m (pc + 1) ls rest)) : W p l e R s m args below meth c H locs cells slots Q (F0 m pc ls (.int v :: .int i :: .ref (ad (12, 0)) :: rest)) :=
  kg_ist S hw (q := (12, 0)) (km_12) (cA := cA 0) (n := 64) (f := (mo 404 0)) rfl 0 rfl hi cu_404 hd (fun H1 locs1 h => kk _ H1 locs1 rfl h)
theorem an_12 (S : CallFix p m c cc nL s args lw_gd own) (hw : Wo_ D cA cf ad A ka mo s H locs) (hd : decode cc pc = .ok (.arraylength, 1)) (kk : W p l e R s m args below meth c H locs cells slots Q (F0 m (pc + 1) ls (.int (nI 64) :: rest))) : W p l e R s m args below meth c H locs cells slots Q (F0 m pc ls (.ref (ad (12, 0)) :: rest)) :=
  kg_len S hw (q := (12, 0)) (km_12) (cA := cA 0) (x := (64, .inl (mo 404 0))) rfl 0 (ty := .int) rfl hd kk
theorem al_13 (S : CallFix p m c cc nL s args lw_gd own) (hw : Wo_ D cA cf ad A ka mo s H locs) {i : Int32} (hi : vp_in i 16) (hd : decode cc pc = .ok (.iaload, 1)) (kk : W p l e R s m args below meth c H locs cells slots Q (F0 m (pc + 1) ls (.int (mo 405 0 i.toNatClampNeg) :: rest))) : W p l e R s m args below meth c H locs cells slots Q (F0 m pc ls (.int i :: .ref (ad (13, 0)) :: rest)) :=
  kg_ild S hw (q := (13, 0)) (km_13) (cA := cA 0) (n := 16) (f := (mo 405 0)) rfl 0 rfl hi hd kk
theorem as_13 (S : CallFix p m c cc nL s args lw_gd own) (hw : Wo_ D cA cf ad A ka mo s H locs) {i v : Int32} (hi : vp_in i 16) (hd : decode cc pc = .ok (.iastore, 1)) (kk : ∀ (k1 : ka_T) (H1 : Heap) (locs1 : List Loc), k1 = k3_up mo 405 0 i.toNatClampNeg v → Wo_ D cA cf ad A ka k1 s H1 locs1 → W p l e R s m args below meth c H1 locs1 cells slots Q (F0 m (pc + 1) ls rest)) : W p l e R s m args below meth c H locs cells slots Q (F0 m pc ls (.int v :: .int i :: .ref (ad (13, 0)) :: rest)) :=
  kg_ist S hw (q := (13, 0)) (km_13) (cA := cA 0) (n := 16) (f := (mo 405 0)) rfl 0 rfl hi cu_405 hd (fun H1 locs1 h => kk _ H1 locs1 rfl h)
theorem an_13 (S : CallFix p m c cc nL s args lw_gd own) (hw : Wo_ D cA cf ad A ka mo s H locs) (hd : decode cc pc = .ok (.arraylength, 1)) (kk : W p l e R s m args below meth c H locs cells slots Q (F0 m (pc + 1) ls (.int (nI 16) :: rest))) : W p l e R s m args below meth c H locs cells slots Q (F0 m pc ls (.ref (ad (13, 0)) :: rest)) :=
  kg_len S hw (q := (13, 0)) (km_13) (cA := cA 0) (x := (16, .inl (mo 405 0))) rfl 0 (ty := .int) rfl hd kk
theorem al_14 (S : CallFix p m c cc nL s args lw_gd own) (hw : Wo_ D cA cf ad A ka mo s H locs) {i : Int32} (hi : vp_in i 8) (hd : decode cc pc = .ok (.iaload, 1)) (kk : W p l e R s m args below meth c H locs cells slots Q (F0 m (pc + 1) ls (.int (mo 409 0 i.toNatClampNeg) :: rest))) : W p l e R s m args below meth c H locs cells slots Q (F0 m pc ls (.int i :: .ref (ad (14, 0)) :: rest)) :=
  kg_ild S hw (q := (14, 0)) (km_14) (cA := cA 0) (n := 8) (f := (mo 409 0)) rfl 0 rfl hi hd kk
theorem as_14 (S : CallFix p m c cc nL s args lw_gd own) (hw : Wo_ D cA cf ad A ka mo s H locs) {i v : Int32} (hi : vp_in i 8) (hd : decode cc pc = .ok (.iastore, 1)) (kk : ∀ (k1 : ka_T) (H1 : Heap) (locs1 : List Loc), k1 = k3_up mo 409 0 i.toNatClampNeg v → Wo_ D cA cf ad A ka k1 s H1 locs1 → W p l e R s m args below meth c H1 locs1 cells slots Q (F0 m (pc + 1) ls rest)) : W p l e R s m args below meth c H locs cells slots Q (F0 m pc ls (.int v :: .int i :: .ref (ad (14, 0)) :: rest)) :=
  kg_ist S hw (q := (14, 0)) (km_14) (cA := cA 0) (n := 8) (f := (mo 409 0)) rfl 0 rfl hi cu_409 hd (fun H1 locs1 h => kk _ H1 locs1 rfl h)
theorem an_14 (S : CallFix p m c cc nL s args lw_gd own) (hw : Wo_ D cA cf ad A ka mo s H locs) (hd : decode cc pc = .ok (.arraylength, 1)) (kk : W p l e R s m args below meth c H locs cells slots Q (F0 m (pc + 1) ls (.int (nI 8) :: rest))) : W p l e R s m args below meth c H locs cells slots Q (F0 m pc ls (.ref (ad (14, 0)) :: rest)) :=
  kg_len S hw (q := (14, 0)) (km_14) (cA := cA 0) (x := (8, .inl (mo 409 0))) rfl 0 (ty := .int) rfl hd kk
theorem al_15 (S : CallFix p m c cc nL s args lw_gd own) (hw : Wo_ D cA cf ad A ka mo s H locs) {i : Int32} (hi : vp_in i 8) (hd : decode cc pc = .ok (.iaload, 1)) (kk : W p l e R s m args below meth c H locs cells slots Q (F0 m (pc + 1) ls (.int (mo 410 0 i.toNatClampNeg) :: rest))) : W p l e R s m args below meth c H locs cells slots Q (F0 m pc ls (.int i :: .ref (ad (15, 0)) :: rest)) :=
  kg_ild S hw (q := (15, 0)) (km_15) (cA := cA 0) (n := 8) (f := (mo 410 0)) rfl 0 rfl hi hd kk
theorem as_15 (S : CallFix p m c cc nL s args lw_gd own) (hw : Wo_ D cA cf ad A ka mo s H locs) {i v : Int32} (hi : vp_in i 8) (hd : decode cc pc = .ok (.iastore, 1)) (kk : ∀ (k1 : ka_T) (H1 : Heap) (locs1 : List Loc), k1 = k3_up mo 410 0 i.toNatClampNeg v → Wo_ D cA cf ad A ka k1 s H1 locs1 → W p l e R s m args below meth c H1 locs1 cells slots Q (F0 m (pc + 1) ls rest)) : W p l e R s m args below meth c H locs cells slots Q (F0 m pc ls (.int v :: .int i :: .ref (ad (15, 0)) :: rest)) :=
  kg_ist S hw (q := (15, 0)) (km_15) (cA := cA 0) (n := 8) (f := (mo 410 0)) rfl 0 rfl hi cu_410 hd (fun H1 locs1 h => kk _ H1 locs1 rfl h)
theorem an_15 (S : CallFix p m c cc nL s args lw_gd own) (hw : Wo_ D cA cf ad A ka mo s H locs) (hd : decode cc pc = .ok (.arraylength, 1)) (kk : W p l e R s m args below meth c H locs cells slots Q (F0 m (pc + 1) ls (.int (nI 8) :: rest))) : W p l e R s m args below meth c H locs cells slots Q (F0 m pc ls (.ref (ad (15, 0)) :: rest)) :=
  kg_len S hw (q := (15, 0)) (km_15) (cA := cA 0) (x := (8, .inl (mo 410 0))) rfl 0 (ty := .int) rfl hd kk
theorem al_16 (S : CallFix p m c cc nL s args lw_gd own) (hw : Wo_ D cA cf ad A ka mo s H locs) {i : Int32} (hi : vp_in i 8) (hd : decode cc pc = .ok (.iaload, 1)) (kk : W p l e R s m args below meth c H locs cells slots Q (F0 m (pc + 1) ls (.int (mo 411 0 i.toNatClampNeg) :: rest))) : W p l e R s m args below meth c H locs cells slots Q (F0 m pc ls (.int i :: .ref (ad (16, 0)) :: rest)) :=
  kg_ild S hw (q := (16, 0)) (km_16) (cA := cA 0) (n := 8) (f := (mo 411 0)) rfl 0 rfl hi hd kk
theorem as_16 (S : CallFix p m c cc nL s args lw_gd own) (hw : Wo_ D cA cf ad A ka mo s H locs) {i v : Int32} (hi : vp_in i 8) (hd : decode cc pc = .ok (.iastore, 1)) (kk : ∀ (k1 : ka_T) (H1 : Heap) (locs1 : List Loc), k1 = k3_up mo 411 0 i.toNatClampNeg v → Wo_ D cA cf ad A ka k1 s H1 locs1 → W p l e R s m args below meth c H1 locs1 cells slots Q (F0 m (pc + 1) ls rest)) : W p l e R s m args below meth c H locs cells slots Q (F0 m pc ls (.int v :: .int i :: .ref (ad (16, 0)) :: rest)) :=
  kg_ist S hw (q := (16, 0)) (km_16) (cA := cA 0) (n := 8) (f := (mo 411 0)) rfl 0 rfl hi cu_411 hd (fun H1 locs1 h => kk _ H1 locs1 rfl h)
theorem an_16 (S : CallFix p m c cc nL s args lw_gd own) (hw : Wo_ D cA cf ad A ka mo s H locs) (hd : decode cc pc = .ok (.arraylength, 1)) (kk : W p l e R s m args below meth c H locs cells slots Q (F0 m (pc + 1) ls (.int (nI 8) :: rest))) : W p l e R s m args below meth c H locs cells slots Q (F0 m pc ls (.ref (ad (16, 0)) :: rest)) :=
  kg_len S hw (q := (16, 0)) (km_16) (cA := cA 0) (x := (8, .inl (mo 411 0))) rfl 0 (ty := .int) rfl hd kk
theorem al_17 (S : CallFix p m c cc nL s args lw_gd own) (hw : Wo_ D cA cf ad A ka mo s H locs) {i : Int32} (hi : vp_in i 8) (hd : decode cc pc = .ok (.iaload, 1)) (kk : W p l e R s m args below meth c H locs cells slots Q (F0 m (pc + 1) ls (.int (mo 412 0 i.toNatClampNeg) :: rest))) : W p l e R s m args below meth c H locs cells slots Q (F0 m pc ls (.int i :: .ref (ad (17, 0)) :: rest)) :=
  kg_ild S hw (q := (17, 0)) (km_17) (cA := cA 0) (n := 8) (f := (mo 412 0)) rfl 0 rfl hi hd kk
theorem as_17 (S : CallFix p m c cc nL s args lw_gd own) (hw : Wo_ D cA cf ad A ka mo s H locs) {i v : Int32} (hi : vp_in i 8) (hd : decode cc pc = .ok (.iastore, 1)) (kk : ∀ (k1 : ka_T) (H1 : Heap) (locs1 : List Loc), k1 = k3_up mo 412 0 i.toNatClampNeg v → Wo_ D cA cf ad A ka k1 s H1 locs1 → W p l e R s m args below meth c H1 locs1 cells slots Q (F0 m (pc + 1) ls rest)) : W p l e R s m args below meth c H locs cells slots Q (F0 m pc ls (.int v :: .int i :: .ref (ad (17, 0)) :: rest)) :=
  kg_ist S hw (q := (17, 0)) (km_17) (cA := cA 0) (n := 8) (f := (mo 412 0)) rfl 0 rfl hi cu_412 hd (fun H1 locs1 h => kk _ H1 locs1 rfl h)
theorem an_17 (S : CallFix p m c cc nL s args lw_gd own) (hw : Wo_ D cA cf ad A ka mo s H locs) (hd : decode cc pc = .ok (.arraylength, 1)) (kk : W p l e R s m args below meth c H locs cells slots Q (F0 m (pc + 1) ls (.int (nI 8) :: rest))) : W p l e R s m args below meth c H locs cells slots Q (F0 m pc ls (.ref (ad (17, 0)) :: rest)) :=
  kg_len S hw (q := (17, 0)) (km_17) (cA := cA 0) (x := (8, .inl (mo 412 0))) rfl 0 (ty := .int) rfl hd kk
theorem al_18 (S : CallFix p m c cc nL s args lw_gd own) (hw : Wo_ D cA cf ad A ka mo s H locs) {i : Int32} (hi : vp_in i 128) (hd : decode cc pc = .ok (.iaload, 1)) (kk : W p l e R s m args below meth c H locs cells slots Q (F0 m (pc + 1) ls (.int (mo 413 (i.toNatClampNeg / 16) (i.toNatClampNeg % 16)) :: rest))) : W p l e R s m args below meth c H locs cells slots Q (F0 m pc ls (.int i :: .ref (ad (18, 0)) :: rest)) :=
  kg_ild S hw (q := (18, 0)) (km_18) (cA := cA 0) (n := 128) (f := (fun j => mo 413 (j / 16) (j % 16))) rfl 0 rfl hi hd kk
theorem as_18 (S : CallFix p m c cc nL s args lw_gd own) (hw : Wo_ D cA cf ad A ka mo s H locs) {i v : Int32} (hi : vp_in i 128) (hd : decode cc pc = .ok (.iastore, 1)) (kk : ∀ (k1 : ka_T) (H1 : Heap) (locs1 : List Loc), k1 = k3_up mo 413 (i.toNatClampNeg / 16) (i.toNatClampNeg % 16) v → Wo_ D cA cf ad A ka k1 s H1 locs1 → W p l e R s m args below meth c H1 locs1 cells slots Q (F0 m (pc + 1) ls rest)) : W p l e R s m args below meth c H locs cells slots Q (F0 m pc ls (.int v :: .int i :: .ref (ad (18, 0)) :: rest)) :=
  kg_ist S hw (q := (18, 0)) (km_18) (cA := cA 0) (n := 128) (f := (fun j => mo 413 (j / 16) (j % 16))) rfl 0 rfl hi cu_413 hd (fun H1 locs1 h => kk _ H1 locs1 rfl h)
theorem an_18 (S : CallFix p m c cc nL s args lw_gd own) (hw : Wo_ D cA cf ad A ka mo s H locs) (hd : decode cc pc = .ok (.arraylength, 1)) (kk : W p l e R s m args below meth c H locs cells slots Q (F0 m (pc + 1) ls (.int (nI 128) :: rest))) : W p l e R s m args below meth c H locs cells slots Q (F0 m pc ls (.ref (ad (18, 0)) :: rest)) :=
  kg_len S hw (q := (18, 0)) (km_18) (cA := cA 0) (x := (128, .inl (fun j => mo 413 (j / 16) (j % 16)))) rfl 0 (ty := .int) rfl hd kk
theorem al_19 (S : CallFix p m c cc nL s args lw_gd own) (hw : Wo_ D cA cf ad A ka mo s H locs) {i : Int32} (hi : vp_in i 8) (hd : decode cc pc = .ok (.iaload, 1)) (kk : W p l e R s m args below meth c H locs cells slots Q (F0 m (pc + 1) ls (.int (mo 414 0 i.toNatClampNeg) :: rest))) : W p l e R s m args below meth c H locs cells slots Q (F0 m pc ls (.int i :: .ref (ad (19, 0)) :: rest)) :=
  kg_ild S hw (q := (19, 0)) (km_19) (cA := cA 0) (n := 8) (f := (mo 414 0)) rfl 0 rfl hi hd kk
theorem as_19 (S : CallFix p m c cc nL s args lw_gd own) (hw : Wo_ D cA cf ad A ka mo s H locs) {i v : Int32} (hi : vp_in i 8) (hd : decode cc pc = .ok (.iastore, 1)) (kk : ∀ (k1 : ka_T) (H1 : Heap) (locs1 : List Loc), k1 = k3_up mo 414 0 i.toNatClampNeg v → Wo_ D cA cf ad A ka k1 s H1 locs1 → W p l e R s m args below meth c H1 locs1 cells slots Q (F0 m (pc + 1) ls rest)) : W p l e R s m args below meth c H locs cells slots Q (F0 m pc ls (.int v :: .int i :: .ref (ad (19, 0)) :: rest)) :=
  kg_ist S hw (q := (19, 0)) (km_19) (cA := cA 0) (n := 8) (f := (mo 414 0)) rfl 0 rfl hi cu_414 hd (fun H1 locs1 h => kk _ H1 locs1 rfl h)
theorem an_19 (S : CallFix p m c cc nL s args lw_gd own) (hw : Wo_ D cA cf ad A ka mo s H locs) (hd : decode cc pc = .ok (.arraylength, 1)) (kk : W p l e R s m args below meth c H locs cells slots Q (F0 m (pc + 1) ls (.int (nI 8) :: rest))) : W p l e R s m args below meth c H locs cells slots Q (F0 m pc ls (.ref (ad (19, 0)) :: rest)) :=
  kg_len S hw (q := (19, 0)) (km_19) (cA := cA 0) (x := (8, .inl (mo 414 0))) rfl 0 (ty := .int) rfl hd kk
theorem al_20 (S : CallFix p m c cc nL s args lw_gd own) (hw : Wo_ D cA cf ad A ka mo s H locs) {i : Int32} (hi : vp_in i 32) (hd : decode cc pc = .ok (.iaload, 1)) (kk : W p l e R s m args below meth c H locs cells slots Q (F0 m (pc + 1) ls (.int (mo 415 (i.toNatClampNeg / 4) (i.toNatClampNeg % 4)) :: rest))) : W p l e R s m args below meth c H locs cells slots Q (F0 m pc ls (.int i :: .ref (ad (20, 0)) :: rest)) :=
  kg_ild S hw (q := (20, 0)) (km_20) (cA := cA 0) (n := 32) (f := (fun j => mo 415 (j / 4) (j % 4))) rfl 0 rfl hi hd kk
theorem as_20 (S : CallFix p m c cc nL s args lw_gd own) (hw : Wo_ D cA cf ad A ka mo s H locs) {i v : Int32} (hi : vp_in i 32) (hd : decode cc pc = .ok (.iastore, 1)) (kk : ∀ (k1 : ka_T) (H1 : Heap) (locs1 : List Loc), k1 = k3_up mo 415 (i.toNatClampNeg / 4) (i.toNatClampNeg % 4) v → Wo_ D cA cf ad A ka k1 s H1 locs1 → W p l e R s m args below meth c H1 locs1 cells slots Q (F0 m (pc + 1) ls rest)) : W p l e R s m args below meth c H locs cells slots Q (F0 m pc ls (.int v :: .int i :: .ref (ad (20, 0)) :: rest)) :=
  kg_ist S hw (q := (20, 0)) (km_20) (cA := cA 0) (n := 32) (f := (fun j => mo 415 (j / 4) (j % 4))) rfl 0 rfl hi cu_415 hd (fun H1 locs1 h => kk _ H1 locs1 rfl h)
theorem an_20 (S : CallFix p m c cc nL s args lw_gd own) (hw : Wo_ D cA cf ad A ka mo s H locs) (hd : decode cc pc = .ok (.arraylength, 1)) (kk : W p l e R s m args below meth c H locs cells slots Q (F0 m (pc + 1) ls (.int (nI 32) :: rest))) : W p l e R s m args below meth c H locs cells slots Q (F0 m pc ls (.ref (ad (20, 0)) :: rest)) :=
  kg_len S hw (q := (20, 0)) (km_20) (cA := cA 0) (x := (32, .inl (fun j => mo 415 (j / 4) (j % 4)))) rfl 0 (ty := .int) rfl hd kk
theorem al_21 (S : CallFix p m c cc nL s args lw_gd own) (hw : Wo_ D cA cf ad A ka mo s H locs) {i : Int32} (hi : vp_in i 8) (hd : decode cc pc = .ok (.iaload, 1)) (kk : W p l e R s m args below meth c H locs cells slots Q (F0 m (pc + 1) ls (.int (mo 416 0 i.toNatClampNeg) :: rest))) : W p l e R s m args below meth c H locs cells slots Q (F0 m pc ls (.int i :: .ref (ad (21, 0)) :: rest)) :=
  kg_ild S hw (q := (21, 0)) (km_21) (cA := cA 0) (n := 8) (f := (mo 416 0)) rfl 0 rfl hi hd kk
theorem as_21 (S : CallFix p m c cc nL s args lw_gd own) (hw : Wo_ D cA cf ad A ka mo s H locs) {i v : Int32} (hi : vp_in i 8) (hd : decode cc pc = .ok (.iastore, 1)) (kk : ∀ (k1 : ka_T) (H1 : Heap) (locs1 : List Loc), k1 = k3_up mo 416 0 i.toNatClampNeg v → Wo_ D cA cf ad A ka k1 s H1 locs1 → W p l e R s m args below meth c H1 locs1 cells slots Q (F0 m (pc + 1) ls rest)) : W p l e R s m args below meth c H locs cells slots Q (F0 m pc ls (.int v :: .int i :: .ref (ad (21, 0)) :: rest)) :=
  kg_ist S hw (q := (21, 0)) (km_21) (cA := cA 0) (n := 8) (f := (mo 416 0)) rfl 0 rfl hi cu_416 hd (fun H1 locs1 h => kk _ H1 locs1 rfl h)
theorem an_21 (S : CallFix p m c cc nL s args lw_gd own) (hw : Wo_ D cA cf ad A ka mo s H locs) (hd : decode cc pc = .ok (.arraylength, 1)) (kk : W p l e R s m args below meth c H locs cells slots Q (F0 m (pc + 1) ls (.int (nI 8) :: rest))) : W p l e R s m args below meth c H locs cells slots Q (F0 m pc ls (.ref (ad (21, 0)) :: rest)) :=
  kg_len S hw (q := (21, 0)) (km_21) (cA := cA 0) (x := (8, .inl (mo 416 0))) rfl 0 (ty := .int) rfl hd kk
theorem al_22 (S : CallFix p m c cc nL s args lw_gd own) (hw : Wo_ D cA cf ad A ka mo s H locs) {i : Int32} (hi : vp_in i 8) (hd : decode cc pc = .ok (.iaload, 1)) (kk : W p l e R s m args below meth c H locs cells slots Q (F0 m (pc + 1) ls (.int (mo 417 0 i.toNatClampNeg) :: rest))) : W p l e R s m args below meth c H locs cells slots Q (F0 m pc ls (.int i :: .ref (ad (22, 0)) :: rest)) :=
  kg_ild S hw (q := (22, 0)) (km_22) (cA := cA 0) (n := 8) (f := (mo 417 0)) rfl 0 rfl hi hd kk
theorem as_22 (S : CallFix p m c cc nL s args lw_gd own) (hw : Wo_ D cA cf ad A ka mo s H locs) {i v : Int32} (hi : vp_in i 8) (hd : decode cc pc = .ok (.iastore, 1)) (kk : ∀ (k1 : ka_T) (H1 : Heap) (locs1 : List Loc), k1 = k3_up mo 417 0 i.toNatClampNeg v → Wo_ D cA cf ad A ka k1 s H1 locs1 → W p l e R s m args below meth c H1 locs1 cells slots Q (F0 m (pc + 1) ls rest)) : W p l e R s m args below meth c H locs cells slots Q (F0 m pc ls (.int v :: .int i :: .ref (ad (22, 0)) :: rest)) :=
  kg_ist S hw (q := (22, 0)) (km_22) (cA := cA 0) (n := 8) (f := (mo 417 0)) rfl 0 rfl hi cu_417 hd (fun H1 locs1 h => kk _ H1 locs1 rfl h)
theorem an_22 (S : CallFix p m c cc nL s args lw_gd own) (hw : Wo_ D cA cf ad A ka mo s H locs) (hd : decode cc pc = .ok (.arraylength, 1)) (kk : W p l e R s m args below meth c H locs cells slots Q (F0 m (pc + 1) ls (.int (nI 8) :: rest))) : W p l e R s m args below meth c H locs cells slots Q (F0 m pc ls (.ref (ad (22, 0)) :: rest)) :=
  kg_len S hw (q := (22, 0)) (km_22) (cA := cA 0) (x := (8, .inl (mo 417 0))) rfl 0 (ty := .int) rfl hd kk
theorem al_23 (S : CallFix p m c cc nL s args lw_gd own) (hw : Wo_ D cA cf ad A ka mo s H locs) {i : Int32} (hi : vp_in i 8) (hd : decode cc pc = .ok (.iaload, 1)) (kk : W p l e R s m args below meth c H locs cells slots Q (F0 m (pc + 1) ls (.int (mo 418 0 i.toNatClampNeg) :: rest))) : W p l e R s m args below meth c H locs cells slots Q (F0 m pc ls (.int i :: .ref (ad (23, 0)) :: rest)) :=
  kg_ild S hw (q := (23, 0)) (km_23) (cA := cA 0) (n := 8) (f := (mo 418 0)) rfl 0 rfl hi hd kk
theorem as_23 (S : CallFix p m c cc nL s args lw_gd own) (hw : Wo_ D cA cf ad A ka mo s H locs) {i v : Int32} (hi : vp_in i 8) (hd : decode cc pc = .ok (.iastore, 1)) (kk : ∀ (k1 : ka_T) (H1 : Heap) (locs1 : List Loc), k1 = k3_up mo 418 0 i.toNatClampNeg v → Wo_ D cA cf ad A ka k1 s H1 locs1 → W p l e R s m args below meth c H1 locs1 cells slots Q (F0 m (pc + 1) ls rest)) : W p l e R s m args below meth c H locs cells slots Q (F0 m pc ls (.int v :: .int i :: .ref (ad (23, 0)) :: rest)) :=
  kg_ist S hw (q := (23, 0)) (km_23) (cA := cA 0) (n := 8) (f := (mo 418 0)) rfl 0 rfl hi cu_418 hd (fun H1 locs1 h => kk _ H1 locs1 rfl h)
theorem an_23 (S : CallFix p m c cc nL s args lw_gd own) (hw : Wo_ D cA cf ad A ka mo s H locs) (hd : decode cc pc = .ok (.arraylength, 1)) (kk : W p l e R s m args below meth c H locs cells slots Q (F0 m (pc + 1) ls (.int (nI 8) :: rest))) : W p l e R s m args below meth c H locs cells slots Q (F0 m pc ls (.ref (ad (23, 0)) :: rest)) :=
  kg_len S hw (q := (23, 0)) (km_23) (cA := cA 0) (x := (8, .inl (mo 418 0))) rfl 0 (ty := .int) rfl hd kk
theorem al_24 (S : CallFix p m c cc nL s args lw_gd own) (hw : Wo_ D cA cf ad A ka mo s H locs) {i : Int32} (hi : vp_in i 8) (hd : decode cc pc = .ok (.iaload, 1)) (kk : W p l e R s m args below meth c H locs cells slots Q (F0 m (pc + 1) ls (.int (mo 419 0 i.toNatClampNeg) :: rest))) : W p l e R s m args below meth c H locs cells slots Q (F0 m pc ls (.int i :: .ref (ad (24, 0)) :: rest)) :=
  kg_ild S hw (q := (24, 0)) (km_24) (cA := cA 0) (n := 8) (f := (mo 419 0)) rfl 0 rfl hi hd kk
theorem as_24 (S : CallFix p m c cc nL s args lw_gd own) (hw : Wo_ D cA cf ad A ka mo s H locs) {i v : Int32} (hi : vp_in i 8) (hd : decode cc pc = .ok (.iastore, 1)) (kk : ∀ (k1 : ka_T) (H1 : Heap) (locs1 : List Loc), k1 = k3_up mo 419 0 i.toNatClampNeg v → Wo_ D cA cf ad A ka k1 s H1 locs1 → W p l e R s m args below meth c H1 locs1 cells slots Q (F0 m (pc + 1) ls rest)) : W p l e R s m args below meth c H locs cells slots Q (F0 m pc ls (.int v :: .int i :: .ref (ad (24, 0)) :: rest)) :=
  kg_ist S hw (q := (24, 0)) (km_24) (cA := cA 0) (n := 8) (f := (mo 419 0)) rfl 0 rfl hi cu_419 hd (fun H1 locs1 h => kk _ H1 locs1 rfl h)
theorem an_24 (S : CallFix p m c cc nL s args lw_gd own) (hw : Wo_ D cA cf ad A ka mo s H locs) (hd : decode cc pc = .ok (.arraylength, 1)) (kk : W p l e R s m args below meth c H locs cells slots Q (F0 m (pc + 1) ls (.int (nI 8) :: rest))) : W p l e R s m args below meth c H locs cells slots Q (F0 m pc ls (.ref (ad (24, 0)) :: rest)) :=
  kg_len S hw (q := (24, 0)) (km_24) (cA := cA 0) (x := (8, .inl (mo 419 0))) rfl 0 (ty := .int) rfl hd kk
theorem al_25 (S : CallFix p m c cc nL s args lw_gd own) (hw : Wo_ D cA cf ad A ka mo s H locs) {i : Int32} (hi : vp_in i 8) (hd : decode cc pc = .ok (.iaload, 1)) (kk : W p l e R s m args below meth c H locs cells slots Q (F0 m (pc + 1) ls (.int (mo 420 0 i.toNatClampNeg) :: rest))) : W p l e R s m args below meth c H locs cells slots Q (F0 m pc ls (.int i :: .ref (ad (25, 0)) :: rest)) :=
  kg_ild S hw (q := (25, 0)) (km_25) (cA := cA 0) (n := 8) (f := (mo 420 0)) rfl 0 rfl hi hd kk
theorem as_25 (S : CallFix p m c cc nL s args lw_gd own) (hw : Wo_ D cA cf ad A ka mo s H locs) {i v : Int32} (hi : vp_in i 8) (hd : decode cc pc = .ok (.iastore, 1)) (kk : ∀ (k1 : ka_T) (H1 : Heap) (locs1 : List Loc), k1 = k3_up mo 420 0 i.toNatClampNeg v → Wo_ D cA cf ad A ka k1 s H1 locs1 → W p l e R s m args below meth c H1 locs1 cells slots Q (F0 m (pc + 1) ls rest)) : W p l e R s m args below meth c H locs cells slots Q (F0 m pc ls (.int v :: .int i :: .ref (ad (25, 0)) :: rest)) :=
  kg_ist S hw (q := (25, 0)) (km_25) (cA := cA 0) (n := 8) (f := (mo 420 0)) rfl 0 rfl hi cu_420 hd (fun H1 locs1 h => kk _ H1 locs1 rfl h)
theorem an_25 (S : CallFix p m c cc nL s args lw_gd own) (hw : Wo_ D cA cf ad A ka mo s H locs) (hd : decode cc pc = .ok (.arraylength, 1)) (kk : W p l e R s m args below meth c H locs cells slots Q (F0 m (pc + 1) ls (.int (nI 8) :: rest))) : W p l e R s m args below meth c H locs cells slots Q (F0 m pc ls (.ref (ad (25, 0)) :: rest)) :=
  kg_len S hw (q := (25, 0)) (km_25) (cA := cA 0) (x := (8, .inl (mo 420 0))) rfl 0 (ty := .int) rfl hd kk
theorem al_26 (S : CallFix p m c cc nL s args lw_gd own) (hw : Wo_ D cA cf ad A ka mo s H locs) {i : Int32} (hi : vp_in i 4) (hd : decode cc pc = .ok (.iaload, 1)) (kk : W p l e R s m args below meth c H locs cells slots Q (F0 m (pc + 1) ls (.int (mo 421 0 i.toNatClampNeg) :: rest))) : W p l e R s m args below meth c H locs cells slots Q (F0 m pc ls (.int i :: .ref (ad (26, 0)) :: rest)) :=
  kg_ild S hw (q := (26, 0)) (km_26) (cA := cA 0) (n := 4) (f := (mo 421 0)) rfl 0 rfl hi hd kk
theorem as_26 (S : CallFix p m c cc nL s args lw_gd own) (hw : Wo_ D cA cf ad A ka mo s H locs) {i v : Int32} (hi : vp_in i 4) (hd : decode cc pc = .ok (.iastore, 1)) (kk : ∀ (k1 : ka_T) (H1 : Heap) (locs1 : List Loc), k1 = k3_up mo 421 0 i.toNatClampNeg v → Wo_ D cA cf ad A ka k1 s H1 locs1 → W p l e R s m args below meth c H1 locs1 cells slots Q (F0 m (pc + 1) ls rest)) : W p l e R s m args below meth c H locs cells slots Q (F0 m pc ls (.int v :: .int i :: .ref (ad (26, 0)) :: rest)) :=
  kg_ist S hw (q := (26, 0)) (km_26) (cA := cA 0) (n := 4) (f := (mo 421 0)) rfl 0 rfl hi cu_421 hd (fun H1 locs1 h => kk _ H1 locs1 rfl h)
theorem an_26 (S : CallFix p m c cc nL s args lw_gd own) (hw : Wo_ D cA cf ad A ka mo s H locs) (hd : decode cc pc = .ok (.arraylength, 1)) (kk : W p l e R s m args below meth c H locs cells slots Q (F0 m (pc + 1) ls (.int (nI 4) :: rest))) : W p l e R s m args below meth c H locs cells slots Q (F0 m pc ls (.ref (ad (26, 0)) :: rest)) :=
  kg_len S hw (q := (26, 0)) (km_26) (cA := cA 0) (x := (4, .inl (mo 421 0))) rfl 0 (ty := .int) rfl hd kk
theorem al_27 (S : CallFix p m c cc nL s args lw_gd own) (hw : Wo_ D cA cf ad A ka mo s H locs) {i : Int32} (hi : vp_in i 24) (hd : decode cc pc = .ok (.iaload, 1)) (kk : W p l e R s m args below meth c H locs cells slots Q (F0 m (pc + 1) ls (.int (mo 422 (i.toNatClampNeg / 6) (i.toNatClampNeg % 6)) :: rest))) : W p l e R s m args below meth c H locs cells slots Q (F0 m pc ls (.int i :: .ref (ad (27, 0)) :: rest)) :=
  kg_ild S hw (q := (27, 0)) (km_27) (cA := cA 0) (n := 24) (f := (fun j => mo 422 (j / 6) (j % 6))) rfl 0 rfl hi hd kk
theorem as_27 (S : CallFix p m c cc nL s args lw_gd own) (hw : Wo_ D cA cf ad A ka mo s H locs) {i v : Int32} (hi : vp_in i 24) (hd : decode cc pc = .ok (.iastore, 1)) (kk : ∀ (k1 : ka_T) (H1 : Heap) (locs1 : List Loc), k1 = k3_up mo 422 (i.toNatClampNeg / 6) (i.toNatClampNeg % 6) v → Wo_ D cA cf ad A ka k1 s H1 locs1 → W p l e R s m args below meth c H1 locs1 cells slots Q (F0 m (pc + 1) ls rest)) : W p l e R s m args below meth c H locs cells slots Q (F0 m pc ls (.int v :: .int i :: .ref (ad (27, 0)) :: rest)) :=
  kg_ist S hw (q := (27, 0)) (km_27) (cA := cA 0) (n := 24) (f := (fun j => mo 422 (j / 6) (j % 6))) rfl 0 rfl hi cu_422 hd (fun H1 locs1 h => kk _ H1 locs1 rfl h)
theorem an_27 (S : CallFix p m c cc nL s args lw_gd own) (hw : Wo_ D cA cf ad A ka mo s H locs) (hd : decode cc pc = .ok (.arraylength, 1)) (kk : W p l e R s m args below meth c H locs cells slots Q (F0 m (pc + 1) ls (.int (nI 24) :: rest))) : W p l e R s m args below meth c H locs cells slots Q (F0 m pc ls (.ref (ad (27, 0)) :: rest)) :=
  kg_len S hw (q := (27, 0)) (km_27) (cA := cA 0) (x := (24, .inl (fun j => mo 422 (j / 6) (j % 6)))) rfl 0 (ty := .int) rfl hd kk
theorem al_28 (S : CallFix p m c cc nL s args lw_gd own) (hw : Wo_ D cA cf ad A ka mo s H locs) {i : Int32} (hi : vp_in i 32) (hd : decode cc pc = .ok (.iaload, 1)) (kk : W p l e R s m args below meth c H locs cells slots Q (F0 m (pc + 1) ls (.int (mo 424 0 i.toNatClampNeg) :: rest))) : W p l e R s m args below meth c H locs cells slots Q (F0 m pc ls (.int i :: .ref (ad (28, 0)) :: rest)) :=
  kg_ild S hw (q := (28, 0)) (km_28) (cA := cA 0) (n := 32) (f := (mo 424 0)) rfl 0 rfl hi hd kk
theorem as_28 (S : CallFix p m c cc nL s args lw_gd own) (hw : Wo_ D cA cf ad A ka mo s H locs) {i v : Int32} (hi : vp_in i 32) (hd : decode cc pc = .ok (.iastore, 1)) (kk : ∀ (k1 : ka_T) (H1 : Heap) (locs1 : List Loc), k1 = k3_up mo 424 0 i.toNatClampNeg v → Wo_ D cA cf ad A ka k1 s H1 locs1 → W p l e R s m args below meth c H1 locs1 cells slots Q (F0 m (pc + 1) ls rest)) : W p l e R s m args below meth c H locs cells slots Q (F0 m pc ls (.int v :: .int i :: .ref (ad (28, 0)) :: rest)) :=
  kg_ist S hw (q := (28, 0)) (km_28) (cA := cA 0) (n := 32) (f := (mo 424 0)) rfl 0 rfl hi cu_424 hd (fun H1 locs1 h => kk _ H1 locs1 rfl h)
theorem an_28 (S : CallFix p m c cc nL s args lw_gd own) (hw : Wo_ D cA cf ad A ka mo s H locs) (hd : decode cc pc = .ok (.arraylength, 1)) (kk : W p l e R s m args below meth c H locs cells slots Q (F0 m (pc + 1) ls (.int (nI 32) :: rest))) : W p l e R s m args below meth c H locs cells slots Q (F0 m pc ls (.ref (ad (28, 0)) :: rest)) :=
  kg_len S hw (q := (28, 0)) (km_28) (cA := cA 0) (x := (32, .inl (mo 424 0))) rfl 0 (ty := .int) rfl hd kk
theorem ar_1 (S : CallFix p m c cc nL s args lw_gd own) (hw : Wo_ D cA cf ad A ka mo s H locs) {i : Int32} (hi : vp_in i (cf 0)) (hd : decode cc pc = .ok (.aaload, 1)) (kk : ∀ n1 : Nat, n1 = i.toNatClampNeg → n1 < cf 0 → W p l e R s m args below meth c H locs cells slots Q (F0 m (pc + 1) ls (.ref (ad (6, n1)) :: rest))) : W p l e R s m args below meth c H locs cells slots Q (F0 m pc ls (.int i :: .ref (ad (1, 0)) :: rest)) :=
  kg_ald S hw (q := (1, 0)) km_1 (cA := cA 1) (n := cf 0) (f := fun i => some (ad (6, i))) rfl 1 (C := "TaskKernel$Task") rfl hi rfl hd (kk _ rfl (vp_lt hi))
theorem an_1 (S : CallFix p m c cc nL s args lw_gd own) (hw : Wo_ D cA cf ad A ka mo s H locs) (hd : decode cc pc = .ok (.arraylength, 1)) (kk : W p l e R s m args below meth c H locs cells slots Q (F0 m (pc + 1) ls (.int (nI (cf 0)) :: rest))) : W p l e R s m args below meth c H locs cells slots Q (F0 m pc ls (.ref (ad (1, 0)) :: rest)) :=
  kg_len S hw (q := (1, 0)) km_1 (cA := cA 1) (x := (cf 0, .inr (.inr (.inr (.inr (fun i => some (ad (6, i)))))))) rfl 1 (ty := .object "TaskKernel$Task") rfl hd kk
theorem ar_2 (S : CallFix p m c cc nL s args lw_gd own) (hw : Wo_ D cA cf ad A ka mo s H locs) {i : Int32} (hi : vp_in i (cf 2)) (hd : decode cc pc = .ok (.aaload, 1)) (kk : ∀ n1 : Nat, n1 = i.toNatClampNeg → n1 < cf 2 → W p l e R s m args below meth c H locs cells slots Q (F0 m (pc + 1) ls (.ref (ad (9, n1)) :: rest))) : W p l e R s m args below meth c H locs cells slots Q (F0 m pc ls (.int i :: .ref (ad (2, 0)) :: rest)) :=
  kg_ald S hw (q := (2, 0)) km_2 (cA := cA 2) (n := cf 2) (f := fun i => some (ad (9, i))) rfl 2 (C := "TaskKernel$Mailbox") rfl hi rfl hd (kk _ rfl (vp_lt hi))
theorem an_2 (S : CallFix p m c cc nL s args lw_gd own) (hw : Wo_ D cA cf ad A ka mo s H locs) (hd : decode cc pc = .ok (.arraylength, 1)) (kk : W p l e R s m args below meth c H locs cells slots Q (F0 m (pc + 1) ls (.int (nI (cf 2)) :: rest))) : W p l e R s m args below meth c H locs cells slots Q (F0 m pc ls (.ref (ad (2, 0)) :: rest)) :=
  kg_len S hw (q := (2, 0)) km_2 (cA := cA 2) (x := (cf 2, .inr (.inr (.inr (.inr (fun i => some (ad (9, i)))))))) rfl 2 (ty := .object "TaskKernel$Mailbox") rfl hd kk
end KF
end
section
/-! printed by wip/whole/gen.py: for each method the predicate: what must hold so that it ends with post -/
def q_X0_slot (cf : Nat → Nat) (post : Int32 → ka_T → Prop) (n0 : Nat) (x1 : Int32) (k0 : ka_T) : Prop := ((nI (cf 3)) ≤ ((k0 1 n0 0) + x1) → (post (((k0 1 n0 0) + x1) - (nI (cf 3))) k0)) ∧ (¬ (nI (cf 3)) ≤ ((k0 1 n0 0) + x1) → (post ((k0 1 n0 0) + x1) k0))
def q_X0_addLast (cf : Nat → Nat) (post : Int32 → ka_T → Prop) (n0 : Nat) (x1 : Int32) (k0 : ka_T) : Prop := ((k0 2 n0 0) < (nI (cf 3)) → (q_X0_slot cf (fun r2 k2 => vp_in r2 (cf 3) ∧ (∀ k3 : ka_T, k3 = k3_up k2 0 n0 r2.toNatClampNeg x1 → (∀ k4 : ka_T, k4 = k3_up k3 2 n0 0 ((k3 2 n0 0) + (1 : Int32)) → (post (1 : Int32) k4)))) n0 (k0 2 n0 0) k0)) ∧ (¬ (k0 2 n0 0) < (nI (cf 3)) → (post (0 : Int32) k0))
def q_X0_fromFirst (cf : Nat → Nat) (post : Int32 → ka_T → Prop) (n0 : Nat) (x1 : Int32) (k0 : ka_T) : Prop := (x1 < 0 → (post (-2147483648 : Int32) k0)) ∧ (¬ x1 < 0 → (((k0 2 n0 0) ≤ x1 → (post (-2147483648 : Int32) k0)) ∧ (¬ (k0 2 n0 0) ≤ x1 → (q_X0_slot cf (fun r3 k3 => vp_in r3 (cf 3) ∧ (post (k3 0 n0 r3.toNatClampNeg) k3)) n0 x1 k0))))
def q_X0_removeFirst (cf : Nat → Nat) (post : Int32 → ka_T → Prop) (n0 : Nat) (k0 : ka_T) : Prop := vp_in (k0 1 n0 0) (cf 3) ∧ (q_X0_slot cf (fun r1 k1 => ∀ k2 : ka_T, k2 = k3_up k1 1 n0 0 r1 → (∀ k3 : ka_T, k3 = k3_up k2 2 n0 0 ((k2 2 n0 0) - (1 : Int32)) → (post (k0 0 n0 (k0 1 n0 0).toNatClampNeg) k3))) n0 (1 : Int32) k0)
def q_X1_fromTop (cf : Nat → Nat) (post : Int32 → ka_T → Prop) (n0 : Nat) (x1 : Int32) (k0 : ka_T) : Prop := (x1 < 0 → (post (-2147483648 : Int32) k0)) ∧ (¬ x1 < 0 → (((k0 101 n0 0) ≤ x1 → (post (-2147483648 : Int32) k0)) ∧ (¬ (k0 101 n0 0) ≤ x1 → (vp_in (((k0 101 n0 0) - (1 : Int32)) - x1) (pl_n cf n0) ∧ (post (k0 100 n0 (((k0 101 n0 0) - (1 : Int32)) - x1).toNatClampNeg) k0)))))
def q_X1_isFull (cf : Nat → Nat) (post : Int32 → ka_T → Prop) (n0 : Nat) (k0 : ka_T) : Prop := ((k0 101 n0 0) < (nI (pl_n cf n0)) → (post (0 : Int32) k0)) ∧ (¬ (k0 101 n0 0) < (nI (pl_n cf n0)) → (post (1 : Int32) k0))
def q_X1_pop (cf : Nat → Nat) (post : Int32 → ka_T → Prop) (n0 : Nat) (k0 : ka_T) : Prop := ∀ k1 : ka_T, k1 = k3_up k0 101 n0 0 ((k0 101 n0 0) - (1 : Int32)) → (vp_in (k1 101 n0 0) (pl_n cf n0) ∧ (post (k1 100 n0 (k1 101 n0 0).toNatClampNeg) k1))
def q_X1_push (cf : Nat → Nat) (post : Int32 → ka_T → Prop) (n0 : Nat) (x1 : Int32) (k0 : ka_T) : Prop := ((k0 101 n0 0) < (nI (pl_n cf n0)) → (vp_in (k0 101 n0 0) (pl_n cf n0) ∧ (∀ k2 : ka_T, k2 = k3_up k0 100 n0 (k0 101 n0 0).toNatClampNeg x1 → (∀ k3 : ka_T, k3 = k3_up k2 101 n0 0 ((k2 101 n0 0) + (1 : Int32)) → (post (1 : Int32) k3))))) ∧ (¬ (k0 101 n0 0) < (nI (pl_n cf n0)) → (post (0 : Int32) k0))
def q_X2_goesBefore (cf : Nat → Nat) (post : Int32 → ka_T → Prop) (n0 : Nat) (n1 : Nat) (k0 : ka_T) : Prop := ((k0 205 n1 0) < (k0 205 n0 0) → (post (1 : Int32) k0)) ∧ (¬ (k0 205 n1 0) < (k0 205 n0 0) → ((¬ (k0 205 n0 0) = (k0 205 n1 0) → (post (0 : Int32) k0)) ∧ ((k0 205 n0 0) = (k0 205 n1 0) → (((k0 206 n1 0) ≤ (k0 206 n0 0) → (post (0 : Int32) k0)) ∧ (¬ (k0 206 n1 0) ≤ (k0 206 n0 0) → (post (1 : Int32) k0))))))
def q_X2_isWaiting (cf : Nat → Nat) (post : Int32 → ka_T → Prop) (n0 : Nat) (x1 : Int32) (x2 : Int32) (k0 : ka_T) : Prop := (¬ (k0 203 n0 0) = x1 → (post (0 : Int32) k0)) ∧ ((k0 203 n0 0) = x1 → ((¬ (k0 208 n0 0) = x2 → (post (0 : Int32) k0)) ∧ ((k0 208 n0 0) = x2 → (post (1 : Int32) k0))))
def q_X2_put (cf : Nat → Nat) (post : Int32 → ka_T → Prop) (n0 : Nat) (x1 : Int32) (k0 : ka_T) : Prop := q_X1_push cf (fun r1 k1 => (r1 = 0 → (post (1 : Int32) k1)) ∧ (¬ r1 = 0 → (post (0 : Int32) k1))) (2 * n0) x1 k0
def q_X2_reset (cf : Nat → Nat) (post : ka_T → Prop) (n0 : Nat) (x1 : Int32) (x2 : Int32) (k0 : ka_T) : Prop := ∀ k1 : ka_T, k1 = k3_up k0 204 n0 0 x1 → (∀ k2 : ka_T, k2 = k3_up k1 205 n0 0 x2 → (∀ k3 : ka_T, k3 = k3_up k2 101 (2 * n0) 0 (0 : Int32) → (∀ k4 : ka_T, k4 = k3_up k3 101 (2 * n0 + 1) 0 (0 : Int32) → (post k4))))
def q_X3_enter (cf : Nat → Nat) (post : ka_T → Prop) (n1 : Nat) (x2 : Int32) (k0 : ka_T) : Prop := ∀ k1 : ka_T, k1 = k3_up k0 203 n1 0 x2 → (∀ k2 : ka_T, k2 = k3_up k1 206 n1 0 (k1 307 0 0) → (∀ k3 : ka_T, k3 = k3_up k2 307 0 0 ((k2 307 0 0) + (1 : Int32)) → (∀ k4 : ka_T, k4 = k3_up k3 207 n1 0 (0 : Int32) → (∀ k5 : ka_T, k5 = k3_up k4 208 n1 0 (-1 : Int32) → (post k5)))))
def q_X3_beginLeastFree_2 (cf : Nat → Nat) (post : Int32 → ka_T → Prop) : Nat → Int32 → Int32 → Int32 → ka_T → Prop
  | 0, _, _, _, _ => False
  | nf + 1, x1, x2, x3, k0 => ((nI (cf 0)) ≤ x3 → (post (-1 : Int32) k0)) ∧ (¬ (nI (cf 0)) ≤ x3 → (vp_in x3 (cf 0) ∧ (∀ t2 : Nat, t2 = x3.toNatClampNeg → t2 < cf 0 → ((¬ (k0 203 t2 0) = 0 → (q_X3_beginLeastFree_2 cf post nf x1 x2 (x3 + 1) k0)) ∧ ((k0 203 t2 0) = 0 → (vp_in x3 (cf 0) ∧ (∀ t4 : Nat, t4 = x3.toNatClampNeg → t4 < cf 0 → (q_X2_reset cf (fun k5 => vp_in x3 (cf 0) ∧ (∀ t6 : Nat, t6 = x3.toNatClampNeg → t6 < cf 0 → (q_X3_enter cf (fun k7 => post x3 k7) t6 (1 : Int32) k5))) t4 x1 x2 k0))))))))
def q_X3_beginLeastFree (cf : Nat → Nat) (post : Int32 → ka_T → Prop) (x1 : Int32) (x2 : Int32) (k0 : ka_T) : Prop := ∃ mf : Nat, q_X3_beginLeastFree_2 cf post mf x1 x2 (0 : Int32) k0
def q_X3_isCodePlace (cf : Nat → Nat) (post : Int32 → ka_T → Prop) (x0 : Int32) (k0 : ka_T) : Prop := (x0 < 0 → (post (0 : Int32) k0)) ∧ (¬ x0 < 0 → (((64 : Int32) ≤ x0 → (post (0 : Int32) k0)) ∧ (¬ (64 : Int32) ≤ x0 → (post (1 : Int32) k0))))
def q_X3_beginOther (cf : Nat → Nat) (post : Int32 → ka_T → Prop) (n1 : Nat) (x2 : Int32) (k0 : ka_T) : Prop := q_X3_isCodePlace cf (fun r1 k1 => (¬ r1 = 0 → (((1 : Int32) ≤ (k1 101 (2 * n1) 0) → (q_X1_pop cf (fun r4 k4 => q_X3_beginLeastFree cf (fun r5 k5 => q_X2_put cf (fun r6 k6 => post r6 k6) n1 r5 k5) x2 (r4 &&& (7 : Int32)) k4) (2 * n1) k1)) ∧ (¬ (1 : Int32) ≤ (k1 101 (2 * n1) 0) → (post (1 : Int32) k1)))) ∧ (r1 = 0 → (post (2 : Int32) k1))) x2 k0
def q_X3_callPlace (cf : Nat → Nat) (post : Int32 → ka_T → Prop) (n1 : Nat) (x2 : Int32) (k0 : ka_T) : Prop := q_X3_isCodePlace cf (fun r1 k1 => (¬ r1 = 0 → (q_X1_push cf (fun r3 k3 => (¬ r3 = 0 → (∀ k5 : ka_T, k5 = k3_up k3 204 n1 0 x2 → (post (0 : Int32) k5))) ∧ (r3 = 0 → (post (5 : Int32) k3))) (2 * n1 + 1) (k1 204 n1 0) k1)) ∧ (r1 = 0 → (post (2 : Int32) k1))) x2 k0
def q_X3_clock (cf : Nat → Nat) (post : Int32 → ka_T → Prop) (k0 : ka_T) : Prop := post (k0 306 0 0) k0
def q_X3_compute (cf : Nat → Nat) (post : Int32 → ka_T → Prop) (n1 : Nat) (x2 : Int32) (k0 : ka_T) : Prop := ((2 : Int32) ≤ (k0 101 (2 * n1) 0) → (q_X1_pop cf (fun r2 k2 => q_X1_pop cf (fun r3 k3 => (x2 = (2 : Int32) → (q_X2_put cf (fun r5 k5 => post r5 k5) n1 (r3 + r2) k3)) ∧ (x2 = (3 : Int32) → (q_X2_put cf (fun r6 k6 => post r6 k6) n1 (r3 - r2) k3)) ∧ (x2 = (4 : Int32) → (q_X2_put cf (fun r7 k7 => post r7 k7) n1 (r3 * r2) k3)) ∧ (x2 = (5 : Int32) → ((¬ r2 = 0 → ((¬ r2 = 0) ∧ (q_X2_put cf (fun r9 k9 => post r9 k9) n1 (r3 / r2) k3))) ∧ (r2 = 0 → (post (3 : Int32) k3)))) ∧ (¬ x2 = (2 : Int32) → ¬ x2 = (3 : Int32) → ¬ x2 = (4 : Int32) → ¬ x2 = (5 : Int32) → ((r2 ≤ r3 → (q_X2_put cf (fun r11 k11 => post r11 k11) n1 (0 : Int32) k3)) ∧ (¬ r2 ≤ r3 → (q_X2_put cf (fun r12 k12 => post r12 k12) n1 (1 : Int32) k3))))) (2 * n1) k2) (2 * n1) k0)) ∧ (¬ (2 : Int32) ≤ (k0 101 (2 * n1) 0) → (post (1 : Int32) k0))
def q_X3_copyTop (cf : Nat → Nat) (post : Int32 → ka_T → Prop) (n1 : Nat) (k0 : ka_T) : Prop := ((1 : Int32) ≤ (k0 101 (2 * n1) 0) → (q_X1_fromTop cf (fun r2 k2 => q_X2_put cf (fun r3 k3 => post r3 k3) n1 r2 k2) (2 * n1) (0 : Int32) k0)) ∧ (¬ (1 : Int32) ≤ (k0 101 (2 * n1) 0) → (post (1 : Int32) k0))
def q_X3_countBefore_4 (cf : Nat → Nat) (post : Int32 → ka_T → Prop) : Nat → Nat → Int32 → Int32 → ka_T → Prop
  | 0, _, _, _, _ => False
  | nf + 1, n1, x2, x3, k0 => ((nI (cf 0)) ≤ x3 → (post x2 k0)) ∧ (¬ (nI (cf 0)) ≤ x3 → (vp_in x3 (cf 0) ∧ (∀ t2 : Nat, t2 = x3.toNatClampNeg → t2 < cf 0 → (q_X2_isWaiting cf (fun r3 k3 => (r3 = 0 → (q_X3_countBefore_4 cf post nf n1 x2 (x3 + 1) k3)) ∧ (¬ r3 = 0 → (vp_in x3 (cf 0) ∧ (∀ t5 : Nat, t5 = x3.toNatClampNeg → t5 < cf 0 → (((k3 206 n1 0) ≤ (k3 206 t5 0) → (q_X3_countBefore_4 cf post nf n1 x2 (x3 + 1) k3)) ∧ (¬ (k3 206 n1 0) ≤ (k3 206 t5 0) → (q_X3_countBefore_4 cf post nf n1 (x2 + 1) (x3 + 1) k3))))))) t2 (k0 203 n1 0) (k0 208 n1 0) k0))))
def q_X3_countBefore (cf : Nat → Nat) (post : Int32 → ka_T → Prop) (n1 : Nat) (k0 : ka_T) : Prop := ∃ mf : Nat, q_X3_countBefore_4 cf post mf n1 (0 : Int32) (0 : Int32) k0
def q_X3_drop (cf : Nat → Nat) (post : Int32 → ka_T → Prop) (n1 : Nat) (k0 : ka_T) : Prop := ((1 : Int32) ≤ (k0 101 (2 * n1) 0) → (q_X1_pop cf (fun r2 k2 => post (0 : Int32) k2) (2 * n1) k0)) ∧ (¬ (1 : Int32) ≤ (k0 101 (2 * n1) 0) → (post (1 : Int32) k0))
def q_X3_outSlot (cf : Nat → Nat) (post : Int32 → ka_T → Prop) (x0 : Int32) (k0 : ka_T) : Prop := post (x0 &&& (31 : Int32)) k0
def q_X3_emit (cf : Nat → Nat) (post : Int32 → ka_T → Prop) (n1 : Nat) (k0 : ka_T) : Prop := ((1 : Int32) ≤ (k0 101 (2 * n1) 0) → (q_X3_outSlot cf (fun r2 k2 => q_X1_pop cf (fun r3 k3 => vp_in r2 32 ∧ (∀ k4 : ka_T, k4 = k3_up k3 304 0 r2.toNatClampNeg r3 → (∀ k5 : ka_T, k5 = k3_up k4 305 0 0 ((k4 305 0 0) + (1 : Int32)) → (post (0 : Int32) k5)))) (2 * n1) k2) (k0 305 0 0) k0)) ∧ (¬ (1 : Int32) ≤ (k0 101 (2 * n1) 0) → (post (1 : Int32) k0))
def q_X3_emitted (cf : Nat → Nat) (post : Int32 → ka_T → Prop) (k0 : ka_T) : Prop := post (k0 305 0 0) k0
def q_X3_end (cf : Nat → Nat) (post : ka_T → Prop) (n0 : Nat) (x1 : Int32) (k0 : ka_T) : Prop := ∀ k1 : ka_T, k1 = k3_up k0 203 n0 0 (0 : Int32) → (∀ k2 : ka_T, k2 = k3_up k1 210 n0 0 x1 → (post k2))
def q_X3_firstDueSleeper_4 (cf : Nat → Nat) (post : Option Nat → ka_T → Prop) : Nat → Option Nat → Int32 → ka_T → Prop
  | 0, _, _, _ => False
  | nf + 1, o1, x2, k0 => (o1 = none → (((nI (cf 0)) ≤ x2 → (post none k0)) ∧ (¬ (nI (cf 0)) ≤ x2 → (vp_in x2 (cf 0) ∧ (∀ t2 : Nat, t2 = x2.toNatClampNeg → t2 < cf 0 → ((¬ (k0 203 t2 0) = (2 : Int32) → (q_X3_firstDueSleeper_4 cf post nf none (x2 + 1) k0)) ∧ ((k0 203 t2 0) = (2 : Int32) → ((¬ (k0 207 t2 0) = (k0 306 0 0) → (q_X3_firstDueSleeper_4 cf post nf none (x2 + 1) k0)) ∧ ((k0 207 t2 0) = (k0 306 0 0) → (q_X3_firstDueSleeper_4 cf post nf (some t2) (x2 + 1) k0)))))))))) ∧ (∀ n1 : Nat, o1 = some n1 → n1 < cf 0 → (((nI (cf 0)) ≤ x2 → (post (some n1) k0)) ∧ (¬ (nI (cf 0)) ≤ x2 → (vp_in x2 (cf 0) ∧ (∀ t6 : Nat, t6 = x2.toNatClampNeg → t6 < cf 0 → ((¬ (k0 203 t6 0) = (2 : Int32) → (q_X3_firstDueSleeper_4 cf post nf (some n1) (x2 + 1) k0)) ∧ ((k0 203 t6 0) = (2 : Int32) → ((¬ (k0 207 t6 0) = (k0 306 0 0) → (q_X3_firstDueSleeper_4 cf post nf (some n1) (x2 + 1) k0)) ∧ ((k0 207 t6 0) = (k0 306 0 0) → (((k0 206 n1 0) ≤ (k0 206 t6 0) → (q_X3_firstDueSleeper_4 cf post nf (some n1) (x2 + 1) k0)) ∧ (¬ (k0 206 n1 0) ≤ (k0 206 t6 0) → (q_X3_firstDueSleeper_4 cf post nf (some t6) (x2 + 1) k0))))))))))))
def q_X3_firstDueSleeper (cf : Nat → Nat) (post : Option Nat → ka_T → Prop) (k0 : ka_T) : Prop := ∃ mf : Nat, q_X3_firstDueSleeper_4 cf post mf none (0 : Int32) k0
def q_X3_firstWaiting_5 (cf : Nat → Nat) (post : Option Nat → ka_T → Prop) : Nat → Int32 → Int32 → Option Nat → Int32 → ka_T → Prop
  | 0, _, _, _, _, _ => False
  | nf + 1, x1, x2, o3, x4, k0 => (o3 = none → (((nI (cf 0)) ≤ x4 → (post none k0)) ∧ (¬ (nI (cf 0)) ≤ x4 → (vp_in x4 (cf 0) ∧ (∀ t2 : Nat, t2 = x4.toNatClampNeg → t2 < cf 0 → (q_X2_isWaiting cf (fun r3 k3 => (r3 = 0 → (q_X3_firstWaiting_5 cf post nf x1 x2 none (x4 + 1) k3)) ∧ (¬ r3 = 0 → (q_X3_firstWaiting_5 cf post nf x1 x2 (some t2) (x4 + 1) k3))) t2 x1 x2 k0)))))) ∧ (∀ n3 : Nat, o3 = some n3 → n3 < cf 0 → (((nI (cf 0)) ≤ x4 → (post (some n3) k0)) ∧ (¬ (nI (cf 0)) ≤ x4 → (vp_in x4 (cf 0) ∧ (∀ t6 : Nat, t6 = x4.toNatClampNeg → t6 < cf 0 → (q_X2_isWaiting cf (fun r7 k7 => (r7 = 0 → (q_X3_firstWaiting_5 cf post nf x1 x2 (some n3) (x4 + 1) k7)) ∧ (¬ r7 = 0 → (((k7 206 n3 0) ≤ (k7 206 t6 0) → (q_X3_firstWaiting_5 cf post nf x1 x2 (some n3) (x4 + 1) k7)) ∧ (¬ (k7 206 n3 0) ≤ (k7 206 t6 0) → (q_X3_firstWaiting_5 cf post nf x1 x2 (some t6) (x4 + 1) k7))))) t6 x1 x2 k0))))))
def q_X3_firstWaiting (cf : Nat → Nat) (post : Option Nat → ka_T → Prop) (x1 : Int32) (x2 : Int32) (k0 : ka_T) : Prop := ∃ mf : Nat, q_X3_firstWaiting_5 cf post mf x1 x2 none (0 : Int32) k0
def q_X3_goBack (cf : Nat → Nat) (post : Int32 → ka_T → Prop) (n1 : Nat) (k0 : ka_T) : Prop := ((1 : Int32) ≤ (k0 101 (2 * n1 + 1) 0) → (q_X1_pop cf (fun r2 k2 => ∀ k3 : ka_T, k3 = k3_up k2 204 n1 0 r2 → (post (0 : Int32) k3)) (2 * n1 + 1) k0)) ∧ (¬ (1 : Int32) ≤ (k0 101 (2 * n1 + 1) 0) → (post (5 : Int32) k0))
def q_X3_isCell (cf : Nat → Nat) (post : Int32 → ka_T → Prop) (x0 : Int32) (k0 : ka_T) : Prop := (x0 < 0 → (post (0 : Int32) k0)) ∧ (¬ x0 < 0 → (((16 : Int32) ≤ x0 → (post (0 : Int32) k0)) ∧ (¬ (16 : Int32) ≤ x0 → (post (1 : Int32) k0))))
def q_X3_isTask (cf : Nat → Nat) (post : Int32 → ka_T → Prop) (x1 : Int32) (k0 : ka_T) : Prop := (x1 < 0 → (post (0 : Int32) k0)) ∧ (¬ x1 < 0 → (((nI (cf 0)) ≤ x1 → (post (0 : Int32) k0)) ∧ (¬ (nI (cf 0)) ≤ x1 → (post (1 : Int32) k0))))
def q_X3_isLive (cf : Nat → Nat) (post : Int32 → ka_T → Prop) (x1 : Int32) (k0 : ka_T) : Prop := q_X3_isTask cf (fun r1 k1 => (r1 = 0 → (post (0 : Int32) k1)) ∧ (¬ r1 = 0 → (vp_in x1 (cf 0) ∧ (∀ t3 : Nat, t3 = x1.toNatClampNeg → t3 < cf 0 → (((k1 203 t3 0) = 0 → (post (0 : Int32) k1)) ∧ (¬ (k1 203 t3 0) = 0 → (post (1 : Int32) k1))))))) x1 k0
def q_X3_isQueue (cf : Nat → Nat) (post : Int32 → ka_T → Prop) (x1 : Int32) (k0 : ka_T) : Prop := (x1 < 0 → (post (0 : Int32) k0)) ∧ (¬ x1 < 0 → (((nI (cf 2)) ≤ x1 → (post (0 : Int32) k0)) ∧ (¬ (nI (cf 2)) ≤ x1 → (post (1 : Int32) k0))))
def q_X3_jump (cf : Nat → Nat) (post : Int32 → ka_T → Prop) (n1 : Nat) (x2 : Int32) (k0 : ka_T) : Prop := q_X3_isCodePlace cf (fun r1 k1 => (¬ r1 = 0 → (∀ k3 : ka_T, k3 = k3_up k1 204 n1 0 x2 → (post (0 : Int32) k3))) ∧ (r1 = 0 → (post (2 : Int32) k1))) x2 k0
def q_X3_jumpIfZero (cf : Nat → Nat) (post : Int32 → ka_T → Prop) (n1 : Nat) (x2 : Int32) (k0 : ka_T) : Prop := ((1 : Int32) ≤ (k0 101 (2 * n1) 0) → (q_X1_pop cf (fun r2 k2 => (¬ r2 = 0 → (post (0 : Int32) k2)) ∧ (r2 = 0 → (q_X3_jump cf (fun r4 k4 => post r4 k4) n1 x2 k2))) (2 * n1) k0)) ∧ (¬ (1 : Int32) ≤ (k0 101 (2 * n1) 0) → (post (1 : Int32) k0))
def q_X3_kill (cf : Nat → Nat) (post : Int32 → ka_T → Prop) (x1 : Int32) (k0 : ka_T) : Prop := q_X3_isLive cf (fun r1 k1 => (¬ r1 = 0 → (vp_in x1 (cf 0) ∧ (∀ t3 : Nat, t3 = x1.toNatClampNeg → t3 < cf 0 → (q_X3_end cf (fun k4 => post (1 : Int32) k4) t3 (2 : Int32) k1)))) ∧ (r1 = 0 → (post (0 : Int32) k1))) x1 k0
def q_X3_killOther (cf : Nat → Nat) (post : Int32 → ka_T → Prop) (n1 : Nat) (k0 : ka_T) : Prop := ((1 : Int32) ≤ (k0 101 (2 * n1) 0) → (q_X1_pop cf (fun r2 k2 => q_X3_isLive cf (fun r3 k3 => (¬ r3 = 0 → (vp_in r2 (cf 0) ∧ (∀ t5 : Nat, t5 = r2.toNatClampNeg → t5 < cf 0 → (q_X3_end cf (fun k6 => (¬ r2 = (nI n1) → (q_X2_put cf (fun r8 k8 => post r8 k8) n1 (1 : Int32) k6)) ∧ (r2 = (nI n1) → (post (0 : Int32) k6))) t5 (2 : Int32) k3)))) ∧ (r3 = 0 → (q_X2_put cf (fun r9 k9 => post r9 k9) n1 (0 : Int32) k3))) r2 k2) (2 * n1) k0)) ∧ (¬ (1 : Int32) ≤ (k0 101 (2 * n1) 0) → (post (1 : Int32) k0))
def q_X3_load (cf : Nat → Nat) (post : Int32 → ka_T → Prop) (n1 : Nat) (k0 : ka_T) : Prop := ((1 : Int32) ≤ (k0 101 (2 * n1) 0) → (q_X1_pop cf (fun r2 k2 => q_X3_isCell cf (fun r3 k3 => (r3 = 0 → (post (2 : Int32) k3)) ∧ (¬ r3 = 0 → (vp_in r2 16 ∧ (q_X2_put cf (fun r5 k5 => post r5 k5) n1 (k3 303 0 r2.toNatClampNeg) k3)))) r2 k2) (2 * n1) k0)) ∧ (¬ (1 : Int32) ≤ (k0 101 (2 * n1) 0) → (post (1 : Int32) k0))
def q_X3_markOf (cf : Nat → Nat) (post : Int32 → ka_T → Prop) (x0 : Int32) (k0 : ka_T) : Prop := (¬ x0 = (1 : Int32) → ((¬ x0 = 0 → (post x0 k0)) ∧ (x0 = 0 → (post (1 : Int32) k0)))) ∧ (x0 = (1 : Int32) → (post (0 : Int32) k0))
def q_X3_memory (cf : Nat → Nat) (post : Int32 → ka_T → Prop) (x1 : Int32) (k0 : ka_T) : Prop := q_X3_isCell cf (fun r1 k1 => (r1 = 0 → (post (-2147483648 : Int32) k1)) ∧ (¬ r1 = 0 → (vp_in x1 16 ∧ (post (k1 303 0 x1.toNatClampNeg) k1)))) x1 k0
def q_X3_next_4 (cf : Nat → Nat) (post : Int32 → ka_T → Prop) : Nat → Int32 → Int32 → ka_T → Prop
  | 0, _, _, _ => False
  | nf + 1, x1, x2, k0 => ((nI (cf 0)) ≤ x2 → (post x1 k0)) ∧ (¬ (nI (cf 0)) ≤ x2 → (vp_in x2 (cf 0) ∧ (∀ t2 : Nat, t2 = x2.toNatClampNeg → t2 < cf 0 → ((¬ (k0 203 t2 0) = (1 : Int32) → (q_X3_next_4 cf post nf x1 (x2 + 1) k0)) ∧ ((k0 203 t2 0) = (1 : Int32) → ((x1 < 0 → (q_X3_next_4 cf post nf x2 (x2 + 1) k0)) ∧ (¬ x1 < 0 → (vp_in x2 (cf 0) ∧ (∀ t5 : Nat, t5 = x2.toNatClampNeg → t5 < cf 0 → (vp_in x1 (cf 0) ∧ (∀ t6 : Nat, t6 = x1.toNatClampNeg → t6 < cf 0 → (q_X2_goesBefore cf (fun r7 k7 => (r7 = 0 → (q_X3_next_4 cf post nf x1 (x2 + 1) k7)) ∧ (¬ r7 = 0 → (q_X3_next_4 cf post nf x2 (x2 + 1) k7))) t5 t6 k0))))))))))))
def q_X3_next (cf : Nat → Nat) (post : Int32 → ka_T → Prop) (k0 : ka_T) : Prop := ∃ mf : Nat, q_X3_next_4 cf post mf (-1 : Int32) (0 : Int32) k0
def q_X3_out (cf : Nat → Nat) (post : Int32 → ka_T → Prop) (x1 : Int32) (k0 : ka_T) : Prop := (x1 < 0 → (post (-2147483648 : Int32) k0)) ∧ (¬ x1 < 0 → (((32 : Int32) ≤ x1 → (post (-2147483648 : Int32) k0)) ∧ (¬ (32 : Int32) ≤ x1 → ((x1 < (k0 305 0 0) → (q_X3_outSlot cf (fun r4 k4 => vp_in r4 32 ∧ (post (k4 304 0 r4.toNatClampNeg) k4)) (((k0 305 0 0) - (1 : Int32)) - x1) k0)) ∧ (¬ x1 < (k0 305 0 0) → (post (-2147483648 : Int32) k0))))))
def q_X3_poke (cf : Nat → Nat) (post : Int32 → ka_T → Prop) (x1 : Int32) (x2 : Int32) (k0 : ka_T) : Prop := q_X3_isCodePlace cf (fun r1 k1 => (r1 = 0 → (post (0 : Int32) k1)) ∧ (¬ r1 = 0 → (((k1 308 0 0) = 0 → (vp_in x1 64 ∧ (∀ k4 : ka_T, k4 = k3_up k1 302 0 x1.toNatClampNeg x2 → (post (1 : Int32) k4)))) ∧ (¬ (k1 308 0 0) = 0 → (post (0 : Int32) k1))))) x1 k0
def q_X3_queue (cf : Nat → Nat) (post : Int32 → ka_T → Prop) (x1 : Int32) (k0 : ka_T) : Prop := q_X3_isQueue cf (fun r1 k1 => (r1 = 0 → (post (-1 : Int32) k1)) ∧ (¬ r1 = 0 → (vp_in x1 (cf 2) ∧ (∀ t3 : Nat, t3 = x1.toNatClampNeg → t3 < cf 2 → (post (k1 2 t3 0) k1))))) x1 k0
def q_X3_queued (cf : Nat → Nat) (post : Int32 → ka_T → Prop) (x1 : Int32) (x2 : Int32) (k0 : ka_T) : Prop := q_X3_isQueue cf (fun r1 k1 => (r1 = 0 → (post (-2147483648 : Int32) k1)) ∧ (¬ r1 = 0 → (vp_in x1 (cf 2) ∧ (∀ t3 : Nat, t3 = x1.toNatClampNeg → t3 < cf 2 → (q_X0_fromFirst cf (fun r4 k4 => post r4 k4) t3 x2 k1))))) x1 k0
def q_X3_waitAt (cf : Nat → Nat) (post : ka_T → Prop) (n1 : Nat) (x2 : Int32) (x3 : Int32) (k0 : ka_T) : Prop := q_X3_enter cf (fun k1 => ∀ k2 : ka_T, k2 = k3_up k1 208 n1 0 x3 → (post k2)) n1 x2 k0
def q_X3_receive (cf : Nat → Nat) (post : Int32 → ka_T → Prop) (n1 : Nat) (x2 : Int32) (k0 : ka_T) : Prop := q_X3_isQueue cf (fun r1 k1 => (¬ r1 = 0 → (q_X1_isFull cf (fun r3 k3 => (r3 = 0 → (vp_in x2 (cf 2) ∧ (∀ t5 : Nat, t5 = x2.toNatClampNeg → t5 < cf 2 → (((1 : Int32) ≤ (k3 2 t5 0) → (q_X0_removeFirst cf (fun r7 k7 => q_X1_push cf (fun r8 k8 => q_X3_firstWaiting cf (fun r9 k9 => (r9 = none → (post (0 : Int32) k9)) ∧ (∀ t9 : Nat, r9 = some t9 → t9 < cf 0 → (q_X0_addLast cf (fun r10 k10 => q_X3_enter cf (fun k11 => post (0 : Int32) k11) t9 (1 : Int32) k10) t5 (k9 209 t9 0) k9))) (3 : Int32) x2 k8) (2 * n1) r7 k7) t5 k3)) ∧ (¬ (1 : Int32) ≤ (k3 2 t5 0) → (q_X3_waitAt cf (fun k12 => post (0 : Int32) k12) n1 (4 : Int32) x2 k3)))))) ∧ (¬ r3 = 0 → (post (1 : Int32) k3))) (2 * n1) k1)) ∧ (r1 = 0 → (post (6 : Int32) k1))) x2 k0
def q_X3_swap (cf : Nat → Nat) (post : Int32 → ka_T → Prop) (n1 : Nat) (k0 : ka_T) : Prop := ((2 : Int32) ≤ (k0 101 (2 * n1) 0) → (q_X1_pop cf (fun r2 k2 => q_X1_pop cf (fun r3 k3 => q_X1_push cf (fun r4 k4 => q_X1_push cf (fun r5 k5 => post (0 : Int32) k5) (2 * n1) r3 k4) (2 * n1) r2 k3) (2 * n1) k2) (2 * n1) k0)) ∧ (¬ (2 : Int32) ≤ (k0 101 (2 * n1) 0) → (post (1 : Int32) k0))
def q_X3_store (cf : Nat → Nat) (post : Int32 → ka_T → Prop) (n1 : Nat) (k0 : ka_T) : Prop := ((1 : Int32) ≤ (k0 101 (2 * n1) 0) → (q_X1_pop cf (fun r2 k2 => q_X3_isCell cf (fun r3 k3 => (¬ r3 = 0 → (((1 : Int32) ≤ (k3 101 (2 * n1) 0) → (q_X1_pop cf (fun r6 k6 => vp_in r2 16 ∧ (∀ k7 : ka_T, k7 = k3_up k6 303 0 r2.toNatClampNeg r6 → (post (0 : Int32) k7))) (2 * n1) k3)) ∧ (¬ (1 : Int32) ≤ (k3 101 (2 * n1) 0) → (post (1 : Int32) k3)))) ∧ (r3 = 0 → (post (2 : Int32) k3))) r2 k2) (2 * n1) k0)) ∧ (¬ (1 : Int32) ≤ (k0 101 (2 * n1) 0) → (post (1 : Int32) k0))
def q_X3_runOnNumbers (cf : Nat → Nat) (post : Int32 → ka_T → Prop) (n1 : Nat) (x2 : Int32) (x3 : Int32) (k0 : ka_T) : Prop := (x2 = (0 : Int32) → (q_X3_end cf (fun k2 => post (0 : Int32) k2) n1 (1 : Int32) k0)) ∧ (x2 = (1 : Int32) → (q_X2_put cf (fun r3 k3 => post r3 k3) n1 x3 k0)) ∧ (x2 = (6 : Int32) → (q_X3_copyTop cf (fun r4 k4 => post r4 k4) n1 k0)) ∧ (x2 = (7 : Int32) → (q_X3_drop cf (fun r5 k5 => post r5 k5) n1 k0)) ∧ (x2 = (8 : Int32) → (q_X3_swap cf (fun r6 k6 => post r6 k6) n1 k0)) ∧ (x2 = (9 : Int32) → (q_X3_load cf (fun r7 k7 => post r7 k7) n1 k0)) ∧ (x2 = (10 : Int32) → (q_X3_store cf (fun r8 k8 => post r8 k8) n1 k0)) ∧ (¬ x2 = (0 : Int32) → ¬ x2 = (1 : Int32) → ¬ x2 = (6 : Int32) → ¬ x2 = (7 : Int32) → ¬ x2 = (8 : Int32) → ¬ x2 = (9 : Int32) → ¬ x2 = (10 : Int32) → (q_X3_compute cf (fun r9 k9 => post r9 k9) n1 x2 k0))
def q_X3_runOnItself (cf : Nat → Nat) (post : Int32 → ka_T → Prop) (n1 : Nat) (x2 : Int32) (x3 : Int32) (k0 : ka_T) : Prop := (x2 = (11 : Int32) → (q_X3_jump cf (fun r2 k2 => post r2 k2) n1 x3 k0)) ∧ (x2 = (12 : Int32) → (q_X3_jumpIfZero cf (fun r3 k3 => post r3 k3) n1 x3 k0)) ∧ (x2 = (13 : Int32) → (q_X3_callPlace cf (fun r4 k4 => post r4 k4) n1 x3 k0)) ∧ (x2 = (14 : Int32) → (q_X3_goBack cf (fun r5 k5 => post r5 k5) n1 k0)) ∧ (x2 = (15 : Int32) → (q_X3_emit cf (fun r6 k6 => post r6 k6) n1 k0)) ∧ (x2 = (16 : Int32) → (q_X3_enter cf (fun k7 => post (0 : Int32) k7) n1 (1 : Int32) k0)) ∧ (¬ x2 = (11 : Int32) → ¬ x2 = (12 : Int32) → ¬ x2 = (13 : Int32) → ¬ x2 = (14 : Int32) → ¬ x2 = (15 : Int32) → ¬ x2 = (16 : Int32) → (∀ k8 : ka_T, k8 = k3_up k0 205 n1 0 (x3 &&& (7 : Int32)) → (post (0 : Int32) k8)))
def q_X3_sleep (cf : Nat → Nat) (post : Int32 → ka_T → Prop) (n1 : Nat) (k0 : ka_T) : Prop := ((1 : Int32) ≤ (k0 101 (2 * n1) 0) → (q_X1_pop cf (fun r2 k2 => (r2 ≤ 0 → (post (0 : Int32) k2)) ∧ (¬ r2 ≤ 0 → (q_X3_enter cf (fun k4 => ∀ k5 : ka_T, k5 = k3_up k4 207 n1 0 ((k4 306 0 0) + (if (1000 : Int32) < r2 then (1000 : Int32) else r2)) → (post (0 : Int32) k5)) n1 (2 : Int32) k2))) (2 * n1) k0)) ∧ (¬ (1 : Int32) ≤ (k0 101 (2 * n1) 0) → (post (1 : Int32) k0))
def q_X3_send (cf : Nat → Nat) (post : Int32 → ka_T → Prop) (n1 : Nat) (x2 : Int32) (k0 : ka_T) : Prop := q_X3_isQueue cf (fun r1 k1 => (¬ r1 = 0 → (((1 : Int32) ≤ (k1 101 (2 * n1) 0) → (q_X1_pop cf (fun r4 k4 => q_X3_firstWaiting cf (fun r5 k5 => (r5 = none → (vp_in x2 (cf 2) ∧ (∀ t6 : Nat, t6 = x2.toNatClampNeg → t6 < cf 2 → (q_X0_addLast cf (fun r7 k7 => (¬ r7 = 0 → (post (0 : Int32) k7)) ∧ (r7 = 0 → (q_X3_waitAt cf (fun k9 => ∀ k10 : ka_T, k10 = k3_up k9 209 n1 0 r4 → (post (0 : Int32) k10)) n1 (3 : Int32) x2 k7))) t6 r4 k5)))) ∧ (∀ t5 : Nat, r5 = some t5 → t5 < cf 0 → (q_X1_push cf (fun r11 k11 => q_X3_enter cf (fun k12 => post (0 : Int32) k12) t5 (1 : Int32) k11) (2 * t5) r4 k5))) (4 : Int32) x2 k4) (2 * n1) k1)) ∧ (¬ (1 : Int32) ≤ (k1 101 (2 * n1) 0) → (post (1 : Int32) k1)))) ∧ (r1 = 0 → (post (6 : Int32) k1))) x2 k0
def q_X3_runWithOthers (cf : Nat → Nat) (post : Int32 → ka_T → Prop) (n1 : Nat) (x2 : Int32) (x3 : Int32) (k0 : ka_T) : Prop := (x2 = (18 : Int32) → (q_X3_beginOther cf (fun r2 k2 => post r2 k2) n1 x3 k0)) ∧ (x2 = (19 : Int32) → (q_X3_compute cf (fun r3 k3 => post r3 k3) n1 x2 k0)) ∧ (x2 = (20 : Int32) → (q_X3_sleep cf (fun r4 k4 => post r4 k4) n1 k0)) ∧ (x2 = (21 : Int32) → (q_X3_send cf (fun r5 k5 => post r5 k5) n1 x3 k0)) ∧ (x2 = (22 : Int32) → (q_X3_receive cf (fun r6 k6 => post r6 k6) n1 x3 k0)) ∧ (x2 = (23 : Int32) → (q_X2_put cf (fun r7 k7 => post r7 k7) n1 (nI n1) k0)) ∧ (x2 = (24 : Int32) → (q_X2_put cf (fun r8 k8 => post r8 k8) n1 (k0 306 0 0) k0)) ∧ (x2 = (25 : Int32) → (q_X3_killOther cf (fun r9 k9 => post r9 k9) n1 k0)) ∧ (¬ x2 = (18 : Int32) → ¬ x2 = (19 : Int32) → ¬ x2 = (20 : Int32) → ¬ x2 = (21 : Int32) → ¬ x2 = (22 : Int32) → ¬ x2 = (23 : Int32) → ¬ x2 = (24 : Int32) → ¬ x2 = (25 : Int32) → (post (4 : Int32) k0))
def q_X3_runWord (cf : Nat → Nat) (post : Int32 → ka_T → Prop) (n1 : Nat) (k0 : ka_T) : Prop := q_X3_isCodePlace cf (fun r1 k1 => (¬ r1 = 0 → (∀ k3 : ka_T, k3 = k3_up k1 204 n1 0 ((k0 204 n1 0) + (1 : Int32)) → (vp_in (k0 204 n1 0) 64 ∧ (vp_in (k0 204 n1 0) 64 ∧ (((10 : Int32) < ((k3 302 0 (k0 204 n1 0).toNatClampNeg) &&& (31 : Int32)) → (((17 : Int32) < ((k3 302 0 (k0 204 n1 0).toNatClampNeg) &&& (31 : Int32)) → (q_X3_runWithOthers cf (fun r6 k6 => post r6 k6) n1 ((k3 302 0 (k0 204 n1 0).toNatClampNeg) &&& (31 : Int32)) ((k3 302 0 (k0 204 n1 0).toNatClampNeg) >>> ((5 : Int32) &&& 31)) k3)) ∧ (¬ (17 : Int32) < ((k3 302 0 (k0 204 n1 0).toNatClampNeg) &&& (31 : Int32)) → (q_X3_runOnItself cf (fun r7 k7 => post r7 k7) n1 ((k3 302 0 (k0 204 n1 0).toNatClampNeg) &&& (31 : Int32)) ((k3 302 0 (k0 204 n1 0).toNatClampNeg) >>> ((5 : Int32) &&& 31)) k3)))) ∧ (¬ (10 : Int32) < ((k3 302 0 (k0 204 n1 0).toNatClampNeg) &&& (31 : Int32)) → (q_X3_runOnNumbers cf (fun r8 k8 => post r8 k8) n1 ((k3 302 0 (k0 204 n1 0).toNatClampNeg) &&& (31 : Int32)) ((k3 302 0 (k0 204 n1 0).toNatClampNeg) >>> ((5 : Int32) &&& 31)) k3))))))) ∧ (r1 = 0 → (post (2 : Int32) k1))) (k0 204 n1 0) k0
def q_X3_step (cf : Nat → Nat) (post : Int32 → ka_T → Prop) (k0 : ka_T) : Prop := q_X3_next cf (fun r1 k1 => (0 ≤ r1 → (vp_in r1 (cf 0) ∧ (∀ t3 : Nat, t3 = r1.toNatClampNeg → t3 < cf 0 → (q_X3_runWord cf (fun r4 k4 => (¬ r4 = 0 → (q_X3_end cf (fun k6 => post ((((16 : Int32) * r1) + (8 : Int32)) + r4) k6) t3 ((2 : Int32) + r4) k4)) ∧ (r4 = 0 → (q_X3_markOf cf (fun r7 k7 => post (((16 : Int32) * r1) + r7) k7) (k4 203 t3 0) k4))) t3 k1)))) ∧ (¬ 0 ≤ r1 → (post (-1 : Int32) k1)))  k0
def q_X3_tellsAnEnd (cf : Nat → Nat) (post : Int32 → ka_T → Prop) (x0 : Int32) (k0 : ka_T) : Prop := (x0 = (1 : Int32) → (post (1 : Int32) k0)) ∧ (¬ x0 = (1 : Int32) → ((x0 < (8 : Int32) → (post (0 : Int32) k0)) ∧ (¬ x0 < (8 : Int32) → (post (1 : Int32) k0))))
def q_X3_run_15 (cf : Nat → Nat) (post : Int32 → ka_T → Prop) : Nat → Int32 → Int32 → ka_T → Prop
  | 0, _, _, _ => False
  | nf + 1, x1, x2, k0 => (x1 ≤ x2 → (post x1 k0)) ∧ (¬ x1 ≤ x2 → (q_X3_step cf (fun r2 k2 => (0 ≤ r2 → (q_X3_tellsAnEnd cf (fun r4 k4 => (r4 = 0 → (q_X3_run_15 cf post nf x1 (x2 + 1) k4)) ∧ (¬ r4 = 0 → (post (x2 + (1 : Int32)) k4))) (r2 - r2 / (16 : Int32) * (16 : Int32)) k2)) ∧ (¬ 0 ≤ r2 → (post x2 k2)))  k0))
def q_X3_run (cf : Nat → Nat) (post : Int32 → ka_T → Prop) (x1 : Int32) (k0 : ka_T) : Prop := (x1 < (1 : Int32) → (post (-1 : Int32) k0)) ∧ (¬ x1 < (1 : Int32) → ((x1 ≤ (64 : Int32) → (∃ mf : Nat, q_X3_run_15 cf post mf x1 (0 : Int32) k0)) ∧ (¬ x1 ≤ (64 : Int32) → (post (-1 : Int32) k0))))
def q_X3_spawn (cf : Nat → Nat) (post : Int32 → ka_T → Prop) (x1 : Int32) (x2 : Int32) (k0 : ka_T) : Prop := q_X3_isCodePlace cf (fun r1 k1 => (r1 = 0 → (post (-2 : Int32) k1)) ∧ (¬ r1 = 0 → ((x2 < 0 → (post (-2 : Int32) k1)) ∧ (¬ x2 < 0 → ((x2 ≤ (7 : Int32) → (q_X3_beginLeastFree cf (fun r5 k5 => (r5 < 0 → (post r5 k5)) ∧ (¬ r5 < 0 → (∀ k7 : ka_T, k7 = k3_up k5 308 0 0 (1 : Int32) → (post r5 k7)))) x1 x2 k1)) ∧ (¬ x2 ≤ (7 : Int32) → (post (-2 : Int32) k1))))))) x1 k0
def q_X3_stack (cf : Nat → Nat) (post : Int32 → ka_T → Prop) (x1 : Int32) (x2 : Int32) (k0 : ka_T) : Prop := q_X3_isLive cf (fun r1 k1 => (r1 = 0 → (post (-2147483648 : Int32) k1)) ∧ (¬ r1 = 0 → (vp_in x1 (cf 0) ∧ (∀ t3 : Nat, t3 = x1.toNatClampNeg → t3 < cf 0 → (q_X1_fromTop cf (fun r4 k4 => post r4 k4) (2 * t3) x2 k1))))) x1 k0
def q_X3_state (cf : Nat → Nat) (post : Int32 → ka_T → Prop) (x1 : Int32) (k0 : ka_T) : Prop := q_X3_isTask cf (fun r1 k1 => (r1 = 0 → (post (-1 : Int32) k1)) ∧ (¬ r1 = 0 → (vp_in x1 (cf 0) ∧ (∀ t3 : Nat, t3 = x1.toNatClampNeg → t3 < cf 0 → (post (k1 203 t3 0) k1))))) x1 k0
def q_X3_task (cf : Nat → Nat) (post : Int32 → ka_T → Prop) (x1 : Int32) (x2 : Int32) (k0 : ka_T) : Prop := q_X3_isLive cf (fun r1 k1 => (¬ r1 = 0 → (vp_in x1 (cf 0) ∧ (∀ t3 : Nat, t3 = x1.toNatClampNeg → t3 < cf 0 → ((x2 = (0 : Int32) → (post (k1 204 t3 0) k1)) ∧ (x2 = (1 : Int32) → (post (k1 205 t3 0) k1)) ∧ (x2 = (2 : Int32) → (post (k1 101 (2 * t3) 0) k1)) ∧ (x2 = (3 : Int32) → (post (k1 101 (2 * t3 + 1) 0) k1)) ∧ (x2 = (4 : Int32) → (post (k1 207 t3 0) k1)) ∧ (x2 = (5 : Int32) → (post (k1 208 t3 0) k1)) ∧ (¬ x2 = (0 : Int32) → ¬ x2 = (1 : Int32) → ¬ x2 = (2 : Int32) → ¬ x2 = (3 : Int32) → ¬ x2 = (4 : Int32) → ¬ x2 = (5 : Int32) → (post (-2147483648 : Int32) k1)))))) ∧ (r1 = 0 → (post (-2147483648 : Int32) k1))) x1 k0
def q_X3_tick_12 (cf : Nat → Nat) (post : Int32 → ka_T → Prop) : Nat → Int32 → ka_T → Prop
  | 0, _, _ => False
  | nf + 1, x1, k0 => ((nI (cf 0)) ≤ x1 → (post (nI (cf 0)) k0)) ∧ (¬ (nI (cf 0)) ≤ x1 → (q_X3_firstDueSleeper cf (fun r2 k2 => (r2 = none → (post x1 k2)) ∧ (∀ t2 : Nat, r2 = some t2 → t2 < cf 0 → (q_X3_enter cf (fun k3 => q_X3_tick_12 cf post nf (x1 + 1) k3) t2 (1 : Int32) k2)))  k0))
def q_X3_tick (cf : Nat → Nat) (post : Int32 → ka_T → Prop) (k0 : ka_T) : Prop := ∀ k4 : ka_T, k4 = k3_up k0 306 0 0 ((k0 306 0 0) + (1 : Int32)) → (∃ mf : Nat, q_X3_tick_12 cf post mf (0 : Int32) k4)
def q_X3_waiter_24 (cf : Nat → Nat) (post : Int32 → ka_T → Prop) : Nat → Int32 → Int32 → Int32 → Int32 → ka_T → Prop
  | 0, _, _, _, _, _ => False
  | nf + 1, x1, x3, x4, x5, k0 => ((nI (cf 0)) ≤ x5 → (post (-1 : Int32) k0)) ∧ (¬ (nI (cf 0)) ≤ x5 → (vp_in x5 (cf 0) ∧ (∀ t2 : Nat, t2 = x5.toNatClampNeg → t2 < cf 0 → (q_X2_isWaiting cf (fun r3 k3 => (r3 = 0 → (q_X3_waiter_24 cf post nf x1 x3 x4 (x5 + 1) k3)) ∧ (¬ r3 = 0 → (vp_in x5 (cf 0) ∧ (∀ t5 : Nat, t5 = x5.toNatClampNeg → t5 < cf 0 → (q_X3_countBefore cf (fun r6 k6 => (¬ r6 = x3 → (q_X3_waiter_24 cf post nf x1 x3 x4 (x5 + 1) k6)) ∧ (r6 = x3 → (post x5 k6))) t5 k3))))) t2 x4 x1 k0))))
def q_X3_waiter (cf : Nat → Nat) (post : Int32 → ka_T → Prop) (x1 : Int32) (x2 : Int32) (x3 : Int32) (k0 : ka_T) : Prop := q_X3_isQueue cf (fun r8 k8 => (¬ r8 = 0 → ((x2 = 0 → (∃ mf : Nat, q_X3_waiter_24 cf post mf x1 x3 (4 : Int32) (0 : Int32) k8)) ∧ (¬ x2 = 0 → (∃ mf : Nat, q_X3_waiter_24 cf post mf x1 x3 (3 : Int32) (0 : Int32) k8)))) ∧ (r8 = 0 → (post (-1 : Int32) k8))) x1 k0
def q_X3_why (cf : Nat → Nat) (post : Int32 → ka_T → Prop) (x1 : Int32) (k0 : ka_T) : Prop := q_X3_isTask cf (fun r1 k1 => (r1 = 0 → (post (-1 : Int32) k1)) ∧ (¬ r1 = 0 → (vp_in x1 (cf 0) ∧ (∀ t3 : Nat, t3 = x1.toNatClampNeg → t3 < cf 0 → (post (k1 210 t3 0) k1))))) x1 k0
def q_X4_append (cf : Nat → Nat) (post : ka_T → Prop) (x1 : Int32) (x2 : Int32) (k0 : ka_T) : Prop := vp_in x1 4 ∧ (vp_in (((6 : Int32) * x1) + (k0 421 0 x1.toNatClampNeg)) 24 ∧ (∀ k1 : ka_T, k1 = k3_up k0 422 ((((6 : Int32) * x1) + (k0 421 0 x1.toNatClampNeg)).toNatClampNeg / 6) ((((6 : Int32) * x1) + (k0 421 0 x1.toNatClampNeg)).toNatClampNeg % 6) x2 → (vp_in x1 4 ∧ (vp_in x1 4 ∧ (∀ k2 : ka_T, k2 = k3_up k1 421 0 x1.toNatClampNeg ((k1 421 0 x1.toNatClampNeg) + (1 : Int32)) → (post k2))))))
def q_X4_fall (cf : Nat → Nat) (post : ka_T → Prop) (x1 : Int32) (k0 : ka_T) : Prop := (¬ (k0 426 0 0) = 0 → (∀ k2 : ka_T, k2 = k3_up k0 426 0 0 (k0 426 0 0) → (post k2))) ∧ ((k0 426 0 0) = 0 → (∀ k3 : ka_T, k3 = k3_up k0 426 0 0 x1 → (post k3)))
def q_X4_take_17 (cf : Nat → Nat) (post : Int32 → ka_T → Prop) (k0 : ka_T) : Prop := ((k0 426 0 0) ≤ 0 → (vp_in (k0 425 0 0) 8 ∧ (vp_in (k0 425 0 0) 8 ∧ (∀ k2 : ka_T, k2 = k3_up k0 412 0 (k0 425 0 0).toNatClampNeg ((k0 412 0 (k0 425 0 0).toNatClampNeg) - (1 : Int32)) → (vp_in (k2 425 0 0) 8 ∧ (vp_in (((16 : Int32) * (k2 425 0 0)) + (k2 412 0 (k2 425 0 0).toNatClampNeg)) 128 ∧ (post (k2 413 ((((16 : Int32) * (k2 425 0 0)) + (k2 412 0 (k2 425 0 0).toNatClampNeg)).toNatClampNeg / 16) ((((16 : Int32) * (k2 425 0 0)) + (k2 412 0 (k2 425 0 0).toNatClampNeg)).toNatClampNeg % 16)) k2))))))) ∧ (¬ (k0 426 0 0) ≤ 0 → (post (0 : Int32) k0))
def q_X4_take (cf : Nat → Nat) (post : Int32 → ka_T → Prop) (k0 : ka_T) : Prop := vp_in (k0 425 0 0) 8 ∧ ((¬ (k0 412 0 (k0 425 0 0).toNatClampNeg) = 0 → (q_X4_take_17 cf post  k0)) ∧ ((k0 412 0 (k0 425 0 0).toNatClampNeg) = 0 → (q_X4_fall cf (fun k4 => q_X4_take_17 cf post  k4) (1 : Int32) k0)))
def q_X4_give (cf : Nat → Nat) (post : ka_T → Prop) (x1 : Int32) (x2 : Int32) (k0 : ka_T) : Prop := vp_in x1 8 ∧ (vp_in (((16 : Int32) * x1) + (k0 412 0 x1.toNatClampNeg)) 128 ∧ (∀ k1 : ka_T, k1 = k3_up k0 413 ((((16 : Int32) * x1) + (k0 412 0 x1.toNatClampNeg)).toNatClampNeg / 16) ((((16 : Int32) * x1) + (k0 412 0 x1.toNatClampNeg)).toNatClampNeg % 16) x2 → (vp_in x1 8 ∧ (vp_in x1 8 ∧ (∀ k2 : ka_T, k2 = k3_up k1 412 0 x1.toNatClampNeg ((k1 412 0 x1.toNatClampNeg) + (1 : Int32)) → (post k2))))))
def q_X4_put (cf : Nat → Nat) (post : ka_T → Prop) (x1 : Int32) (k0 : ka_T) : Prop := vp_in (k0 425 0 0) 8 ∧ ((¬ (k0 412 0 (k0 425 0 0).toNatClampNeg) = (nI (cf 1)) → ((¬ (k0 426 0 0) = 0 → (post k0)) ∧ ((k0 426 0 0) = 0 → (q_X4_give cf (fun k3 => post k3) (k0 425 0 0) x1 k0)))) ∧ ((k0 412 0 (k0 425 0 0).toNatClampNeg) = (nI (cf 1)) → (q_X4_fall cf (fun k4 => (¬ (k4 426 0 0) = 0 → (post k4)) ∧ ((k4 426 0 0) = 0 → (q_X4_give cf (fun k6 => post k6) (k4 425 0 0) x1 k4))) (1 : Int32) k0)))
def q_X4_arithmetic_24 (cf : Nat → Nat) (post : ka_T → Prop) (x1 : Int32) (x2 : Int32) (x3 : Int32) (k0 : ka_T) : Prop := (¬ (k0 426 0 0) = 0 → (post k0)) ∧ ((k0 426 0 0) = 0 → ((¬ x1 = (2 : Int32) → ((¬ x1 = (3 : Int32) → ((¬ x1 = (4 : Int32) → ((¬ x2 = 0) ∧ (q_X4_put cf (fun k5 => post k5) (x3 / x2) k0))) ∧ (x1 = (4 : Int32) → (q_X4_put cf (fun k6 => post k6) (x3 * x2) k0)))) ∧ (x1 = (3 : Int32) → (q_X4_put cf (fun k7 => post k7) (x3 - x2) k0)))) ∧ (x1 = (2 : Int32) → (q_X4_put cf (fun k8 => post k8) (x3 + x2) k0))))
def q_X4_arithmetic (cf : Nat → Nat) (post : ka_T → Prop) (x1 : Int32) (k0 : ka_T) : Prop := q_X4_take cf (fun r9 k9 => q_X4_take cf (fun r10 k10 => (¬ x1 = (5 : Int32) → (q_X4_arithmetic_24 cf post x1 r9 r10 k10)) ∧ (x1 = (5 : Int32) → ((¬ r9 = 0 → (q_X4_arithmetic_24 cf post x1 r9 r10 k10)) ∧ (r9 = 0 → (q_X4_fall cf (fun k13 => q_X4_arithmetic_24 cf post x1 r9 r10 k13) (3 : Int32) k10)))))  k9)  k0
def q_X4_freeTask_2 (cf : Nat → Nat) (post : Int32 → ka_T → Prop) : Nat → Int32 → ka_T → Prop
  | 0, _, _ => False
  | nf + 1, x1, k0 => ((nI (cf 0)) ≤ x1 → (post (-1 : Int32) k0)) ∧ (¬ (nI (cf 0)) ≤ x1 → (vp_in x1 8 ∧ ((¬ (k0 409 0 x1.toNatClampNeg) = 0 → (q_X4_freeTask_2 cf post nf (x1 + 1) k0)) ∧ ((k0 409 0 x1.toNatClampNeg) = 0 → (post x1 k0)))))
def q_X4_freeTask (cf : Nat → Nat) (post : Int32 → ka_T → Prop) (k0 : ka_T) : Prop := ∃ mf : Nat, q_X4_freeTask_2 cf post mf (0 : Int32) k0
def q_X4_set (cf : Nat → Nat) (post : ka_T → Prop) (x1 : Int32) (x2 : Int32) (k0 : ka_T) : Prop := vp_in x1 8 ∧ (∀ k1 : ka_T, k1 = k3_up k0 409 0 x1.toNatClampNeg x2 → (vp_in x1 8 ∧ (∀ k2 : ka_T, k2 = k3_up k1 419 0 x1.toNatClampNeg (k1 408 0 0) → (∀ k3 : ka_T, k3 = k3_up k2 408 0 0 ((k2 408 0 0) + (1 : Int32)) → (post k3)))))
def q_X4_begin (cf : Nat → Nat) (post : Int32 → ka_T → Prop) (x1 : Int32) (x2 : Int32) (k0 : ka_T) : Prop := q_X4_freeTask cf (fun r1 k1 => (r1 < 0 → (post r1 k1)) ∧ (¬ r1 < 0 → (vp_in r1 8 ∧ (∀ k3 : ka_T, k3 = k3_up k1 411 0 r1.toNatClampNeg x1 → (vp_in r1 8 ∧ (∀ k4 : ka_T, k4 = k3_up k3 410 0 r1.toNatClampNeg x2 → (vp_in r1 8 ∧ (∀ k5 : ka_T, k5 = k3_up k4 412 0 r1.toNatClampNeg (0 : Int32) → (vp_in r1 8 ∧ (∀ k6 : ka_T, k6 = k3_up k5 414 0 r1.toNatClampNeg (0 : Int32) → (q_X4_set cf (fun k7 => post r1 k7) r1 (1 : Int32) k6)))))))))))  k0
def q_X4_clock (cf : Nat → Nat) (post : Int32 → ka_T → Prop) (k0 : ka_T) : Prop := post (k0 407 0 0) k0
def q_X4_emitted (cf : Nat → Nat) (post : Int32 → ka_T → Prop) (k0 : ka_T) : Prop := post (k0 423 0 0) k0
def q_X4_end (cf : Nat → Nat) (post : ka_T → Prop) (x1 : Int32) (x2 : Int32) (k0 : ka_T) : Prop := vp_in x1 8 ∧ (∀ k1 : ka_T, k1 = k3_up k0 409 0 x1.toNatClampNeg (0 : Int32) → (vp_in x1 8 ∧ (∀ k2 : ka_T, k2 = k3_up k1 420 0 x1.toNatClampNeg x2 → (post k2))))
def q_X4_inState_75 (cf : Nat → Nat) (kh_18 : Int32 → Int32 → Int32 → Int32 → Int32 → Int32 → ka_T → Prop) (post : Int32 → ka_T → Prop) (x1 : Int32) (x2 : Int32) (x3 : Int32) (x4 : Int32) (x5 : Int32) (x6 : Int32) (y0 : Int32) (k0 : ka_T) : Prop := (y0 = 0 → (kh_18 x1 x2 x3 x4 x5 (x6 + 1) k0)) ∧ (¬ y0 = 0 → (kh_18 x1 x2 x3 x4 (x5 + (1 : Int32)) (x6 + 1) k0))
def q_X4_inState_53 (cf : Nat → Nat) (kh_18 : Int32 → Int32 → Int32 → Int32 → Int32 → Int32 → ka_T → Prop) (post : Int32 → ka_T → Prop) (x1 : Int32) (x2 : Int32) (x3 : Int32) (x4 : Int32) (x5 : Int32) (x6 : Int32) (k0 : ka_T) : Prop := vp_in x6 8 ∧ (vp_in x4 8 ∧ (((k0 419 0 x4.toNatClampNeg) ≤ (k0 419 0 x6.toNatClampNeg) → (q_X4_inState_75 cf kh_18 post x1 x2 x3 x4 x5 x6 (0 : Int32) k0)) ∧ (¬ (k0 419 0 x4.toNatClampNeg) ≤ (k0 419 0 x6.toNatClampNeg) → (q_X4_inState_75 cf kh_18 post x1 x2 x3 x4 x5 x6 (1 : Int32) k0))))
def q_X4_inState_18 (cf : Nat → Nat) (kh_3 : Int32 → Int32 → Int32 → Int32 → ka_T → Prop) (post : Int32 → ka_T → Prop) : Nat → Int32 → Int32 → Int32 → Int32 → Int32 → Int32 → ka_T → Prop
  | 0, _, _, _, _, _, _, _ => False
  | nf + 1, x1, x2, x3, x4, x5, x6, k0 => ((nI (cf 0)) ≤ x6 → (vp_in x4 8 ∧ ((¬ (k0 409 0 x4.toNatClampNeg) = x1 → (kh_3 x1 x2 x3 (x4 + 1) k0)) ∧ ((k0 409 0 x4.toNatClampNeg) = x1 → ((x2 < 0 → ((¬ x5 = x3 → (kh_3 x1 x2 x3 (x4 + 1) k0)) ∧ (x5 = x3 → (post x4 k0)))) ∧ (¬ x2 < 0 → (vp_in x4 8 ∧ ((¬ (k0 417 0 x4.toNatClampNeg) = x2 → (kh_3 x1 x2 x3 (x4 + 1) k0)) ∧ ((k0 417 0 x4.toNatClampNeg) = x2 → ((¬ x5 = x3 → (kh_3 x1 x2 x3 (x4 + 1) k0)) ∧ (x5 = x3 → (post x4 k0)))))))))))) ∧ (¬ (nI (cf 0)) ≤ x6 → (vp_in x6 8 ∧ ((¬ (k0 409 0 x6.toNatClampNeg) = x1 → (q_X4_inState_75 cf (q_X4_inState_18 cf kh_3 post nf) post x1 x2 x3 x4 x5 x6 (0 : Int32) k0)) ∧ ((k0 409 0 x6.toNatClampNeg) = x1 → ((x2 < 0 → (q_X4_inState_53 cf (q_X4_inState_18 cf kh_3 post nf) post x1 x2 x3 x4 x5 x6 k0)) ∧ (¬ x2 < 0 → (vp_in x6 8 ∧ ((¬ (k0 417 0 x6.toNatClampNeg) = x2 → (q_X4_inState_75 cf (q_X4_inState_18 cf kh_3 post nf) post x1 x2 x3 x4 x5 x6 (0 : Int32) k0)) ∧ ((k0 417 0 x6.toNatClampNeg) = x2 → (q_X4_inState_53 cf (q_X4_inState_18 cf kh_3 post nf) post x1 x2 x3 x4 x5 x6 k0))))))))))
def q_X4_inState_3 (cf : Nat → Nat) (post : Int32 → ka_T → Prop) : Nat → Int32 → Int32 → Int32 → Int32 → ka_T → Prop
  | 0, _, _, _, _, _ => False
  | nf + 1, x1, x2, x3, x4, k0 => ((nI (cf 0)) ≤ x4 → (post (-1 : Int32) k0)) ∧ (¬ (nI (cf 0)) ≤ x4 → (∃ mf : Nat, q_X4_inState_18 cf (q_X4_inState_3 cf post nf) post mf x1 x2 x3 x4 (0 : Int32) (0 : Int32) k0))
def q_X4_inState (cf : Nat → Nat) (post : Int32 → ka_T → Prop) (x1 : Int32) (x2 : Int32) (x3 : Int32) (k0 : ka_T) : Prop := ∃ mf : Nat, q_X4_inState_3 cf post mf x1 x2 x3 (0 : Int32) k0
def q_X4_isLive (cf : Nat → Nat) (post : Int32 → ka_T → Prop) (x1 : Int32) (k0 : ka_T) : Prop := (x1 < 0 → (post (0 : Int32) k0)) ∧ (¬ x1 < 0 → (((nI (cf 0)) ≤ x1 → (post (0 : Int32) k0)) ∧ (¬ (nI (cf 0)) ≤ x1 → (vp_in x1 8 ∧ (((k0 409 0 x1.toNatClampNeg) ≤ 0 → (post (0 : Int32) k0)) ∧ (¬ (k0 409 0 x1.toNatClampNeg) ≤ 0 → (post (1 : Int32) k0)))))))
def q_X4_isPlace (cf : Nat → Nat) (post : Int32 → ka_T → Prop) (x0 : Int32) (k0 : ka_T) : Prop := (x0 < 0 → (post (0 : Int32) k0)) ∧ (¬ x0 < 0 → (((63 : Int32) < x0 → (post (0 : Int32) k0)) ∧ (¬ (63 : Int32) < x0 → (post (1 : Int32) k0))))
def q_X4_jump (cf : Nat → Nat) (post : ka_T → Prop) (x1 : Int32) (k0 : ka_T) : Prop := q_X4_isPlace cf (fun r1 k1 => (¬ r1 = 0 → (vp_in (k1 425 0 0) 8 ∧ (∀ k3 : ka_T, k3 = k3_up k1 411 0 (k1 425 0 0).toNatClampNeg x1 → (post k3)))) ∧ (r1 = 0 → (q_X4_fall cf (fun k4 => post k4) (2 : Int32) k1))) x1 k0
def q_X4_jumpOp (cf : Nat → Nat) (post : ka_T → Prop) (x1 : Int32) (x2 : Int32) (k0 : ka_T) : Prop := (¬ x1 = (11 : Int32) → ((¬ x1 = (12 : Int32) → ((¬ x1 = (13 : Int32) → (vp_in (k0 425 0 0) 8 ∧ ((¬ (k0 414 0 (k0 425 0 0).toNatClampNeg) = 0 → (vp_in (k0 425 0 0) 8 ∧ (vp_in (k0 425 0 0) 8 ∧ (∀ k5 : ka_T, k5 = k3_up k0 414 0 (k0 425 0 0).toNatClampNeg ((k0 414 0 (k0 425 0 0).toNatClampNeg) - (1 : Int32)) → (vp_in (k5 425 0 0) 8 ∧ (vp_in (((4 : Int32) * (k5 425 0 0)) + (k5 414 0 (k5 425 0 0).toNatClampNeg)) 32 ∧ (vp_in (k5 425 0 0) 8 ∧ (∀ k6 : ka_T, k6 = k3_up k5 411 0 (k5 425 0 0).toNatClampNeg (k5 415 ((((4 : Int32) * (k5 425 0 0)) + (k5 414 0 (k5 425 0 0).toNatClampNeg)).toNatClampNeg / 4) ((((4 : Int32) * (k5 425 0 0)) + (k5 414 0 (k5 425 0 0).toNatClampNeg)).toNatClampNeg % 4)) → (post k6))))))))) ∧ ((k0 414 0 (k0 425 0 0).toNatClampNeg) = 0 → (q_X4_fall cf (fun k7 => post k7) (5 : Int32) k0))))) ∧ (x1 = (13 : Int32) → (vp_in (k0 425 0 0) 8 ∧ (q_X4_isPlace cf (fun r8 k8 => (¬ r8 = 0 → (vp_in (k8 425 0 0) 8 ∧ ((¬ (k8 414 0 (k8 425 0 0).toNatClampNeg) = (4 : Int32) → (vp_in (k8 425 0 0) 8 ∧ (vp_in (((4 : Int32) * (k8 425 0 0)) + (k8 414 0 (k8 425 0 0).toNatClampNeg)) 32 ∧ (∀ k11 : ka_T, k11 = k3_up k8 415 ((((4 : Int32) * (k8 425 0 0)) + (k8 414 0 (k8 425 0 0).toNatClampNeg)).toNatClampNeg / 4) ((((4 : Int32) * (k8 425 0 0)) + (k8 414 0 (k8 425 0 0).toNatClampNeg)).toNatClampNeg % 4) (k0 411 0 (k0 425 0 0).toNatClampNeg) → (vp_in (k11 425 0 0) 8 ∧ (vp_in (k11 425 0 0) 8 ∧ (∀ k12 : ka_T, k12 = k3_up k11 414 0 (k11 425 0 0).toNatClampNeg ((k11 414 0 (k11 425 0 0).toNatClampNeg) + (1 : Int32)) → (vp_in (k12 425 0 0) 8 ∧ (∀ k13 : ka_T, k13 = k3_up k12 411 0 (k12 425 0 0).toNatClampNeg x2 → (post k13)))))))))) ∧ ((k8 414 0 (k8 425 0 0).toNatClampNeg) = (4 : Int32) → (q_X4_fall cf (fun k14 => post k14) (5 : Int32) k8))))) ∧ (r8 = 0 → (q_X4_fall cf (fun k15 => post k15) (2 : Int32) k8))) x2 k0))))) ∧ (x1 = (12 : Int32) → (q_X4_take cf (fun r16 k16 => (¬ (k16 426 0 0) = 0 → (post k16)) ∧ ((k16 426 0 0) = 0 → ((¬ r16 = 0 → (post k16)) ∧ (r16 = 0 → (q_X4_jump cf (fun k19 => post k19) x2 k16)))))  k0)))) ∧ (x1 = (11 : Int32) → (q_X4_jump cf (fun k20 => post k20) x2 k0))
def q_X4_kill (cf : Nat → Nat) (post : Int32 → ka_T → Prop) (x1 : Int32) (k0 : ka_T) : Prop := q_X4_isLive cf (fun r1 k1 => (¬ r1 = 0 → (q_X4_end cf (fun k3 => post (1 : Int32) k3) x1 (2 : Int32) k1)) ∧ (r1 = 0 → (post (0 : Int32) k1))) x1 k0
def q_X4_memory (cf : Nat → Nat) (post : Int32 → ka_T → Prop) (x1 : Int32) (k0 : ka_T) : Prop := (x1 < 0 → (post (-2147483648 : Int32) k0)) ∧ (¬ x1 < 0 → ((x1 ≤ (15 : Int32) → (vp_in x1 16 ∧ (post (k0 405 0 x1.toNatClampNeg) k0))) ∧ (¬ x1 ≤ (15 : Int32) → (post (-2147483648 : Int32) k0))))
def q_X4_memoryOp_46 (cf : Nat → Nat) (post : ka_T → Prop) (x2 : Int32) (k0 : ka_T) : Prop := (¬ (k0 426 0 0) = 0 → (post k0)) ∧ ((k0 426 0 0) = 0 → (q_X4_take cf (fun r2 k2 => (¬ (k2 426 0 0) = 0 → (vp_in x2 16 ∧ (vp_in x2 16 ∧ (∀ k4 : ka_T, k4 = k3_up k2 405 0 x2.toNatClampNeg (k2 405 0 x2.toNatClampNeg) → (post k4))))) ∧ ((k2 426 0 0) = 0 → (vp_in x2 16 ∧ (∀ k5 : ka_T, k5 = k3_up k2 405 0 x2.toNatClampNeg r2 → (post k5)))))  k0))
def q_X4_memoryOp_20 (cf : Nat → Nat) (post : ka_T → Prop) (x1 : Int32) (x2 : Int32) (k0 : ka_T) : Prop := (¬ (k0 426 0 0) = 0 → (q_X4_memoryOp_46 cf post x2 k0)) ∧ ((k0 426 0 0) = 0 → ((¬ x1 = (9 : Int32) → (q_X4_memoryOp_46 cf post x2 k0)) ∧ (x1 = (9 : Int32) → (vp_in x2 16 ∧ (q_X4_put cf (fun k8 => post k8) (k0 405 0 x2.toNatClampNeg) k0)))))
def q_X4_memoryOp (cf : Nat → Nat) (post : ka_T → Prop) (x1 : Int32) (k0 : ka_T) : Prop := q_X4_take cf (fun r9 k9 => (r9 < 0 → (q_X4_fall cf (fun k11 => q_X4_memoryOp_20 cf post x1 r9 k11) (2 : Int32) k9)) ∧ (¬ r9 < 0 → ((r9 ≤ (15 : Int32) → (q_X4_memoryOp_20 cf post x1 r9 k9)) ∧ (¬ r9 ≤ (15 : Int32) → (q_X4_fall cf (fun k13 => q_X4_memoryOp_20 cf post x1 r9 k13) (2 : Int32) k9)))))  k0
def q_X4_next_76 (cf : Nat → Nat) (kh_4 : Int32 → Int32 → ka_T → Prop) (post : Int32 → ka_T → Prop) (x1 : Int32) (x2 : Int32) (y0 : Int32) (k0 : ka_T) : Prop := (y0 = 0 → (kh_4 x1 (x2 + 1) k0)) ∧ (¬ y0 = 0 → (kh_4 x2 (x2 + 1) k0))
def q_X4_next_4 (cf : Nat → Nat) (post : Int32 → ka_T → Prop) : Nat → Int32 → Int32 → ka_T → Prop
  | 0, _, _, _ => False
  | nf + 1, x1, x2, k0 => ((nI (cf 0)) ≤ x2 → (post x1 k0)) ∧ (¬ (nI (cf 0)) ≤ x2 → (vp_in x2 8 ∧ ((¬ (k0 409 0 x2.toNatClampNeg) = (1 : Int32) → (q_X4_next_76 cf (q_X4_next_4 cf post nf) post x1 x2 (0 : Int32) k0)) ∧ ((k0 409 0 x2.toNatClampNeg) = (1 : Int32) → ((x1 < 0 → (q_X4_next_76 cf (q_X4_next_4 cf post nf) post x1 x2 (1 : Int32) k0)) ∧ (¬ x1 < 0 → (vp_in x2 8 ∧ (vp_in x1 8 ∧ (((k0 410 0 x1.toNatClampNeg) < (k0 410 0 x2.toNatClampNeg) → (q_X4_next_76 cf (q_X4_next_4 cf post nf) post x1 x2 (1 : Int32) k0)) ∧ (¬ (k0 410 0 x1.toNatClampNeg) < (k0 410 0 x2.toNatClampNeg) → (vp_in x2 8 ∧ (vp_in x1 8 ∧ ((¬ (k0 410 0 x2.toNatClampNeg) = (k0 410 0 x1.toNatClampNeg) → (q_X4_next_76 cf (q_X4_next_4 cf post nf) post x1 x2 (0 : Int32) k0)) ∧ ((k0 410 0 x2.toNatClampNeg) = (k0 410 0 x1.toNatClampNeg) → (vp_in x2 8 ∧ (vp_in x1 8 ∧ (((k0 419 0 x1.toNatClampNeg) ≤ (k0 419 0 x2.toNatClampNeg) → (q_X4_next_76 cf (q_X4_next_4 cf post nf) post x1 x2 (0 : Int32) k0)) ∧ (¬ (k0 419 0 x1.toNatClampNeg) ≤ (k0 419 0 x2.toNatClampNeg) → (q_X4_next_76 cf (q_X4_next_4 cf post nf) post x1 x2 (1 : Int32) k0)))))))))))))))))))
def q_X4_next (cf : Nat → Nat) (post : Int32 → ka_T → Prop) (k0 : ka_T) : Prop := ∃ mf : Nat, q_X4_next_4 cf post mf (-1 : Int32) (0 : Int32) k0
def q_X4_noQueue (cf : Nat → Nat) (post : Int32 → ka_T → Prop) (x1 : Int32) (k0 : ka_T) : Prop := (x1 < 0 → (q_X4_fall cf (fun k2 => ((k2 426 0 0) ≤ 0 → (post (0 : Int32) k2)) ∧ (¬ (k2 426 0 0) ≤ 0 → (post (1 : Int32) k2))) (6 : Int32) k0)) ∧ (¬ x1 < 0 → ((x1 < (nI (cf 2)) → (((k0 426 0 0) ≤ 0 → (post (0 : Int32) k0)) ∧ (¬ (k0 426 0 0) ≤ 0 → (post (1 : Int32) k0)))) ∧ (¬ x1 < (nI (cf 2)) → (q_X4_fall cf (fun k6 => ((k6 426 0 0) ≤ 0 → (post (0 : Int32) k6)) ∧ (¬ (k6 426 0 0) ≤ 0 → (post (1 : Int32) k6))) (6 : Int32) k0))))
def q_X4_out (cf : Nat → Nat) (post : Int32 → ka_T → Prop) (x1 : Int32) (k0 : ka_T) : Prop := (x1 < 0 → (post (-2147483648 : Int32) k0)) ∧ (¬ x1 < 0 → (((31 : Int32) < x1 → (post (-2147483648 : Int32) k0)) ∧ (¬ (31 : Int32) < x1 → ((x1 < (k0 423 0 0) → (vp_in ((((k0 423 0 0) - (1 : Int32)) - x1) - (((k0 423 0 0) - (1 : Int32)) - x1) / (32 : Int32) * (32 : Int32)) 32 ∧ (post (k0 424 0 ((((k0 423 0 0) - (1 : Int32)) - x1) - (((k0 423 0 0) - (1 : Int32)) - x1) / (32 : Int32) * (32 : Int32)).toNatClampNeg) k0))) ∧ (¬ x1 < (k0 423 0 0) → (post (-2147483648 : Int32) k0))))))
def q_X4_send (cf : Nat → Nat) (post : ka_T → Prop) (x1 : Int32) (k0 : ka_T) : Prop := q_X4_noQueue cf (fun r1 k1 => (r1 = 0 → (q_X4_take cf (fun r3 k3 => ((k3 426 0 0) ≤ 0 → (q_X4_inState cf (fun r5 k5 => (r5 < 0 → (vp_in x1 4 ∧ (((nI (cf 3)) ≤ (k5 421 0 x1.toNatClampNeg) → (vp_in (k5 425 0 0) 8 ∧ (∀ k8 : ka_T, k8 = k3_up k5 418 0 (k5 425 0 0).toNatClampNeg r3 → (vp_in (k8 425 0 0) 8 ∧ (∀ k9 : ka_T, k9 = k3_up k8 417 0 (k8 425 0 0).toNatClampNeg x1 → (q_X4_set cf (fun k10 => post k10) (k9 425 0 0) (3 : Int32) k9)))))) ∧ (¬ (nI (cf 3)) ≤ (k5 421 0 x1.toNatClampNeg) → (q_X4_append cf (fun k11 => post k11) x1 r3 k5))))) ∧ (¬ r5 < 0 → (q_X4_give cf (fun k12 => q_X4_set cf (fun k13 => post k13) r5 (1 : Int32) k12) r5 r3 k5))) (4 : Int32) x1 (0 : Int32) k3)) ∧ (¬ (k3 426 0 0) ≤ 0 → (post k3)))  k1)) ∧ (¬ r1 = 0 → (post k1))) x1 k0
def q_X4_receive_67 (cf : Nat → Nat) (post : ka_T → Prop) : Nat → Int32 → Int32 → ka_T → Prop
  | 0, _, _, _ => False
  | nf + 1, x1, x2, k0 => vp_in x1 4 ∧ (((k0 421 0 x1.toNatClampNeg) ≤ x2 → (q_X4_inState cf (fun r2 k2 => (r2 < 0 → (post k2)) ∧ (¬ r2 < 0 → (vp_in r2 8 ∧ (q_X4_append cf (fun k4 => q_X4_set cf (fun k5 => post k5) r2 (1 : Int32) k4) x1 (k2 418 0 r2.toNatClampNeg) k2)))) (3 : Int32) x1 (0 : Int32) k0)) ∧ (¬ (k0 421 0 x1.toNatClampNeg) ≤ x2 → (vp_in ((((6 : Int32) * x1) + x2) + (1 : Int32)) 24 ∧ (vp_in (((6 : Int32) * x1) + x2) 24 ∧ (∀ k6 : ka_T, k6 = k3_up k0 422 ((((6 : Int32) * x1) + x2).toNatClampNeg / 6) ((((6 : Int32) * x1) + x2).toNatClampNeg % 6) (k0 422 (((((6 : Int32) * x1) + x2) + (1 : Int32)).toNatClampNeg / 6) (((((6 : Int32) * x1) + x2) + (1 : Int32)).toNatClampNeg % 6)) → (q_X4_receive_67 cf post nf x1 (x2 + 1) k6))))))
def q_X4_receive (cf : Nat → Nat) (post : ka_T → Prop) (x1 : Int32) (k0 : ka_T) : Prop := q_X4_noQueue cf (fun r7 k7 => (r7 = 0 → (vp_in (k7 425 0 0) 8 ∧ ((¬ (k7 412 0 (k7 425 0 0).toNatClampNeg) = (nI (cf 1)) → (vp_in x1 4 ∧ (((k7 421 0 x1.toNatClampNeg) ≤ 0 → (vp_in (k7 425 0 0) 8 ∧ (∀ k11 : ka_T, k11 = k3_up k7 417 0 (k7 425 0 0).toNatClampNeg x1 → (q_X4_set cf (fun k12 => post k12) (k11 425 0 0) (4 : Int32) k11)))) ∧ (¬ (k7 421 0 x1.toNatClampNeg) ≤ 0 → (vp_in ((6 : Int32) * x1) 24 ∧ (q_X4_put cf (fun k13 => vp_in x1 4 ∧ (vp_in x1 4 ∧ (∀ k14 : ka_T, k14 = k3_up k13 421 0 x1.toNatClampNeg ((k13 421 0 x1.toNatClampNeg) - (1 : Int32)) → (∃ mf : Nat, q_X4_receive_67 cf post mf x1 (0 : Int32) k14)))) (k7 422 (((6 : Int32) * x1).toNatClampNeg / 6) (((6 : Int32) * x1).toNatClampNeg % 6)) k7)))))) ∧ ((k7 412 0 (k7 425 0 0).toNatClampNeg) = (nI (cf 1)) → (q_X4_fall cf (fun k15 => post k15) (1 : Int32) k7))))) ∧ (¬ r7 = 0 → (post k7))) x1 k0
def q_X4_stackOp_46 (cf : Nat → Nat) (post : ka_T → Prop) (x1 : Int32) (x2 : Int32) (x3 : Int32) (y0 : Int32) (k0 : ka_T) : Prop := (x1 = (1 : Int32) → (q_X4_put cf (fun k2 => post k2) x2 k0)) ∧ (x1 = (6 : Int32) → (q_X4_put cf (fun k3 => q_X4_put cf (fun k4 => post k4) x3 k3) x3 k0)) ∧ (x1 = (8 : Int32) → (q_X4_put cf (fun k5 => q_X4_put cf (fun k6 => post k6) y0 k5) x3 k0)) ∧ (x1 = (19 : Int32) → ((x3 ≤ y0 → (q_X4_put cf (fun k8 => post k8) (0 : Int32) k0)) ∧ (¬ x3 ≤ y0 → (q_X4_put cf (fun k9 => post k9) (1 : Int32) k0)))) ∧ (x1 = (23 : Int32) → (q_X4_put cf (fun k10 => post k10) (k0 425 0 0) k0)) ∧ (x1 = (24 : Int32) → (q_X4_put cf (fun k11 => post k11) (k0 407 0 0) k0)) ∧ (¬ x1 = (1 : Int32) → ¬ x1 = (6 : Int32) → ¬ x1 = (8 : Int32) → ¬ x1 = (19 : Int32) → ¬ x1 = (23 : Int32) → ¬ x1 = (24 : Int32) → (post k0))
def q_X4_stackOp_25 (cf : Nat → Nat) (post : ka_T → Prop) (x1 : Int32) (x2 : Int32) (y0 : Int32) (k0 : ka_T) : Prop := (x1 = (8 : Int32) → (q_X4_take cf (fun r13 k13 => q_X4_stackOp_46 cf post x1 x2 y0 r13 k13)  k0)) ∧ (¬ x1 = (8 : Int32) → ((¬ x1 = (19 : Int32) → (q_X4_stackOp_46 cf post x1 x2 y0 (0 : Int32) k0)) ∧ (x1 = (19 : Int32) → (q_X4_take cf (fun r15 k15 => q_X4_stackOp_46 cf post x1 x2 y0 r15 k15)  k0))))
def q_X4_stackOp (cf : Nat → Nat) (post : ka_T → Prop) (x1 : Int32) (x2 : Int32) (k0 : ka_T) : Prop := (x1 = (1 : Int32) → (q_X4_stackOp_25 cf post x1 x2 (0 : Int32) k0)) ∧ (¬ x1 = (1 : Int32) → ((x1 = (23 : Int32) → (q_X4_stackOp_25 cf post x1 x2 (0 : Int32) k0)) ∧ (¬ x1 = (23 : Int32) → ((¬ x1 = (24 : Int32) → (q_X4_take cf (fun r19 k19 => q_X4_stackOp_25 cf post x1 x2 r19 k19)  k0)) ∧ (x1 = (24 : Int32) → (q_X4_stackOp_25 cf post x1 x2 (0 : Int32) k0))))))
def q_X4_taskOp_220 (cf : Nat → Nat) (post : ka_T → Prop) (x4 : Int32) (k0 : ka_T) : Prop := vp_in (k0 425 0 0) 8 ∧ (((k0 409 0 (k0 425 0 0).toNatClampNeg) ≤ 0 → (post k0)) ∧ (¬ (k0 409 0 (k0 425 0 0).toNatClampNeg) ≤ 0 → ((x4 = 0 → (q_X4_put cf (fun k3 => post k3) (0 : Int32) k0)) ∧ (¬ x4 = 0 → (q_X4_put cf (fun k4 => post k4) (1 : Int32) k0)))))
def q_X4_taskOp_38 (cf : Nat → Nat) (post : ka_T → Prop) (x1 : Int32) (x2 : Int32) (y0 : Int32) (k0 : ka_T) : Prop := ((k0 426 0 0) ≤ 0 → ((x1 = (15 : Int32) → (vp_in ((k0 423 0 0) - (k0 423 0 0) / (32 : Int32) * (32 : Int32)) 32 ∧ (∀ k7 : ka_T, k7 = k3_up k0 424 0 ((k0 423 0 0) - (k0 423 0 0) / (32 : Int32) * (32 : Int32)).toNatClampNeg y0 → (∀ k8 : ka_T, k8 = k3_up k7 423 0 0 ((k7 423 0 0) + (1 : Int32)) → (post k8))))) ∧ (x1 = (16 : Int32) → (q_X4_set cf (fun k9 => post k9) (k0 425 0 0) (1 : Int32) k0)) ∧ (x1 = (17 : Int32) → (vp_in (k0 425 0 0) 8 ∧ (∀ k10 : ka_T, k10 = k3_up k0 410 0 (k0 425 0 0).toNatClampNeg (x2 &&& (7 : Int32)) → (post k10)))) ∧ (x1 = (18 : Int32) → (q_X4_begin cf (fun r11 k11 => q_X4_put cf (fun k12 => post k12) r11 k11) x2 (y0 &&& (7 : Int32)) k0)) ∧ (x1 = (20 : Int32) → ((y0 ≤ 0 → (post k0)) ∧ (¬ y0 ≤ 0 → (((1000 : Int32) ≤ y0 → (vp_in (k0 425 0 0) 8 ∧ (∀ k15 : ka_T, k15 = k3_up k0 416 0 (k0 425 0 0).toNatClampNeg ((k0 407 0 0) + (1000 : Int32)) → (q_X4_set cf (fun k16 => post k16) (k15 425 0 0) (2 : Int32) k15)))) ∧ (¬ (1000 : Int32) ≤ y0 → (vp_in (k0 425 0 0) 8 ∧ (∀ k17 : ka_T, k17 = k3_up k0 416 0 (k0 425 0 0).toNatClampNeg ((k0 407 0 0) + y0) → (q_X4_set cf (fun k18 => post k18) (k17 425 0 0) (2 : Int32) k17)))))))) ∧ (¬ x1 = (15 : Int32) → ¬ x1 = (16 : Int32) → ¬ x1 = (17 : Int32) → ¬ x1 = (18 : Int32) → ¬ x1 = (20 : Int32) → (q_X4_isLive cf (fun r19 k19 => (r19 = 0 → (q_X4_taskOp_220 cf post r19 k19)) ∧ (¬ r19 = 0 → (q_X4_end cf (fun k21 => q_X4_taskOp_220 cf post r19 k21) y0 (2 : Int32) k19))) y0 k0)))) ∧ (¬ (k0 426 0 0) ≤ 0 → (post k0))
def q_X4_taskOp_18 (cf : Nat → Nat) (post : ka_T → Prop) (x1 : Int32) (x2 : Int32) (k0 : ka_T) : Prop := (x1 = (16 : Int32) → (q_X4_taskOp_38 cf post x1 x2 (0 : Int32) k0)) ∧ (¬ x1 = (16 : Int32) → ((¬ x1 = (17 : Int32) → (q_X4_take cf (fun r24 k24 => q_X4_taskOp_38 cf post x1 x2 r24 k24)  k0)) ∧ (x1 = (17 : Int32) → (q_X4_taskOp_38 cf post x1 x2 (0 : Int32) k0))))
def q_X4_taskOp (cf : Nat → Nat) (post : ka_T → Prop) (x1 : Int32) (x2 : Int32) (k0 : ka_T) : Prop := (¬ x1 = (18 : Int32) → (q_X4_taskOp_18 cf post x1 x2 k0)) ∧ (x1 = (18 : Int32) → (q_X4_isPlace cf (fun r26 k26 => (¬ r26 = 0 → (q_X4_taskOp_18 cf post x1 x2 k26)) ∧ (r26 = 0 → (q_X4_fall cf (fun k28 => q_X4_taskOp_18 cf post x1 x2 k28) (2 : Int32) k26))) x2 k0))
def q_X4_perform_59 (cf : Nat → Nat) (post : ka_T → Prop) (x1 : Int32) (x2 : Int32) (k0 : ka_T) : Prop := (¬ x1 = (21 : Int32) → ((¬ x1 = (22 : Int32) → ((¬ x1 = 0 → ((x1 ≤ (25 : Int32) → ((x1 = (1 : Int32) → (q_X4_stackOp cf (fun k6 => post k6) x1 x2 k0)) ∧ (¬ x1 = (1 : Int32) → ((x1 = (6 : Int32) → (q_X4_stackOp cf (fun k8 => post k8) x1 x2 k0)) ∧ (¬ x1 = (6 : Int32) → ((x1 = (7 : Int32) → (q_X4_stackOp cf (fun k10 => post k10) x1 x2 k0)) ∧ (¬ x1 = (7 : Int32) → ((x1 = (8 : Int32) → (q_X4_stackOp cf (fun k12 => post k12) x1 x2 k0)) ∧ (¬ x1 = (8 : Int32) → ((x1 = (19 : Int32) → (q_X4_stackOp cf (fun k14 => post k14) x1 x2 k0)) ∧ (¬ x1 = (19 : Int32) → ((x1 = (23 : Int32) → (q_X4_stackOp cf (fun k16 => post k16) x1 x2 k0)) ∧ (¬ x1 = (23 : Int32) → ((¬ x1 = (24 : Int32) → (q_X4_taskOp cf (fun k18 => post k18) x1 x2 k0)) ∧ (x1 = (24 : Int32) → (q_X4_stackOp cf (fun k19 => post k19) x1 x2 k0)))))))))))))))) ∧ (¬ x1 ≤ (25 : Int32) → (q_X4_fall cf (fun k20 => post k20) (4 : Int32) k0)))) ∧ (x1 = 0 → (q_X4_end cf (fun k21 => post k21) (k0 425 0 0) (1 : Int32) k0)))) ∧ (x1 = (22 : Int32) → (q_X4_receive cf (fun k22 => post k22) x2 k0)))) ∧ (x1 = (21 : Int32) → (q_X4_send cf (fun k23 => post k23) x2 k0))
def q_X4_perform_18 (cf : Nat → Nat) (post : ka_T → Prop) (x1 : Int32) (x2 : Int32) (k0 : ka_T) : Prop := (x1 = (9 : Int32) → (q_X4_memoryOp cf (fun k25 => post k25) x1 k0)) ∧ (¬ x1 = (9 : Int32) → ((¬ x1 = (10 : Int32) → ((x1 < (11 : Int32) → (q_X4_perform_59 cf post x1 x2 k0)) ∧ (¬ x1 < (11 : Int32) → (((14 : Int32) < x1 → (q_X4_perform_59 cf post x1 x2 k0)) ∧ (¬ (14 : Int32) < x1 → (q_X4_jumpOp cf (fun k29 => post k29) x1 x2 k0)))))) ∧ (x1 = (10 : Int32) → (q_X4_memoryOp cf (fun k30 => post k30) x1 k0))))
def q_X4_perform (cf : Nat → Nat) (post : ka_T → Prop) (x1 : Int32) (x2 : Int32) (k0 : ka_T) : Prop := (x1 < (2 : Int32) → (q_X4_perform_18 cf post x1 x2 k0)) ∧ (¬ x1 < (2 : Int32) → (((5 : Int32) < x1 → (q_X4_perform_18 cf post x1 x2 k0)) ∧ (¬ (5 : Int32) < x1 → (q_X4_arithmetic cf (fun k33 => post k33) x1 k0))))
def q_X4_poke (cf : Nat → Nat) (post : Int32 → ka_T → Prop) (x1 : Int32) (x2 : Int32) (k0 : ka_T) : Prop := q_X4_isPlace cf (fun r1 k1 => (r1 = 0 → (post (0 : Int32) k1)) ∧ (¬ r1 = 0 → (((k1 406 0 0) = 0 → (vp_in x1 64 ∧ (∀ k4 : ka_T, k4 = k3_up k1 404 0 x1.toNatClampNeg x2 → (post (1 : Int32) k4)))) ∧ (¬ (k1 406 0 0) = 0 → (post (0 : Int32) k1))))) x1 k0
def q_X4_queue (cf : Nat → Nat) (post : Int32 → ka_T → Prop) (x1 : Int32) (k0 : ka_T) : Prop := (x1 < 0 → (post (-1 : Int32) k0)) ∧ (¬ x1 < 0 → ((x1 < (nI (cf 2)) → (vp_in x1 4 ∧ (post (k0 421 0 x1.toNatClampNeg) k0))) ∧ (¬ x1 < (nI (cf 2)) → (post (-1 : Int32) k0))))
def q_X4_queued (cf : Nat → Nat) (post : Int32 → ka_T → Prop) (x1 : Int32) (x2 : Int32) (k0 : ka_T) : Prop := (x1 < 0 → (post (-2147483648 : Int32) k0)) ∧ (¬ x1 < 0 → (((nI (cf 2)) ≤ x1 → (post (-2147483648 : Int32) k0)) ∧ (¬ (nI (cf 2)) ≤ x1 → ((x2 < 0 → (post (-2147483648 : Int32) k0)) ∧ (¬ x2 < 0 → (vp_in x1 4 ∧ ((x2 < (k0 421 0 x1.toNatClampNeg) → (vp_in (((6 : Int32) * x1) + x2) 24 ∧ (post (k0 422 ((((6 : Int32) * x1) + x2).toNatClampNeg / 6) ((((6 : Int32) * x1) + x2).toNatClampNeg % 6)) k0))) ∧ (¬ x2 < (k0 421 0 x1.toNatClampNeg) → (post (-2147483648 : Int32) k0)))))))))
def q_X4_step_79 (cf : Nat → Nat) (post : Int32 → ka_T → Prop) (k0 : ka_T) : Prop := ((k0 426 0 0) ≤ 0 → (vp_in (k0 425 0 0) 8 ∧ ((¬ (k0 409 0 (k0 425 0 0).toNatClampNeg) = (1 : Int32) → (vp_in (k0 425 0 0) 8 ∧ ((¬ (k0 409 0 (k0 425 0 0).toNatClampNeg) = 0 → (vp_in (k0 425 0 0) 8 ∧ (post (((16 : Int32) * (k0 425 0 0)) + (k0 409 0 (k0 425 0 0).toNatClampNeg)) k0))) ∧ ((k0 409 0 (k0 425 0 0).toNatClampNeg) = 0 → (post (((16 : Int32) * (k0 425 0 0)) + (1 : Int32)) k0))))) ∧ ((k0 409 0 (k0 425 0 0).toNatClampNeg) = (1 : Int32) → (post (((16 : Int32) * (k0 425 0 0)) + (0 : Int32)) k0))))) ∧ (¬ (k0 426 0 0) ≤ 0 → (q_X4_end cf (fun k4 => post ((((16 : Int32) * (k4 425 0 0)) + (8 : Int32)) + (k4 426 0 0)) k4) (k0 425 0 0) ((2 : Int32) + (k0 426 0 0)) k0))
def q_X4_step (cf : Nat → Nat) (post : Int32 → ka_T → Prop) (k0 : ka_T) : Prop := q_X4_next cf (fun r5 k5 => ∀ k6 : ka_T, k6 = k3_up k5 425 0 0 r5 → ((0 ≤ (k6 425 0 0) → (∀ k8 : ka_T, k8 = k3_up k6 426 0 0 (0 : Int32) → (vp_in (k8 425 0 0) 8 ∧ ((¬ (k8 411 0 (k8 425 0 0).toNatClampNeg) = (64 : Int32) → (vp_in (k8 425 0 0) 8 ∧ (∀ k10 : ka_T, k10 = k3_up k8 411 0 (k8 425 0 0).toNatClampNeg ((k8 411 0 (k8 425 0 0).toNatClampNeg) + (1 : Int32)) → (vp_in (k8 411 0 (k8 425 0 0).toNatClampNeg) 64 ∧ (vp_in (k8 411 0 (k8 425 0 0).toNatClampNeg) 64 ∧ (q_X4_perform cf (fun k11 => q_X4_step_79 cf post  k11) ((k10 404 0 (k8 411 0 (k8 425 0 0).toNatClampNeg).toNatClampNeg) &&& (31 : Int32)) ((k10 404 0 (k8 411 0 (k8 425 0 0).toNatClampNeg).toNatClampNeg) >>> ((5 : Int32) &&& 31)) k10)))))) ∧ ((k8 411 0 (k8 425 0 0).toNatClampNeg) = (64 : Int32) → (q_X4_fall cf (fun k12 => q_X4_step_79 cf post  k12) (2 : Int32) k8)))))) ∧ (¬ 0 ≤ (k6 425 0 0) → (post (-1 : Int32) k6))))  k0
def q_X4_run_44 (cf : Nat → Nat) (kh_17 : Int32 → Int32 → Int32 → ka_T → Prop) (post : Int32 → ka_T → Prop) (x1 : Int32) (x4 : Int32) (y0 : Int32) (k0 : ka_T) : Prop := (x4 < 0 → (kh_17 x1 y0 (0 : Int32) k0)) ∧ (¬ x4 < 0 → (((x4 &&& (15 : Int32)) = (1 : Int32) → (kh_17 x1 y0 (0 : Int32) k0)) ∧ (¬ (x4 &&& (15 : Int32)) = (1 : Int32) → (((8 : Int32) ≤ (x4 &&& (15 : Int32)) → (kh_17 x1 y0 (0 : Int32) k0)) ∧ (¬ (8 : Int32) ≤ (x4 &&& (15 : Int32)) → (kh_17 x1 y0 (1 : Int32) k0))))))
def q_X4_run_17 (cf : Nat → Nat) (post : Int32 → ka_T → Prop) : Nat → Int32 → Int32 → Int32 → ka_T → Prop
  | 0, _, _, _, _ => False
  | nf + 1, x1, x2, x3, k0 => (x1 ≤ x2 → (post x2 k0)) ∧ (¬ x1 ≤ x2 → ((x3 = 0 → (post x2 k0)) ∧ (¬ x3 = 0 → (q_X4_step cf (fun r6 k6 => (0 ≤ r6 → (q_X4_run_44 cf (q_X4_run_17 cf post nf) post x1 r6 (x2 + (1 : Int32)) k6)) ∧ (¬ 0 ≤ r6 → (q_X4_run_44 cf (q_X4_run_17 cf post nf) post x1 r6 x2 k6)))  k0))))
def q_X4_run (cf : Nat → Nat) (post : Int32 → ka_T → Prop) (x1 : Int32) (k0 : ka_T) : Prop := (x1 < (1 : Int32) → (post (-1 : Int32) k0)) ∧ (¬ x1 < (1 : Int32) → ((x1 ≤ (64 : Int32) → (∃ mf : Nat, q_X4_run_17 cf post mf x1 (0 : Int32) (1 : Int32) k0)) ∧ (¬ x1 ≤ (64 : Int32) → (post (-1 : Int32) k0))))
def q_X4_spawn (cf : Nat → Nat) (post : Int32 → ka_T → Prop) (x1 : Int32) (x2 : Int32) (k0 : ka_T) : Prop := q_X4_isPlace cf (fun r1 k1 => (r1 = 0 → (post (-2 : Int32) k1)) ∧ (¬ r1 = 0 → ((x2 < 0 → (post (-2 : Int32) k1)) ∧ (¬ x2 < 0 → ((x2 ≤ (7 : Int32) → (q_X4_begin cf (fun r5 k5 => (¬ (k5 406 0 0) = 0 → (∀ k7 : ka_T, k7 = k3_up k5 406 0 0 (1 : Int32) → (post r5 k7))) ∧ ((k5 406 0 0) = 0 → ((r5 < 0 → (∀ k9 : ka_T, k9 = k3_up k5 406 0 0 (0 : Int32) → (post r5 k9))) ∧ (¬ r5 < 0 → (∀ k10 : ka_T, k10 = k3_up k5 406 0 0 (1 : Int32) → (post r5 k10)))))) x1 x2 k1)) ∧ (¬ x2 ≤ (7 : Int32) → (post (-2 : Int32) k1))))))) x1 k0
def q_X4_stack (cf : Nat → Nat) (post : Int32 → ka_T → Prop) (x1 : Int32) (x2 : Int32) (k0 : ka_T) : Prop := q_X4_isLive cf (fun r1 k1 => (r1 = 0 → (post (-2147483648 : Int32) k1)) ∧ (¬ r1 = 0 → ((x2 < 0 → (post (-2147483648 : Int32) k1)) ∧ (¬ x2 < 0 → (vp_in x1 8 ∧ ((x2 < (k1 412 0 x1.toNatClampNeg) → (vp_in x1 8 ∧ (vp_in (((((16 : Int32) * x1) + (k1 412 0 x1.toNatClampNeg)) - (1 : Int32)) - x2) 128 ∧ (post (k1 413 ((((((16 : Int32) * x1) + (k1 412 0 x1.toNatClampNeg)) - (1 : Int32)) - x2).toNatClampNeg / 16) ((((((16 : Int32) * x1) + (k1 412 0 x1.toNatClampNeg)) - (1 : Int32)) - x2).toNatClampNeg % 16)) k1)))) ∧ (¬ x2 < (k1 412 0 x1.toNatClampNeg) → (post (-2147483648 : Int32) k1)))))))) x1 k0
def q_X4_state (cf : Nat → Nat) (post : Int32 → ka_T → Prop) (x1 : Int32) (k0 : ka_T) : Prop := (x1 < 0 → (post (-1 : Int32) k0)) ∧ (¬ x1 < 0 → ((x1 < (nI (cf 0)) → (vp_in x1 8 ∧ (post (k0 409 0 x1.toNatClampNeg) k0))) ∧ (¬ x1 < (nI (cf 0)) → (post (-1 : Int32) k0))))
def q_X4_task (cf : Nat → Nat) (post : Int32 → ka_T → Prop) (x1 : Int32) (x2 : Int32) (k0 : ka_T) : Prop := q_X4_isLive cf (fun r1 k1 => (¬ r1 = 0 → ((x2 = (0 : Int32) → (vp_in x1 8 ∧ (post (k1 411 0 x1.toNatClampNeg) k1))) ∧ (x2 = (1 : Int32) → (vp_in x1 8 ∧ (post (k1 410 0 x1.toNatClampNeg) k1))) ∧ (x2 = (2 : Int32) → (vp_in x1 8 ∧ (post (k1 412 0 x1.toNatClampNeg) k1))) ∧ (x2 = (3 : Int32) → (vp_in x1 8 ∧ (post (k1 414 0 x1.toNatClampNeg) k1))) ∧ (x2 = (4 : Int32) → (vp_in x1 8 ∧ ((¬ (k1 409 0 x1.toNatClampNeg) = (2 : Int32) → (post (0 : Int32) k1)) ∧ ((k1 409 0 x1.toNatClampNeg) = (2 : Int32) → (vp_in x1 8 ∧ (post (k1 416 0 x1.toNatClampNeg) k1)))))) ∧ (x2 = (5 : Int32) → (vp_in x1 8 ∧ (((k1 409 0 x1.toNatClampNeg) < (3 : Int32) → (post (-1 : Int32) k1)) ∧ (¬ (k1 409 0 x1.toNatClampNeg) < (3 : Int32) → (vp_in x1 8 ∧ (post (k1 417 0 x1.toNatClampNeg) k1)))))) ∧ (¬ x2 = (0 : Int32) → ¬ x2 = (1 : Int32) → ¬ x2 = (2 : Int32) → ¬ x2 = (3 : Int32) → ¬ x2 = (4 : Int32) → ¬ x2 = (5 : Int32) → (post (-2147483648 : Int32) k1)))) ∧ (r1 = 0 → (post (-2147483648 : Int32) k1))) x1 k0
def q_X4_tick_22 (cf : Nat → Nat) (post : Int32 → ka_T → Prop) : Nat → Int32 → Int32 → Int32 → ka_T → Prop
  | 0, _, _, _, _ => False
  | nf + 1, x1, x2, x3, k0 => (x3 < 0 → (post x1 k0)) ∧ (¬ x3 < 0 → (vp_in x3 8 ∧ ((¬ (k0 416 0 x3.toNatClampNeg) = (k0 407 0 0) → (q_X4_inState cf (fun r3 k3 => q_X4_tick_22 cf post nf x1 (x2 + 1) r3 k3) (2 : Int32) (-1 : Int32) (x2 + 1) k0)) ∧ ((k0 416 0 x3.toNatClampNeg) = (k0 407 0 0) → (q_X4_set cf (fun k4 => q_X4_inState cf (fun r5 k5 => q_X4_tick_22 cf post nf (x1 + 1) x2 r5 k5) (2 : Int32) (-1 : Int32) x2 k4) x3 (1 : Int32) k0)))))
def q_X4_tick (cf : Nat → Nat) (post : Int32 → ka_T → Prop) (k0 : ka_T) : Prop := ∀ k6 : ka_T, k6 = k3_up k0 407 0 0 ((k0 407 0 0) + (1 : Int32)) → (q_X4_inState cf (fun r7 k7 => ∃ mf : Nat, q_X4_tick_22 cf post mf (0 : Int32) (0 : Int32) r7 k7) (2 : Int32) (-1 : Int32) (0 : Int32) k6)
def q_X4_waiter (cf : Nat → Nat) (post : Int32 → ka_T → Prop) (x1 : Int32) (x2 : Int32) (x3 : Int32) (k0 : ka_T) : Prop := (x1 < 0 → (post (-1 : Int32) k0)) ∧ (¬ x1 < 0 → (((nI (cf 2)) ≤ x1 → (post (-1 : Int32) k0)) ∧ (¬ (nI (cf 2)) ≤ x1 → ((0 ≤ x3 → ((x2 = 0 → (q_X4_inState cf (fun r5 k5 => post r5 k5) (4 : Int32) x1 x3 k0)) ∧ (¬ x2 = 0 → (q_X4_inState cf (fun r6 k6 => post r6 k6) (3 : Int32) x1 x3 k0)))) ∧ (¬ 0 ≤ x3 → (post (-1 : Int32) k0))))))
def q_X4_why (cf : Nat → Nat) (post : Int32 → ka_T → Prop) (x1 : Int32) (k0 : ka_T) : Prop := (x1 < 0 → (post (-1 : Int32) k0)) ∧ (¬ x1 < 0 → ((x1 < (nI (cf 0)) → (vp_in x1 8 ∧ (post (k0 420 0 x1.toNatClampNeg) k0))) ∧ (¬ x1 < (nI (cf 0)) → (post (-1 : Int32) k0))))
end
