section
-- ===== PART A: goes FIRST, ahead of the names: the tables' words, and 'selects' of the private methods out of them =====
/-- a private method of a class that the tables say can be made, by its rows of tables_1 -/
def lw_okq (q : MethodName × Nat) : Prop := (q.1.cls ≠ "java/lang/invoke/MethodHandle" ∧ q.1.cls ≠ "java/lang/invoke/VarHandle") ∧ Cond.instantiable q.1.cls q.2 ∈ tables_1 ∧ Cond.privateMethod q.1 ∈ tables_1 ∧ Cond.instanceMethod q.1 ∈ tables_1
theorem lw_p0 : lw_okq (⟨"SignedCore", "fetch", "(I)I"⟩, 15) := ⟨⟨by decide +kernel, by decide +kernel⟩, List.mem_of_getElem? (i := 9) (by decide +kernel), List.mem_of_getElem? (i := 165) (by decide +kernel), List.mem_of_getElem? (i := 166) (by decide +kernel)⟩
theorem lw_p1 : lw_okq (⟨"SignedCore", "store", "(II)V"⟩, 15) := ⟨⟨by decide +kernel, by decide +kernel⟩, List.mem_of_getElem? (i := 9) (by decide +kernel), List.mem_of_getElem? (i := 169) (by decide +kernel), List.mem_of_getElem? (i := 170) (by decide +kernel)⟩
theorem lw_p2 : lw_okq (⟨"SignedCore", "step", "()I"⟩, 15) := ⟨⟨by decide +kernel, by decide +kernel⟩, List.mem_of_getElem? (i := 9) (by decide +kernel), List.mem_of_getElem? (i := 222) (by decide +kernel), List.mem_of_getElem? (i := 223) (by decide +kernel)⟩
theorem lw_p3 : lw_okq (⟨"SignedCore", "beginBreak", "()V"⟩, 15) := ⟨⟨by decide +kernel, by decide +kernel⟩, List.mem_of_getElem? (i := 9) (by decide +kernel), List.mem_of_getElem? (i := 226) (by decide +kernel), List.mem_of_getElem? (i := 227) (by decide +kernel)⟩
theorem lw_p4 : lw_okq (⟨"SignedCore", "place", "()I"⟩, 15) := ⟨⟨by decide +kernel, by decide +kernel⟩, List.mem_of_getElem? (i := 9) (by decide +kernel), List.mem_of_getElem? (i := 230) (by decide +kernel), List.mem_of_getElem? (i := 231) (by decide +kernel)⟩
theorem lw_p5 : lw_okq (⟨"SignedCore", "advance", "()V"⟩, 15) := ⟨⟨by decide +kernel, by decide +kernel⟩, List.mem_of_getElem? (i := 9) (by decide +kernel), List.mem_of_getElem? (i := 235) (by decide +kernel), List.mem_of_getElem? (i := 236) (by decide +kernel)⟩
theorem lw_p6 : lw_okq (⟨"SignedCore", "followXct", "(I)I"⟩, 15) := ⟨⟨by decide +kernel, by decide +kernel⟩, List.mem_of_getElem? (i := 9) (by decide +kernel), List.mem_of_getElem? (i := 239) (by decide +kernel), List.mem_of_getElem? (i := 240) (by decide +kernel)⟩
theorem lw_p7 : lw_okq (⟨"SignedCore", "addressOf", "(I)I"⟩, 15) := ⟨⟨by decide +kernel, by decide +kernel⟩, List.mem_of_getElem? (i := 9) (by decide +kernel), List.mem_of_getElem? (i := 246) (by decide +kernel), List.mem_of_getElem? (i := 247) (by decide +kernel)⟩
theorem lw_p8 : lw_okq (⟨"SignedCore", "perform", "(I)I"⟩, 15) := ⟨⟨by decide +kernel, by decide +kernel⟩, List.mem_of_getElem? (i := 9) (by decide +kernel), List.mem_of_getElem? (i := 256) (by decide +kernel), List.mem_of_getElem? (i := 257) (by decide +kernel)⟩
theorem lw_p9 : lw_okq (⟨"SignedCore", "endsBreak", "(I)Z"⟩, 15) := ⟨⟨by decide +kernel, by decide +kernel⟩, List.mem_of_getElem? (i := 9) (by decide +kernel), List.mem_of_getElem? (i := 266) (by decide +kernel), List.mem_of_getElem? (i := 267) (by decide +kernel)⟩
theorem lw_p10 : lw_okq (⟨"SignedCore", "endBreak", "()V"⟩, 15) := ⟨⟨by decide +kernel, by decide +kernel⟩, List.mem_of_getElem? (i := 9) (by decide +kernel), List.mem_of_getElem? (i := 270) (by decide +kernel), List.mem_of_getElem? (i := 271) (by decide +kernel)⟩
theorem lw_p11 : lw_okq (⟨"SignedCore", "performWithoutAddress", "(I)I"⟩, 15) := ⟨⟨by decide +kernel, by decide +kernel⟩, List.mem_of_getElem? (i := 9) (by decide +kernel), List.mem_of_getElem? (i := 280) (by decide +kernel), List.mem_of_getElem? (i := 281) (by decide +kernel)⟩
theorem lw_p12 : lw_okq (⟨"SignedCore", "callAt", "(I)V"⟩, 15) := ⟨⟨by decide +kernel, by decide +kernel⟩, List.mem_of_getElem? (i := 9) (by decide +kernel), List.mem_of_getElem? (i := 284) (by decide +kernel), List.mem_of_getElem? (i := 285) (by decide +kernel)⟩
theorem lw_p13 : lw_okq (⟨"SignedCore", "someHolds", "(I)Z"⟩, 15) := ⟨⟨by decide +kernel, by decide +kernel⟩, List.mem_of_getElem? (i := 9) (by decide +kernel), List.mem_of_getElem? (i := 288) (by decide +kernel), List.mem_of_getElem? (i := 289) (by decide +kernel)⟩
theorem lw_p14 : lw_okq (⟨"SignedCore", "skipIf", "(Z)V"⟩, 15) := ⟨⟨by decide +kernel, by decide +kernel⟩, List.mem_of_getElem? (i := 9) (by decide +kernel), List.mem_of_getElem? (i := 295) (by decide +kernel), List.mem_of_getElem? (i := 296) (by decide +kernel)⟩
theorem lw_p15 : lw_okq (⟨"SignedCore", "shift", "(II)V"⟩, 15) := ⟨⟨by decide +kernel, by decide +kernel⟩, List.mem_of_getElem? (i := 9) (by decide +kernel), List.mem_of_getElem? (i := 308) (by decide +kernel), List.mem_of_getElem? (i := 309) (by decide +kernel)⟩
def lw_privs_1 : List (MethodName × Nat) := [(⟨"SignedCore", "fetch", "(I)I"⟩, 15), (⟨"SignedCore", "store", "(II)V"⟩, 15), (⟨"SignedCore", "step", "()I"⟩, 15), (⟨"SignedCore", "beginBreak", "()V"⟩, 15), (⟨"SignedCore", "place", "()I"⟩, 15), (⟨"SignedCore", "advance", "()V"⟩, 15), (⟨"SignedCore", "followXct", "(I)I"⟩, 15), (⟨"SignedCore", "addressOf", "(I)I"⟩, 15), (⟨"SignedCore", "perform", "(I)I"⟩, 15), (⟨"SignedCore", "endsBreak", "(I)Z"⟩, 15), (⟨"SignedCore", "endBreak", "()V"⟩, 15), (⟨"SignedCore", "performWithoutAddress", "(I)I"⟩, 15), (⟨"SignedCore", "callAt", "(I)V"⟩, 15), (⟨"SignedCore", "someHolds", "(I)Z"⟩, 15), (⟨"SignedCore", "skipIf", "(Z)V"⟩, 15), (⟨"SignedCore", "shift", "(II)V"⟩, 15)]
theorem lw_r1 : ∀ q ∈ lw_privs_1, lw_okq q := List.forall_mem_cons.mpr ⟨lw_p0, List.forall_mem_cons.mpr ⟨lw_p1, List.forall_mem_cons.mpr ⟨lw_p2, List.forall_mem_cons.mpr ⟨lw_p3, List.forall_mem_cons.mpr ⟨lw_p4, List.forall_mem_cons.mpr ⟨lw_p5, List.forall_mem_cons.mpr ⟨lw_p6, List.forall_mem_cons.mpr ⟨lw_p7, List.forall_mem_cons.mpr ⟨lw_p8, List.forall_mem_cons.mpr ⟨lw_p9, List.forall_mem_cons.mpr ⟨lw_p10, List.forall_mem_cons.mpr ⟨lw_p11, List.forall_mem_cons.mpr ⟨lw_p12, List.forall_mem_cons.mpr ⟨lw_p13, List.forall_mem_cons.mpr ⟨lw_p14, List.forall_mem_cons.mpr ⟨lw_p15, fun _ h => absurd h List.not_mem_nil⟩⟩⟩⟩⟩⟩⟩⟩⟩⟩⟩⟩⟩⟩⟩⟩
theorem lw_p16 : lw_okq (⟨"SignedCore", "both", "()J"⟩, 15) := ⟨⟨by decide +kernel, by decide +kernel⟩, List.mem_of_getElem? (i := 9) (by decide +kernel), List.mem_of_getElem? (i := 318) (by decide +kernel), List.mem_of_getElem? (i := 319) (by decide +kernel)⟩
theorem lw_p17 : lw_okq (⟨"SignedCore", "setBoth", "(J)V"⟩, 15) := ⟨⟨by decide +kernel, by decide +kernel⟩, List.mem_of_getElem? (i := 9) (by decide +kernel), List.mem_of_getElem? (i := 322) (by decide +kernel), List.mem_of_getElem? (i := 323) (by decide +kernel)⟩
theorem lw_p18 : lw_okq (⟨"SignedCore", "transfer", "(I)V"⟩, 15) := ⟨⟨by decide +kernel, by decide +kernel⟩, List.mem_of_getElem? (i := 9) (by decide +kernel), List.mem_of_getElem? (i := 329) (by decide +kernel), List.mem_of_getElem? (i := 330) (by decide +kernel)⟩
theorem lw_p19 : lw_okq (⟨"SignedCore", "operate", "(I)I"⟩, 15) := ⟨⟨by decide +kernel, by decide +kernel⟩, List.mem_of_getElem? (i := 9) (by decide +kernel), List.mem_of_getElem? (i := 345) (by decide +kernel), List.mem_of_getElem? (i := 346) (by decide +kernel)⟩
theorem lw_p20 : lw_okq (⟨"SignedCore", "setFlags", "(IZ)V"⟩, 15) := ⟨⟨by decide +kernel, by decide +kernel⟩, List.mem_of_getElem? (i := 9) (by decide +kernel), List.mem_of_getElem? (i := 349) (by decide +kernel), List.mem_of_getElem? (i := 350) (by decide +kernel)⟩
theorem lw_p21 : lw_okq (⟨"SignedCore", "performAt", "(II)V"⟩, 15) := ⟨⟨by decide +kernel, by decide +kernel⟩, List.mem_of_getElem? (i := 9) (by decide +kernel), List.mem_of_getElem? (i := 353) (by decide +kernel), List.mem_of_getElem? (i := 354) (by decide +kernel)⟩
theorem lw_p22 : lw_okq (⟨"SignedCore", "add", "(I)V"⟩, 15) := ⟨⟨by decide +kernel, by decide +kernel⟩, List.mem_of_getElem? (i := 9) (by decide +kernel), List.mem_of_getElem? (i := 357) (by decide +kernel), List.mem_of_getElem? (i := 358) (by decide +kernel)⟩
theorem lw_p23 : lw_okq (⟨"SignedCore", "noteOverflow", "(III)V"⟩, 15) := ⟨⟨by decide +kernel, by decide +kernel⟩, List.mem_of_getElem? (i := 9) (by decide +kernel), List.mem_of_getElem? (i := 364) (by decide +kernel), List.mem_of_getElem? (i := 365) (by decide +kernel)⟩
theorem lw_p24 : lw_okq (⟨"SignedCore", "subtract", "(I)V"⟩, 15) := ⟨⟨by decide +kernel, by decide +kernel⟩, List.mem_of_getElem? (i := 9) (by decide +kernel), List.mem_of_getElem? (i := 371) (by decide +kernel), List.mem_of_getElem? (i := 372) (by decide +kernel)⟩
theorem lw_p25 : lw_okq (⟨"SignedCore", "index", "(I)V"⟩, 15) := ⟨⟨by decide +kernel, by decide +kernel⟩, List.mem_of_getElem? (i := 9) (by decide +kernel), List.mem_of_getElem? (i := 375) (by decide +kernel), List.mem_of_getElem? (i := 376) (by decide +kernel)⟩
theorem lw_p26 : lw_okq (⟨"SignedCore", "multiplyStep", "(I)V"⟩, 15) := ⟨⟨by decide +kernel, by decide +kernel⟩, List.mem_of_getElem? (i := 9) (by decide +kernel), List.mem_of_getElem? (i := 379) (by decide +kernel), List.mem_of_getElem? (i := 380) (by decide +kernel)⟩
theorem lw_p27 : lw_okq (⟨"SignedCore", "divideStep", "(I)V"⟩, 15) := ⟨⟨by decide +kernel, by decide +kernel⟩, List.mem_of_getElem? (i := 9) (by decide +kernel), List.mem_of_getElem? (i := 383) (by decide +kernel), List.mem_of_getElem? (i := 384) (by decide +kernel)⟩
theorem lw_p28 : lw_okq (⟨"SignedCore$Display", "slotOf", "(I)I"⟩, 3) := ⟨⟨by decide +kernel, by decide +kernel⟩, List.mem_of_getElem? (i := 52) (by decide +kernel), List.mem_of_getElem? (i := 407) (by decide +kernel), List.mem_of_getElem? (i := 408) (by decide +kernel)⟩
theorem lw_p29 : lw_okq (⟨"SignedCoreModel", "step", "()V"⟩, 22) := ⟨⟨by decide +kernel, by decide +kernel⟩, List.mem_of_getElem? (i := 446) (by decide +kernel), List.mem_of_getElem? (i := 560) (by decide +kernel), List.mem_of_getElem? (i := 561) (by decide +kernel)⟩
theorem lw_p30 : lw_okq (⟨"SignedCoreModel", "place", "()I"⟩, 22) := ⟨⟨by decide +kernel, by decide +kernel⟩, List.mem_of_getElem? (i := 446) (by decide +kernel), List.mem_of_getElem? (i := 564) (by decide +kernel), List.mem_of_getElem? (i := 565) (by decide +kernel)⟩
theorem lw_p31 : lw_okq (⟨"SignedCoreModel", "does", "(I)V"⟩, 22) := ⟨⟨by decide +kernel, by decide +kernel⟩, List.mem_of_getElem? (i := 446) (by decide +kernel), List.mem_of_getElem? (i := 568) (by decide +kernel), List.mem_of_getElem? (i := 569) (by decide +kernel)⟩
def lw_privs_2 : List (MethodName × Nat) := [(⟨"SignedCore", "both", "()J"⟩, 15), (⟨"SignedCore", "setBoth", "(J)V"⟩, 15), (⟨"SignedCore", "transfer", "(I)V"⟩, 15), (⟨"SignedCore", "operate", "(I)I"⟩, 15), (⟨"SignedCore", "setFlags", "(IZ)V"⟩, 15), (⟨"SignedCore", "performAt", "(II)V"⟩, 15), (⟨"SignedCore", "add", "(I)V"⟩, 15), (⟨"SignedCore", "noteOverflow", "(III)V"⟩, 15), (⟨"SignedCore", "subtract", "(I)V"⟩, 15), (⟨"SignedCore", "index", "(I)V"⟩, 15), (⟨"SignedCore", "multiplyStep", "(I)V"⟩, 15), (⟨"SignedCore", "divideStep", "(I)V"⟩, 15), (⟨"SignedCore$Display", "slotOf", "(I)I"⟩, 3), (⟨"SignedCoreModel", "step", "()V"⟩, 22), (⟨"SignedCoreModel", "place", "()I"⟩, 22), (⟨"SignedCoreModel", "does", "(I)V"⟩, 22)]
theorem lw_r2 : ∀ q ∈ lw_privs_2, lw_okq q := List.forall_mem_cons.mpr ⟨lw_p16, List.forall_mem_cons.mpr ⟨lw_p17, List.forall_mem_cons.mpr ⟨lw_p18, List.forall_mem_cons.mpr ⟨lw_p19, List.forall_mem_cons.mpr ⟨lw_p20, List.forall_mem_cons.mpr ⟨lw_p21, List.forall_mem_cons.mpr ⟨lw_p22, List.forall_mem_cons.mpr ⟨lw_p23, List.forall_mem_cons.mpr ⟨lw_p24, List.forall_mem_cons.mpr ⟨lw_p25, List.forall_mem_cons.mpr ⟨lw_p26, List.forall_mem_cons.mpr ⟨lw_p27, List.forall_mem_cons.mpr ⟨lw_p28, List.forall_mem_cons.mpr ⟨lw_p29, List.forall_mem_cons.mpr ⟨lw_p30, List.forall_mem_cons.mpr ⟨lw_p31, fun _ h => absurd h List.not_mem_nil⟩⟩⟩⟩⟩⟩⟩⟩⟩⟩⟩⟩⟩⟩⟩⟩
theorem lw_p32 : lw_okq (⟨"SignedCoreModel", "addressOf", "(I)I"⟩, 22) := ⟨⟨by decide +kernel, by decide +kernel⟩, List.mem_of_getElem? (i := 446) (by decide +kernel), List.mem_of_getElem? (i := 572) (by decide +kernel), List.mem_of_getElem? (i := 573) (by decide +kernel)⟩
theorem lw_p33 : lw_okq (⟨"SignedCoreModel", "ofMemory", "(II)V"⟩, 22) := ⟨⟨by decide +kernel, by decide +kernel⟩, List.mem_of_getElem? (i := 446) (by decide +kernel), List.mem_of_getElem? (i := 585) (by decide +kernel), List.mem_of_getElem? (i := 586) (by decide +kernel)⟩
theorem lw_p34 : lw_okq (⟨"SignedCoreModel", "overflows", "(II)V"⟩, 22) := ⟨⟨by decide +kernel, by decide +kernel⟩, List.mem_of_getElem? (i := 446) (by decide +kernel), List.mem_of_getElem? (i := 589) (by decide +kernel), List.mem_of_getElem? (i := 590) (by decide +kernel)⟩
theorem lw_p35 : lw_okq (⟨"SignedCoreModel", "index", "(I)V"⟩, 22) := ⟨⟨by decide +kernel, by decide +kernel⟩, List.mem_of_getElem? (i := 446) (by decide +kernel), List.mem_of_getElem? (i := 602) (by decide +kernel), List.mem_of_getElem? (i := 603) (by decide +kernel)⟩
theorem lw_p36 : lw_okq (⟨"SignedCoreModel", "skips", "(Z)V"⟩, 22) := ⟨⟨by decide +kernel, by decide +kernel⟩, List.mem_of_getElem? (i := 446) (by decide +kernel), List.mem_of_getElem? (i := 606) (by decide +kernel), List.mem_of_getElem? (i := 607) (by decide +kernel)⟩
theorem lw_p37 : lw_okq (⟨"SignedCoreModel", "multiplies", "(I)V"⟩, 22) := ⟨⟨by decide +kernel, by decide +kernel⟩, List.mem_of_getElem? (i := 446) (by decide +kernel), List.mem_of_getElem? (i := 610) (by decide +kernel), List.mem_of_getElem? (i := 611) (by decide +kernel)⟩
theorem lw_p38 : lw_okq (⟨"SignedCoreModel", "divides", "(I)V"⟩, 22) := ⟨⟨by decide +kernel, by decide +kernel⟩, List.mem_of_getElem? (i := 446) (by decide +kernel), List.mem_of_getElem? (i := 614) (by decide +kernel), List.mem_of_getElem? (i := 615) (by decide +kernel)⟩
theorem lw_p39 : lw_okq (⟨"SignedCoreModel", "calls", "(I)V"⟩, 22) := ⟨⟨by decide +kernel, by decide +kernel⟩, List.mem_of_getElem? (i := 446) (by decide +kernel), List.mem_of_getElem? (i := 618) (by decide +kernel), List.mem_of_getElem? (i := 619) (by decide +kernel)⟩
theorem lw_p40 : lw_okq (⟨"SignedCoreModel", "asksSkip", "(I)V"⟩, 22) := ⟨⟨by decide +kernel, by decide +kernel⟩, List.mem_of_getElem? (i := 446) (by decide +kernel), List.mem_of_getElem? (i := 622) (by decide +kernel), List.mem_of_getElem? (i := 623) (by decide +kernel)⟩
theorem lw_p41 : lw_okq (⟨"SignedCoreModel", "shifts", "(I)V"⟩, 22) := ⟨⟨by decide +kernel, by decide +kernel⟩, List.mem_of_getElem? (i := 446) (by decide +kernel), List.mem_of_getElem? (i := 626) (by decide +kernel), List.mem_of_getElem? (i := 627) (by decide +kernel)⟩
theorem lw_p42 : lw_okq (⟨"SignedCoreModel", "transfers", "(I)V"⟩, 22) := ⟨⟨by decide +kernel, by decide +kernel⟩, List.mem_of_getElem? (i := 446) (by decide +kernel), List.mem_of_getElem? (i := 638) (by decide +kernel), List.mem_of_getElem? (i := 639) (by decide +kernel)⟩
theorem lw_p43 : lw_okq (⟨"SignedCoreModel", "operates", "(I)V"⟩, 22) := ⟨⟨by decide +kernel, by decide +kernel⟩, List.mem_of_getElem? (i := 446) (by decide +kernel), List.mem_of_getElem? (i := 642) (by decide +kernel), List.mem_of_getElem? (i := 643) (by decide +kernel)⟩
def lw_privs_3 : List (MethodName × Nat) := [(⟨"SignedCoreModel", "addressOf", "(I)I"⟩, 22), (⟨"SignedCoreModel", "ofMemory", "(II)V"⟩, 22), (⟨"SignedCoreModel", "overflows", "(II)V"⟩, 22), (⟨"SignedCoreModel", "index", "(I)V"⟩, 22), (⟨"SignedCoreModel", "skips", "(Z)V"⟩, 22), (⟨"SignedCoreModel", "multiplies", "(I)V"⟩, 22), (⟨"SignedCoreModel", "divides", "(I)V"⟩, 22), (⟨"SignedCoreModel", "calls", "(I)V"⟩, 22), (⟨"SignedCoreModel", "asksSkip", "(I)V"⟩, 22), (⟨"SignedCoreModel", "shifts", "(I)V"⟩, 22), (⟨"SignedCoreModel", "transfers", "(I)V"⟩, 22), (⟨"SignedCoreModel", "operates", "(I)V"⟩, 22)]
theorem lw_r3 : ∀ q ∈ lw_privs_3, lw_okq q := List.forall_mem_cons.mpr ⟨lw_p32, List.forall_mem_cons.mpr ⟨lw_p33, List.forall_mem_cons.mpr ⟨lw_p34, List.forall_mem_cons.mpr ⟨lw_p35, List.forall_mem_cons.mpr ⟨lw_p36, List.forall_mem_cons.mpr ⟨lw_p37, List.forall_mem_cons.mpr ⟨lw_p38, List.forall_mem_cons.mpr ⟨lw_p39, List.forall_mem_cons.mpr ⟨lw_p40, List.forall_mem_cons.mpr ⟨lw_p41, List.forall_mem_cons.mpr ⟨lw_p42, List.forall_mem_cons.mpr ⟨lw_p43, fun _ h => absurd h List.not_mem_nil⟩⟩⟩⟩⟩⟩⟩⟩⟩⟩⟩⟩
def lw_privs : List (MethodName × Nat) := lw_privs_1 ++ (lw_privs_2 ++ (lw_privs_3))
def lw_tbl : List Cond := k2_sels lw_privs ++ tables_1
theorem lw_privs_ok : ∀ q ∈ lw_privs, lw_okq q := by
  show ∀ q ∈ lw_privs_1 ++ (lw_privs_2 ++ (lw_privs_3)), lw_okq q
  exact List.forall_mem_append.mpr ⟨lw_r1, List.forall_mem_append.mpr ⟨lw_r2, lw_r3⟩⟩
end
section
def RX0 : String := "SignedCore$Display"
def TX0 : u_T := fun k => match k with
  | 0 => ("SignedCore$Display", "xs", "[I", true)
  | 1 => ("SignedCore$Display", "ys", "[I", true)
  | _ => ("SignedCore$Display", "total", "I", false)
def tyX0 : Nat → FieldType := fun k => match k with
  | 0 => .array .int
  | 1 => .array .int
  | _ => .int
abbrev wsX00 : List Cond := u_ws RX0 TX0 3
theorem nmX0 : ∀ a, a < 3 → ∀ b, b < 3 → a ≠ b → (TX0 a).2.1 ≠ (TX0 b).2.1 := by decide +kernel
theorem tyX0_ok : ∀ k, k < 3 → parseFieldDescriptor (TX0 k).2.2.1 = some (tyX0 k) := by decide +kernel
abbrev cX0_init : ByteArray := prog_2_method_1_code
def yX0_init : MethodName := ⟨RX0, "<init>", "()V"⟩
abbrev cX0_show : ByteArray := prog_2_method_2_code
def yX0_show : MethodName := ⟨RX0, "show", "(II)V"⟩
abbrev cX0_keeps : ByteArray := prog_2_method_3_code
def yX0_keeps : MethodName := ⟨RX0, "keeps", "(I)Z"⟩
abbrev cX0_xOf : ByteArray := prog_2_method_4_code
def yX0_xOf : MethodName := ⟨RX0, "xOf", "(I)I"⟩
abbrev cX0_yOf : ByteArray := prog_2_method_5_code
def yX0_yOf : MethodName := ⟨RX0, "yOf", "(I)I"⟩
abbrev cX0_slotOf : ByteArray := prog_2_method_6_code
def yX0_slotOf : MethodName := ⟨RX0, "slotOf", "(I)I"⟩
def RX1 : String := "SignedCore$SentRow"
def TX1 : u_T := fun k => match k with
  | 0 => ("SignedCore$SentRow", "signs", "[I", true)
  | 1 => ("SignedCore$SentRow", "count", "I", false)
  | _ => ("SignedCore$SentRow", "lost", "I", false)
def tyX1 : Nat → FieldType := fun k => match k with
  | 0 => .array .int
  | 1 => .int
  | _ => .int
abbrev wsX10 : List Cond := u_ws RX1 TX1 3
theorem nmX1 : ∀ a, a < 3 → ∀ b, b < 3 → a ≠ b → (TX1 a).2.1 ≠ (TX1 b).2.1 := by decide +kernel
theorem tyX1_ok : ∀ k, k < 3 → parseFieldDescriptor (TX1 k).2.2.1 = some (tyX1 k) := by decide +kernel
abbrev cX1_init : ByteArray := prog_3_method_1_code
def yX1_init : MethodName := ⟨RX1, "<init>", "()V"⟩
abbrev cX1_append : ByteArray := prog_3_method_2_code
def yX1_append : MethodName := ⟨RX1, "append", "(I)V"⟩
abbrev cX1_signAt : ByteArray := prog_3_method_3_code
def yX1_signAt : MethodName := ⟨RX1, "signAt", "(I)I"⟩
def RX2 : String := "SignedCore$Tally"
def TX2 : u_T := fun k => match k with
  | 0 => ("SignedCore$Tally", "steps", "I", false)
  | 1 => ("SignedCore$Tally", "breaks", "I", false)
  | 2 => ("SignedCore$Tally", "chainWords", "I", false)
  | 3 => ("SignedCore$Tally", "pointsPut", "I", false)
  | 4 => ("SignedCore$Tally", "skips", "I", false)
  | 5 => ("SignedCore$Tally", "overflows", "I", false)
  | 6 => ("SignedCore$Tally", "haltedAt", "I", false)
  | _ => ("SignedCore$Tally", "allSteps", "I", false)
def tyX2 : Nat → FieldType := fun k => match k with
  | 0 => .int
  | 1 => .int
  | 2 => .int
  | 3 => .int
  | 4 => .int
  | 5 => .int
  | 6 => .int
  | _ => .int
abbrev wsX20 : List Cond := u_ws RX2 TX2 8
theorem nmX2 : ∀ a, a < 8 → ∀ b, b < 8 → a ≠ b → (TX2 a).2.1 ≠ (TX2 b).2.1 := by decide +kernel
theorem tyX2_ok : ∀ k, k < 8 → parseFieldDescriptor (TX2 k).2.2.1 = some (tyX2 k) := by decide +kernel
abbrev cX2_init : ByteArray := prog_4_method_1_code
def yX2_init : MethodName := ⟨RX2, "<init>", "()V"⟩
abbrev cX2_begin : ByteArray := prog_4_method_2_code
def yX2_begin : MethodName := ⟨RX2, "begin", "()V"⟩
abbrev cX2_countStep : ByteArray := prog_4_method_3_code
def yX2_countStep : MethodName := ⟨RX2, "countStep", "()V"⟩
def RX3 : String := "SignedCore$TypedRow"
def TX3 : u_T := fun k => match k with
  | 0 => ("SignedCore$TypedRow", "signs", "[I", true)
  | 1 => ("SignedCore$TypedRow", "count", "I", false)
  | _ => ("SignedCore$TypedRow", "taken", "I", false)
def tyX3 : Nat → FieldType := fun k => match k with
  | 0 => .array .int
  | 1 => .int
  | _ => .int
abbrev wsX30 : List Cond := u_ws RX3 TX3 3
theorem nmX3 : ∀ a, a < 3 → ∀ b, b < 3 → a ≠ b → (TX3 a).2.1 ≠ (TX3 b).2.1 := by decide +kernel
theorem tyX3_ok : ∀ k, k < 3 → parseFieldDescriptor (TX3 k).2.2.1 = some (tyX3 k) := by decide +kernel
abbrev cX3_init : ByteArray := prog_5_method_1_code
def yX3_init : MethodName := ⟨RX3, "<init>", "()V"⟩
abbrev cX3_append : ByteArray := prog_5_method_2_code
def yX3_append : MethodName := ⟨RX3, "append", "(I)Z"⟩
abbrev cX3_waiting : ByteArray := prog_5_method_3_code
def yX3_waiting : MethodName := ⟨RX3, "waiting", "()I"⟩
abbrev cX3_take : ByteArray := prog_5_method_4_code
def yX3_take : MethodName := ⟨RX3, "take", "()I"⟩
def RX4 : String := "SignedCore"
def TX4 : u_T := fun k => match k with
  | 0 => ("SignedCore", "cells", "[I", true)
  | 1 => ("SignedCore", "ac", "I", false)
  | 2 => ("SignedCore", "io", "I", false)
  | 3 => ("SignedCore", "pc", "I", false)
  | 4 => ("SignedCore", "ov", "I", false)
  | 5 => ("SignedCore", "flags", "I", false)
  | 6 => ("SignedCore", "breakOn", "I", false)
  | 7 => ("SignedCore", "breakAsked", "I", false)
  | 8 => ("SignedCore", "breakUnderWay", "I", false)
  | 9 => ("SignedCore", "switchBits", "I", false)
  | 10 => ("SignedCore", "testWord", "I", false)
  | 11 => ("SignedCore", "typedRow", "LSignedCore$TypedRow;", true)
  | 12 => ("SignedCore", "sentRow", "LSignedCore$SentRow;", true)
  | 13 => ("SignedCore", "display", "LSignedCore$Display;", true)
  | _ => ("SignedCore", "tally", "LSignedCore$Tally;", true)
def tyX4 : Nat → FieldType := fun k => match k with
  | 0 => .array .int
  | 1 => .int
  | 2 => .int
  | 3 => .int
  | 4 => .int
  | 5 => .int
  | 6 => .int
  | 7 => .int
  | 8 => .int
  | 9 => .int
  | 10 => .int
  | 11 => .object "SignedCore$TypedRow"
  | 12 => .object "SignedCore$SentRow"
  | 13 => .object "SignedCore$Display"
  | _ => .object "SignedCore$Tally"
abbrev wsX40 : List Cond := u_ws RX4 TX4 15
theorem nmX4 : ∀ a, a < 15 → ∀ b, b < 15 → a ≠ b → (TX4 a).2.1 ≠ (TX4 b).2.1 := by decide +kernel
theorem tyX4_ok : ∀ k, k < 15 → parseFieldDescriptor (TX4 k).2.2.1 = some (tyX4 k) := by decide +kernel
abbrev cX4_init : ByteArray := prog_1_method_1_code
def yX4_init : MethodName := ⟨RX4, "<init>", "()V"⟩
abbrev cX4_put : ByteArray := prog_1_method_2_code
def yX4_put : MethodName := ⟨RX4, "put", "(II)I"⟩
abbrev cX4_core : ByteArray := prog_1_method_3_code
def yX4_core : MethodName := ⟨RX4, "core", "(I)I"⟩
abbrev cX4_load : ByteArray := prog_1_method_4_code
def yX4_load : MethodName := ⟨RX4, "load", "(IJI)I"⟩
abbrev cX4_told : ByteArray := prog_1_method_5_code
def yX4_told : MethodName := ⟨RX4, "told", "(I)I"⟩
abbrev cX4_set : ByteArray := prog_1_method_6_code
def yX4_set : MethodName := ⟨RX4, "set", "(II)I"⟩
abbrev cX4_switches : ByteArray := prog_1_method_7_code
def yX4_switches : MethodName := ⟨RX4, "switches", "(II)I"⟩
abbrev cX4_type : ByteArray := prog_1_method_8_code
def yX4_type : MethodName := ⟨RX4, "type", "(I)I"⟩
abbrev cX4_ask : ByteArray := prog_1_method_9_code
def yX4_ask : MethodName := ⟨RX4, "ask", "()I"⟩
abbrev cX4_run : ByteArray := prog_1_method_10_code
def yX4_run : MethodName := ⟨RX4, "run", "(I)I"⟩
abbrev cX4_ran : ByteArray := prog_1_method_11_code
def yX4_ran : MethodName := ⟨RX4, "ran", "(I)I"⟩
abbrev cX4_point : ByteArray := prog_1_method_12_code
def yX4_point : MethodName := ⟨RX4, "point", "(II)I"⟩
abbrev cX4_points : ByteArray := prog_1_method_13_code
def yX4_points : MethodName := ⟨RX4, "points", "()I"⟩
abbrev cX4_out : ByteArray := prog_1_method_14_code
def yX4_out : MethodName := ⟨RX4, "out", "(I)I"⟩
abbrev cX4_value : ByteArray := prog_1_method_15_code
def yX4_value : MethodName := ⟨RX4, "value", "(I)I"⟩
abbrev cX4_word : ByteArray := prog_1_method_16_code
def yX4_word : MethodName := ⟨RX4, "word", "(I)I"⟩
abbrev cX4_reads : ByteArray := prog_1_method_17_code
def yX4_reads : MethodName := ⟨RX4, "reads", "(II)I"⟩
abbrev cX4_digest : ByteArray := prog_1_method_18_code
def yX4_digest : MethodName := ⟨RX4, "digest", "()I"⟩
abbrev cX4_isAddress : ByteArray := prog_1_method_19_code
def yX4_isAddress : MethodName := ⟨RX4, "isAddress", "(I)Z"⟩
abbrev cX4_isWord : ByteArray := prog_1_method_20_code
def yX4_isWord : MethodName := ⟨RX4, "isWord", "(I)Z"⟩
abbrev cX4_mostOf : ByteArray := prog_1_method_21_code
def yX4_mostOf : MethodName := ⟨RX4, "mostOf", "(I)I"⟩
abbrev cX4_signOf : ByteArray := prog_1_method_22_code
def yX4_signOf : MethodName := ⟨RX4, "signOf", "(I)I"⟩
abbrev cX4_not : ByteArray := prog_1_method_23_code
def yX4_not : MethodName := ⟨RX4, "not", "(I)I"⟩
abbrev cX4_sum : ByteArray := prog_1_method_24_code
def yX4_sum : MethodName := ⟨RX4, "sum", "(II)I"⟩
abbrev cX4_withoutMinusZero : ByteArray := prog_1_method_25_code
def yX4_withoutMinusZero : MethodName := ⟨RX4, "withoutMinusZero", "(I)I"⟩
abbrev cX4_codeOf : ByteArray := prog_1_method_26_code
def yX4_codeOf : MethodName := ⟨RX4, "codeOf", "(I)I"⟩
abbrev cX4_hasI : ByteArray := prog_1_method_27_code
def yX4_hasI : MethodName := ⟨RX4, "hasI", "(I)Z"⟩
abbrev cX4_yOf : ByteArray := prog_1_method_28_code
def yX4_yOf : MethodName := ⟨RX4, "yOf", "(I)I"⟩
abbrev cX4_onesOf : ByteArray := prog_1_method_29_code
def yX4_onesOf : MethodName := ⟨RX4, "onesOf", "(I)I"⟩
abbrev cX4_shiftKindOf : ByteArray := prog_1_method_30_code
def yX4_shiftKindOf : MethodName := ⟨RX4, "shiftKindOf", "(I)I"⟩
abbrev cX4_hasAddress : ByteArray := prog_1_method_31_code
def yX4_hasAddress : MethodName := ⟨RX4, "hasAddress", "(I)Z"⟩
abbrev cX4_isIllegal : ByteArray := prog_1_method_32_code
def yX4_isIllegal : MethodName := ⟨RX4, "isIllegal", "(I)Z"⟩
abbrev cX4_fetch : ByteArray := prog_1_method_33_code
def yX4_fetch : MethodName := ⟨RX4, "fetch", "(I)I"⟩
abbrev cX4_store : ByteArray := prog_1_method_34_code
def yX4_store : MethodName := ⟨RX4, "store", "(II)V"⟩
abbrev cX4_place : ByteArray := prog_1_method_35_code
def yX4_place : MethodName := ⟨RX4, "place", "()I"⟩
abbrev cX4_advance : ByteArray := prog_1_method_36_code
def yX4_advance : MethodName := ⟨RX4, "advance", "()V"⟩
abbrev cX4_skipIf : ByteArray := prog_1_method_37_code
def yX4_skipIf : MethodName := ⟨RX4, "skipIf", "(Z)V"⟩
abbrev cX4_addressOf : ByteArray := prog_1_method_38_code
def yX4_addressOf : MethodName := ⟨RX4, "addressOf", "(I)I"⟩
abbrev cX4_step : ByteArray := prog_1_method_39_code
def yX4_step : MethodName := ⟨RX4, "step", "()I"⟩
abbrev cX4_beginBreak : ByteArray := prog_1_method_40_code
def yX4_beginBreak : MethodName := ⟨RX4, "beginBreak", "()V"⟩
abbrev cX4_endBreak : ByteArray := prog_1_method_41_code
def yX4_endBreak : MethodName := ⟨RX4, "endBreak", "()V"⟩
abbrev cX4_followXct : ByteArray := prog_1_method_42_code
def yX4_followXct : MethodName := ⟨RX4, "followXct", "(I)I"⟩
abbrev cX4_perform : ByteArray := prog_1_method_43_code
def yX4_perform : MethodName := ⟨RX4, "perform", "(I)I"⟩
abbrev cX4_endsBreak : ByteArray := prog_1_method_44_code
def yX4_endsBreak : MethodName := ⟨RX4, "endsBreak", "(I)Z"⟩
abbrev cX4_performWithoutAddress : ByteArray := prog_1_method_45_code
def yX4_performWithoutAddress : MethodName := ⟨RX4, "performWithoutAddress", "(I)I"⟩
abbrev cX4_callAt : ByteArray := prog_1_method_46_code
def yX4_callAt : MethodName := ⟨RX4, "callAt", "(I)V"⟩
abbrev cX4_performAt : ByteArray := prog_1_method_47_code
def yX4_performAt : MethodName := ⟨RX4, "performAt", "(II)V"⟩
abbrev cX4_add : ByteArray := prog_1_method_48_code
def yX4_add : MethodName := ⟨RX4, "add", "(I)V"⟩
abbrev cX4_subtract : ByteArray := prog_1_method_49_code
def yX4_subtract : MethodName := ⟨RX4, "subtract", "(I)V"⟩
abbrev cX4_noteOverflow : ByteArray := prog_1_method_50_code
def yX4_noteOverflow : MethodName := ⟨RX4, "noteOverflow", "(III)V"⟩
abbrev cX4_index : ByteArray := prog_1_method_51_code
def yX4_index : MethodName := ⟨RX4, "index", "(I)V"⟩
abbrev cX4_multiplyStep : ByteArray := prog_1_method_52_code
def yX4_multiplyStep : MethodName := ⟨RX4, "multiplyStep", "(I)V"⟩
abbrev cX4_divideStep : ByteArray := prog_1_method_53_code
def yX4_divideStep : MethodName := ⟨RX4, "divideStep", "(I)V"⟩
abbrev cX4_someHolds : ByteArray := prog_1_method_54_code
def yX4_someHolds : MethodName := ⟨RX4, "someHolds", "(I)Z"⟩
abbrev cX4_isOff : ByteArray := prog_1_method_55_code
def yX4_isOff : MethodName := ⟨RX4, "isOff", "(II)Z"⟩
abbrev cX4_both : ByteArray := prog_1_method_56_code
def yX4_both : MethodName := ⟨RX4, "both", "()J"⟩
abbrev cX4_setBoth : ByteArray := prog_1_method_57_code
def yX4_setBoth : MethodName := ⟨RX4, "setBoth", "(J)V"⟩
abbrev cX4_shift : ByteArray := prog_1_method_58_code
def yX4_shift : MethodName := ⟨RX4, "shift", "(II)V"⟩
abbrev cX4_moved : ByteArray := prog_1_method_59_code
def yX4_moved : MethodName := ⟨RX4, "moved", "(JIII)J"⟩
abbrev cX4_movedOnce : ByteArray := prog_1_method_60_code
def yX4_movedOnce : MethodName := ⟨RX4, "movedOnce", "(JII)J"⟩
abbrev cX4_transfer : ByteArray := prog_1_method_61_code
def yX4_transfer : MethodName := ⟨RX4, "transfer", "(I)V"⟩
abbrev cX4_operate : ByteArray := prog_1_method_62_code
def yX4_operate : MethodName := ⟨RX4, "operate", "(I)I"⟩
abbrev cX4_setFlags : ByteArray := prog_1_method_63_code
def yX4_setFlags : MethodName := ⟨RX4, "setFlags", "(IZ)V"⟩
def RX5 : String := "SignedCoreModel"
def TX5 : u_T := fun k => match k with
  | 0 => ("SignedCoreModel", "core", "[I", true)
  | 1 => ("SignedCoreModel", "ac", "I", false)
  | 2 => ("SignedCoreModel", "io", "I", false)
  | 3 => ("SignedCoreModel", "pc", "I", false)
  | 4 => ("SignedCoreModel", "ov", "I", false)
  | 5 => ("SignedCoreModel", "flags", "I", false)
  | 6 => ("SignedCoreModel", "isOn", "Z", false)
  | 7 => ("SignedCoreModel", "isAsked", "Z", false)
  | 8 => ("SignedCoreModel", "isUnderWay", "Z", false)
  | 9 => ("SignedCoreModel", "switchBits", "I", false)
  | 10 => ("SignedCoreModel", "test", "I", false)
  | 11 => ("SignedCoreModel", "row", "[I", true)
  | 12 => ("SignedCoreModel", "typed", "I", false)
  | 13 => ("SignedCoreModel", "taken", "I", false)
  | 14 => ("SignedCoreModel", "out", "[I", true)
  | 15 => ("SignedCoreModel", "outs", "I", false)
  | 16 => ("SignedCoreModel", "lost", "I", false)
  | 17 => ("SignedCoreModel", "pointX", "[I", true)
  | 18 => ("SignedCoreModel", "pointY", "[I", true)
  | 19 => ("SignedCoreModel", "points", "I", false)
  | 20 => ("SignedCoreModel", "ran", "[I", true)
  | _ => ("SignedCoreModel", "ended", "I", false)
def tyX5 : Nat → FieldType := fun k => match k with
  | 0 => .array .int
  | 1 => .int
  | 2 => .int
  | 3 => .int
  | 4 => .int
  | 5 => .int
  | 6 => .boolean
  | 7 => .boolean
  | 8 => .boolean
  | 9 => .int
  | 10 => .int
  | 11 => .array .int
  | 12 => .int
  | 13 => .int
  | 14 => .array .int
  | 15 => .int
  | 16 => .int
  | 17 => .array .int
  | 18 => .array .int
  | 19 => .int
  | 20 => .array .int
  | _ => .int
abbrev wsX50 : List Cond := u_ws RX5 TX5 22
theorem nmX5 : ∀ a, a < 22 → ∀ b, b < 22 → a ≠ b → (TX5 a).2.1 ≠ (TX5 b).2.1 := by decide +kernel
theorem tyX5_ok : ∀ k, k < 22 → parseFieldDescriptor (TX5 k).2.2.1 = some (tyX5 k) := by decide +kernel
abbrev cX5_init : ByteArray := prog_7_method_1_code
def yX5_init : MethodName := ⟨RX5, "<init>", "()V"⟩
abbrev cX5_in : ByteArray := prog_7_method_3_code
def yX5_in : MethodName := ⟨RX5, "in", "(III)Z"⟩
abbrev cX5_put : ByteArray := prog_7_method_4_code
def yX5_put : MethodName := ⟨RX5, "put", "(II)I"⟩
abbrev cX5_core : ByteArray := prog_7_method_5_code
def yX5_core : MethodName := ⟨RX5, "core", "(I)I"⟩
abbrev cX5_load : ByteArray := prog_7_method_6_code
def yX5_load : MethodName := ⟨RX5, "load", "(IJI)I"⟩
abbrev cX5_told : ByteArray := prog_7_method_7_code
def yX5_told : MethodName := ⟨RX5, "told", "(I)I"⟩
abbrev cX5_set : ByteArray := prog_7_method_8_code
def yX5_set : MethodName := ⟨RX5, "set", "(II)I"⟩
abbrev cX5_switches : ByteArray := prog_7_method_9_code
def yX5_switches : MethodName := ⟨RX5, "switches", "(II)I"⟩
abbrev cX5_type : ByteArray := prog_7_method_10_code
def yX5_type : MethodName := ⟨RX5, "type", "(I)I"⟩
abbrev cX5_ask : ByteArray := prog_7_method_11_code
def yX5_ask : MethodName := ⟨RX5, "ask", "()I"⟩
abbrev cX5_not : ByteArray := prog_7_method_12_code
def yX5_not : MethodName := ⟨RX5, "not", "(I)I"⟩
abbrev cX5_sign : ByteArray := prog_7_method_13_code
def yX5_sign : MethodName := ⟨RX5, "sign", "(I)I"⟩
abbrev cX5_sum : ByteArray := prog_7_method_14_code
def yX5_sum : MethodName := ⟨RX5, "sum", "(II)I"⟩
abbrev cX5_plain : ByteArray := prog_7_method_15_code
def yX5_plain : MethodName := ⟨RX5, "plain", "(I)I"⟩
abbrev cX5_overflows : ByteArray := prog_7_method_16_code
def yX5_overflows : MethodName := ⟨RX5, "overflows", "(II)V"⟩
abbrev cX5_ones : ByteArray := prog_7_method_17_code
def yX5_ones : MethodName := ⟨RX5, "ones", "(I)I"⟩
abbrev cX5_hasAddress : ByteArray := prog_7_method_18_code
def yX5_hasAddress : MethodName := ⟨RX5, "hasAddress", "(I)Z"⟩
abbrev cX5_isIllegal : ByteArray := prog_7_method_19_code
def yX5_isIllegal : MethodName := ⟨RX5, "isIllegal", "(I)Z"⟩
abbrev cX5_addressOf : ByteArray := prog_7_method_20_code
def yX5_addressOf : MethodName := ⟨RX5, "addressOf", "(I)I"⟩
abbrev cX5_place : ByteArray := prog_7_method_21_code
def yX5_place : MethodName := ⟨RX5, "place", "()I"⟩
abbrev cX5_skips : ByteArray := prog_7_method_22_code
def yX5_skips : MethodName := ⟨RX5, "skips", "(Z)V"⟩
abbrev cX5_index : ByteArray := prog_7_method_23_code
def yX5_index : MethodName := ⟨RX5, "index", "(I)V"⟩
abbrev cX5_multiplies : ByteArray := prog_7_method_24_code
def yX5_multiplies : MethodName := ⟨RX5, "multiplies", "(I)V"⟩
abbrev cX5_divides : ByteArray := prog_7_method_25_code
def yX5_divides : MethodName := ⟨RX5, "divides", "(I)V"⟩
abbrev cX5_ofMemory : ByteArray := prog_7_method_26_code
def yX5_ofMemory : MethodName := ⟨RX5, "ofMemory", "(II)V"⟩
abbrev cX5_calls : ByteArray := prog_7_method_27_code
def yX5_calls : MethodName := ⟨RX5, "calls", "(I)V"⟩
abbrev cX5_asksSkip : ByteArray := prog_7_method_28_code
def yX5_asksSkip : MethodName := ⟨RX5, "asksSkip", "(I)V"⟩
abbrev cX5_moved : ByteArray := prog_7_method_29_code
def yX5_moved : MethodName := ⟨RX5, "moved", "(JII)J"⟩
abbrev cX5_shifts : ByteArray := prog_7_method_30_code
def yX5_shifts : MethodName := ⟨RX5, "shifts", "(I)V"⟩
abbrev cX5_transfers : ByteArray := prog_7_method_31_code
def yX5_transfers : MethodName := ⟨RX5, "transfers", "(I)V"⟩
abbrev cX5_operates : ByteArray := prog_7_method_32_code
def yX5_operates : MethodName := ⟨RX5, "operates", "(I)V"⟩
abbrev cX5_does : ByteArray := prog_7_method_33_code
def yX5_does : MethodName := ⟨RX5, "does", "(I)V"⟩
abbrev cX5_step : ByteArray := prog_7_method_34_code
def yX5_step : MethodName := ⟨RX5, "step", "()V"⟩
abbrev cX5_run : ByteArray := prog_7_method_35_code
def yX5_run : MethodName := ⟨RX5, "run", "(I)I"⟩
abbrev cX5_ran : ByteArray := prog_7_method_36_code
def yX5_ran : MethodName := ⟨RX5, "ran", "(I)I"⟩
abbrev cX5_point : ByteArray := prog_7_method_37_code
def yX5_point : MethodName := ⟨RX5, "point", "(II)I"⟩
abbrev cX5_points : ByteArray := prog_7_method_38_code
def yX5_points : MethodName := ⟨RX5, "points", "()I"⟩
abbrev cX5_out : ByteArray := prog_7_method_39_code
def yX5_out : MethodName := ⟨RX5, "out", "(I)I"⟩
abbrev cX5_value : ByteArray := prog_7_method_40_code
def yX5_value : MethodName := ⟨RX5, "value", "(I)I"⟩
abbrev cX5_word : ByteArray := prog_7_method_41_code
def yX5_word : MethodName := ⟨RX5, "word", "(I)I"⟩
abbrev cX5_reads : ByteArray := prog_7_method_42_code
def yX5_reads : MethodName := ⟨RX5, "reads", "(II)I"⟩
abbrev cX5_digest : ByteArray := prog_7_method_43_code
def yX5_digest : MethodName := ⟨RX5, "digest", "()I"⟩
def RJ6 : String := "java/lang/Integer"
def TJ6 : u_T := fun k => match k with
  | _ => ("", "", "", false)
def tyJ6 : Nat → FieldType := fun k => match k with
  | _ => .int
theorem nmJ6 : ∀ a, a < 0 → ∀ b, b < 0 → a ≠ b → (TJ6 a).2.1 ≠ (TJ6 b).2.1 := by decide +kernel
theorem tyJ6_ok : ∀ k, k < 0 → parseFieldDescriptor (TJ6 k).2.2.1 = some (tyJ6 k) := by decide +kernel
abbrev cJ6_bitCount_0f7a4 : ByteArray := prog_8_method_49_code
def yJ6_bitCount_0f7a4 : MethodName := ⟨RJ6, "bitCount", "(I)I"⟩
def RL : String := "SignedCoreLaw"
abbrev cL_law : ByteArray := code
def yL_law : MethodName := ⟨RL, "law", "([I)Z"⟩
abbrev vwCl : List vw_C := [(RX0, TX0, 3), (RX1, TX1, 3), (RX2, TX2, 8), (RX3, TX3, 3), (RX4, TX4, 15), (RX5, TX5, 22)]
end
section
/-- the words of the tables that a callee may be given -/
def wsG : List Cond := lw_tbl.filter goodWord
theorem in_tbl {w : Cond} (h : w ∈ tables_1) : w ∈ lw_tbl := List.mem_append_right _ h
theorem in_tab1 {w : Cond} (i : Nat) (h : tables_1_1[i]? = some w) : w ∈ tables_1 := List.mem_append_left _ (List.mem_of_getElem? h)
theorem in_tab2 {w : Cond} (i : Nat) (h : tables_1_2[i]? = some w) : w ∈ tables_1 := List.mem_append_right _ (List.mem_append_left _ (List.mem_of_getElem? h))
theorem in_tab3 {w : Cond} (i : Nat) (h : tables_1_3[i]? = some w) : w ∈ tables_1 := List.mem_append_right _ (List.mem_append_right _ (List.mem_of_getElem? h))
theorem in_wsG {w : Cond} (h : w ∈ lw_tbl) (hg : goodWord w = true) : w ∈ wsG := List.mem_filter.mpr ⟨h, hg⟩
theorem wsG_in {w : Cond} (h : w ∈ wsG) : w ∈ lw_tbl := (List.mem_filter.mp h).1
theorem kw_0 : (.initialized RL : Cond) ∈ wsG := in_wsG (in_tbl (in_tab1 0 rfl)) rfl
theorem kw_1 : (.initialized RX4 : Cond) ∈ wsG := in_wsG (in_tbl (in_tab1 1 rfl)) rfl
theorem kw_2 : (.initialized RX3 : Cond) ∈ wsG := in_wsG (in_tbl (in_tab1 2 rfl)) rfl
theorem kw_3 : (.initialized RX1 : Cond) ∈ wsG := in_wsG (in_tbl (in_tab1 3 rfl)) rfl
theorem kw_4 : (.initialized RX0 : Cond) ∈ wsG := in_wsG (in_tbl (in_tab1 4 rfl)) rfl
theorem kw_5 : (.initialized RX2 : Cond) ∈ wsG := in_wsG (in_tbl (in_tab1 5 rfl)) rfl
theorem kw_6 : (.initialized RX5 : Cond) ∈ wsG := in_wsG (in_tbl (in_tab1 6 rfl)) rfl
theorem kw_7 : (.initialized RJ6 : Cond) ∈ wsG := in_wsG (in_tbl (in_tab1 7 rfl)) rfl
theorem kw_8 : (.classLink RL 7 RX4 : Cond) ∈ wsG := in_wsG (in_tbl (in_tab1 8 rfl)) rfl
theorem kw_9 : (.instantiable RX4 15 : Cond) ∈ wsG := in_wsG (in_tbl (in_tab1 9 rfl)) rfl
theorem kw_10 : (.methodLink RL 9 yX4_init : Cond) ∈ wsG := in_wsG (in_tbl (in_tab1 10 rfl)) rfl
theorem kw_11 : (.instanceMethod yX4_init : Cond) ∈ wsG := in_wsG (in_tbl (in_tab1 11 rfl)) rfl
theorem kw_12 : (.code yX4_init cX4_init 1 none : Cond) ∈ wsG := in_wsG (in_tbl (in_tab1 12 rfl)) rfl
theorem kw_13 : (.methodLink RX4 1 objectInit : Cond) ∈ wsG := in_wsG (in_tbl (in_tab1 13 rfl)) rfl
theorem kw_14 : (.instanceMethod objectInit : Cond) ∈ wsG := in_wsG (in_tbl (in_tab1 14 rfl)) rfl
theorem kw_15 : (.code objectInit object_method_1_code 1 none : Cond) ∈ wsG := in_wsG (in_tbl (in_tab1 15 rfl)) rfl
theorem kw_16 : (.classLink RX4 13 RX3 : Cond) ∈ wsG := in_wsG (in_tbl (in_tab1 16 rfl)) rfl
theorem kw_17 : (.instantiable RX3 3 : Cond) ∈ wsG := in_wsG (in_tbl (in_tab1 17 rfl)) rfl
theorem kw_18 : (.methodLink RX4 15 yX3_init : Cond) ∈ wsG := in_wsG (in_tbl (in_tab1 18 rfl)) rfl
theorem kw_19 : (.instanceMethod yX3_init : Cond) ∈ wsG := in_wsG (in_tbl (in_tab1 19 rfl)) rfl
theorem kw_20 : (.code yX3_init cX3_init 1 none : Cond) ∈ wsG := in_wsG (in_tbl (in_tab1 20 rfl)) rfl
theorem kw_21 : (.methodLink RX3 3 objectInit : Cond) ∈ wsG := in_wsG (in_tbl (in_tab1 21 rfl)) rfl
theorem kw_22 : (.fieldLink RX3 9 "SignedCore$TypedRow" "signs" "[I" : Cond) ∈ wsG := in_wsG (in_tbl (in_tab1 22 rfl)) rfl
theorem kw_23 : (.fieldLink RX3 15 "SignedCore$TypedRow" "count" "I" : Cond) ∈ wsG := in_wsG (in_tbl (in_tab1 23 rfl)) rfl
theorem kw_24 : (.fieldLink RX3 19 "SignedCore$TypedRow" "taken" "I" : Cond) ∈ wsG := in_wsG (in_tbl (in_tab1 24 rfl)) rfl
theorem kw_25 : (.laysFinal "SignedCore$TypedRow" "SignedCore$TypedRow" "signs" "[I" : Cond) ∈ wsG := in_wsG (in_tbl (in_tab1 25 rfl)) rfl
theorem kw_27 : (.lays "SignedCore$TypedRow" "SignedCore$TypedRow" "count" "I" : Cond) ∈ wsG := in_wsG (in_tbl (in_tab1 27 rfl)) rfl
theorem kw_29 : (.lays "SignedCore$TypedRow" "SignedCore$TypedRow" "taken" "I" : Cond) ∈ wsG := in_wsG (in_tbl (in_tab1 29 rfl)) rfl
theorem kw_31 : (.superclass "SignedCore$TypedRow" "java/lang/Object" : Cond) ∈ wsG := in_wsG (in_tbl (in_tab1 31 rfl)) rfl
theorem kw_32 : (.arrayClass .int : Cond) ∈ wsG := in_wsG (in_tbl (in_tab1 32 rfl)) rfl
theorem kw_33 : (.classLink RX4 20 RX1 : Cond) ∈ wsG := in_wsG (in_tbl (in_tab1 33 rfl)) rfl
theorem kw_34 : (.instantiable RX1 3 : Cond) ∈ wsG := in_wsG (in_tbl (in_tab1 34 rfl)) rfl
theorem kw_35 : (.methodLink RX4 22 yX1_init : Cond) ∈ wsG := in_wsG (in_tbl (in_tab1 35 rfl)) rfl
theorem kw_36 : (.instanceMethod yX1_init : Cond) ∈ wsG := in_wsG (in_tbl (in_tab1 36 rfl)) rfl
theorem kw_37 : (.code yX1_init cX1_init 1 none : Cond) ∈ wsG := in_wsG (in_tbl (in_tab1 37 rfl)) rfl
theorem kw_38 : (.methodLink RX1 3 objectInit : Cond) ∈ wsG := in_wsG (in_tbl (in_tab1 38 rfl)) rfl
theorem kw_39 : (.fieldLink RX1 9 "SignedCore$SentRow" "signs" "[I" : Cond) ∈ wsG := in_wsG (in_tbl (in_tab1 39 rfl)) rfl
theorem kw_40 : (.fieldLink RX1 15 "SignedCore$SentRow" "count" "I" : Cond) ∈ wsG := in_wsG (in_tbl (in_tab1 40 rfl)) rfl
theorem kw_41 : (.fieldLinkNest RX4 150 "SignedCore$SentRow" "count" "I" "SignedCore" : Cond) ∈ lw_tbl := in_tbl (in_tab1 41 rfl)
theorem kw_42 : (.fieldLink RX1 19 "SignedCore$SentRow" "lost" "I" : Cond) ∈ wsG := in_wsG (in_tbl (in_tab1 42 rfl)) rfl
theorem kw_43 : (.fieldLinkNest RX4 147 "SignedCore$SentRow" "lost" "I" "SignedCore" : Cond) ∈ lw_tbl := in_tbl (in_tab1 43 rfl)
theorem kw_44 : (.laysFinal "SignedCore$SentRow" "SignedCore$SentRow" "signs" "[I" : Cond) ∈ wsG := in_wsG (in_tbl (in_tab1 44 rfl)) rfl
theorem kw_46 : (.lays "SignedCore$SentRow" "SignedCore$SentRow" "count" "I" : Cond) ∈ wsG := in_wsG (in_tbl (in_tab1 46 rfl)) rfl
theorem kw_48 : (.lays "SignedCore$SentRow" "SignedCore$SentRow" "lost" "I" : Cond) ∈ wsG := in_wsG (in_tbl (in_tab1 48 rfl)) rfl
theorem kw_50 : (.superclass "SignedCore$SentRow" "java/lang/Object" : Cond) ∈ wsG := in_wsG (in_tbl (in_tab1 50 rfl)) rfl
theorem kw_51 : (.classLink RX4 27 RX0 : Cond) ∈ wsG := in_wsG (in_tbl (in_tab1 51 rfl)) rfl
theorem kw_52 : (.instantiable RX0 3 : Cond) ∈ wsG := in_wsG (in_tbl (in_tab1 52 rfl)) rfl
theorem kw_53 : (.methodLink RX4 29 yX0_init : Cond) ∈ wsG := in_wsG (in_tbl (in_tab1 53 rfl)) rfl
theorem kw_54 : (.instanceMethod yX0_init : Cond) ∈ wsG := in_wsG (in_tbl (in_tab1 54 rfl)) rfl
theorem kw_55 : (.code yX0_init cX0_init 1 none : Cond) ∈ wsG := in_wsG (in_tbl (in_tab1 55 rfl)) rfl
theorem kw_56 : (.methodLink RX0 3 objectInit : Cond) ∈ wsG := in_wsG (in_tbl (in_tab1 56 rfl)) rfl
theorem kw_57 : (.fieldLink RX0 9 "SignedCore$Display" "xs" "[I" : Cond) ∈ wsG := in_wsG (in_tbl (in_tab1 57 rfl)) rfl
theorem kw_58 : (.fieldLink RX0 15 "SignedCore$Display" "ys" "[I" : Cond) ∈ wsG := in_wsG (in_tbl (in_tab1 58 rfl)) rfl
theorem kw_59 : (.fieldLink RX0 18 "SignedCore$Display" "total" "I" : Cond) ∈ wsG := in_wsG (in_tbl (in_tab1 59 rfl)) rfl
theorem kw_60 : (.fieldLinkNest RX4 144 "SignedCore$Display" "total" "I" "SignedCore" : Cond) ∈ lw_tbl := in_tbl (in_tab1 60 rfl)
theorem kw_61 : (.laysFinal "SignedCore$Display" "SignedCore$Display" "xs" "[I" : Cond) ∈ wsG := in_wsG (in_tbl (in_tab1 61 rfl)) rfl
theorem kw_63 : (.laysFinal "SignedCore$Display" "SignedCore$Display" "ys" "[I" : Cond) ∈ wsG := in_wsG (in_tbl (in_tab1 63 rfl)) rfl
theorem kw_65 : (.lays "SignedCore$Display" "SignedCore$Display" "total" "I" : Cond) ∈ wsG := in_wsG (in_tbl (in_tab1 65 rfl)) rfl
theorem kw_67 : (.superclass "SignedCore$Display" "java/lang/Object" : Cond) ∈ wsG := in_wsG (in_tbl (in_tab1 67 rfl)) rfl
theorem kw_68 : (.classLink RX4 34 RX2 : Cond) ∈ wsG := in_wsG (in_tbl (in_tab1 68 rfl)) rfl
theorem kw_69 : (.instantiable RX2 8 : Cond) ∈ wsG := in_wsG (in_tbl (in_tab1 69 rfl)) rfl
theorem kw_70 : (.methodLink RX4 36 yX2_init : Cond) ∈ wsG := in_wsG (in_tbl (in_tab1 70 rfl)) rfl
theorem kw_71 : (.instanceMethod yX2_init : Cond) ∈ wsG := in_wsG (in_tbl (in_tab1 71 rfl)) rfl
theorem kw_72 : (.code yX2_init cX2_init 1 none : Cond) ∈ wsG := in_wsG (in_tbl (in_tab1 72 rfl)) rfl
theorem kw_73 : (.methodLink RX2 3 objectInit : Cond) ∈ wsG := in_wsG (in_tbl (in_tab1 73 rfl)) rfl
theorem kw_74 : (.fieldLink RX2 15 "SignedCore$Tally" "steps" "I" : Cond) ∈ wsG := in_wsG (in_tbl (in_tab1 74 rfl)) rfl
theorem kw_75 : (.fieldLinkNest RX4 114 "SignedCore$Tally" "steps" "I" "SignedCore" : Cond) ∈ lw_tbl := in_tbl (in_tab1 75 rfl)
theorem kw_76 : (.fieldLink RX2 18 "SignedCore$Tally" "breaks" "I" : Cond) ∈ wsG := in_wsG (in_tbl (in_tab1 76 rfl)) rfl
theorem kw_77 : (.fieldLinkNest RX4 117 "SignedCore$Tally" "breaks" "I" "SignedCore" : Cond) ∈ lw_tbl := in_tbl (in_tab1 77 rfl)
theorem kw_78 : (.fieldLink RX2 21 "SignedCore$Tally" "chainWords" "I" : Cond) ∈ wsG := in_wsG (in_tbl (in_tab1 78 rfl)) rfl
theorem kw_79 : (.fieldLinkNest RX4 120 "SignedCore$Tally" "chainWords" "I" "SignedCore" : Cond) ∈ lw_tbl := in_tbl (in_tab1 79 rfl)
theorem kw_80 : (.fieldLink RX2 24 "SignedCore$Tally" "pointsPut" "I" : Cond) ∈ wsG := in_wsG (in_tbl (in_tab1 80 rfl)) rfl
theorem kw_81 : (.fieldLinkNest RX4 123 "SignedCore$Tally" "pointsPut" "I" "SignedCore" : Cond) ∈ lw_tbl := in_tbl (in_tab1 81 rfl)
theorem kw_82 : (.fieldLink RX2 27 "SignedCore$Tally" "skips" "I" : Cond) ∈ wsG := in_wsG (in_tbl (in_tab1 82 rfl)) rfl
theorem kw_83 : (.fieldLinkNest RX4 126 "SignedCore$Tally" "skips" "I" "SignedCore" : Cond) ∈ lw_tbl := in_tbl (in_tab1 83 rfl)
theorem kw_84 : (.fieldLink RX2 30 "SignedCore$Tally" "overflows" "I" : Cond) ∈ wsG := in_wsG (in_tbl (in_tab1 84 rfl)) rfl
theorem kw_85 : (.fieldLinkNest RX4 129 "SignedCore$Tally" "overflows" "I" "SignedCore" : Cond) ∈ lw_tbl := in_tbl (in_tab1 85 rfl)
theorem kw_86 : (.fieldLink RX2 9 "SignedCore$Tally" "haltedAt" "I" : Cond) ∈ wsG := in_wsG (in_tbl (in_tab1 86 rfl)) rfl
theorem kw_87 : (.fieldLinkNest RX4 111 "SignedCore$Tally" "haltedAt" "I" "SignedCore" : Cond) ∈ lw_tbl := in_tbl (in_tab1 87 rfl)
theorem kw_88 : (.fieldLink RX2 33 "SignedCore$Tally" "allSteps" "I" : Cond) ∈ wsG := in_wsG (in_tbl (in_tab1 88 rfl)) rfl
theorem kw_89 : (.fieldLinkNest RX4 132 "SignedCore$Tally" "allSteps" "I" "SignedCore" : Cond) ∈ lw_tbl := in_tbl (in_tab1 89 rfl)
theorem kw_90 : (.lays "SignedCore$Tally" "SignedCore$Tally" "steps" "I" : Cond) ∈ wsG := in_wsG (in_tbl (in_tab1 90 rfl)) rfl
theorem kw_92 : (.lays "SignedCore$Tally" "SignedCore$Tally" "breaks" "I" : Cond) ∈ wsG := in_wsG (in_tbl (in_tab1 92 rfl)) rfl
theorem kw_94 : (.lays "SignedCore$Tally" "SignedCore$Tally" "chainWords" "I" : Cond) ∈ wsG := in_wsG (in_tbl (in_tab1 94 rfl)) rfl
theorem kw_96 : (.lays "SignedCore$Tally" "SignedCore$Tally" "pointsPut" "I" : Cond) ∈ wsG := in_wsG (in_tbl (in_tab1 96 rfl)) rfl
theorem kw_98 : (.lays "SignedCore$Tally" "SignedCore$Tally" "skips" "I" : Cond) ∈ wsG := in_wsG (in_tbl (in_tab1 98 rfl)) rfl
theorem kw_100 : (.lays "SignedCore$Tally" "SignedCore$Tally" "overflows" "I" : Cond) ∈ wsG := in_wsG (in_tbl (in_tab1 100 rfl)) rfl
theorem kw_102 : (.lays "SignedCore$Tally" "SignedCore$Tally" "haltedAt" "I" : Cond) ∈ wsG := in_wsG (in_tbl (in_tab1 102 rfl)) rfl
theorem kw_104 : (.lays "SignedCore$Tally" "SignedCore$Tally" "allSteps" "I" : Cond) ∈ wsG := in_wsG (in_tbl (in_tab1 104 rfl)) rfl
theorem kw_106 : (.superclass "SignedCore$Tally" "java/lang/Object" : Cond) ∈ wsG := in_wsG (in_tbl (in_tab1 106 rfl)) rfl
theorem kw_107 : (.fieldLink RX4 9 "SignedCore" "cells" "[I" : Cond) ∈ wsG := in_wsG (in_tbl (in_tab1 107 rfl)) rfl
theorem kw_108 : (.fieldLink RX4 58 "SignedCore" "ac" "I" : Cond) ∈ wsG := in_wsG (in_tbl (in_tab1 108 rfl)) rfl
theorem kw_109 : (.fieldLink RX4 62 "SignedCore" "io" "I" : Cond) ∈ wsG := in_wsG (in_tbl (in_tab1 109 rfl)) rfl
theorem kw_110 : (.fieldLink RX4 65 "SignedCore" "pc" "I" : Cond) ∈ wsG := in_wsG (in_tbl (in_tab1 110 rfl)) rfl
theorem kw_111 : (.fieldLink RX4 68 "SignedCore" "ov" "I" : Cond) ∈ wsG := in_wsG (in_tbl (in_tab1 111 rfl)) rfl
theorem kw_112 : (.fieldLink RX4 71 "SignedCore" "flags" "I" : Cond) ∈ wsG := in_wsG (in_tbl (in_tab1 112 rfl)) rfl
theorem kw_113 : (.fieldLink RX4 74 "SignedCore" "breakOn" "I" : Cond) ∈ wsG := in_wsG (in_tbl (in_tab1 113 rfl)) rfl
theorem kw_114 : (.fieldLink RX4 77 "SignedCore" "breakAsked" "I" : Cond) ∈ wsG := in_wsG (in_tbl (in_tab1 114 rfl)) rfl
theorem kw_115 : (.fieldLink RX4 80 "SignedCore" "breakUnderWay" "I" : Cond) ∈ wsG := in_wsG (in_tbl (in_tab1 115 rfl)) rfl
theorem kw_116 : (.fieldLink RX4 89 "SignedCore" "switchBits" "I" : Cond) ∈ wsG := in_wsG (in_tbl (in_tab1 116 rfl)) rfl
theorem kw_117 : (.fieldLink RX4 92 "SignedCore" "testWord" "I" : Cond) ∈ wsG := in_wsG (in_tbl (in_tab1 117 rfl)) rfl
theorem kw_118 : (.fieldLink RX4 16 "SignedCore" "typedRow" "LSignedCore$TypedRow;" : Cond) ∈ wsG := in_wsG (in_tbl (in_tab1 118 rfl)) rfl
theorem kw_119 : (.fieldLink RX4 23 "SignedCore" "sentRow" "LSignedCore$SentRow;" : Cond) ∈ wsG := in_wsG (in_tbl (in_tab1 119 rfl)) rfl
theorem kw_120 : (.fieldLink RX4 30 "SignedCore" "display" "LSignedCore$Display;" : Cond) ∈ wsG := in_wsG (in_tbl (in_tab1 120 rfl)) rfl
theorem kw_121 : (.fieldLink RX4 37 "SignedCore" "tally" "LSignedCore$Tally;" : Cond) ∈ wsG := in_wsG (in_tbl (in_tab1 121 rfl)) rfl
theorem kw_122 : (.laysFinal "SignedCore" "SignedCore" "cells" "[I" : Cond) ∈ wsG := in_wsG (in_tbl (in_tab1 122 rfl)) rfl
theorem kw_124 : (.lays "SignedCore" "SignedCore" "ac" "I" : Cond) ∈ wsG := in_wsG (in_tbl (in_tab1 124 rfl)) rfl
theorem kw_126 : (.lays "SignedCore" "SignedCore" "io" "I" : Cond) ∈ wsG := in_wsG (in_tbl (in_tab1 126 rfl)) rfl
theorem kw_128 : (.lays "SignedCore" "SignedCore" "pc" "I" : Cond) ∈ wsG := in_wsG (in_tbl (in_tab1 128 rfl)) rfl
theorem kw_130 : (.lays "SignedCore" "SignedCore" "ov" "I" : Cond) ∈ wsG := in_wsG (in_tbl (in_tab1 130 rfl)) rfl
theorem kw_132 : (.lays "SignedCore" "SignedCore" "flags" "I" : Cond) ∈ wsG := in_wsG (in_tbl (in_tab1 132 rfl)) rfl
theorem kw_134 : (.lays "SignedCore" "SignedCore" "breakOn" "I" : Cond) ∈ wsG := in_wsG (in_tbl (in_tab1 134 rfl)) rfl
theorem kw_136 : (.lays "SignedCore" "SignedCore" "breakAsked" "I" : Cond) ∈ wsG := in_wsG (in_tbl (in_tab1 136 rfl)) rfl
theorem kw_138 : (.lays "SignedCore" "SignedCore" "breakUnderWay" "I" : Cond) ∈ wsG := in_wsG (in_tbl (in_tab1 138 rfl)) rfl
theorem kw_140 : (.lays "SignedCore" "SignedCore" "switchBits" "I" : Cond) ∈ wsG := in_wsG (in_tbl (in_tab1 140 rfl)) rfl
theorem kw_142 : (.lays "SignedCore" "SignedCore" "testWord" "I" : Cond) ∈ wsG := in_wsG (in_tbl (in_tab1 142 rfl)) rfl
theorem kw_144 : (.laysFinal "SignedCore" "SignedCore" "typedRow" "LSignedCore$TypedRow;" : Cond) ∈ wsG := in_wsG (in_tbl (in_tab1 144 rfl)) rfl
theorem kw_146 : (.laysFinal "SignedCore" "SignedCore" "sentRow" "LSignedCore$SentRow;" : Cond) ∈ wsG := in_wsG (in_tbl (in_tab1 146 rfl)) rfl
theorem kw_148 : (.laysFinal "SignedCore" "SignedCore" "display" "LSignedCore$Display;" : Cond) ∈ wsG := in_wsG (in_tbl (in_tab1 148 rfl)) rfl
theorem kw_150 : (.laysFinal "SignedCore" "SignedCore" "tally" "LSignedCore$Tally;" : Cond) ∈ wsG := in_wsG (in_tbl (in_tab1 150 rfl)) rfl
theorem kw_152 : (.superclass "SignedCore" "java/lang/Object" : Cond) ∈ wsG := in_wsG (in_tbl (in_tab1 152 rfl)) rfl
theorem kw_153 : (.methodLink RL 13 yX4_put : Cond) ∈ wsG := in_wsG (in_tbl (in_tab1 153 rfl)) rfl
theorem kw_154 : (.instanceMethod yX4_put : Cond) ∈ wsG := in_wsG (in_tbl (in_tab1 154 rfl)) rfl
theorem kw_155 : (.selects RX4 yX4_put yX4_put : Cond) ∈ wsG := in_wsG (in_tbl (in_tab1 155 rfl)) rfl
theorem kw_156 : (.code yX4_put cX4_put 4 (some .int) : Cond) ∈ wsG := in_wsG (in_tbl (in_tab1 156 rfl)) rfl
theorem kw_157 : (.methodLink RX4 41 yX4_isAddress : Cond) ∈ wsG := in_wsG (in_tbl (in_tab1 157 rfl)) rfl
theorem kw_158 : (.static yX4_isAddress : Cond) ∈ wsG := in_wsG (in_tbl (in_tab1 158 rfl)) rfl
theorem kw_159 : (.code yX4_isAddress cX4_isAddress 1 (some .boolean) : Cond) ∈ wsG := in_wsG (in_tbl (in_tab1 159 rfl)) rfl
theorem kw_160 : (.methodLink RX4 45 yX4_isWord : Cond) ∈ wsG := in_wsG (in_tbl (in_tab1 160 rfl)) rfl
theorem kw_161 : (.static yX4_isWord : Cond) ∈ wsG := in_wsG (in_tbl (in_tab1 161 rfl)) rfl
theorem kw_162 : (.code yX4_isWord cX4_isWord 1 (some .boolean) : Cond) ∈ wsG := in_wsG (in_tbl (in_tab1 162 rfl)) rfl
theorem kw_163 : (.constant RX4 160 (262143) : Cond) ∈ wsG := in_wsG (in_tbl (in_tab1 163 rfl)) rfl
theorem kw_164 : (.methodLink RX4 48 yX4_fetch : Cond) ∈ wsG := in_wsG (in_tbl (in_tab1 164 rfl)) rfl
theorem kw_166 : (.instanceMethod yX4_fetch : Cond) ∈ wsG := in_wsG (in_tbl (in_tab1 166 rfl)) rfl
theorem kw_167 : (.code yX4_fetch cX4_fetch 2 (some .int) : Cond) ∈ wsG := in_wsG (in_tbl (in_tab1 167 rfl)) rfl
theorem kw_168 : (.methodLink RX4 52 yX4_store : Cond) ∈ wsG := in_wsG (in_tbl (in_tab1 168 rfl)) rfl
theorem kw_170 : (.instanceMethod yX4_store : Cond) ∈ wsG := in_wsG (in_tbl (in_tab1 170 rfl)) rfl
theorem kw_171 : (.code yX4_store cX4_store 3 none : Cond) ∈ wsG := in_wsG (in_tbl (in_tab1 171 rfl)) rfl
theorem kw_172 : (.methodLink RL 18 yX4_core : Cond) ∈ wsG := in_wsG (in_tbl (in_tab1 172 rfl)) rfl
theorem kw_173 : (.instanceMethod yX4_core : Cond) ∈ wsG := in_wsG (in_tbl (in_tab1 173 rfl)) rfl
theorem kw_174 : (.selects RX4 yX4_core yX4_core : Cond) ∈ wsG := in_wsG (in_tbl (in_tab1 174 rfl)) rfl
theorem kw_175 : (.code yX4_core cX4_core 2 (some .int) : Cond) ∈ wsG := in_wsG (in_tbl (in_tab1 175 rfl)) rfl
theorem kw_176 : (.methodLink RL 25 yX4_load : Cond) ∈ wsG := in_wsG (in_tbl (in_tab1 176 rfl)) rfl
theorem kw_177 : (.instanceMethod yX4_load : Cond) ∈ wsG := in_wsG (in_tbl (in_tab1 177 rfl)) rfl
theorem kw_178 : (.selects RX4 yX4_load yX4_load : Cond) ∈ wsG := in_wsG (in_tbl (in_tab1 178 rfl)) rfl
theorem kw_179 : (.code yX4_load cX4_load 8 (some .int) : Cond) ∈ wsG := in_wsG (in_tbl (in_tab1 179 rfl)) rfl
theorem kw_180 : (.constantLong RX4 56 (262143) : Cond) ∈ wsG := in_wsG (in_tbl (in_tab1 180 rfl)) rfl
theorem kw_181 : (.methodLink RL 30 yX4_told : Cond) ∈ wsG := in_wsG (in_tbl (in_tab1 181 rfl)) rfl
theorem kw_182 : (.instanceMethod yX4_told : Cond) ∈ wsG := in_wsG (in_tbl (in_tab1 182 rfl)) rfl
theorem kw_183 : (.selects RX4 yX4_told yX4_told : Cond) ∈ wsG := in_wsG (in_tbl (in_tab1 183 rfl)) rfl
theorem kw_184 : (.code yX4_told cX4_told 2 (some .int) : Cond) ∈ wsG := in_wsG (in_tbl (in_tab1 184 rfl)) rfl
theorem kw_185 : (.methodLink RL 34 yX4_set : Cond) ∈ wsG := in_wsG (in_tbl (in_tab1 185 rfl)) rfl
theorem kw_186 : (.instanceMethod yX4_set : Cond) ∈ wsG := in_wsG (in_tbl (in_tab1 186 rfl)) rfl
theorem kw_187 : (.selects RX4 yX4_set yX4_set : Cond) ∈ wsG := in_wsG (in_tbl (in_tab1 187 rfl)) rfl
theorem kw_188 : (.code yX4_set cX4_set 4 (some .int) : Cond) ∈ wsG := in_wsG (in_tbl (in_tab1 188 rfl)) rfl
theorem kw_189 : (.methodLink RX4 83 yX4_mostOf : Cond) ∈ wsG := in_wsG (in_tbl (in_tab1 189 rfl)) rfl
theorem kw_190 : (.static yX4_mostOf : Cond) ∈ wsG := in_wsG (in_tbl (in_tab1 190 rfl)) rfl
theorem kw_191 : (.code yX4_mostOf cX4_mostOf 1 (some .int) : Cond) ∈ wsG := in_wsG (in_tbl (in_tab1 191 rfl)) rfl
theorem kw_192 : (.methodLink RX4 86 yX4_told : Cond) ∈ wsG := in_wsG (in_tbl (in_tab1 192 rfl)) rfl
theorem kw_193 : (.methodLink RL 38 yX4_switches : Cond) ∈ wsG := in_wsG (in_tbl (in_tab1 193 rfl)) rfl
theorem kw_194 : (.instanceMethod yX4_switches : Cond) ∈ wsG := in_wsG (in_tbl (in_tab1 194 rfl)) rfl
theorem kw_195 : (.selects RX4 yX4_switches yX4_switches : Cond) ∈ wsG := in_wsG (in_tbl (in_tab1 195 rfl)) rfl
theorem kw_196 : (.code yX4_switches cX4_switches 4 (some .int) : Cond) ∈ wsG := in_wsG (in_tbl (in_tab1 196 rfl)) rfl
theorem kw_197 : (.methodLink RL 42 yX4_type : Cond) ∈ wsG := in_wsG (in_tbl (in_tab1 197 rfl)) rfl
theorem kw_198 : (.instanceMethod yX4_type : Cond) ∈ wsG := in_wsG (in_tbl (in_tab1 198 rfl)) rfl
theorem kw_199 : (.selects RX4 yX4_type yX4_type : Cond) ∈ wsG := in_wsG (in_tbl (in_tab1 199 rfl)) rfl
theorem kw_200 : (.code yX4_type cX4_type 2 (some .int) : Cond) ∈ wsG := in_wsG (in_tbl (in_tab1 200 rfl)) rfl
theorem kw_201 : (.methodLink RX4 95 yX3_append : Cond) ∈ wsG := in_wsG (in_tbl (in_tab1 201 rfl)) rfl
theorem kw_202 : (.instanceMethod yX3_append : Cond) ∈ wsG := in_wsG (in_tbl (in_tab1 202 rfl)) rfl
theorem kw_203 : (.selects RX3 yX3_append yX3_append : Cond) ∈ wsG := in_wsG (in_tbl (in_tab1 203 rfl)) rfl
theorem kw_204 : (.code yX3_append cX3_append 2 (some .boolean) : Cond) ∈ wsG := in_wsG (in_tbl (in_tab1 204 rfl)) rfl
theorem kw_205 : (.methodLink RX4 98 yX3_waiting : Cond) ∈ wsG := in_wsG (in_tbl (in_tab1 205 rfl)) rfl
theorem kw_206 : (.instanceMethod yX3_waiting : Cond) ∈ wsG := in_wsG (in_tbl (in_tab1 206 rfl)) rfl
theorem kw_207 : (.selects RX3 yX3_waiting yX3_waiting : Cond) ∈ wsG := in_wsG (in_tbl (in_tab1 207 rfl)) rfl
theorem kw_208 : (.code yX3_waiting cX3_waiting 1 (some .int) : Cond) ∈ wsG := in_wsG (in_tbl (in_tab1 208 rfl)) rfl
theorem kw_209 : (.methodLink RL 46 yX4_ask : Cond) ∈ wsG := in_wsG (in_tbl (in_tab1 209 rfl)) rfl
theorem kw_210 : (.instanceMethod yX4_ask : Cond) ∈ wsG := in_wsG (in_tbl (in_tab1 210 rfl)) rfl
theorem kw_211 : (.selects RX4 yX4_ask yX4_ask : Cond) ∈ wsG := in_wsG (in_tbl (in_tab1 211 rfl)) rfl
theorem kw_212 : (.code yX4_ask cX4_ask 2 (some .int) : Cond) ∈ wsG := in_wsG (in_tbl (in_tab1 212 rfl)) rfl
theorem kw_213 : (.methodLink RL 51 yX4_run : Cond) ∈ wsG := in_wsG (in_tbl (in_tab1 213 rfl)) rfl
theorem kw_214 : (.instanceMethod yX4_run : Cond) ∈ wsG := in_wsG (in_tbl (in_tab1 214 rfl)) rfl
theorem kw_215 : (.selects RX4 yX4_run yX4_run : Cond) ∈ wsG := in_wsG (in_tbl (in_tab1 215 rfl)) rfl
theorem kw_216 : (.code yX4_run cX4_run 5 (some .int) : Cond) ∈ wsG := in_wsG (in_tbl (in_tab1 216 rfl)) rfl
theorem kw_217 : (.methodLink RX4 102 yX2_begin : Cond) ∈ wsG := in_wsG (in_tbl (in_tab1 217 rfl)) rfl
theorem kw_218 : (.instanceMethod yX2_begin : Cond) ∈ wsG := in_wsG (in_tbl (in_tab1 218 rfl)) rfl
theorem kw_219 : (.selects RX2 yX2_begin yX2_begin : Cond) ∈ wsG := in_wsG (in_tbl (in_tab1 219 rfl)) rfl
theorem kw_220 : (.code yX2_begin cX2_begin 1 none : Cond) ∈ wsG := in_wsG (in_tbl (in_tab1 220 rfl)) rfl
theorem kw_221 : (.methodLink RX4 105 yX4_step : Cond) ∈ wsG := in_wsG (in_tbl (in_tab1 221 rfl)) rfl
theorem kw_223 : (.instanceMethod yX4_step : Cond) ∈ wsG := in_wsG (in_tbl (in_tab1 223 rfl)) rfl
theorem kw_224 : (.code yX4_step cX4_step 3 (some .int) : Cond) ∈ wsG := in_wsG (in_tbl (in_tab1 224 rfl)) rfl
theorem kw_225 : (.methodLink RX4 191 yX4_beginBreak : Cond) ∈ wsG := in_wsG (in_tbl (in_tab1 225 rfl)) rfl
theorem kw_227 : (.instanceMethod yX4_beginBreak : Cond) ∈ wsG := in_wsG (in_tbl (in_tab1 227 rfl)) rfl
theorem kw_228 : (.code yX4_beginBreak cX4_beginBreak 1 none : Cond) ∈ wsG := in_wsG (in_tbl (in_tab1 228 rfl)) rfl
theorem kw_229 : (.methodLink RX4 200 yX4_place : Cond) ∈ wsG := in_wsG (in_tbl (in_tab1 229 rfl)) rfl
theorem kw_231 : (.instanceMethod yX4_place : Cond) ∈ wsG := in_wsG (in_tbl (in_tab1 231 rfl)) rfl
theorem kw_232 : (.code yX4_place cX4_place 1 (some .int) : Cond) ∈ wsG := in_wsG (in_tbl (in_tab1 232 rfl)) rfl
theorem kw_233 : (.constant RX4 179 (131072) : Cond) ∈ wsG := in_wsG (in_tbl (in_tab1 233 rfl)) rfl
theorem kw_234 : (.methodLink RX4 188 yX4_advance : Cond) ∈ wsG := in_wsG (in_tbl (in_tab1 234 rfl)) rfl
theorem kw_236 : (.instanceMethod yX4_advance : Cond) ∈ wsG := in_wsG (in_tbl (in_tab1 236 rfl)) rfl
theorem kw_237 : (.code yX4_advance cX4_advance 1 none : Cond) ∈ wsG := in_wsG (in_tbl (in_tab1 237 rfl)) rfl
theorem kw_238 : (.methodLink RX4 194 yX4_followXct : Cond) ∈ wsG := in_wsG (in_tbl (in_tab1 238 rfl)) rfl
theorem kw_240 : (.instanceMethod yX4_followXct : Cond) ∈ wsG := in_wsG (in_tbl (in_tab2 0 rfl)) rfl
theorem kw_241 : (.code yX4_followXct cX4_followXct 5 (some .int) : Cond) ∈ wsG := in_wsG (in_tbl (in_tab2 1 rfl)) rfl
theorem kw_242 : (.methodLink RX4 163 yX4_codeOf : Cond) ∈ wsG := in_wsG (in_tbl (in_tab2 2 rfl)) rfl
theorem kw_243 : (.static yX4_codeOf : Cond) ∈ wsG := in_wsG (in_tbl (in_tab2 3 rfl)) rfl
theorem kw_244 : (.code yX4_codeOf cX4_codeOf 1 (some .int) : Cond) ∈ wsG := in_wsG (in_tbl (in_tab2 4 rfl)) rfl
theorem kw_245 : (.methodLink RX4 203 yX4_addressOf : Cond) ∈ wsG := in_wsG (in_tbl (in_tab2 5 rfl)) rfl
theorem kw_247 : (.instanceMethod yX4_addressOf : Cond) ∈ wsG := in_wsG (in_tbl (in_tab2 7 rfl)) rfl
theorem kw_248 : (.code yX4_addressOf cX4_addressOf 4 (some .int) : Cond) ∈ wsG := in_wsG (in_tbl (in_tab2 8 rfl)) rfl
theorem kw_249 : (.methodLink RX4 166 yX4_hasI : Cond) ∈ wsG := in_wsG (in_tbl (in_tab2 9 rfl)) rfl
theorem kw_250 : (.static yX4_hasI : Cond) ∈ wsG := in_wsG (in_tbl (in_tab2 10 rfl)) rfl
theorem kw_251 : (.code yX4_hasI cX4_hasI 1 (some .boolean) : Cond) ∈ wsG := in_wsG (in_tbl (in_tab2 11 rfl)) rfl
theorem kw_252 : (.methodLink RX4 169 yX4_yOf : Cond) ∈ wsG := in_wsG (in_tbl (in_tab2 12 rfl)) rfl
theorem kw_253 : (.static yX4_yOf : Cond) ∈ wsG := in_wsG (in_tbl (in_tab2 13 rfl)) rfl
theorem kw_254 : (.code yX4_yOf cX4_yOf 1 (some .int) : Cond) ∈ wsG := in_wsG (in_tbl (in_tab2 14 rfl)) rfl
theorem kw_255 : (.methodLink RX4 197 yX4_perform : Cond) ∈ wsG := in_wsG (in_tbl (in_tab2 15 rfl)) rfl
theorem kw_257 : (.instanceMethod yX4_perform : Cond) ∈ wsG := in_wsG (in_tbl (in_tab2 17 rfl)) rfl
theorem kw_258 : (.code yX4_perform cX4_perform 3 (some .int) : Cond) ∈ wsG := in_wsG (in_tbl (in_tab2 18 rfl)) rfl
theorem kw_259 : (.methodLink RX4 176 yX4_isIllegal : Cond) ∈ wsG := in_wsG (in_tbl (in_tab2 19 rfl)) rfl
theorem kw_260 : (.static yX4_isIllegal : Cond) ∈ wsG := in_wsG (in_tbl (in_tab2 20 rfl)) rfl
theorem kw_261 : (.code yX4_isIllegal cX4_isIllegal 1 (some .boolean) : Cond) ∈ wsG := in_wsG (in_tbl (in_tab2 21 rfl)) rfl
theorem kw_262 : (.methodLink RX4 185 yX4_shiftKindOf : Cond) ∈ wsG := in_wsG (in_tbl (in_tab2 22 rfl)) rfl
theorem kw_263 : (.static yX4_shiftKindOf : Cond) ∈ wsG := in_wsG (in_tbl (in_tab2 23 rfl)) rfl
theorem kw_264 : (.code yX4_shiftKindOf cX4_shiftKindOf 1 (some .int) : Cond) ∈ wsG := in_wsG (in_tbl (in_tab2 24 rfl)) rfl
theorem kw_265 : (.methodLink RX4 206 yX4_endsBreak : Cond) ∈ wsG := in_wsG (in_tbl (in_tab2 25 rfl)) rfl
theorem kw_267 : (.instanceMethod yX4_endsBreak : Cond) ∈ wsG := in_wsG (in_tbl (in_tab2 27 rfl)) rfl
theorem kw_268 : (.code yX4_endsBreak cX4_endsBreak 2 (some .boolean) : Cond) ∈ wsG := in_wsG (in_tbl (in_tab2 28 rfl)) rfl
theorem kw_269 : (.methodLink RX4 209 yX4_endBreak : Cond) ∈ wsG := in_wsG (in_tbl (in_tab2 29 rfl)) rfl
theorem kw_271 : (.instanceMethod yX4_endBreak : Cond) ∈ wsG := in_wsG (in_tbl (in_tab2 31 rfl)) rfl
theorem kw_272 : (.code yX4_endBreak cX4_endBreak 2 none : Cond) ∈ wsG := in_wsG (in_tbl (in_tab2 32 rfl)) rfl
theorem kw_273 : (.methodLink RX4 157 yX4_signOf : Cond) ∈ wsG := in_wsG (in_tbl (in_tab2 33 rfl)) rfl
theorem kw_274 : (.static yX4_signOf : Cond) ∈ wsG := in_wsG (in_tbl (in_tab2 34 rfl)) rfl
theorem kw_275 : (.code yX4_signOf cX4_signOf 1 (some .int) : Cond) ∈ wsG := in_wsG (in_tbl (in_tab2 35 rfl)) rfl
theorem kw_276 : (.methodLink RX4 173 yX4_hasAddress : Cond) ∈ wsG := in_wsG (in_tbl (in_tab2 36 rfl)) rfl
theorem kw_277 : (.static yX4_hasAddress : Cond) ∈ wsG := in_wsG (in_tbl (in_tab2 37 rfl)) rfl
theorem kw_278 : (.code yX4_hasAddress cX4_hasAddress 2 (some .boolean) : Cond) ∈ wsG := in_wsG (in_tbl (in_tab2 38 rfl)) rfl
theorem kw_279 : (.methodLink RX4 212 yX4_performWithoutAddress : Cond) ∈ wsG := in_wsG (in_tbl (in_tab2 39 rfl)) rfl
theorem kw_281 : (.instanceMethod yX4_performWithoutAddress : Cond) ∈ wsG := in_wsG (in_tbl (in_tab2 41 rfl)) rfl
theorem kw_282 : (.code yX4_performWithoutAddress cX4_performWithoutAddress 2 (some .int) : Cond) ∈ wsG := in_wsG (in_tbl (in_tab2 42 rfl)) rfl
theorem kw_283 : (.methodLink RX4 218 yX4_callAt : Cond) ∈ wsG := in_wsG (in_tbl (in_tab2 43 rfl)) rfl
theorem kw_285 : (.instanceMethod yX4_callAt : Cond) ∈ wsG := in_wsG (in_tbl (in_tab2 45 rfl)) rfl
theorem kw_286 : (.code yX4_callAt cX4_callAt 2 none : Cond) ∈ wsG := in_wsG (in_tbl (in_tab2 46 rfl)) rfl
theorem kw_287 : (.methodLink RX4 222 yX4_someHolds : Cond) ∈ wsG := in_wsG (in_tbl (in_tab2 47 rfl)) rfl
theorem kw_289 : (.instanceMethod yX4_someHolds : Cond) ∈ wsG := in_wsG (in_tbl (in_tab2 49 rfl)) rfl
theorem kw_290 : (.code yX4_someHolds cX4_someHolds 3 (some .boolean) : Cond) ∈ wsG := in_wsG (in_tbl (in_tab2 50 rfl)) rfl
theorem kw_291 : (.methodLink RX4 275 yX4_isOff : Cond) ∈ wsG := in_wsG (in_tbl (in_tab2 51 rfl)) rfl
theorem kw_292 : (.static yX4_isOff : Cond) ∈ wsG := in_wsG (in_tbl (in_tab2 52 rfl)) rfl
theorem kw_293 : (.code yX4_isOff cX4_isOff 2 (some .boolean) : Cond) ∈ wsG := in_wsG (in_tbl (in_tab2 53 rfl)) rfl
theorem kw_294 : (.methodLink RX4 225 yX4_skipIf : Cond) ∈ wsG := in_wsG (in_tbl (in_tab2 54 rfl)) rfl
theorem kw_296 : (.instanceMethod yX4_skipIf : Cond) ∈ wsG := in_wsG (in_tbl (in_tab2 56 rfl)) rfl
theorem kw_297 : (.code yX4_skipIf cX4_skipIf 2 none : Cond) ∈ wsG := in_wsG (in_tbl (in_tab2 57 rfl)) rfl
theorem kw_298 : (.methodLink RX4 170 yX4_onesOf : Cond) ∈ wsG := in_wsG (in_tbl (in_tab2 58 rfl)) rfl
theorem kw_299 : (.static yX4_onesOf : Cond) ∈ wsG := in_wsG (in_tbl (in_tab2 59 rfl)) rfl
theorem kw_300 : (.code yX4_onesOf cX4_onesOf 1 (some .int) : Cond) ∈ wsG := in_wsG (in_tbl (in_tab2 60 rfl)) rfl
theorem kw_301 : (.methodLink RX4 180 yJ6_bitCount_0f7a4 : Cond) ∈ wsG := in_wsG (in_tbl (in_tab2 61 rfl)) rfl
theorem kw_302 : (.static yJ6_bitCount_0f7a4 : Cond) ∈ wsG := in_wsG (in_tbl (in_tab2 62 rfl)) rfl
theorem kw_303 : (.code yJ6_bitCount_0f7a4 cJ6_bitCount_0f7a4 1 (some .int) : Cond) ∈ wsG := in_wsG (in_tbl (in_tab2 63 rfl)) rfl
theorem kw_304 : (.constant RJ6 265 (1431655765) : Cond) ∈ wsG := in_wsG (in_tbl (in_tab2 64 rfl)) rfl
theorem kw_305 : (.constant RJ6 266 (858993459) : Cond) ∈ wsG := in_wsG (in_tbl (in_tab2 65 rfl)) rfl
theorem kw_306 : (.constant RJ6 267 (252645135) : Cond) ∈ wsG := in_wsG (in_tbl (in_tab2 66 rfl)) rfl
theorem kw_307 : (.methodLink RX4 229 yX4_shift : Cond) ∈ wsG := in_wsG (in_tbl (in_tab2 67 rfl)) rfl
theorem kw_309 : (.instanceMethod yX4_shift : Cond) ∈ wsG := in_wsG (in_tbl (in_tab2 69 rfl)) rfl
theorem kw_310 : (.code yX4_shift cX4_shift 4 none : Cond) ∈ wsG := in_wsG (in_tbl (in_tab2 70 rfl)) rfl
theorem kw_311 : (.methodLink RX4 279 yX4_moved : Cond) ∈ wsG := in_wsG (in_tbl (in_tab2 71 rfl)) rfl
theorem kw_312 : (.static yX4_moved : Cond) ∈ wsG := in_wsG (in_tbl (in_tab2 72 rfl)) rfl
theorem kw_313 : (.code yX4_moved cX4_moved 8 (some .long) : Cond) ∈ wsG := in_wsG (in_tbl (in_tab2 73 rfl)) rfl
theorem kw_314 : (.methodLink RX4 283 yX4_movedOnce : Cond) ∈ wsG := in_wsG (in_tbl (in_tab2 74 rfl)) rfl
theorem kw_315 : (.static yX4_movedOnce : Cond) ∈ wsG := in_wsG (in_tbl (in_tab2 75 rfl)) rfl
theorem kw_316 : (.code yX4_movedOnce cX4_movedOnce 8 (some .long) : Cond) ∈ wsG := in_wsG (in_tbl (in_tab2 76 rfl)) rfl
theorem kw_317 : (.methodLink RX4 267 yX4_both : Cond) ∈ wsG := in_wsG (in_tbl (in_tab2 77 rfl)) rfl
theorem kw_319 : (.instanceMethod yX4_both : Cond) ∈ wsG := in_wsG (in_tbl (in_tab2 79 rfl)) rfl
theorem kw_320 : (.code yX4_both cX4_both 1 (some .long) : Cond) ∈ wsG := in_wsG (in_tbl (in_tab2 80 rfl)) rfl
theorem kw_321 : (.methodLink RX4 271 yX4_setBoth : Cond) ∈ wsG := in_wsG (in_tbl (in_tab2 81 rfl)) rfl
theorem kw_323 : (.instanceMethod yX4_setBoth : Cond) ∈ wsG := in_wsG (in_tbl (in_tab2 83 rfl)) rfl
theorem kw_324 : (.code yX4_setBoth cX4_setBoth 3 none : Cond) ∈ wsG := in_wsG (in_tbl (in_tab2 84 rfl)) rfl
theorem kw_325 : (.methodLink RX4 232 yX4_not : Cond) ∈ wsG := in_wsG (in_tbl (in_tab2 85 rfl)) rfl
theorem kw_326 : (.static yX4_not : Cond) ∈ wsG := in_wsG (in_tbl (in_tab2 86 rfl)) rfl
theorem kw_327 : (.code yX4_not cX4_not 1 (some .int) : Cond) ∈ wsG := in_wsG (in_tbl (in_tab2 87 rfl)) rfl
theorem kw_328 : (.methodLink RX4 235 yX4_transfer : Cond) ∈ wsG := in_wsG (in_tbl (in_tab2 88 rfl)) rfl
theorem kw_330 : (.instanceMethod yX4_transfer : Cond) ∈ wsG := in_wsG (in_tbl (in_tab2 90 rfl)) rfl
theorem kw_331 : (.code yX4_transfer cX4_transfer 2 none : Cond) ∈ wsG := in_wsG (in_tbl (in_tab2 91 rfl)) rfl
theorem kw_332 : (.methodLink RX4 287 yX1_append : Cond) ∈ wsG := in_wsG (in_tbl (in_tab2 92 rfl)) rfl
theorem kw_333 : (.instanceMethod yX1_append : Cond) ∈ wsG := in_wsG (in_tbl (in_tab2 93 rfl)) rfl
theorem kw_334 : (.selects RX1 yX1_append yX1_append : Cond) ∈ wsG := in_wsG (in_tbl (in_tab2 94 rfl)) rfl
theorem kw_335 : (.code yX1_append cX1_append 2 none : Cond) ∈ wsG := in_wsG (in_tbl (in_tab2 95 rfl)) rfl
theorem kw_336 : (.methodLink RX4 289 yX3_take : Cond) ∈ wsG := in_wsG (in_tbl (in_tab2 96 rfl)) rfl
theorem kw_337 : (.instanceMethod yX3_take : Cond) ∈ wsG := in_wsG (in_tbl (in_tab2 97 rfl)) rfl
theorem kw_338 : (.selects RX3 yX3_take yX3_take : Cond) ∈ wsG := in_wsG (in_tbl (in_tab2 98 rfl)) rfl
theorem kw_339 : (.code yX3_take cX3_take 2 (some .int) : Cond) ∈ wsG := in_wsG (in_tbl (in_tab2 99 rfl)) rfl
theorem kw_340 : (.methodLink RX4 292 yX0_show : Cond) ∈ wsG := in_wsG (in_tbl (in_tab2 100 rfl)) rfl
theorem kw_341 : (.instanceMethod yX0_show : Cond) ∈ wsG := in_wsG (in_tbl (in_tab2 101 rfl)) rfl
theorem kw_342 : (.selects RX0 yX0_show yX0_show : Cond) ∈ wsG := in_wsG (in_tbl (in_tab2 102 rfl)) rfl
theorem kw_343 : (.code yX0_show cX0_show 4 none : Cond) ∈ wsG := in_wsG (in_tbl (in_tab2 103 rfl)) rfl
theorem kw_344 : (.methodLink RX4 238 yX4_operate : Cond) ∈ wsG := in_wsG (in_tbl (in_tab2 104 rfl)) rfl
theorem kw_346 : (.instanceMethod yX4_operate : Cond) ∈ wsG := in_wsG (in_tbl (in_tab2 106 rfl)) rfl
theorem kw_347 : (.code yX4_operate cX4_operate 2 (some .int) : Cond) ∈ wsG := in_wsG (in_tbl (in_tab2 107 rfl)) rfl
theorem kw_348 : (.methodLink RX4 295 yX4_setFlags : Cond) ∈ wsG := in_wsG (in_tbl (in_tab2 108 rfl)) rfl
theorem kw_350 : (.instanceMethod yX4_setFlags : Cond) ∈ wsG := in_wsG (in_tbl (in_tab2 110 rfl)) rfl
theorem kw_351 : (.code yX4_setFlags cX4_setFlags 4 none : Cond) ∈ wsG := in_wsG (in_tbl (in_tab2 111 rfl)) rfl
theorem kw_352 : (.methodLink RX4 215 yX4_performAt : Cond) ∈ wsG := in_wsG (in_tbl (in_tab2 112 rfl)) rfl
theorem kw_354 : (.instanceMethod yX4_performAt : Cond) ∈ wsG := in_wsG (in_tbl (in_tab2 114 rfl)) rfl
theorem kw_355 : (.code yX4_performAt cX4_performAt 4 none : Cond) ∈ wsG := in_wsG (in_tbl (in_tab2 115 rfl)) rfl
theorem kw_356 : (.methodLink RX4 241 yX4_add : Cond) ∈ wsG := in_wsG (in_tbl (in_tab2 116 rfl)) rfl
theorem kw_358 : (.instanceMethod yX4_add : Cond) ∈ wsG := in_wsG (in_tbl (in_tab2 118 rfl)) rfl
theorem kw_359 : (.code yX4_add cX4_add 3 none : Cond) ∈ wsG := in_wsG (in_tbl (in_tab2 119 rfl)) rfl
theorem kw_360 : (.methodLink RX4 256 yX4_sum : Cond) ∈ wsG := in_wsG (in_tbl (in_tab2 120 rfl)) rfl
theorem kw_361 : (.static yX4_sum : Cond) ∈ wsG := in_wsG (in_tbl (in_tab2 121 rfl)) rfl
theorem kw_362 : (.code yX4_sum cX4_sum 3 (some .int) : Cond) ∈ wsG := in_wsG (in_tbl (in_tab2 122 rfl)) rfl
theorem kw_363 : (.methodLink RX4 260 yX4_noteOverflow : Cond) ∈ wsG := in_wsG (in_tbl (in_tab2 123 rfl)) rfl
theorem kw_365 : (.instanceMethod yX4_noteOverflow : Cond) ∈ wsG := in_wsG (in_tbl (in_tab2 125 rfl)) rfl
theorem kw_366 : (.code yX4_noteOverflow cX4_noteOverflow 4 none : Cond) ∈ wsG := in_wsG (in_tbl (in_tab2 126 rfl)) rfl
theorem kw_367 : (.methodLink RX4 264 yX4_withoutMinusZero : Cond) ∈ wsG := in_wsG (in_tbl (in_tab2 127 rfl)) rfl
theorem kw_368 : (.static yX4_withoutMinusZero : Cond) ∈ wsG := in_wsG (in_tbl (in_tab2 128 rfl)) rfl
theorem kw_369 : (.code yX4_withoutMinusZero cX4_withoutMinusZero 1 (some .int) : Cond) ∈ wsG := in_wsG (in_tbl (in_tab2 129 rfl)) rfl
theorem kw_370 : (.methodLink RX4 244 yX4_subtract : Cond) ∈ wsG := in_wsG (in_tbl (in_tab2 130 rfl)) rfl
theorem kw_372 : (.instanceMethod yX4_subtract : Cond) ∈ wsG := in_wsG (in_tbl (in_tab2 132 rfl)) rfl
theorem kw_373 : (.code yX4_subtract cX4_subtract 3 none : Cond) ∈ wsG := in_wsG (in_tbl (in_tab2 133 rfl)) rfl
theorem kw_374 : (.methodLink RX4 247 yX4_index : Cond) ∈ wsG := in_wsG (in_tbl (in_tab2 134 rfl)) rfl
theorem kw_376 : (.instanceMethod yX4_index : Cond) ∈ wsG := in_wsG (in_tbl (in_tab2 136 rfl)) rfl
theorem kw_377 : (.code yX4_index cX4_index 3 none : Cond) ∈ wsG := in_wsG (in_tbl (in_tab2 137 rfl)) rfl
theorem kw_378 : (.methodLink RX4 250 yX4_multiplyStep : Cond) ∈ wsG := in_wsG (in_tbl (in_tab2 138 rfl)) rfl
theorem kw_380 : (.instanceMethod yX4_multiplyStep : Cond) ∈ wsG := in_wsG (in_tbl (in_tab2 140 rfl)) rfl
theorem kw_381 : (.code yX4_multiplyStep cX4_multiplyStep 2 none : Cond) ∈ wsG := in_wsG (in_tbl (in_tab2 141 rfl)) rfl
theorem kw_382 : (.methodLink RX4 253 yX4_divideStep : Cond) ∈ wsG := in_wsG (in_tbl (in_tab2 142 rfl)) rfl
theorem kw_384 : (.instanceMethod yX4_divideStep : Cond) ∈ wsG := in_wsG (in_tbl (in_tab2 144 rfl)) rfl
theorem kw_385 : (.code yX4_divideStep cX4_divideStep 4 none : Cond) ∈ wsG := in_wsG (in_tbl (in_tab2 145 rfl)) rfl
theorem kw_386 : (.methodLink RX4 108 yX2_countStep : Cond) ∈ wsG := in_wsG (in_tbl (in_tab2 146 rfl)) rfl
theorem kw_387 : (.instanceMethod yX2_countStep : Cond) ∈ wsG := in_wsG (in_tbl (in_tab2 147 rfl)) rfl
theorem kw_388 : (.selects RX2 yX2_countStep yX2_countStep : Cond) ∈ wsG := in_wsG (in_tbl (in_tab2 148 rfl)) rfl
theorem kw_389 : (.code yX2_countStep cX2_countStep 1 none : Cond) ∈ wsG := in_wsG (in_tbl (in_tab2 149 rfl)) rfl
theorem kw_390 : (.methodLink RL 55 yX4_ran : Cond) ∈ wsG := in_wsG (in_tbl (in_tab2 150 rfl)) rfl
theorem kw_391 : (.instanceMethod yX4_ran : Cond) ∈ wsG := in_wsG (in_tbl (in_tab2 151 rfl)) rfl
theorem kw_392 : (.selects RX4 yX4_ran yX4_ran : Cond) ∈ wsG := in_wsG (in_tbl (in_tab2 152 rfl)) rfl
theorem kw_393 : (.code yX4_ran cX4_ran 2 (some .int) : Cond) ∈ wsG := in_wsG (in_tbl (in_tab2 153 rfl)) rfl
theorem kw_394 : (.methodLink RL 59 yX4_point : Cond) ∈ wsG := in_wsG (in_tbl (in_tab2 154 rfl)) rfl
theorem kw_395 : (.instanceMethod yX4_point : Cond) ∈ wsG := in_wsG (in_tbl (in_tab2 155 rfl)) rfl
theorem kw_396 : (.selects RX4 yX4_point yX4_point : Cond) ∈ wsG := in_wsG (in_tbl (in_tab2 156 rfl)) rfl
theorem kw_397 : (.code yX4_point cX4_point 3 (some .int) : Cond) ∈ wsG := in_wsG (in_tbl (in_tab2 157 rfl)) rfl
theorem kw_398 : (.methodLink RX4 135 yX0_keeps : Cond) ∈ wsG := in_wsG (in_tbl (in_tab2 158 rfl)) rfl
theorem kw_399 : (.instanceMethod yX0_keeps : Cond) ∈ wsG := in_wsG (in_tbl (in_tab2 159 rfl)) rfl
theorem kw_400 : (.selects RX0 yX0_keeps yX0_keeps : Cond) ∈ wsG := in_wsG (in_tbl (in_tab2 160 rfl)) rfl
theorem kw_401 : (.code yX0_keeps cX0_keeps 2 (some .boolean) : Cond) ∈ wsG := in_wsG (in_tbl (in_tab2 161 rfl)) rfl
theorem kw_402 : (.methodLink RX4 138 yX0_xOf : Cond) ∈ wsG := in_wsG (in_tbl (in_tab2 162 rfl)) rfl
theorem kw_403 : (.instanceMethod yX0_xOf : Cond) ∈ wsG := in_wsG (in_tbl (in_tab2 163 rfl)) rfl
theorem kw_404 : (.selects RX0 yX0_xOf yX0_xOf : Cond) ∈ wsG := in_wsG (in_tbl (in_tab2 164 rfl)) rfl
theorem kw_405 : (.code yX0_xOf cX0_xOf 2 (some .int) : Cond) ∈ wsG := in_wsG (in_tbl (in_tab2 165 rfl)) rfl
theorem kw_406 : (.methodLink RX0 22 yX0_slotOf : Cond) ∈ wsG := in_wsG (in_tbl (in_tab2 166 rfl)) rfl
theorem kw_408 : (.instanceMethod yX0_slotOf : Cond) ∈ wsG := in_wsG (in_tbl (in_tab2 168 rfl)) rfl
theorem kw_409 : (.code yX0_slotOf cX0_slotOf 2 (some .int) : Cond) ∈ wsG := in_wsG (in_tbl (in_tab2 169 rfl)) rfl
theorem kw_410 : (.methodLink RX4 141 yX0_yOf : Cond) ∈ wsG := in_wsG (in_tbl (in_tab2 170 rfl)) rfl
theorem kw_411 : (.instanceMethod yX0_yOf : Cond) ∈ wsG := in_wsG (in_tbl (in_tab2 171 rfl)) rfl
theorem kw_412 : (.selects RX0 yX0_yOf yX0_yOf : Cond) ∈ wsG := in_wsG (in_tbl (in_tab2 172 rfl)) rfl
theorem kw_413 : (.code yX0_yOf cX0_yOf 2 (some .int) : Cond) ∈ wsG := in_wsG (in_tbl (in_tab2 173 rfl)) rfl
theorem kw_414 : (.methodLink RL 63 yX4_points : Cond) ∈ wsG := in_wsG (in_tbl (in_tab2 174 rfl)) rfl
theorem kw_415 : (.instanceMethod yX4_points : Cond) ∈ wsG := in_wsG (in_tbl (in_tab2 175 rfl)) rfl
theorem kw_416 : (.selects RX4 yX4_points yX4_points : Cond) ∈ wsG := in_wsG (in_tbl (in_tab2 176 rfl)) rfl
theorem kw_417 : (.code yX4_points cX4_points 1 (some .int) : Cond) ∈ wsG := in_wsG (in_tbl (in_tab2 177 rfl)) rfl
theorem kw_418 : (.methodLink RL 67 yX4_out : Cond) ∈ wsG := in_wsG (in_tbl (in_tab2 178 rfl)) rfl
theorem kw_419 : (.instanceMethod yX4_out : Cond) ∈ wsG := in_wsG (in_tbl (in_tab2 179 rfl)) rfl
theorem kw_420 : (.selects RX4 yX4_out yX4_out : Cond) ∈ wsG := in_wsG (in_tbl (in_tab2 180 rfl)) rfl
theorem kw_421 : (.code yX4_out cX4_out 2 (some .int) : Cond) ∈ wsG := in_wsG (in_tbl (in_tab2 181 rfl)) rfl
theorem kw_422 : (.methodLink RX4 153 yX1_signAt : Cond) ∈ wsG := in_wsG (in_tbl (in_tab2 182 rfl)) rfl
theorem kw_423 : (.instanceMethod yX1_signAt : Cond) ∈ wsG := in_wsG (in_tbl (in_tab2 183 rfl)) rfl
theorem kw_424 : (.selects RX1 yX1_signAt yX1_signAt : Cond) ∈ wsG := in_wsG (in_tbl (in_tab2 184 rfl)) rfl
theorem kw_425 : (.code yX1_signAt cX1_signAt 2 (some .int) : Cond) ∈ wsG := in_wsG (in_tbl (in_tab2 185 rfl)) rfl
theorem kw_426 : (.methodLink RL 71 yX4_value : Cond) ∈ wsG := in_wsG (in_tbl (in_tab2 186 rfl)) rfl
theorem kw_427 : (.instanceMethod yX4_value : Cond) ∈ wsG := in_wsG (in_tbl (in_tab2 187 rfl)) rfl
theorem kw_428 : (.selects RX4 yX4_value yX4_value : Cond) ∈ wsG := in_wsG (in_tbl (in_tab2 188 rfl)) rfl
theorem kw_429 : (.code yX4_value cX4_value 2 (some .int) : Cond) ∈ wsG := in_wsG (in_tbl (in_tab2 189 rfl)) rfl
theorem kw_430 : (.constant RX4 156 (-1000000) : Cond) ∈ wsG := in_wsG (in_tbl (in_tab2 190 rfl)) rfl
theorem kw_431 : (.methodLink RL 75 yX4_word : Cond) ∈ wsG := in_wsG (in_tbl (in_tab2 191 rfl)) rfl
theorem kw_432 : (.instanceMethod yX4_word : Cond) ∈ wsG := in_wsG (in_tbl (in_tab2 192 rfl)) rfl
theorem kw_433 : (.selects RX4 yX4_word yX4_word : Cond) ∈ wsG := in_wsG (in_tbl (in_tab2 193 rfl)) rfl
theorem kw_434 : (.code yX4_word cX4_word 2 (some .int) : Cond) ∈ wsG := in_wsG (in_tbl (in_tab2 194 rfl)) rfl
theorem kw_435 : (.constant RX4 161 (-131071) : Cond) ∈ wsG := in_wsG (in_tbl (in_tab2 195 rfl)) rfl
theorem kw_436 : (.constant RX4 162 (131071) : Cond) ∈ wsG := in_wsG (in_tbl (in_tab2 196 rfl)) rfl
theorem kw_437 : (.methodLink RL 79 yX4_reads : Cond) ∈ wsG := in_wsG (in_tbl (in_tab2 197 rfl)) rfl
theorem kw_438 : (.instanceMethod yX4_reads : Cond) ∈ wsG := in_wsG (in_tbl (in_tab2 198 rfl)) rfl
theorem kw_439 : (.selects RX4 yX4_reads yX4_reads : Cond) ∈ wsG := in_wsG (in_tbl (in_tab2 199 rfl)) rfl
theorem kw_440 : (.code yX4_reads cX4_reads 3 (some .int) : Cond) ∈ wsG := in_wsG (in_tbl (in_tab2 200 rfl)) rfl
theorem kw_441 : (.methodLink RL 83 yX4_digest : Cond) ∈ wsG := in_wsG (in_tbl (in_tab2 201 rfl)) rfl
theorem kw_442 : (.instanceMethod yX4_digest : Cond) ∈ wsG := in_wsG (in_tbl (in_tab2 202 rfl)) rfl
theorem kw_443 : (.selects RX4 yX4_digest yX4_digest : Cond) ∈ wsG := in_wsG (in_tbl (in_tab2 203 rfl)) rfl
theorem kw_444 : (.code yX4_digest cX4_digest 3 (some .int) : Cond) ∈ wsG := in_wsG (in_tbl (in_tab2 204 rfl)) rfl
theorem kw_445 : (.classLink RL 10 RX5 : Cond) ∈ wsG := in_wsG (in_tbl (in_tab2 205 rfl)) rfl
theorem kw_446 : (.instantiable RX5 22 : Cond) ∈ wsG := in_wsG (in_tbl (in_tab2 206 rfl)) rfl
theorem kw_447 : (.methodLink RL 12 yX5_init : Cond) ∈ wsG := in_wsG (in_tbl (in_tab2 207 rfl)) rfl
theorem kw_448 : (.instanceMethod yX5_init : Cond) ∈ wsG := in_wsG (in_tbl (in_tab2 208 rfl)) rfl
theorem kw_449 : (.code yX5_init cX5_init 1 none : Cond) ∈ wsG := in_wsG (in_tbl (in_tab2 209 rfl)) rfl
theorem kw_450 : (.methodLink RX5 1 objectInit : Cond) ∈ wsG := in_wsG (in_tbl (in_tab2 210 rfl)) rfl
theorem kw_451 : (.fieldLink RX5 7 "SignedCoreModel" "core" "[I" : Cond) ∈ wsG := in_wsG (in_tbl (in_tab2 211 rfl)) rfl
theorem kw_452 : (.fieldLink RX5 33 "SignedCoreModel" "ac" "I" : Cond) ∈ wsG := in_wsG (in_tbl (in_tab2 212 rfl)) rfl
theorem kw_453 : (.fieldLink RX5 37 "SignedCoreModel" "io" "I" : Cond) ∈ wsG := in_wsG (in_tbl (in_tab2 213 rfl)) rfl
theorem kw_454 : (.fieldLink RX5 40 "SignedCoreModel" "pc" "I" : Cond) ∈ wsG := in_wsG (in_tbl (in_tab2 214 rfl)) rfl
theorem kw_455 : (.fieldLink RX5 43 "SignedCoreModel" "ov" "I" : Cond) ∈ wsG := in_wsG (in_tbl (in_tab2 215 rfl)) rfl
theorem kw_456 : (.fieldLink RX5 46 "SignedCoreModel" "flags" "I" : Cond) ∈ wsG := in_wsG (in_tbl (in_tab2 216 rfl)) rfl
theorem kw_457 : (.fieldLink RX5 49 "SignedCoreModel" "isOn" "Z" : Cond) ∈ wsG := in_wsG (in_tbl (in_tab2 217 rfl)) rfl
theorem kw_458 : (.fieldLink RX5 53 "SignedCoreModel" "isAsked" "Z" : Cond) ∈ wsG := in_wsG (in_tbl (in_tab2 218 rfl)) rfl
theorem kw_459 : (.fieldLink RX5 56 "SignedCoreModel" "isUnderWay" "Z" : Cond) ∈ wsG := in_wsG (in_tbl (in_tab2 219 rfl)) rfl
theorem kw_460 : (.fieldLink RX5 63 "SignedCoreModel" "switchBits" "I" : Cond) ∈ wsG := in_wsG (in_tbl (in_tab2 220 rfl)) rfl
theorem kw_461 : (.fieldLink RX5 66 "SignedCoreModel" "test" "I" : Cond) ∈ wsG := in_wsG (in_tbl (in_tab2 221 rfl)) rfl
theorem kw_462 : (.fieldLink RX5 13 "SignedCoreModel" "row" "[I" : Cond) ∈ wsG := in_wsG (in_tbl (in_tab2 222 rfl)) rfl
theorem kw_463 : (.fieldLink RX5 69 "SignedCoreModel" "typed" "I" : Cond) ∈ wsG := in_wsG (in_tbl (in_tab2 223 rfl)) rfl
theorem kw_464 : (.fieldLink RX5 72 "SignedCoreModel" "taken" "I" : Cond) ∈ wsG := in_wsG (in_tbl (in_tab2 224 rfl)) rfl
theorem kw_465 : (.fieldLink RX5 16 "SignedCoreModel" "out" "[I" : Cond) ∈ wsG := in_wsG (in_tbl (in_tab2 225 rfl)) rfl
theorem kw_466 : (.fieldLink RX5 124 "SignedCoreModel" "outs" "I" : Cond) ∈ wsG := in_wsG (in_tbl (in_tab2 226 rfl)) rfl
theorem kw_467 : (.fieldLink RX5 127 "SignedCoreModel" "lost" "I" : Cond) ∈ wsG := in_wsG (in_tbl (in_tab2 227 rfl)) rfl
theorem kw_468 : (.fieldLink RX5 19 "SignedCoreModel" "pointX" "[I" : Cond) ∈ wsG := in_wsG (in_tbl (in_tab2 228 rfl)) rfl
theorem kw_469 : (.fieldLink RX5 22 "SignedCoreModel" "pointY" "[I" : Cond) ∈ wsG := in_wsG (in_tbl (in_tab2 229 rfl)) rfl
theorem kw_470 : (.fieldLink RX5 121 "SignedCoreModel" "points" "I" : Cond) ∈ wsG := in_wsG (in_tbl (in_tab2 230 rfl)) rfl
theorem kw_471 : (.fieldLink RX5 25 "SignedCoreModel" "ran" "[I" : Cond) ∈ wsG := in_wsG (in_tbl (in_tab2 231 rfl)) rfl
theorem kw_472 : (.fieldLink RX5 130 "SignedCoreModel" "ended" "I" : Cond) ∈ wsG := in_wsG (in_tbl (in_tab2 232 rfl)) rfl
theorem kw_473 : (.laysFinal "SignedCoreModel" "SignedCoreModel" "core" "[I" : Cond) ∈ wsG := in_wsG (in_tbl (in_tab2 233 rfl)) rfl
theorem kw_475 : (.lays "SignedCoreModel" "SignedCoreModel" "ac" "I" : Cond) ∈ wsG := in_wsG (in_tbl (in_tab2 235 rfl)) rfl
theorem kw_477 : (.lays "SignedCoreModel" "SignedCoreModel" "io" "I" : Cond) ∈ wsG := in_wsG (in_tbl (in_tab2 237 rfl)) rfl
theorem kw_479 : (.lays "SignedCoreModel" "SignedCoreModel" "pc" "I" : Cond) ∈ wsG := in_wsG (in_tbl (in_tab2 239 rfl)) rfl
theorem kw_481 : (.lays "SignedCoreModel" "SignedCoreModel" "ov" "I" : Cond) ∈ wsG := in_wsG (in_tbl (in_tab3 1 rfl)) rfl
theorem kw_483 : (.lays "SignedCoreModel" "SignedCoreModel" "flags" "I" : Cond) ∈ wsG := in_wsG (in_tbl (in_tab3 3 rfl)) rfl
theorem kw_485 : (.lays "SignedCoreModel" "SignedCoreModel" "isOn" "Z" : Cond) ∈ wsG := in_wsG (in_tbl (in_tab3 5 rfl)) rfl
theorem kw_487 : (.lays "SignedCoreModel" "SignedCoreModel" "isAsked" "Z" : Cond) ∈ wsG := in_wsG (in_tbl (in_tab3 7 rfl)) rfl
theorem kw_489 : (.lays "SignedCoreModel" "SignedCoreModel" "isUnderWay" "Z" : Cond) ∈ wsG := in_wsG (in_tbl (in_tab3 9 rfl)) rfl
theorem kw_491 : (.lays "SignedCoreModel" "SignedCoreModel" "switchBits" "I" : Cond) ∈ wsG := in_wsG (in_tbl (in_tab3 11 rfl)) rfl
theorem kw_493 : (.lays "SignedCoreModel" "SignedCoreModel" "test" "I" : Cond) ∈ wsG := in_wsG (in_tbl (in_tab3 13 rfl)) rfl
theorem kw_495 : (.laysFinal "SignedCoreModel" "SignedCoreModel" "row" "[I" : Cond) ∈ wsG := in_wsG (in_tbl (in_tab3 15 rfl)) rfl
theorem kw_497 : (.lays "SignedCoreModel" "SignedCoreModel" "typed" "I" : Cond) ∈ wsG := in_wsG (in_tbl (in_tab3 17 rfl)) rfl
theorem kw_499 : (.lays "SignedCoreModel" "SignedCoreModel" "taken" "I" : Cond) ∈ wsG := in_wsG (in_tbl (in_tab3 19 rfl)) rfl
theorem kw_501 : (.laysFinal "SignedCoreModel" "SignedCoreModel" "out" "[I" : Cond) ∈ wsG := in_wsG (in_tbl (in_tab3 21 rfl)) rfl
theorem kw_503 : (.lays "SignedCoreModel" "SignedCoreModel" "outs" "I" : Cond) ∈ wsG := in_wsG (in_tbl (in_tab3 23 rfl)) rfl
theorem kw_505 : (.lays "SignedCoreModel" "SignedCoreModel" "lost" "I" : Cond) ∈ wsG := in_wsG (in_tbl (in_tab3 25 rfl)) rfl
theorem kw_507 : (.laysFinal "SignedCoreModel" "SignedCoreModel" "pointX" "[I" : Cond) ∈ wsG := in_wsG (in_tbl (in_tab3 27 rfl)) rfl
theorem kw_509 : (.laysFinal "SignedCoreModel" "SignedCoreModel" "pointY" "[I" : Cond) ∈ wsG := in_wsG (in_tbl (in_tab3 29 rfl)) rfl
theorem kw_511 : (.lays "SignedCoreModel" "SignedCoreModel" "points" "I" : Cond) ∈ wsG := in_wsG (in_tbl (in_tab3 31 rfl)) rfl
theorem kw_513 : (.laysFinal "SignedCoreModel" "SignedCoreModel" "ran" "[I" : Cond) ∈ wsG := in_wsG (in_tbl (in_tab3 33 rfl)) rfl
theorem kw_515 : (.lays "SignedCoreModel" "SignedCoreModel" "ended" "I" : Cond) ∈ wsG := in_wsG (in_tbl (in_tab3 35 rfl)) rfl
theorem kw_517 : (.superclass "SignedCoreModel" "java/lang/Object" : Cond) ∈ wsG := in_wsG (in_tbl (in_tab3 37 rfl)) rfl
theorem kw_518 : (.methodLink RL 17 yX5_put : Cond) ∈ wsG := in_wsG (in_tbl (in_tab3 38 rfl)) rfl
theorem kw_519 : (.instanceMethod yX5_put : Cond) ∈ wsG := in_wsG (in_tbl (in_tab3 39 rfl)) rfl
theorem kw_520 : (.selects RX5 yX5_put yX5_put : Cond) ∈ wsG := in_wsG (in_tbl (in_tab3 40 rfl)) rfl
theorem kw_521 : (.code yX5_put cX5_put 4 (some .int) : Cond) ∈ wsG := in_wsG (in_tbl (in_tab3 41 rfl)) rfl
theorem kw_522 : (.methodLink RX5 28 yX5_in : Cond) ∈ wsG := in_wsG (in_tbl (in_tab3 42 rfl)) rfl
theorem kw_523 : (.static yX5_in : Cond) ∈ wsG := in_wsG (in_tbl (in_tab3 43 rfl)) rfl
theorem kw_524 : (.code yX5_in cX5_in 3 (some .boolean) : Cond) ∈ wsG := in_wsG (in_tbl (in_tab3 44 rfl)) rfl
theorem kw_525 : (.constant RX5 32 (262143) : Cond) ∈ wsG := in_wsG (in_tbl (in_tab3 45 rfl)) rfl
theorem kw_526 : (.methodLink RL 22 yX5_core : Cond) ∈ wsG := in_wsG (in_tbl (in_tab3 46 rfl)) rfl
theorem kw_527 : (.instanceMethod yX5_core : Cond) ∈ wsG := in_wsG (in_tbl (in_tab3 47 rfl)) rfl
theorem kw_528 : (.selects RX5 yX5_core yX5_core : Cond) ∈ wsG := in_wsG (in_tbl (in_tab3 48 rfl)) rfl
theorem kw_529 : (.code yX5_core cX5_core 2 (some .int) : Cond) ∈ wsG := in_wsG (in_tbl (in_tab3 49 rfl)) rfl
theorem kw_530 : (.methodLink RL 29 yX5_load : Cond) ∈ wsG := in_wsG (in_tbl (in_tab3 50 rfl)) rfl
theorem kw_531 : (.instanceMethod yX5_load : Cond) ∈ wsG := in_wsG (in_tbl (in_tab3 51 rfl)) rfl
theorem kw_532 : (.selects RX5 yX5_load yX5_load : Cond) ∈ wsG := in_wsG (in_tbl (in_tab3 52 rfl)) rfl
theorem kw_533 : (.code yX5_load cX5_load 6 (some .int) : Cond) ∈ wsG := in_wsG (in_tbl (in_tab3 53 rfl)) rfl
theorem kw_534 : (.methodLink RL 33 yX5_told : Cond) ∈ wsG := in_wsG (in_tbl (in_tab3 54 rfl)) rfl
theorem kw_535 : (.instanceMethod yX5_told : Cond) ∈ wsG := in_wsG (in_tbl (in_tab3 55 rfl)) rfl
theorem kw_536 : (.selects RX5 yX5_told yX5_told : Cond) ∈ wsG := in_wsG (in_tbl (in_tab3 56 rfl)) rfl
theorem kw_537 : (.code yX5_told cX5_told 2 (some .int) : Cond) ∈ wsG := in_wsG (in_tbl (in_tab3 57 rfl)) rfl
theorem kw_538 : (.methodLink RL 37 yX5_set : Cond) ∈ wsG := in_wsG (in_tbl (in_tab3 58 rfl)) rfl
theorem kw_539 : (.instanceMethod yX5_set : Cond) ∈ wsG := in_wsG (in_tbl (in_tab3 59 rfl)) rfl
theorem kw_540 : (.selects RX5 yX5_set yX5_set : Cond) ∈ wsG := in_wsG (in_tbl (in_tab3 60 rfl)) rfl
theorem kw_541 : (.code yX5_set cX5_set 5 (some .int) : Cond) ∈ wsG := in_wsG (in_tbl (in_tab3 61 rfl)) rfl
theorem kw_542 : (.methodLink RX5 59 yX5_told : Cond) ∈ wsG := in_wsG (in_tbl (in_tab3 62 rfl)) rfl
theorem kw_543 : (.methodLink RL 41 yX5_switches : Cond) ∈ wsG := in_wsG (in_tbl (in_tab3 63 rfl)) rfl
theorem kw_544 : (.instanceMethod yX5_switches : Cond) ∈ wsG := in_wsG (in_tbl (in_tab3 64 rfl)) rfl
theorem kw_545 : (.selects RX5 yX5_switches yX5_switches : Cond) ∈ wsG := in_wsG (in_tbl (in_tab3 65 rfl)) rfl
theorem kw_546 : (.code yX5_switches cX5_switches 4 (some .int) : Cond) ∈ wsG := in_wsG (in_tbl (in_tab3 66 rfl)) rfl
theorem kw_547 : (.methodLink RL 45 yX5_type : Cond) ∈ wsG := in_wsG (in_tbl (in_tab3 67 rfl)) rfl
theorem kw_548 : (.instanceMethod yX5_type : Cond) ∈ wsG := in_wsG (in_tbl (in_tab3 68 rfl)) rfl
theorem kw_549 : (.selects RX5 yX5_type yX5_type : Cond) ∈ wsG := in_wsG (in_tbl (in_tab3 69 rfl)) rfl
theorem kw_550 : (.code yX5_type cX5_type 2 (some .int) : Cond) ∈ wsG := in_wsG (in_tbl (in_tab3 70 rfl)) rfl
theorem kw_551 : (.methodLink RL 50 yX5_ask : Cond) ∈ wsG := in_wsG (in_tbl (in_tab3 71 rfl)) rfl
theorem kw_552 : (.instanceMethod yX5_ask : Cond) ∈ wsG := in_wsG (in_tbl (in_tab3 72 rfl)) rfl
theorem kw_553 : (.selects RX5 yX5_ask yX5_ask : Cond) ∈ wsG := in_wsG (in_tbl (in_tab3 73 rfl)) rfl
theorem kw_554 : (.code yX5_ask cX5_ask 2 (some .int) : Cond) ∈ wsG := in_wsG (in_tbl (in_tab3 74 rfl)) rfl
theorem kw_555 : (.methodLink RL 54 yX5_run : Cond) ∈ wsG := in_wsG (in_tbl (in_tab3 75 rfl)) rfl
theorem kw_556 : (.instanceMethod yX5_run : Cond) ∈ wsG := in_wsG (in_tbl (in_tab3 76 rfl)) rfl
theorem kw_557 : (.selects RX5 yX5_run yX5_run : Cond) ∈ wsG := in_wsG (in_tbl (in_tab3 77 rfl)) rfl
theorem kw_558 : (.code yX5_run cX5_run 3 (some .int) : Cond) ∈ wsG := in_wsG (in_tbl (in_tab3 78 rfl)) rfl
theorem kw_559 : (.methodLink RX5 164 yX5_step : Cond) ∈ wsG := in_wsG (in_tbl (in_tab3 79 rfl)) rfl
theorem kw_561 : (.instanceMethod yX5_step : Cond) ∈ wsG := in_wsG (in_tbl (in_tab3 81 rfl)) rfl
theorem kw_562 : (.code yX5_step cX5_step 2 none : Cond) ∈ wsG := in_wsG (in_tbl (in_tab3 82 rfl)) rfl
theorem kw_563 : (.methodLink RX5 106 yX5_place : Cond) ∈ wsG := in_wsG (in_tbl (in_tab3 83 rfl)) rfl
theorem kw_565 : (.instanceMethod yX5_place : Cond) ∈ wsG := in_wsG (in_tbl (in_tab3 85 rfl)) rfl
theorem kw_566 : (.code yX5_place cX5_place 1 (some .int) : Cond) ∈ wsG := in_wsG (in_tbl (in_tab3 86 rfl)) rfl
theorem kw_567 : (.methodLink RX5 161 yX5_does : Cond) ∈ wsG := in_wsG (in_tbl (in_tab3 87 rfl)) rfl
theorem kw_569 : (.instanceMethod yX5_does : Cond) ∈ wsG := in_wsG (in_tbl (in_tab3 89 rfl)) rfl
theorem kw_570 : (.code yX5_does cX5_does 6 none : Cond) ∈ wsG := in_wsG (in_tbl (in_tab3 90 rfl)) rfl
theorem kw_571 : (.methodLink RX5 133 yX5_addressOf : Cond) ∈ wsG := in_wsG (in_tbl (in_tab3 91 rfl)) rfl
theorem kw_573 : (.instanceMethod yX5_addressOf : Cond) ∈ wsG := in_wsG (in_tbl (in_tab3 93 rfl)) rfl
theorem kw_574 : (.code yX5_addressOf cX5_addressOf 6 (some .int) : Cond) ∈ wsG := in_wsG (in_tbl (in_tab3 94 rfl)) rfl
theorem kw_575 : (.methodLink RX5 136 yX5_isIllegal : Cond) ∈ wsG := in_wsG (in_tbl (in_tab3 95 rfl)) rfl
theorem kw_576 : (.static yX5_isIllegal : Cond) ∈ wsG := in_wsG (in_tbl (in_tab3 96 rfl)) rfl
theorem kw_577 : (.code yX5_isIllegal cX5_isIllegal 3 (some .boolean) : Cond) ∈ wsG := in_wsG (in_tbl (in_tab3 97 rfl)) rfl
theorem kw_578 : (.methodLink RX5 79 yX5_sign : Cond) ∈ wsG := in_wsG (in_tbl (in_tab3 98 rfl)) rfl
theorem kw_579 : (.static yX5_sign : Cond) ∈ wsG := in_wsG (in_tbl (in_tab3 99 rfl)) rfl
theorem kw_580 : (.code yX5_sign cX5_sign 1 (some .int) : Cond) ∈ wsG := in_wsG (in_tbl (in_tab3 100 rfl)) rfl
theorem kw_581 : (.methodLink RX5 140 yX5_hasAddress : Cond) ∈ wsG := in_wsG (in_tbl (in_tab3 101 rfl)) rfl
theorem kw_582 : (.static yX5_hasAddress : Cond) ∈ wsG := in_wsG (in_tbl (in_tab3 102 rfl)) rfl
theorem kw_583 : (.code yX5_hasAddress cX5_hasAddress 1 (some .boolean) : Cond) ∈ wsG := in_wsG (in_tbl (in_tab3 103 rfl)) rfl
theorem kw_584 : (.methodLink RX5 143 yX5_ofMemory : Cond) ∈ wsG := in_wsG (in_tbl (in_tab3 104 rfl)) rfl
theorem kw_586 : (.instanceMethod yX5_ofMemory : Cond) ∈ wsG := in_wsG (in_tbl (in_tab3 106 rfl)) rfl
theorem kw_587 : (.code yX5_ofMemory cX5_ofMemory 4 none : Cond) ∈ wsG := in_wsG (in_tbl (in_tab3 107 rfl)) rfl
theorem kw_588 : (.methodLink RX5 88 yX5_overflows : Cond) ∈ wsG := in_wsG (in_tbl (in_tab3 108 rfl)) rfl
theorem kw_590 : (.instanceMethod yX5_overflows : Cond) ∈ wsG := in_wsG (in_tbl (in_tab3 110 rfl)) rfl
theorem kw_591 : (.code yX5_overflows cX5_overflows 4 none : Cond) ∈ wsG := in_wsG (in_tbl (in_tab3 111 rfl)) rfl
theorem kw_592 : (.methodLink RX5 75 yX5_sum : Cond) ∈ wsG := in_wsG (in_tbl (in_tab3 112 rfl)) rfl
theorem kw_593 : (.static yX5_sum : Cond) ∈ wsG := in_wsG (in_tbl (in_tab3 113 rfl)) rfl
theorem kw_594 : (.code yX5_sum cX5_sum 3 (some .int) : Cond) ∈ wsG := in_wsG (in_tbl (in_tab3 114 rfl)) rfl
theorem kw_595 : (.methodLink RX5 82 yX5_plain : Cond) ∈ wsG := in_wsG (in_tbl (in_tab3 115 rfl)) rfl
theorem kw_596 : (.static yX5_plain : Cond) ∈ wsG := in_wsG (in_tbl (in_tab3 116 rfl)) rfl
theorem kw_597 : (.code yX5_plain cX5_plain 1 (some .int) : Cond) ∈ wsG := in_wsG (in_tbl (in_tab3 117 rfl)) rfl
theorem kw_598 : (.methodLink RX5 85 yX5_not : Cond) ∈ wsG := in_wsG (in_tbl (in_tab3 118 rfl)) rfl
theorem kw_599 : (.static yX5_not : Cond) ∈ wsG := in_wsG (in_tbl (in_tab3 119 rfl)) rfl
theorem kw_600 : (.code yX5_not cX5_not 1 (some .int) : Cond) ∈ wsG := in_wsG (in_tbl (in_tab3 120 rfl)) rfl
theorem kw_601 : (.methodLink RX5 92 yX5_index : Cond) ∈ wsG := in_wsG (in_tbl (in_tab3 121 rfl)) rfl
theorem kw_603 : (.instanceMethod yX5_index : Cond) ∈ wsG := in_wsG (in_tbl (in_tab3 123 rfl)) rfl
theorem kw_604 : (.code yX5_index cX5_index 3 none : Cond) ∈ wsG := in_wsG (in_tbl (in_tab3 124 rfl)) rfl
theorem kw_605 : (.methodLink RX5 96 yX5_skips : Cond) ∈ wsG := in_wsG (in_tbl (in_tab3 125 rfl)) rfl
theorem kw_607 : (.instanceMethod yX5_skips : Cond) ∈ wsG := in_wsG (in_tbl (in_tab3 127 rfl)) rfl
theorem kw_608 : (.code yX5_skips cX5_skips 2 none : Cond) ∈ wsG := in_wsG (in_tbl (in_tab3 128 rfl)) rfl
theorem kw_609 : (.methodLink RX5 100 yX5_multiplies : Cond) ∈ wsG := in_wsG (in_tbl (in_tab3 129 rfl)) rfl
theorem kw_611 : (.instanceMethod yX5_multiplies : Cond) ∈ wsG := in_wsG (in_tbl (in_tab3 131 rfl)) rfl
theorem kw_612 : (.code yX5_multiplies cX5_multiplies 2 none : Cond) ∈ wsG := in_wsG (in_tbl (in_tab3 132 rfl)) rfl
theorem kw_613 : (.methodLink RX5 103 yX5_divides : Cond) ∈ wsG := in_wsG (in_tbl (in_tab3 133 rfl)) rfl
theorem kw_615 : (.instanceMethod yX5_divides : Cond) ∈ wsG := in_wsG (in_tbl (in_tab3 135 rfl)) rfl
theorem kw_616 : (.code yX5_divides cX5_divides 3 none : Cond) ∈ wsG := in_wsG (in_tbl (in_tab3 136 rfl)) rfl
theorem kw_617 : (.methodLink RX5 146 yX5_calls : Cond) ∈ wsG := in_wsG (in_tbl (in_tab3 137 rfl)) rfl
theorem kw_619 : (.instanceMethod yX5_calls : Cond) ∈ wsG := in_wsG (in_tbl (in_tab3 139 rfl)) rfl
theorem kw_620 : (.code yX5_calls cX5_calls 2 none : Cond) ∈ wsG := in_wsG (in_tbl (in_tab3 140 rfl)) rfl
theorem kw_621 : (.methodLink RX5 149 yX5_asksSkip : Cond) ∈ wsG := in_wsG (in_tbl (in_tab3 141 rfl)) rfl
theorem kw_623 : (.instanceMethod yX5_asksSkip : Cond) ∈ wsG := in_wsG (in_tbl (in_tab3 143 rfl)) rfl
theorem kw_624 : (.code yX5_asksSkip cX5_asksSkip 5 none : Cond) ∈ wsG := in_wsG (in_tbl (in_tab3 144 rfl)) rfl
theorem kw_625 : (.methodLink RX5 152 yX5_shifts : Cond) ∈ wsG := in_wsG (in_tbl (in_tab3 145 rfl)) rfl
theorem kw_627 : (.instanceMethod yX5_shifts : Cond) ∈ wsG := in_wsG (in_tbl (in_tab3 147 rfl)) rfl
theorem kw_628 : (.code yX5_shifts cX5_shifts 7 none : Cond) ∈ wsG := in_wsG (in_tbl (in_tab3 148 rfl)) rfl
theorem kw_629 : (.methodLink RX5 112 yX5_ones : Cond) ∈ wsG := in_wsG (in_tbl (in_tab3 149 rfl)) rfl
theorem kw_630 : (.static yX5_ones : Cond) ∈ wsG := in_wsG (in_tbl (in_tab3 150 rfl)) rfl
theorem kw_631 : (.code yX5_ones cX5_ones 3 (some .int) : Cond) ∈ wsG := in_wsG (in_tbl (in_tab3 151 rfl)) rfl
theorem kw_632 : (.methodLink RX5 115 yX5_moved : Cond) ∈ wsG := in_wsG (in_tbl (in_tab3 152 rfl)) rfl
theorem kw_633 : (.static yX5_moved : Cond) ∈ wsG := in_wsG (in_tbl (in_tab3 153 rfl)) rfl
theorem kw_634 : (.code yX5_moved cX5_moved 10 (some .long) : Cond) ∈ wsG := in_wsG (in_tbl (in_tab3 154 rfl)) rfl
theorem kw_635 : (.constantLong RX5 110 (-1) : Cond) ∈ wsG := in_wsG (in_tbl (in_tab3 155 rfl)) rfl
theorem kw_636 : (.constantLong RX5 119 (262143) : Cond) ∈ wsG := in_wsG (in_tbl (in_tab3 156 rfl)) rfl
theorem kw_637 : (.methodLink RX5 155 yX5_transfers : Cond) ∈ wsG := in_wsG (in_tbl (in_tab3 157 rfl)) rfl
theorem kw_639 : (.instanceMethod yX5_transfers : Cond) ∈ wsG := in_wsG (in_tbl (in_tab3 159 rfl)) rfl
theorem kw_640 : (.code yX5_transfers cX5_transfers 2 none : Cond) ∈ wsG := in_wsG (in_tbl (in_tab3 160 rfl)) rfl
theorem kw_641 : (.methodLink RX5 158 yX5_operates : Cond) ∈ wsG := in_wsG (in_tbl (in_tab3 161 rfl)) rfl
theorem kw_643 : (.instanceMethod yX5_operates : Cond) ∈ wsG := in_wsG (in_tbl (in_tab3 163 rfl)) rfl
theorem kw_644 : (.code yX5_operates cX5_operates 4 none : Cond) ∈ wsG := in_wsG (in_tbl (in_tab3 164 rfl)) rfl
theorem kw_645 : (.methodLink RL 58 yX5_ran : Cond) ∈ wsG := in_wsG (in_tbl (in_tab3 165 rfl)) rfl
theorem kw_646 : (.instanceMethod yX5_ran : Cond) ∈ wsG := in_wsG (in_tbl (in_tab3 166 rfl)) rfl
theorem kw_647 : (.selects RX5 yX5_ran yX5_ran : Cond) ∈ wsG := in_wsG (in_tbl (in_tab3 167 rfl)) rfl
theorem kw_648 : (.code yX5_ran cX5_ran 2 (some .int) : Cond) ∈ wsG := in_wsG (in_tbl (in_tab3 168 rfl)) rfl
theorem kw_649 : (.methodLink RL 62 yX5_point : Cond) ∈ wsG := in_wsG (in_tbl (in_tab3 169 rfl)) rfl
theorem kw_650 : (.instanceMethod yX5_point : Cond) ∈ wsG := in_wsG (in_tbl (in_tab3 170 rfl)) rfl
theorem kw_651 : (.selects RX5 yX5_point yX5_point : Cond) ∈ wsG := in_wsG (in_tbl (in_tab3 171 rfl)) rfl
theorem kw_652 : (.code yX5_point cX5_point 4 (some .int) : Cond) ∈ wsG := in_wsG (in_tbl (in_tab3 172 rfl)) rfl
theorem kw_653 : (.methodLink RL 66 yX5_points : Cond) ∈ wsG := in_wsG (in_tbl (in_tab3 173 rfl)) rfl
theorem kw_654 : (.instanceMethod yX5_points : Cond) ∈ wsG := in_wsG (in_tbl (in_tab3 174 rfl)) rfl
theorem kw_655 : (.selects RX5 yX5_points yX5_points : Cond) ∈ wsG := in_wsG (in_tbl (in_tab3 175 rfl)) rfl
theorem kw_656 : (.code yX5_points cX5_points 1 (some .int) : Cond) ∈ wsG := in_wsG (in_tbl (in_tab3 176 rfl)) rfl
theorem kw_657 : (.methodLink RL 70 yX5_out : Cond) ∈ wsG := in_wsG (in_tbl (in_tab3 177 rfl)) rfl
theorem kw_658 : (.instanceMethod yX5_out : Cond) ∈ wsG := in_wsG (in_tbl (in_tab3 178 rfl)) rfl
theorem kw_659 : (.selects RX5 yX5_out yX5_out : Cond) ∈ wsG := in_wsG (in_tbl (in_tab3 179 rfl)) rfl
theorem kw_660 : (.code yX5_out cX5_out 2 (some .int) : Cond) ∈ wsG := in_wsG (in_tbl (in_tab3 180 rfl)) rfl
theorem kw_661 : (.methodLink RL 74 yX5_value : Cond) ∈ wsG := in_wsG (in_tbl (in_tab3 181 rfl)) rfl
theorem kw_662 : (.instanceMethod yX5_value : Cond) ∈ wsG := in_wsG (in_tbl (in_tab3 182 rfl)) rfl
theorem kw_663 : (.selects RX5 yX5_value yX5_value : Cond) ∈ wsG := in_wsG (in_tbl (in_tab3 183 rfl)) rfl
theorem kw_664 : (.code yX5_value cX5_value 2 (some .int) : Cond) ∈ wsG := in_wsG (in_tbl (in_tab3 184 rfl)) rfl
theorem kw_665 : (.constant RX5 167 (-1000000) : Cond) ∈ wsG := in_wsG (in_tbl (in_tab3 185 rfl)) rfl
theorem kw_666 : (.methodLink RL 78 yX5_word : Cond) ∈ wsG := in_wsG (in_tbl (in_tab3 186 rfl)) rfl
theorem kw_667 : (.instanceMethod yX5_word : Cond) ∈ wsG := in_wsG (in_tbl (in_tab3 187 rfl)) rfl
theorem kw_668 : (.selects RX5 yX5_word yX5_word : Cond) ∈ wsG := in_wsG (in_tbl (in_tab3 188 rfl)) rfl
theorem kw_669 : (.code yX5_word cX5_word 2 (some .int) : Cond) ∈ wsG := in_wsG (in_tbl (in_tab3 189 rfl)) rfl
theorem kw_670 : (.constant RX5 168 (-131071) : Cond) ∈ wsG := in_wsG (in_tbl (in_tab3 190 rfl)) rfl
theorem kw_671 : (.constant RX5 169 (131071) : Cond) ∈ wsG := in_wsG (in_tbl (in_tab3 191 rfl)) rfl
theorem kw_672 : (.methodLink RL 82 yX5_reads : Cond) ∈ wsG := in_wsG (in_tbl (in_tab3 192 rfl)) rfl
theorem kw_673 : (.instanceMethod yX5_reads : Cond) ∈ wsG := in_wsG (in_tbl (in_tab3 193 rfl)) rfl
theorem kw_674 : (.selects RX5 yX5_reads yX5_reads : Cond) ∈ wsG := in_wsG (in_tbl (in_tab3 194 rfl)) rfl
theorem kw_675 : (.code yX5_reads cX5_reads 3 (some .int) : Cond) ∈ wsG := in_wsG (in_tbl (in_tab3 195 rfl)) rfl
theorem kw_676 : (.methodLink RL 86 yX5_digest : Cond) ∈ wsG := in_wsG (in_tbl (in_tab3 196 rfl)) rfl
theorem kw_677 : (.instanceMethod yX5_digest : Cond) ∈ wsG := in_wsG (in_tbl (in_tab3 197 rfl)) rfl
theorem kw_678 : (.selects RX5 yX5_digest yX5_digest : Cond) ∈ wsG := in_wsG (in_tbl (in_tab3 198 rfl)) rfl
theorem kw_679 : (.code yX5_digest cX5_digest 3 (some .int) : Cond) ∈ wsG := in_wsG (in_tbl (in_tab3 199 rfl)) rfl
theorem kw_680 : (.constantLong RL 23 (4294967295) : Cond) ∈ wsG := in_wsG (in_tbl (in_tab3 200 rfl)) rfl
theorem ks_yX4_fetch : (.selects RX4 yX4_fetch yX4_fetch : Cond) ∈ wsG := in_wsG (List.mem_append_left _ (List.mem_map.mpr ⟨(yX4_fetch, 15), List.mem_append_left _ (List.mem_of_getElem? (i := 0) rfl), rfl⟩)) rfl
theorem ks_yX4_store : (.selects RX4 yX4_store yX4_store : Cond) ∈ wsG := in_wsG (List.mem_append_left _ (List.mem_map.mpr ⟨(yX4_store, 15), List.mem_append_left _ (List.mem_of_getElem? (i := 1) rfl), rfl⟩)) rfl
theorem ks_yX4_step : (.selects RX4 yX4_step yX4_step : Cond) ∈ wsG := in_wsG (List.mem_append_left _ (List.mem_map.mpr ⟨(yX4_step, 15), List.mem_append_left _ (List.mem_of_getElem? (i := 2) rfl), rfl⟩)) rfl
theorem ks_yX4_beginBreak : (.selects RX4 yX4_beginBreak yX4_beginBreak : Cond) ∈ wsG := in_wsG (List.mem_append_left _ (List.mem_map.mpr ⟨(yX4_beginBreak, 15), List.mem_append_left _ (List.mem_of_getElem? (i := 3) rfl), rfl⟩)) rfl
theorem ks_yX4_place : (.selects RX4 yX4_place yX4_place : Cond) ∈ wsG := in_wsG (List.mem_append_left _ (List.mem_map.mpr ⟨(yX4_place, 15), List.mem_append_left _ (List.mem_of_getElem? (i := 4) rfl), rfl⟩)) rfl
theorem ks_yX4_advance : (.selects RX4 yX4_advance yX4_advance : Cond) ∈ wsG := in_wsG (List.mem_append_left _ (List.mem_map.mpr ⟨(yX4_advance, 15), List.mem_append_left _ (List.mem_of_getElem? (i := 5) rfl), rfl⟩)) rfl
theorem ks_yX4_followXct : (.selects RX4 yX4_followXct yX4_followXct : Cond) ∈ wsG := in_wsG (List.mem_append_left _ (List.mem_map.mpr ⟨(yX4_followXct, 15), List.mem_append_left _ (List.mem_of_getElem? (i := 6) rfl), rfl⟩)) rfl
theorem ks_yX4_addressOf : (.selects RX4 yX4_addressOf yX4_addressOf : Cond) ∈ wsG := in_wsG (List.mem_append_left _ (List.mem_map.mpr ⟨(yX4_addressOf, 15), List.mem_append_left _ (List.mem_of_getElem? (i := 7) rfl), rfl⟩)) rfl
theorem ks_yX4_perform : (.selects RX4 yX4_perform yX4_perform : Cond) ∈ wsG := in_wsG (List.mem_append_left _ (List.mem_map.mpr ⟨(yX4_perform, 15), List.mem_append_left _ (List.mem_of_getElem? (i := 8) rfl), rfl⟩)) rfl
theorem ks_yX4_endsBreak : (.selects RX4 yX4_endsBreak yX4_endsBreak : Cond) ∈ wsG := in_wsG (List.mem_append_left _ (List.mem_map.mpr ⟨(yX4_endsBreak, 15), List.mem_append_left _ (List.mem_of_getElem? (i := 9) rfl), rfl⟩)) rfl
theorem ks_yX4_endBreak : (.selects RX4 yX4_endBreak yX4_endBreak : Cond) ∈ wsG := in_wsG (List.mem_append_left _ (List.mem_map.mpr ⟨(yX4_endBreak, 15), List.mem_append_left _ (List.mem_of_getElem? (i := 10) rfl), rfl⟩)) rfl
theorem ks_yX4_performWithoutAddress : (.selects RX4 yX4_performWithoutAddress yX4_performWithoutAddress : Cond) ∈ wsG := in_wsG (List.mem_append_left _ (List.mem_map.mpr ⟨(yX4_performWithoutAddress, 15), List.mem_append_left _ (List.mem_of_getElem? (i := 11) rfl), rfl⟩)) rfl
theorem ks_yX4_callAt : (.selects RX4 yX4_callAt yX4_callAt : Cond) ∈ wsG := in_wsG (List.mem_append_left _ (List.mem_map.mpr ⟨(yX4_callAt, 15), List.mem_append_left _ (List.mem_of_getElem? (i := 12) rfl), rfl⟩)) rfl
theorem ks_yX4_someHolds : (.selects RX4 yX4_someHolds yX4_someHolds : Cond) ∈ wsG := in_wsG (List.mem_append_left _ (List.mem_map.mpr ⟨(yX4_someHolds, 15), List.mem_append_left _ (List.mem_of_getElem? (i := 13) rfl), rfl⟩)) rfl
theorem ks_yX4_skipIf : (.selects RX4 yX4_skipIf yX4_skipIf : Cond) ∈ wsG := in_wsG (List.mem_append_left _ (List.mem_map.mpr ⟨(yX4_skipIf, 15), List.mem_append_left _ (List.mem_of_getElem? (i := 14) rfl), rfl⟩)) rfl
theorem ks_yX4_shift : (.selects RX4 yX4_shift yX4_shift : Cond) ∈ wsG := in_wsG (List.mem_append_left _ (List.mem_map.mpr ⟨(yX4_shift, 15), List.mem_append_left _ (List.mem_of_getElem? (i := 15) rfl), rfl⟩)) rfl
theorem ks_yX4_both : (.selects RX4 yX4_both yX4_both : Cond) ∈ wsG := in_wsG (List.mem_append_left _ (List.mem_map.mpr ⟨(yX4_both, 15), List.mem_append_right _ (List.mem_append_left _ (List.mem_of_getElem? (i := 0) rfl)), rfl⟩)) rfl
theorem ks_yX4_setBoth : (.selects RX4 yX4_setBoth yX4_setBoth : Cond) ∈ wsG := in_wsG (List.mem_append_left _ (List.mem_map.mpr ⟨(yX4_setBoth, 15), List.mem_append_right _ (List.mem_append_left _ (List.mem_of_getElem? (i := 1) rfl)), rfl⟩)) rfl
theorem ks_yX4_transfer : (.selects RX4 yX4_transfer yX4_transfer : Cond) ∈ wsG := in_wsG (List.mem_append_left _ (List.mem_map.mpr ⟨(yX4_transfer, 15), List.mem_append_right _ (List.mem_append_left _ (List.mem_of_getElem? (i := 2) rfl)), rfl⟩)) rfl
theorem ks_yX4_operate : (.selects RX4 yX4_operate yX4_operate : Cond) ∈ wsG := in_wsG (List.mem_append_left _ (List.mem_map.mpr ⟨(yX4_operate, 15), List.mem_append_right _ (List.mem_append_left _ (List.mem_of_getElem? (i := 3) rfl)), rfl⟩)) rfl
theorem ks_yX4_setFlags : (.selects RX4 yX4_setFlags yX4_setFlags : Cond) ∈ wsG := in_wsG (List.mem_append_left _ (List.mem_map.mpr ⟨(yX4_setFlags, 15), List.mem_append_right _ (List.mem_append_left _ (List.mem_of_getElem? (i := 4) rfl)), rfl⟩)) rfl
theorem ks_yX4_performAt : (.selects RX4 yX4_performAt yX4_performAt : Cond) ∈ wsG := in_wsG (List.mem_append_left _ (List.mem_map.mpr ⟨(yX4_performAt, 15), List.mem_append_right _ (List.mem_append_left _ (List.mem_of_getElem? (i := 5) rfl)), rfl⟩)) rfl
theorem ks_yX4_add : (.selects RX4 yX4_add yX4_add : Cond) ∈ wsG := in_wsG (List.mem_append_left _ (List.mem_map.mpr ⟨(yX4_add, 15), List.mem_append_right _ (List.mem_append_left _ (List.mem_of_getElem? (i := 6) rfl)), rfl⟩)) rfl
theorem ks_yX4_noteOverflow : (.selects RX4 yX4_noteOverflow yX4_noteOverflow : Cond) ∈ wsG := in_wsG (List.mem_append_left _ (List.mem_map.mpr ⟨(yX4_noteOverflow, 15), List.mem_append_right _ (List.mem_append_left _ (List.mem_of_getElem? (i := 7) rfl)), rfl⟩)) rfl
theorem ks_yX4_subtract : (.selects RX4 yX4_subtract yX4_subtract : Cond) ∈ wsG := in_wsG (List.mem_append_left _ (List.mem_map.mpr ⟨(yX4_subtract, 15), List.mem_append_right _ (List.mem_append_left _ (List.mem_of_getElem? (i := 8) rfl)), rfl⟩)) rfl
theorem ks_yX4_index : (.selects RX4 yX4_index yX4_index : Cond) ∈ wsG := in_wsG (List.mem_append_left _ (List.mem_map.mpr ⟨(yX4_index, 15), List.mem_append_right _ (List.mem_append_left _ (List.mem_of_getElem? (i := 9) rfl)), rfl⟩)) rfl
theorem ks_yX4_multiplyStep : (.selects RX4 yX4_multiplyStep yX4_multiplyStep : Cond) ∈ wsG := in_wsG (List.mem_append_left _ (List.mem_map.mpr ⟨(yX4_multiplyStep, 15), List.mem_append_right _ (List.mem_append_left _ (List.mem_of_getElem? (i := 10) rfl)), rfl⟩)) rfl
theorem ks_yX4_divideStep : (.selects RX4 yX4_divideStep yX4_divideStep : Cond) ∈ wsG := in_wsG (List.mem_append_left _ (List.mem_map.mpr ⟨(yX4_divideStep, 15), List.mem_append_right _ (List.mem_append_left _ (List.mem_of_getElem? (i := 11) rfl)), rfl⟩)) rfl
theorem ks_yX0_slotOf : (.selects RX0 yX0_slotOf yX0_slotOf : Cond) ∈ wsG := in_wsG (List.mem_append_left _ (List.mem_map.mpr ⟨(yX0_slotOf, 3), List.mem_append_right _ (List.mem_append_left _ (List.mem_of_getElem? (i := 12) rfl)), rfl⟩)) rfl
theorem ks_yX5_step : (.selects RX5 yX5_step yX5_step : Cond) ∈ wsG := in_wsG (List.mem_append_left _ (List.mem_map.mpr ⟨(yX5_step, 22), List.mem_append_right _ (List.mem_append_left _ (List.mem_of_getElem? (i := 13) rfl)), rfl⟩)) rfl
theorem ks_yX5_place : (.selects RX5 yX5_place yX5_place : Cond) ∈ wsG := in_wsG (List.mem_append_left _ (List.mem_map.mpr ⟨(yX5_place, 22), List.mem_append_right _ (List.mem_append_left _ (List.mem_of_getElem? (i := 14) rfl)), rfl⟩)) rfl
theorem ks_yX5_does : (.selects RX5 yX5_does yX5_does : Cond) ∈ wsG := in_wsG (List.mem_append_left _ (List.mem_map.mpr ⟨(yX5_does, 22), List.mem_append_right _ (List.mem_append_left _ (List.mem_of_getElem? (i := 15) rfl)), rfl⟩)) rfl
theorem ks_yX5_addressOf : (.selects RX5 yX5_addressOf yX5_addressOf : Cond) ∈ wsG := in_wsG (List.mem_append_left _ (List.mem_map.mpr ⟨(yX5_addressOf, 22), List.mem_append_right _ (List.mem_append_right _ ((List.mem_of_getElem? (i := 0) rfl))), rfl⟩)) rfl
theorem ks_yX5_ofMemory : (.selects RX5 yX5_ofMemory yX5_ofMemory : Cond) ∈ wsG := in_wsG (List.mem_append_left _ (List.mem_map.mpr ⟨(yX5_ofMemory, 22), List.mem_append_right _ (List.mem_append_right _ ((List.mem_of_getElem? (i := 1) rfl))), rfl⟩)) rfl
theorem ks_yX5_overflows : (.selects RX5 yX5_overflows yX5_overflows : Cond) ∈ wsG := in_wsG (List.mem_append_left _ (List.mem_map.mpr ⟨(yX5_overflows, 22), List.mem_append_right _ (List.mem_append_right _ ((List.mem_of_getElem? (i := 2) rfl))), rfl⟩)) rfl
theorem ks_yX5_index : (.selects RX5 yX5_index yX5_index : Cond) ∈ wsG := in_wsG (List.mem_append_left _ (List.mem_map.mpr ⟨(yX5_index, 22), List.mem_append_right _ (List.mem_append_right _ ((List.mem_of_getElem? (i := 3) rfl))), rfl⟩)) rfl
theorem ks_yX5_skips : (.selects RX5 yX5_skips yX5_skips : Cond) ∈ wsG := in_wsG (List.mem_append_left _ (List.mem_map.mpr ⟨(yX5_skips, 22), List.mem_append_right _ (List.mem_append_right _ ((List.mem_of_getElem? (i := 4) rfl))), rfl⟩)) rfl
theorem ks_yX5_multiplies : (.selects RX5 yX5_multiplies yX5_multiplies : Cond) ∈ wsG := in_wsG (List.mem_append_left _ (List.mem_map.mpr ⟨(yX5_multiplies, 22), List.mem_append_right _ (List.mem_append_right _ ((List.mem_of_getElem? (i := 5) rfl))), rfl⟩)) rfl
theorem ks_yX5_divides : (.selects RX5 yX5_divides yX5_divides : Cond) ∈ wsG := in_wsG (List.mem_append_left _ (List.mem_map.mpr ⟨(yX5_divides, 22), List.mem_append_right _ (List.mem_append_right _ ((List.mem_of_getElem? (i := 6) rfl))), rfl⟩)) rfl
theorem ks_yX5_calls : (.selects RX5 yX5_calls yX5_calls : Cond) ∈ wsG := in_wsG (List.mem_append_left _ (List.mem_map.mpr ⟨(yX5_calls, 22), List.mem_append_right _ (List.mem_append_right _ ((List.mem_of_getElem? (i := 7) rfl))), rfl⟩)) rfl
theorem ks_yX5_asksSkip : (.selects RX5 yX5_asksSkip yX5_asksSkip : Cond) ∈ wsG := in_wsG (List.mem_append_left _ (List.mem_map.mpr ⟨(yX5_asksSkip, 22), List.mem_append_right _ (List.mem_append_right _ ((List.mem_of_getElem? (i := 8) rfl))), rfl⟩)) rfl
theorem ks_yX5_shifts : (.selects RX5 yX5_shifts yX5_shifts : Cond) ∈ wsG := in_wsG (List.mem_append_left _ (List.mem_map.mpr ⟨(yX5_shifts, 22), List.mem_append_right _ (List.mem_append_right _ ((List.mem_of_getElem? (i := 9) rfl))), rfl⟩)) rfl
theorem ks_yX5_transfers : (.selects RX5 yX5_transfers yX5_transfers : Cond) ∈ wsG := in_wsG (List.mem_append_left _ (List.mem_map.mpr ⟨(yX5_transfers, 22), List.mem_append_right _ (List.mem_append_right _ ((List.mem_of_getElem? (i := 10) rfl))), rfl⟩)) rfl
theorem ks_yX5_operates : (.selects RX5 yX5_operates yX5_operates : Cond) ∈ wsG := in_wsG (List.mem_append_left _ (List.mem_map.mpr ⟨(yX5_operates, 22), List.mem_append_right _ (List.mem_append_right _ ((List.mem_of_getElem? (i := 11) rfl))), rfl⟩)) rfl
end
section
theorem dX0_init_0 : decode cX0_init 0 = .ok (.aload_n 0, 1) := by decide +kernel
theorem dX0_init_1 : decode cX0_init 1 = .ok (.invokespecial 3, 3) := by decide +kernel
theorem dX0_init_4 : decode cX0_init 4 = .ok (.aload_n 0, 1) := by decide +kernel
theorem dX0_init_5 : decode cX0_init 5 = .ok (.bipush 64, 2) := by decide +kernel
theorem dX0_init_7 : decode cX0_init 7 = .ok (.newarray .int, 2) := by decide +kernel
theorem dX0_init_9 : decode cX0_init 9 = .ok (.putfield 9, 3) := by decide +kernel
theorem dX0_init_12 : decode cX0_init 12 = .ok (.aload_n 0, 1) := by decide +kernel
theorem dX0_init_13 : decode cX0_init 13 = .ok (.bipush 64, 2) := by decide +kernel
theorem dX0_init_15 : decode cX0_init 15 = .ok (.newarray .int, 2) := by decide +kernel
theorem dX0_init_17 : decode cX0_init 17 = .ok (.putfield 15, 3) := by decide +kernel
theorem dX0_init_20 : decode cX0_init 20 = .ok (.return_, 1) := by decide +kernel
theorem dX0_show_0 : decode cX0_show 0 = .ok (.aload_n 0, 1) := by decide +kernel
theorem dX0_show_1 : decode cX0_show 1 = .ok (.getfield 18, 3) := by decide +kernel
theorem dX0_show_4 : decode cX0_show 4 = .ok (.bipush 63, 2) := by decide +kernel
theorem dX0_show_6 : decode cX0_show 6 = .ok (.iand, 1) := by decide +kernel
theorem dX0_show_7 : decode cX0_show 7 = .ok (.istore_n 3, 1) := by decide +kernel
theorem dX0_show_8 : decode cX0_show 8 = .ok (.aload_n 0, 1) := by decide +kernel
theorem dX0_show_9 : decode cX0_show 9 = .ok (.getfield 9, 3) := by decide +kernel
theorem dX0_show_12 : decode cX0_show 12 = .ok (.iload_n 3, 1) := by decide +kernel
theorem dX0_show_13 : decode cX0_show 13 = .ok (.iload_n 1, 1) := by decide +kernel
theorem dX0_show_14 : decode cX0_show 14 = .ok (.iastore, 1) := by decide +kernel
theorem dX0_show_15 : decode cX0_show 15 = .ok (.aload_n 0, 1) := by decide +kernel
theorem dX0_show_16 : decode cX0_show 16 = .ok (.getfield 15, 3) := by decide +kernel
theorem dX0_show_19 : decode cX0_show 19 = .ok (.iload_n 3, 1) := by decide +kernel
theorem dX0_show_20 : decode cX0_show 20 = .ok (.iload_n 2, 1) := by decide +kernel
theorem dX0_show_21 : decode cX0_show 21 = .ok (.iastore, 1) := by decide +kernel
theorem dX0_show_22 : decode cX0_show 22 = .ok (.aload_n 0, 1) := by decide +kernel
theorem dX0_show_23 : decode cX0_show 23 = .ok (.dup, 1) := by decide +kernel
theorem dX0_show_24 : decode cX0_show 24 = .ok (.getfield 18, 3) := by decide +kernel
theorem dX0_show_27 : decode cX0_show 27 = .ok (.iconst 1, 1) := by decide +kernel
theorem dX0_show_28 : decode cX0_show 28 = .ok (.iadd, 1) := by decide +kernel
theorem dX0_show_29 : decode cX0_show 29 = .ok (.putfield 18, 3) := by decide +kernel
theorem dX0_show_32 : decode cX0_show 32 = .ok (.return_, 1) := by decide +kernel
theorem dX0_keeps_0 : decode cX0_keeps 0 = .ok (.iload_n 1, 1) := by decide +kernel
theorem dX0_keeps_1 : decode cX0_keeps 1 = .ok (.ifCond .lt 21, 3) := by decide +kernel
theorem dX0_keeps_4 : decode cX0_keeps 4 = .ok (.iload_n 1, 1) := by decide +kernel
theorem dX0_keeps_5 : decode cX0_keeps 5 = .ok (.bipush 64, 2) := by decide +kernel
theorem dX0_keeps_7 : decode cX0_keeps 7 = .ok (.if_icmp .ge 15, 3) := by decide +kernel
theorem dX0_keeps_10 : decode cX0_keeps 10 = .ok (.iload_n 1, 1) := by decide +kernel
theorem dX0_keeps_11 : decode cX0_keeps 11 = .ok (.aload_n 0, 1) := by decide +kernel
theorem dX0_keeps_12 : decode cX0_keeps 12 = .ok (.getfield 18, 3) := by decide +kernel
theorem dX0_keeps_15 : decode cX0_keeps 15 = .ok (.if_icmp .ge 7, 3) := by decide +kernel
theorem dX0_keeps_18 : decode cX0_keeps 18 = .ok (.iconst 1, 1) := by decide +kernel
theorem dX0_keeps_19 : decode cX0_keeps 19 = .ok (.goto 4, 3) := by decide +kernel
theorem dX0_keeps_22 : decode cX0_keeps 22 = .ok (.iconst 0, 1) := by decide +kernel
theorem dX0_keeps_23 : decode cX0_keeps 23 = .ok (.ireturn, 1) := by decide +kernel
theorem dX0_xOf_0 : decode cX0_xOf 0 = .ok (.aload_n 0, 1) := by decide +kernel
theorem dX0_xOf_1 : decode cX0_xOf 1 = .ok (.getfield 9, 3) := by decide +kernel
theorem dX0_xOf_4 : decode cX0_xOf 4 = .ok (.aload_n 0, 1) := by decide +kernel
theorem dX0_xOf_5 : decode cX0_xOf 5 = .ok (.iload_n 1, 1) := by decide +kernel
theorem dX0_xOf_6 : decode cX0_xOf 6 = .ok (.invokevirtual 22, 3) := by decide +kernel
theorem dX0_xOf_9 : decode cX0_xOf 9 = .ok (.iaload, 1) := by decide +kernel
theorem dX0_xOf_10 : decode cX0_xOf 10 = .ok (.ireturn, 1) := by decide +kernel
theorem dX0_yOf_0 : decode cX0_yOf 0 = .ok (.aload_n 0, 1) := by decide +kernel
theorem dX0_yOf_1 : decode cX0_yOf 1 = .ok (.getfield 15, 3) := by decide +kernel
theorem dX0_yOf_4 : decode cX0_yOf 4 = .ok (.aload_n 0, 1) := by decide +kernel
theorem dX0_yOf_5 : decode cX0_yOf 5 = .ok (.iload_n 1, 1) := by decide +kernel
theorem dX0_yOf_6 : decode cX0_yOf 6 = .ok (.invokevirtual 22, 3) := by decide +kernel
theorem dX0_yOf_9 : decode cX0_yOf 9 = .ok (.iaload, 1) := by decide +kernel
theorem dX0_yOf_10 : decode cX0_yOf 10 = .ok (.ireturn, 1) := by decide +kernel
theorem dX0_slotOf_0 : decode cX0_slotOf 0 = .ok (.aload_n 0, 1) := by decide +kernel
theorem dX0_slotOf_1 : decode cX0_slotOf 1 = .ok (.getfield 18, 3) := by decide +kernel
theorem dX0_slotOf_4 : decode cX0_slotOf 4 = .ok (.iconst 1, 1) := by decide +kernel
theorem dX0_slotOf_5 : decode cX0_slotOf 5 = .ok (.isub, 1) := by decide +kernel
theorem dX0_slotOf_6 : decode cX0_slotOf 6 = .ok (.iload_n 1, 1) := by decide +kernel
theorem dX0_slotOf_7 : decode cX0_slotOf 7 = .ok (.isub, 1) := by decide +kernel
theorem dX0_slotOf_8 : decode cX0_slotOf 8 = .ok (.bipush 63, 2) := by decide +kernel
theorem dX0_slotOf_10 : decode cX0_slotOf 10 = .ok (.iand, 1) := by decide +kernel
theorem dX0_slotOf_11 : decode cX0_slotOf 11 = .ok (.ireturn, 1) := by decide +kernel
theorem dX1_init_0 : decode cX1_init 0 = .ok (.aload_n 0, 1) := by decide +kernel
theorem dX1_init_1 : decode cX1_init 1 = .ok (.invokespecial 3, 3) := by decide +kernel
theorem dX1_init_4 : decode cX1_init 4 = .ok (.aload_n 0, 1) := by decide +kernel
theorem dX1_init_5 : decode cX1_init 5 = .ok (.bipush 64, 2) := by decide +kernel
theorem dX1_init_7 : decode cX1_init 7 = .ok (.newarray .int, 2) := by decide +kernel
theorem dX1_init_9 : decode cX1_init 9 = .ok (.putfield 9, 3) := by decide +kernel
theorem dX1_init_12 : decode cX1_init 12 = .ok (.return_, 1) := by decide +kernel
theorem dX1_append_0 : decode cX1_append 0 = .ok (.aload_n 0, 1) := by decide +kernel
theorem dX1_append_1 : decode cX1_append 1 = .ok (.getfield 15, 3) := by decide +kernel
theorem dX1_append_4 : decode cX1_append 4 = .ok (.ifCond .lt 12, 3) := by decide +kernel
theorem dX1_append_7 : decode cX1_append 7 = .ok (.aload_n 0, 1) := by decide +kernel
theorem dX1_append_8 : decode cX1_append 8 = .ok (.getfield 15, 3) := by decide +kernel
theorem dX1_append_11 : decode cX1_append 11 = .ok (.bipush 64, 2) := by decide +kernel
theorem dX1_append_13 : decode cX1_append 13 = .ok (.if_icmp .lt 14, 3) := by decide +kernel
theorem dX1_append_16 : decode cX1_append 16 = .ok (.aload_n 0, 1) := by decide +kernel
theorem dX1_append_17 : decode cX1_append 17 = .ok (.dup, 1) := by decide +kernel
theorem dX1_append_18 : decode cX1_append 18 = .ok (.getfield 19, 3) := by decide +kernel
theorem dX1_append_21 : decode cX1_append 21 = .ok (.iconst 1, 1) := by decide +kernel
theorem dX1_append_22 : decode cX1_append 22 = .ok (.iadd, 1) := by decide +kernel
theorem dX1_append_23 : decode cX1_append 23 = .ok (.putfield 19, 3) := by decide +kernel
theorem dX1_append_26 : decode cX1_append 26 = .ok (.return_, 1) := by decide +kernel
theorem dX1_append_27 : decode cX1_append 27 = .ok (.aload_n 0, 1) := by decide +kernel
theorem dX1_append_28 : decode cX1_append 28 = .ok (.getfield 9, 3) := by decide +kernel
theorem dX1_append_31 : decode cX1_append 31 = .ok (.aload_n 0, 1) := by decide +kernel
theorem dX1_append_32 : decode cX1_append 32 = .ok (.getfield 15, 3) := by decide +kernel
theorem dX1_append_35 : decode cX1_append 35 = .ok (.iload_n 1, 1) := by decide +kernel
theorem dX1_append_36 : decode cX1_append 36 = .ok (.iastore, 1) := by decide +kernel
theorem dX1_append_37 : decode cX1_append 37 = .ok (.aload_n 0, 1) := by decide +kernel
theorem dX1_append_38 : decode cX1_append 38 = .ok (.dup, 1) := by decide +kernel
theorem dX1_append_39 : decode cX1_append 39 = .ok (.getfield 15, 3) := by decide +kernel
theorem dX1_append_42 : decode cX1_append 42 = .ok (.iconst 1, 1) := by decide +kernel
theorem dX1_append_43 : decode cX1_append 43 = .ok (.iadd, 1) := by decide +kernel
theorem dX1_append_44 : decode cX1_append 44 = .ok (.putfield 15, 3) := by decide +kernel
theorem dX1_append_47 : decode cX1_append 47 = .ok (.return_, 1) := by decide +kernel
theorem dX1_signAt_0 : decode cX1_signAt 0 = .ok (.iload_n 1, 1) := by decide +kernel
theorem dX1_signAt_1 : decode cX1_signAt 1 = .ok (.ifCond .lt 17, 3) := by decide +kernel
theorem dX1_signAt_4 : decode cX1_signAt 4 = .ok (.iload_n 1, 1) := by decide +kernel
theorem dX1_signAt_5 : decode cX1_signAt 5 = .ok (.aload_n 0, 1) := by decide +kernel
theorem dX1_signAt_6 : decode cX1_signAt 6 = .ok (.getfield 15, 3) := by decide +kernel
theorem dX1_signAt_9 : decode cX1_signAt 9 = .ok (.if_icmp .ge 9, 3) := by decide +kernel
theorem dX1_signAt_12 : decode cX1_signAt 12 = .ok (.iload_n 1, 1) := by decide +kernel
theorem dX1_signAt_13 : decode cX1_signAt 13 = .ok (.bipush 64, 2) := by decide +kernel
theorem dX1_signAt_15 : decode cX1_signAt 15 = .ok (.if_icmp .lt 8, 3) := by decide +kernel
theorem dX1_signAt_18 : decode cX1_signAt 18 = .ok (.bipush (-9), 2) := by decide +kernel
theorem dX1_signAt_20 : decode cX1_signAt 20 = .ok (.goto 9, 3) := by decide +kernel
theorem dX1_signAt_23 : decode cX1_signAt 23 = .ok (.aload_n 0, 1) := by decide +kernel
theorem dX1_signAt_24 : decode cX1_signAt 24 = .ok (.getfield 9, 3) := by decide +kernel
theorem dX1_signAt_27 : decode cX1_signAt 27 = .ok (.iload_n 1, 1) := by decide +kernel
theorem dX1_signAt_28 : decode cX1_signAt 28 = .ok (.iaload, 1) := by decide +kernel
theorem dX1_signAt_29 : decode cX1_signAt 29 = .ok (.ireturn, 1) := by decide +kernel
theorem dX2_init_0 : decode cX2_init 0 = .ok (.aload_n 0, 1) := by decide +kernel
theorem dX2_init_1 : decode cX2_init 1 = .ok (.invokespecial 3, 3) := by decide +kernel
theorem dX2_init_4 : decode cX2_init 4 = .ok (.aload_n 0, 1) := by decide +kernel
theorem dX2_init_5 : decode cX2_init 5 = .ok (.bipush (-9), 2) := by decide +kernel
theorem dX2_init_7 : decode cX2_init 7 = .ok (.putfield 9, 3) := by decide +kernel
theorem dX2_init_10 : decode cX2_init 10 = .ok (.return_, 1) := by decide +kernel
theorem dX2_begin_0 : decode cX2_begin 0 = .ok (.aload_n 0, 1) := by decide +kernel
theorem dX2_begin_1 : decode cX2_begin 1 = .ok (.iconst 0, 1) := by decide +kernel
theorem dX2_begin_2 : decode cX2_begin 2 = .ok (.putfield 15, 3) := by decide +kernel
theorem dX2_begin_5 : decode cX2_begin 5 = .ok (.aload_n 0, 1) := by decide +kernel
theorem dX2_begin_6 : decode cX2_begin 6 = .ok (.iconst 0, 1) := by decide +kernel
theorem dX2_begin_7 : decode cX2_begin 7 = .ok (.putfield 18, 3) := by decide +kernel
theorem dX2_begin_10 : decode cX2_begin 10 = .ok (.aload_n 0, 1) := by decide +kernel
theorem dX2_begin_11 : decode cX2_begin 11 = .ok (.iconst 0, 1) := by decide +kernel
theorem dX2_begin_12 : decode cX2_begin 12 = .ok (.putfield 21, 3) := by decide +kernel
theorem dX2_begin_15 : decode cX2_begin 15 = .ok (.aload_n 0, 1) := by decide +kernel
theorem dX2_begin_16 : decode cX2_begin 16 = .ok (.iconst 0, 1) := by decide +kernel
theorem dX2_begin_17 : decode cX2_begin 17 = .ok (.putfield 24, 3) := by decide +kernel
theorem dX2_begin_20 : decode cX2_begin 20 = .ok (.aload_n 0, 1) := by decide +kernel
theorem dX2_begin_21 : decode cX2_begin 21 = .ok (.iconst 0, 1) := by decide +kernel
theorem dX2_begin_22 : decode cX2_begin 22 = .ok (.putfield 27, 3) := by decide +kernel
theorem dX2_begin_25 : decode cX2_begin 25 = .ok (.aload_n 0, 1) := by decide +kernel
theorem dX2_begin_26 : decode cX2_begin 26 = .ok (.iconst 0, 1) := by decide +kernel
theorem dX2_begin_27 : decode cX2_begin 27 = .ok (.putfield 30, 3) := by decide +kernel
theorem dX2_begin_30 : decode cX2_begin 30 = .ok (.aload_n 0, 1) := by decide +kernel
theorem dX2_begin_31 : decode cX2_begin 31 = .ok (.bipush (-9), 2) := by decide +kernel
theorem dX2_begin_33 : decode cX2_begin 33 = .ok (.putfield 9, 3) := by decide +kernel
theorem dX2_begin_36 : decode cX2_begin 36 = .ok (.return_, 1) := by decide +kernel
theorem dX2_countStep_0 : decode cX2_countStep 0 = .ok (.aload_n 0, 1) := by decide +kernel
theorem dX2_countStep_1 : decode cX2_countStep 1 = .ok (.dup, 1) := by decide +kernel
theorem dX2_countStep_2 : decode cX2_countStep 2 = .ok (.getfield 15, 3) := by decide +kernel
theorem dX2_countStep_5 : decode cX2_countStep 5 = .ok (.iconst 1, 1) := by decide +kernel
theorem dX2_countStep_6 : decode cX2_countStep 6 = .ok (.iadd, 1) := by decide +kernel
theorem dX2_countStep_7 : decode cX2_countStep 7 = .ok (.putfield 15, 3) := by decide +kernel
theorem dX2_countStep_10 : decode cX2_countStep 10 = .ok (.aload_n 0, 1) := by decide +kernel
theorem dX2_countStep_11 : decode cX2_countStep 11 = .ok (.dup, 1) := by decide +kernel
theorem dX2_countStep_12 : decode cX2_countStep 12 = .ok (.getfield 33, 3) := by decide +kernel
theorem dX2_countStep_15 : decode cX2_countStep 15 = .ok (.iconst 1, 1) := by decide +kernel
theorem dX2_countStep_16 : decode cX2_countStep 16 = .ok (.iadd, 1) := by decide +kernel
theorem dX2_countStep_17 : decode cX2_countStep 17 = .ok (.putfield 33, 3) := by decide +kernel
theorem dX2_countStep_20 : decode cX2_countStep 20 = .ok (.return_, 1) := by decide +kernel
theorem dX3_init_0 : decode cX3_init 0 = .ok (.aload_n 0, 1) := by decide +kernel
theorem dX3_init_1 : decode cX3_init 1 = .ok (.invokespecial 3, 3) := by decide +kernel
theorem dX3_init_4 : decode cX3_init 4 = .ok (.aload_n 0, 1) := by decide +kernel
theorem dX3_init_5 : decode cX3_init 5 = .ok (.bipush 100, 2) := by decide +kernel
theorem dX3_init_7 : decode cX3_init 7 = .ok (.newarray .int, 2) := by decide +kernel
theorem dX3_init_9 : decode cX3_init 9 = .ok (.putfield 9, 3) := by decide +kernel
theorem dX3_init_12 : decode cX3_init 12 = .ok (.return_, 1) := by decide +kernel
theorem dX3_append_0 : decode cX3_append 0 = .ok (.aload_n 0, 1) := by decide +kernel
theorem dX3_append_1 : decode cX3_append 1 = .ok (.getfield 15, 3) := by decide +kernel
theorem dX3_append_4 : decode cX3_append 4 = .ok (.ifCond .lt 12, 3) := by decide +kernel
theorem dX3_append_7 : decode cX3_append 7 = .ok (.aload_n 0, 1) := by decide +kernel
theorem dX3_append_8 : decode cX3_append 8 = .ok (.getfield 15, 3) := by decide +kernel
theorem dX3_append_11 : decode cX3_append 11 = .ok (.bipush 100, 2) := by decide +kernel
theorem dX3_append_13 : decode cX3_append 13 = .ok (.if_icmp .lt 5, 3) := by decide +kernel
theorem dX3_append_16 : decode cX3_append 16 = .ok (.iconst 0, 1) := by decide +kernel
theorem dX3_append_17 : decode cX3_append 17 = .ok (.ireturn, 1) := by decide +kernel
theorem dX3_append_18 : decode cX3_append 18 = .ok (.aload_n 0, 1) := by decide +kernel
theorem dX3_append_19 : decode cX3_append 19 = .ok (.getfield 9, 3) := by decide +kernel
theorem dX3_append_22 : decode cX3_append 22 = .ok (.aload_n 0, 1) := by decide +kernel
theorem dX3_append_23 : decode cX3_append 23 = .ok (.getfield 15, 3) := by decide +kernel
theorem dX3_append_26 : decode cX3_append 26 = .ok (.iload_n 1, 1) := by decide +kernel
theorem dX3_append_27 : decode cX3_append 27 = .ok (.iastore, 1) := by decide +kernel
theorem dX3_append_28 : decode cX3_append 28 = .ok (.aload_n 0, 1) := by decide +kernel
theorem dX3_append_29 : decode cX3_append 29 = .ok (.dup, 1) := by decide +kernel
theorem dX3_append_30 : decode cX3_append 30 = .ok (.getfield 15, 3) := by decide +kernel
theorem dX3_append_33 : decode cX3_append 33 = .ok (.iconst 1, 1) := by decide +kernel
theorem dX3_append_34 : decode cX3_append 34 = .ok (.iadd, 1) := by decide +kernel
theorem dX3_append_35 : decode cX3_append 35 = .ok (.putfield 15, 3) := by decide +kernel
theorem dX3_append_38 : decode cX3_append 38 = .ok (.iconst 1, 1) := by decide +kernel
theorem dX3_append_39 : decode cX3_append 39 = .ok (.ireturn, 1) := by decide +kernel
theorem dX3_waiting_0 : decode cX3_waiting 0 = .ok (.aload_n 0, 1) := by decide +kernel
theorem dX3_waiting_1 : decode cX3_waiting 1 = .ok (.getfield 15, 3) := by decide +kernel
theorem dX3_waiting_4 : decode cX3_waiting 4 = .ok (.aload_n 0, 1) := by decide +kernel
theorem dX3_waiting_5 : decode cX3_waiting 5 = .ok (.getfield 19, 3) := by decide +kernel
theorem dX3_waiting_8 : decode cX3_waiting 8 = .ok (.isub, 1) := by decide +kernel
theorem dX3_waiting_9 : decode cX3_waiting 9 = .ok (.ireturn, 1) := by decide +kernel
theorem dX3_take_0 : decode cX3_take 0 = .ok (.aload_n 0, 1) := by decide +kernel
theorem dX3_take_1 : decode cX3_take 1 = .ok (.getfield 19, 3) := by decide +kernel
theorem dX3_take_4 : decode cX3_take 4 = .ok (.ifCond .lt 23, 3) := by decide +kernel
theorem dX3_take_7 : decode cX3_take 7 = .ok (.aload_n 0, 1) := by decide +kernel
theorem dX3_take_8 : decode cX3_take 8 = .ok (.getfield 19, 3) := by decide +kernel
theorem dX3_take_11 : decode cX3_take 11 = .ok (.aload_n 0, 1) := by decide +kernel
theorem dX3_take_12 : decode cX3_take 12 = .ok (.getfield 15, 3) := by decide +kernel
theorem dX3_take_15 : decode cX3_take 15 = .ok (.if_icmp .ge 12, 3) := by decide +kernel
theorem dX3_take_18 : decode cX3_take 18 = .ok (.aload_n 0, 1) := by decide +kernel
theorem dX3_take_19 : decode cX3_take 19 = .ok (.getfield 19, 3) := by decide +kernel
theorem dX3_take_22 : decode cX3_take 22 = .ok (.bipush 100, 2) := by decide +kernel
theorem dX3_take_24 : decode cX3_take 24 = .ok (.if_icmp .lt 5, 3) := by decide +kernel
theorem dX3_take_27 : decode cX3_take 27 = .ok (.iconst 0, 1) := by decide +kernel
theorem dX3_take_28 : decode cX3_take 28 = .ok (.ireturn, 1) := by decide +kernel
theorem dX3_take_29 : decode cX3_take 29 = .ok (.aload_n 0, 1) := by decide +kernel
theorem dX3_take_30 : decode cX3_take 30 = .ok (.getfield 9, 3) := by decide +kernel
theorem dX3_take_33 : decode cX3_take 33 = .ok (.aload_n 0, 1) := by decide +kernel
theorem dX3_take_34 : decode cX3_take 34 = .ok (.getfield 19, 3) := by decide +kernel
theorem dX3_take_37 : decode cX3_take 37 = .ok (.iaload, 1) := by decide +kernel
theorem dX3_take_38 : decode cX3_take 38 = .ok (.istore_n 1, 1) := by decide +kernel
theorem dX3_take_39 : decode cX3_take 39 = .ok (.aload_n 0, 1) := by decide +kernel
theorem dX3_take_40 : decode cX3_take 40 = .ok (.dup, 1) := by decide +kernel
theorem dX3_take_41 : decode cX3_take 41 = .ok (.getfield 19, 3) := by decide +kernel
theorem dX3_take_44 : decode cX3_take 44 = .ok (.iconst 1, 1) := by decide +kernel
theorem dX3_take_45 : decode cX3_take 45 = .ok (.iadd, 1) := by decide +kernel
theorem dX3_take_46 : decode cX3_take 46 = .ok (.putfield 19, 3) := by decide +kernel
theorem dX3_take_49 : decode cX3_take 49 = .ok (.iload_n 1, 1) := by decide +kernel
theorem dX3_take_50 : decode cX3_take 50 = .ok (.ireturn, 1) := by decide +kernel
theorem dX4_init_0 : decode cX4_init 0 = .ok (.aload_n 0, 1) := by decide +kernel
theorem dX4_init_1 : decode cX4_init 1 = .ok (.invokespecial 1, 3) := by decide +kernel
theorem dX4_init_4 : decode cX4_init 4 = .ok (.aload_n 0, 1) := by decide +kernel
theorem dX4_init_5 : decode cX4_init 5 = .ok (.sipush 4096, 3) := by decide +kernel
theorem dX4_init_8 : decode cX4_init 8 = .ok (.newarray .int, 2) := by decide +kernel
theorem dX4_init_10 : decode cX4_init 10 = .ok (.putfield 9, 3) := by decide +kernel
theorem dX4_init_13 : decode cX4_init 13 = .ok (.aload_n 0, 1) := by decide +kernel
theorem dX4_init_14 : decode cX4_init 14 = .ok (.new 13, 3) := by decide +kernel
theorem dX4_init_17 : decode cX4_init 17 = .ok (.dup, 1) := by decide +kernel
theorem dX4_init_18 : decode cX4_init 18 = .ok (.invokespecial 15, 3) := by decide +kernel
theorem dX4_init_21 : decode cX4_init 21 = .ok (.putfield 16, 3) := by decide +kernel
theorem dX4_init_24 : decode cX4_init 24 = .ok (.aload_n 0, 1) := by decide +kernel
theorem dX4_init_25 : decode cX4_init 25 = .ok (.new 20, 3) := by decide +kernel
theorem dX4_init_28 : decode cX4_init 28 = .ok (.dup, 1) := by decide +kernel
theorem dX4_init_29 : decode cX4_init 29 = .ok (.invokespecial 22, 3) := by decide +kernel
theorem dX4_init_32 : decode cX4_init 32 = .ok (.putfield 23, 3) := by decide +kernel
theorem dX4_init_35 : decode cX4_init 35 = .ok (.aload_n 0, 1) := by decide +kernel
theorem dX4_init_36 : decode cX4_init 36 = .ok (.new 27, 3) := by decide +kernel
theorem dX4_init_39 : decode cX4_init 39 = .ok (.dup, 1) := by decide +kernel
theorem dX4_init_40 : decode cX4_init 40 = .ok (.invokespecial 29, 3) := by decide +kernel
theorem dX4_init_43 : decode cX4_init 43 = .ok (.putfield 30, 3) := by decide +kernel
theorem dX4_init_46 : decode cX4_init 46 = .ok (.aload_n 0, 1) := by decide +kernel
theorem dX4_init_47 : decode cX4_init 47 = .ok (.new 34, 3) := by decide +kernel
theorem dX4_init_50 : decode cX4_init 50 = .ok (.dup, 1) := by decide +kernel
theorem dX4_init_51 : decode cX4_init 51 = .ok (.invokespecial 36, 3) := by decide +kernel
theorem dX4_init_54 : decode cX4_init 54 = .ok (.putfield 37, 3) := by decide +kernel
theorem dX4_init_57 : decode cX4_init 57 = .ok (.return_, 1) := by decide +kernel
theorem dX4_put_0 : decode cX4_put 0 = .ok (.iload_n 1, 1) := by decide +kernel
theorem dX4_put_1 : decode cX4_put 1 = .ok (.invokestatic 41, 3) := by decide +kernel
theorem dX4_put_4 : decode cX4_put 4 = .ok (.ifCond .eq 10, 3) := by decide +kernel
theorem dX4_put_7 : decode cX4_put 7 = .ok (.iload_n 2, 1) := by decide +kernel
theorem dX4_put_8 : decode cX4_put 8 = .ok (.invokestatic 45, 3) := by decide +kernel
theorem dX4_put_11 : decode cX4_put 11 = .ok (.ifCond .ne 5, 3) := by decide +kernel
theorem dX4_put_14 : decode cX4_put 14 = .ok (.iconst (-1), 1) := by decide +kernel
theorem dX4_put_15 : decode cX4_put 15 = .ok (.ireturn, 1) := by decide +kernel
theorem dX4_put_16 : decode cX4_put 16 = .ok (.aload_n 0, 1) := by decide +kernel
theorem dX4_put_17 : decode cX4_put 17 = .ok (.iload_n 1, 1) := by decide +kernel
theorem dX4_put_18 : decode cX4_put 18 = .ok (.invokevirtual 48, 3) := by decide +kernel
theorem dX4_put_21 : decode cX4_put 21 = .ok (.istore_n 3, 1) := by decide +kernel
theorem dX4_put_22 : decode cX4_put 22 = .ok (.aload_n 0, 1) := by decide +kernel
theorem dX4_put_23 : decode cX4_put 23 = .ok (.iload_n 1, 1) := by decide +kernel
theorem dX4_put_24 : decode cX4_put 24 = .ok (.iload_n 2, 1) := by decide +kernel
theorem dX4_put_25 : decode cX4_put 25 = .ok (.invokevirtual 52, 3) := by decide +kernel
theorem dX4_put_28 : decode cX4_put 28 = .ok (.iload_n 3, 1) := by decide +kernel
theorem dX4_put_29 : decode cX4_put 29 = .ok (.ireturn, 1) := by decide +kernel
theorem dX4_core_0 : decode cX4_core 0 = .ok (.iload_n 1, 1) := by decide +kernel
theorem dX4_core_1 : decode cX4_core 1 = .ok (.invokestatic 41, 3) := by decide +kernel
theorem dX4_core_4 : decode cX4_core 4 = .ok (.ifCond .eq 11, 3) := by decide +kernel
theorem dX4_core_7 : decode cX4_core 7 = .ok (.aload_n 0, 1) := by decide +kernel
theorem dX4_core_8 : decode cX4_core 8 = .ok (.iload_n 1, 1) := by decide +kernel
theorem dX4_core_9 : decode cX4_core 9 = .ok (.invokevirtual 48, 3) := by decide +kernel
theorem dX4_core_12 : decode cX4_core 12 = .ok (.goto 4, 3) := by decide +kernel
theorem dX4_core_15 : decode cX4_core 15 = .ok (.iconst (-1), 1) := by decide +kernel
theorem dX4_core_16 : decode cX4_core 16 = .ok (.ireturn, 1) := by decide +kernel
theorem dX4_load_0 : decode cX4_load 0 = .ok (.iload_n 1, 1) := by decide +kernel
theorem dX4_load_1 : decode cX4_load 1 = .ok (.invokestatic 41, 3) := by decide +kernel
theorem dX4_load_4 : decode cX4_load 4 = .ok (.ifCond .eq 27, 3) := by decide +kernel
theorem dX4_load_7 : decode cX4_load 7 = .ok (.iload 4, 2) := by decide +kernel
theorem dX4_load_9 : decode cX4_load 9 = .ok (.iconst 1, 1) := by decide +kernel
theorem dX4_load_10 : decode cX4_load 10 = .ok (.if_icmp .lt 21, 3) := by decide +kernel
theorem dX4_load_13 : decode cX4_load 13 = .ok (.iload 4, 2) := by decide +kernel
theorem dX4_load_15 : decode cX4_load 15 = .ok (.iconst 3, 1) := by decide +kernel
theorem dX4_load_16 : decode cX4_load 16 = .ok (.if_icmp .gt 15, 3) := by decide +kernel
theorem dX4_load_19 : decode cX4_load 19 = .ok (.lload_n 2, 1) := by decide +kernel
theorem dX4_load_20 : decode cX4_load 20 = .ok (.bipush 18, 2) := by decide +kernel
theorem dX4_load_22 : decode cX4_load 22 = .ok (.iload 4, 2) := by decide +kernel
theorem dX4_load_24 : decode cX4_load 24 = .ok (.imul, 1) := by decide +kernel
theorem dX4_load_25 : decode cX4_load 25 = .ok (.lushr, 1) := by decide +kernel
theorem dX4_load_26 : decode cX4_load 26 = .ok (.lconst 0, 1) := by decide +kernel
theorem dX4_load_27 : decode cX4_load 27 = .ok (.lcmp, 1) := by decide +kernel
theorem dX4_load_28 : decode cX4_load 28 = .ok (.ifCond .eq 5, 3) := by decide +kernel
theorem dX4_load_31 : decode cX4_load 31 = .ok (.iconst (-1), 1) := by decide +kernel
theorem dX4_load_32 : decode cX4_load 32 = .ok (.ireturn, 1) := by decide +kernel
theorem dX4_load_33 : decode cX4_load 33 = .ok (.iconst 0, 1) := by decide +kernel
theorem dX4_load_34 : decode cX4_load 34 = .ok (.istore 5, 2) := by decide +kernel
theorem dX4_load_36 : decode cX4_load 36 = .ok (.iload 5, 2) := by decide +kernel
theorem dX4_load_38 : decode cX4_load 38 = .ok (.iload 4, 2) := by decide +kernel
theorem dX4_load_40 : decode cX4_load 40 = .ok (.if_icmp .ge 38, 3) := by decide +kernel
theorem dX4_load_43 : decode cX4_load 43 = .ok (.lload_n 2, 1) := by decide +kernel
theorem dX4_load_44 : decode cX4_load 44 = .ok (.bipush 18, 2) := by decide +kernel
theorem dX4_load_46 : decode cX4_load 46 = .ok (.iload 4, 2) := by decide +kernel
theorem dX4_load_48 : decode cX4_load 48 = .ok (.iconst 1, 1) := by decide +kernel
theorem dX4_load_49 : decode cX4_load 49 = .ok (.isub, 1) := by decide +kernel
theorem dX4_load_50 : decode cX4_load 50 = .ok (.iload 5, 2) := by decide +kernel
theorem dX4_load_52 : decode cX4_load 52 = .ok (.isub, 1) := by decide +kernel
theorem dX4_load_53 : decode cX4_load 53 = .ok (.imul, 1) := by decide +kernel
theorem dX4_load_54 : decode cX4_load 54 = .ok (.lushr, 1) := by decide +kernel
theorem dX4_load_55 : decode cX4_load 55 = .ok (.lstore 6, 2) := by decide +kernel
theorem dX4_load_57 : decode cX4_load 57 = .ok (.aload_n 0, 1) := by decide +kernel
theorem dX4_load_58 : decode cX4_load 58 = .ok (.iload_n 1, 1) := by decide +kernel
theorem dX4_load_59 : decode cX4_load 59 = .ok (.iload 5, 2) := by decide +kernel
theorem dX4_load_61 : decode cX4_load 61 = .ok (.iadd, 1) := by decide +kernel
theorem dX4_load_62 : decode cX4_load 62 = .ok (.lload 6, 2) := by decide +kernel
theorem dX4_load_64 : decode cX4_load 64 = .ok (.ldc2_w 56, 3) := by decide +kernel
theorem dX4_load_67 : decode cX4_load 67 = .ok (.land, 1) := by decide +kernel
theorem dX4_load_68 : decode cX4_load 68 = .ok (.l2i, 1) := by decide +kernel
theorem dX4_load_69 : decode cX4_load 69 = .ok (.invokevirtual 52, 3) := by decide +kernel
theorem dX4_load_72 : decode cX4_load 72 = .ok (.iinc 5 1, 3) := by decide +kernel
theorem dX4_load_75 : decode cX4_load 75 = .ok (.goto (-39), 3) := by decide +kernel
theorem dX4_load_78 : decode cX4_load 78 = .ok (.iload 4, 2) := by decide +kernel
theorem dX4_load_80 : decode cX4_load 80 = .ok (.ireturn, 1) := by decide +kernel
theorem dX4_told_0 : decode cX4_told 0 = .ok (.iload_n 1, 1) := by decide +kernel
theorem dX4_told_1 : decode cX4_told 1 = .ok (.tableswitch 87 0 7 #[47, 52, 57, 62, 67, 72, 77, 82], 47) := by decide +kernel
theorem dX4_told_48 : decode cX4_told 48 = .ok (.aload_n 0, 1) := by decide +kernel
theorem dX4_told_49 : decode cX4_told 49 = .ok (.getfield 58, 3) := by decide +kernel
theorem dX4_told_52 : decode cX4_told 52 = .ok (.ireturn, 1) := by decide +kernel
theorem dX4_told_53 : decode cX4_told 53 = .ok (.aload_n 0, 1) := by decide +kernel
theorem dX4_told_54 : decode cX4_told 54 = .ok (.getfield 62, 3) := by decide +kernel
theorem dX4_told_57 : decode cX4_told 57 = .ok (.ireturn, 1) := by decide +kernel
theorem dX4_told_58 : decode cX4_told 58 = .ok (.aload_n 0, 1) := by decide +kernel
theorem dX4_told_59 : decode cX4_told 59 = .ok (.getfield 65, 3) := by decide +kernel
theorem dX4_told_62 : decode cX4_told 62 = .ok (.ireturn, 1) := by decide +kernel
theorem dX4_told_63 : decode cX4_told 63 = .ok (.aload_n 0, 1) := by decide +kernel
theorem dX4_told_64 : decode cX4_told 64 = .ok (.getfield 68, 3) := by decide +kernel
theorem dX4_told_67 : decode cX4_told 67 = .ok (.ireturn, 1) := by decide +kernel
theorem dX4_told_68 : decode cX4_told 68 = .ok (.aload_n 0, 1) := by decide +kernel
theorem dX4_told_69 : decode cX4_told 69 = .ok (.getfield 71, 3) := by decide +kernel
theorem dX4_told_72 : decode cX4_told 72 = .ok (.ireturn, 1) := by decide +kernel
theorem dX4_told_73 : decode cX4_told 73 = .ok (.aload_n 0, 1) := by decide +kernel
theorem dX4_told_74 : decode cX4_told 74 = .ok (.getfield 74, 3) := by decide +kernel
theorem dX4_told_77 : decode cX4_told 77 = .ok (.ireturn, 1) := by decide +kernel
theorem dX4_told_78 : decode cX4_told 78 = .ok (.aload_n 0, 1) := by decide +kernel
theorem dX4_told_79 : decode cX4_told 79 = .ok (.getfield 77, 3) := by decide +kernel
theorem dX4_told_82 : decode cX4_told 82 = .ok (.ireturn, 1) := by decide +kernel
theorem dX4_told_83 : decode cX4_told 83 = .ok (.aload_n 0, 1) := by decide +kernel
theorem dX4_told_84 : decode cX4_told 84 = .ok (.getfield 80, 3) := by decide +kernel
theorem dX4_told_87 : decode cX4_told 87 = .ok (.ireturn, 1) := by decide +kernel
theorem dX4_told_88 : decode cX4_told 88 = .ok (.iconst (-1), 1) := by decide +kernel
theorem dX4_told_89 : decode cX4_told 89 = .ok (.ireturn, 1) := by decide +kernel
theorem dX4_set_0 : decode cX4_set 0 = .ok (.iload_n 1, 1) := by decide +kernel
theorem dX4_set_1 : decode cX4_set 1 = .ok (.ifCond .lt 20, 3) := by decide +kernel
theorem dX4_set_4 : decode cX4_set 4 = .ok (.iload_n 1, 1) := by decide +kernel
theorem dX4_set_5 : decode cX4_set 5 = .ok (.iconst 5, 1) := by decide +kernel
theorem dX4_set_6 : decode cX4_set 6 = .ok (.if_icmp .gt 15, 3) := by decide +kernel
theorem dX4_set_9 : decode cX4_set 9 = .ok (.iload_n 2, 1) := by decide +kernel
theorem dX4_set_10 : decode cX4_set 10 = .ok (.ifCond .lt 11, 3) := by decide +kernel
theorem dX4_set_13 : decode cX4_set 13 = .ok (.iload_n 2, 1) := by decide +kernel
theorem dX4_set_14 : decode cX4_set 14 = .ok (.iload_n 1, 1) := by decide +kernel
theorem dX4_set_15 : decode cX4_set 15 = .ok (.invokestatic 83, 3) := by decide +kernel
theorem dX4_set_18 : decode cX4_set 18 = .ok (.if_icmp .le 5, 3) := by decide +kernel
theorem dX4_set_21 : decode cX4_set 21 = .ok (.iconst (-1), 1) := by decide +kernel
theorem dX4_set_22 : decode cX4_set 22 = .ok (.ireturn, 1) := by decide +kernel
theorem dX4_set_23 : decode cX4_set 23 = .ok (.aload_n 0, 1) := by decide +kernel
theorem dX4_set_24 : decode cX4_set 24 = .ok (.iload_n 1, 1) := by decide +kernel
theorem dX4_set_25 : decode cX4_set 25 = .ok (.invokevirtual 86, 3) := by decide +kernel
theorem dX4_set_28 : decode cX4_set 28 = .ok (.istore_n 3, 1) := by decide +kernel
theorem dX4_set_29 : decode cX4_set 29 = .ok (.iload_n 1, 1) := by decide +kernel
theorem dX4_set_30 : decode cX4_set 30 = .ok (.tableswitch 74 0 4 #[34, 42, 50, 58, 66], 34) := by decide +kernel
theorem dX4_set_64 : decode cX4_set 64 = .ok (.aload_n 0, 1) := by decide +kernel
theorem dX4_set_65 : decode cX4_set 65 = .ok (.iload_n 2, 1) := by decide +kernel
theorem dX4_set_66 : decode cX4_set 66 = .ok (.putfield 58, 3) := by decide +kernel
theorem dX4_set_69 : decode cX4_set 69 = .ok (.goto 40, 3) := by decide +kernel
theorem dX4_set_72 : decode cX4_set 72 = .ok (.aload_n 0, 1) := by decide +kernel
theorem dX4_set_73 : decode cX4_set 73 = .ok (.iload_n 2, 1) := by decide +kernel
theorem dX4_set_74 : decode cX4_set 74 = .ok (.putfield 62, 3) := by decide +kernel
theorem dX4_set_77 : decode cX4_set 77 = .ok (.goto 32, 3) := by decide +kernel
theorem dX4_set_80 : decode cX4_set 80 = .ok (.aload_n 0, 1) := by decide +kernel
theorem dX4_set_81 : decode cX4_set 81 = .ok (.iload_n 2, 1) := by decide +kernel
theorem dX4_set_82 : decode cX4_set 82 = .ok (.putfield 65, 3) := by decide +kernel
theorem dX4_set_85 : decode cX4_set 85 = .ok (.goto 24, 3) := by decide +kernel
theorem dX4_set_88 : decode cX4_set 88 = .ok (.aload_n 0, 1) := by decide +kernel
theorem dX4_set_89 : decode cX4_set 89 = .ok (.iload_n 2, 1) := by decide +kernel
theorem dX4_set_90 : decode cX4_set 90 = .ok (.putfield 68, 3) := by decide +kernel
theorem dX4_set_93 : decode cX4_set 93 = .ok (.goto 16, 3) := by decide +kernel
theorem dX4_set_96 : decode cX4_set 96 = .ok (.aload_n 0, 1) := by decide +kernel
theorem dX4_set_97 : decode cX4_set 97 = .ok (.iload_n 2, 1) := by decide +kernel
theorem dX4_set_98 : decode cX4_set 98 = .ok (.putfield 71, 3) := by decide +kernel
theorem dX4_set_101 : decode cX4_set 101 = .ok (.goto 8, 3) := by decide +kernel
theorem dX4_set_104 : decode cX4_set 104 = .ok (.aload_n 0, 1) := by decide +kernel
theorem dX4_set_105 : decode cX4_set 105 = .ok (.iload_n 2, 1) := by decide +kernel
theorem dX4_set_106 : decode cX4_set 106 = .ok (.putfield 74, 3) := by decide +kernel
theorem dX4_set_109 : decode cX4_set 109 = .ok (.iload_n 3, 1) := by decide +kernel
theorem dX4_set_110 : decode cX4_set 110 = .ok (.ireturn, 1) := by decide +kernel
theorem dX4_switches_0 : decode cX4_switches 0 = .ok (.iload_n 1, 1) := by decide +kernel
theorem dX4_switches_1 : decode cX4_switches 1 = .ok (.ifCond .lt 16, 3) := by decide +kernel
theorem dX4_switches_4 : decode cX4_switches 4 = .ok (.iload_n 1, 1) := by decide +kernel
theorem dX4_switches_5 : decode cX4_switches 5 = .ok (.bipush 63, 2) := by decide +kernel
theorem dX4_switches_7 : decode cX4_switches 7 = .ok (.if_icmp .gt 10, 3) := by decide +kernel
theorem dX4_switches_10 : decode cX4_switches 10 = .ok (.iload_n 2, 1) := by decide +kernel
theorem dX4_switches_11 : decode cX4_switches 11 = .ok (.invokestatic 45, 3) := by decide +kernel
theorem dX4_switches_14 : decode cX4_switches 14 = .ok (.ifCond .ne 5, 3) := by decide +kernel
theorem dX4_switches_17 : decode cX4_switches 17 = .ok (.iconst (-1), 1) := by decide +kernel
theorem dX4_switches_18 : decode cX4_switches 18 = .ok (.ireturn, 1) := by decide +kernel
theorem dX4_switches_19 : decode cX4_switches 19 = .ok (.aload_n 0, 1) := by decide +kernel
theorem dX4_switches_20 : decode cX4_switches 20 = .ok (.getfield 89, 3) := by decide +kernel
theorem dX4_switches_23 : decode cX4_switches 23 = .ok (.istore_n 3, 1) := by decide +kernel
theorem dX4_switches_24 : decode cX4_switches 24 = .ok (.aload_n 0, 1) := by decide +kernel
theorem dX4_switches_25 : decode cX4_switches 25 = .ok (.iload_n 1, 1) := by decide +kernel
theorem dX4_switches_26 : decode cX4_switches 26 = .ok (.putfield 89, 3) := by decide +kernel
theorem dX4_switches_29 : decode cX4_switches 29 = .ok (.aload_n 0, 1) := by decide +kernel
theorem dX4_switches_30 : decode cX4_switches 30 = .ok (.iload_n 2, 1) := by decide +kernel
theorem dX4_switches_31 : decode cX4_switches 31 = .ok (.putfield 92, 3) := by decide +kernel
theorem dX4_switches_34 : decode cX4_switches 34 = .ok (.iload_n 3, 1) := by decide +kernel
theorem dX4_switches_35 : decode cX4_switches 35 = .ok (.ireturn, 1) := by decide +kernel
theorem dX4_type_0 : decode cX4_type 0 = .ok (.iload_n 1, 1) := by decide +kernel
theorem dX4_type_1 : decode cX4_type 1 = .ok (.ifCond .lt 9, 3) := by decide +kernel
theorem dX4_type_4 : decode cX4_type 4 = .ok (.iload_n 1, 1) := by decide +kernel
theorem dX4_type_5 : decode cX4_type 5 = .ok (.bipush 63, 2) := by decide +kernel
theorem dX4_type_7 : decode cX4_type 7 = .ok (.if_icmp .le 5, 3) := by decide +kernel
theorem dX4_type_10 : decode cX4_type 10 = .ok (.iconst (-1), 1) := by decide +kernel
theorem dX4_type_11 : decode cX4_type 11 = .ok (.ireturn, 1) := by decide +kernel
theorem dX4_type_12 : decode cX4_type 12 = .ok (.aload_n 0, 1) := by decide +kernel
theorem dX4_type_13 : decode cX4_type 13 = .ok (.getfield 16, 3) := by decide +kernel
theorem dX4_type_16 : decode cX4_type 16 = .ok (.iload_n 1, 1) := by decide +kernel
theorem dX4_type_17 : decode cX4_type 17 = .ok (.invokevirtual 95, 3) := by decide +kernel
theorem dX4_type_20 : decode cX4_type 20 = .ok (.ifCond .eq 13, 3) := by decide +kernel
theorem dX4_type_23 : decode cX4_type 23 = .ok (.aload_n 0, 1) := by decide +kernel
theorem dX4_type_24 : decode cX4_type 24 = .ok (.getfield 16, 3) := by decide +kernel
theorem dX4_type_27 : decode cX4_type 27 = .ok (.invokevirtual 98, 3) := by decide +kernel
theorem dX4_type_30 : decode cX4_type 30 = .ok (.goto 5, 3) := by decide +kernel
theorem dX4_type_33 : decode cX4_type 33 = .ok (.bipush (-3), 2) := by decide +kernel
theorem dX4_type_35 : decode cX4_type 35 = .ok (.ireturn, 1) := by decide +kernel
theorem dX4_ask_0 : decode cX4_ask 0 = .ok (.aload_n 0, 1) := by decide +kernel
theorem dX4_ask_1 : decode cX4_ask 1 = .ok (.getfield 77, 3) := by decide +kernel
theorem dX4_ask_4 : decode cX4_ask 4 = .ok (.istore_n 1, 1) := by decide +kernel
theorem dX4_ask_5 : decode cX4_ask 5 = .ok (.aload_n 0, 1) := by decide +kernel
theorem dX4_ask_6 : decode cX4_ask 6 = .ok (.iconst 1, 1) := by decide +kernel
theorem dX4_ask_7 : decode cX4_ask 7 = .ok (.putfield 77, 3) := by decide +kernel
theorem dX4_ask_10 : decode cX4_ask 10 = .ok (.iconst 1, 1) := by decide +kernel
theorem dX4_ask_11 : decode cX4_ask 11 = .ok (.iload_n 1, 1) := by decide +kernel
theorem dX4_ask_12 : decode cX4_ask 12 = .ok (.isub, 1) := by decide +kernel
theorem dX4_ask_13 : decode cX4_ask 13 = .ok (.ireturn, 1) := by decide +kernel
theorem dX4_run_0 : decode cX4_run 0 = .ok (.iload_n 1, 1) := by decide +kernel
theorem dX4_run_1 : decode cX4_run 1 = .ok (.iconst 1, 1) := by decide +kernel
theorem dX4_run_2 : decode cX4_run 2 = .ok (.if_icmp .lt 10, 3) := by decide +kernel
theorem dX4_run_5 : decode cX4_run 5 = .ok (.iload_n 1, 1) := by decide +kernel
theorem dX4_run_6 : decode cX4_run 6 = .ok (.sipush 5000, 3) := by decide +kernel
theorem dX4_run_9 : decode cX4_run 9 = .ok (.if_icmp .le 5, 3) := by decide +kernel
theorem dX4_run_12 : decode cX4_run 12 = .ok (.iconst (-1), 1) := by decide +kernel
theorem dX4_run_13 : decode cX4_run 13 = .ok (.ireturn, 1) := by decide +kernel
theorem dX4_run_14 : decode cX4_run 14 = .ok (.aload_n 0, 1) := by decide +kernel
theorem dX4_run_15 : decode cX4_run 15 = .ok (.getfield 37, 3) := by decide +kernel
theorem dX4_run_18 : decode cX4_run 18 = .ok (.invokevirtual 102, 3) := by decide +kernel
theorem dX4_run_21 : decode cX4_run 21 = .ok (.iconst 0, 1) := by decide +kernel
theorem dX4_run_22 : decode cX4_run 22 = .ok (.istore_n 2, 1) := by decide +kernel
theorem dX4_run_23 : decode cX4_run 23 = .ok (.iconst 0, 1) := by decide +kernel
theorem dX4_run_24 : decode cX4_run 24 = .ok (.istore_n 3, 1) := by decide +kernel
theorem dX4_run_25 : decode cX4_run 25 = .ok (.iload_n 3, 1) := by decide +kernel
theorem dX4_run_26 : decode cX4_run 26 = .ok (.iload_n 1, 1) := by decide +kernel
theorem dX4_run_27 : decode cX4_run 27 = .ok (.if_icmp .ge 44, 3) := by decide +kernel
theorem dX4_run_30 : decode cX4_run 30 = .ok (.iload_n 2, 1) := by decide +kernel
theorem dX4_run_31 : decode cX4_run 31 = .ok (.ifCond .ne 40, 3) := by decide +kernel
theorem dX4_run_34 : decode cX4_run 34 = .ok (.aload_n 0, 1) := by decide +kernel
theorem dX4_run_35 : decode cX4_run 35 = .ok (.getfield 65, 3) := by decide +kernel
theorem dX4_run_38 : decode cX4_run 38 = .ok (.istore 4, 2) := by decide +kernel
theorem dX4_run_40 : decode cX4_run 40 = .ok (.aload_n 0, 1) := by decide +kernel
theorem dX4_run_41 : decode cX4_run 41 = .ok (.invokevirtual 105, 3) := by decide +kernel
theorem dX4_run_44 : decode cX4_run 44 = .ok (.istore_n 2, 1) := by decide +kernel
theorem dX4_run_45 : decode cX4_run 45 = .ok (.aload_n 0, 1) := by decide +kernel
theorem dX4_run_46 : decode cX4_run 46 = .ok (.getfield 37, 3) := by decide +kernel
theorem dX4_run_49 : decode cX4_run 49 = .ok (.invokevirtual 108, 3) := by decide +kernel
theorem dX4_run_52 : decode cX4_run 52 = .ok (.iload_n 2, 1) := by decide +kernel
theorem dX4_run_53 : decode cX4_run 53 = .ok (.ifCond .eq 12, 3) := by decide +kernel
theorem dX4_run_56 : decode cX4_run 56 = .ok (.aload_n 0, 1) := by decide +kernel
theorem dX4_run_57 : decode cX4_run 57 = .ok (.getfield 37, 3) := by decide +kernel
theorem dX4_run_60 : decode cX4_run 60 = .ok (.iload 4, 2) := by decide +kernel
theorem dX4_run_62 : decode cX4_run 62 = .ok (.putfield 111, 3) := by decide +kernel
theorem dX4_run_65 : decode cX4_run 65 = .ok (.iinc 3 1, 3) := by decide +kernel
theorem dX4_run_68 : decode cX4_run 68 = .ok (.goto (-43), 3) := by decide +kernel
theorem dX4_run_71 : decode cX4_run 71 = .ok (.iload_n 2, 1) := by decide +kernel
theorem dX4_run_72 : decode cX4_run 72 = .ok (.ireturn, 1) := by decide +kernel
end
section
theorem dX4_ran_0 : decode cX4_ran 0 = .ok (.iload_n 1, 1) := by decide +kernel
theorem dX4_ran_1 : decode cX4_ran 1 = .ok (.tableswitch 111 0 7 #[47, 55, 63, 71, 79, 87, 95, 103], 47) := by decide +kernel
theorem dX4_ran_48 : decode cX4_ran 48 = .ok (.aload_n 0, 1) := by decide +kernel
theorem dX4_ran_49 : decode cX4_ran 49 = .ok (.getfield 37, 3) := by decide +kernel
theorem dX4_ran_52 : decode cX4_ran 52 = .ok (.getfield 114, 3) := by decide +kernel
theorem dX4_ran_55 : decode cX4_ran 55 = .ok (.ireturn, 1) := by decide +kernel
theorem dX4_ran_56 : decode cX4_ran 56 = .ok (.aload_n 0, 1) := by decide +kernel
theorem dX4_ran_57 : decode cX4_ran 57 = .ok (.getfield 37, 3) := by decide +kernel
theorem dX4_ran_60 : decode cX4_ran 60 = .ok (.getfield 117, 3) := by decide +kernel
theorem dX4_ran_63 : decode cX4_ran 63 = .ok (.ireturn, 1) := by decide +kernel
theorem dX4_ran_64 : decode cX4_ran 64 = .ok (.aload_n 0, 1) := by decide +kernel
theorem dX4_ran_65 : decode cX4_ran 65 = .ok (.getfield 37, 3) := by decide +kernel
theorem dX4_ran_68 : decode cX4_ran 68 = .ok (.getfield 120, 3) := by decide +kernel
theorem dX4_ran_71 : decode cX4_ran 71 = .ok (.ireturn, 1) := by decide +kernel
theorem dX4_ran_72 : decode cX4_ran 72 = .ok (.aload_n 0, 1) := by decide +kernel
theorem dX4_ran_73 : decode cX4_ran 73 = .ok (.getfield 37, 3) := by decide +kernel
theorem dX4_ran_76 : decode cX4_ran 76 = .ok (.getfield 123, 3) := by decide +kernel
theorem dX4_ran_79 : decode cX4_ran 79 = .ok (.ireturn, 1) := by decide +kernel
theorem dX4_ran_80 : decode cX4_ran 80 = .ok (.aload_n 0, 1) := by decide +kernel
theorem dX4_ran_81 : decode cX4_ran 81 = .ok (.getfield 37, 3) := by decide +kernel
theorem dX4_ran_84 : decode cX4_ran 84 = .ok (.getfield 126, 3) := by decide +kernel
theorem dX4_ran_87 : decode cX4_ran 87 = .ok (.ireturn, 1) := by decide +kernel
theorem dX4_ran_88 : decode cX4_ran 88 = .ok (.aload_n 0, 1) := by decide +kernel
theorem dX4_ran_89 : decode cX4_ran 89 = .ok (.getfield 37, 3) := by decide +kernel
theorem dX4_ran_92 : decode cX4_ran 92 = .ok (.getfield 129, 3) := by decide +kernel
theorem dX4_ran_95 : decode cX4_ran 95 = .ok (.ireturn, 1) := by decide +kernel
theorem dX4_ran_96 : decode cX4_ran 96 = .ok (.aload_n 0, 1) := by decide +kernel
theorem dX4_ran_97 : decode cX4_ran 97 = .ok (.getfield 37, 3) := by decide +kernel
theorem dX4_ran_100 : decode cX4_ran 100 = .ok (.getfield 111, 3) := by decide +kernel
theorem dX4_ran_103 : decode cX4_ran 103 = .ok (.ireturn, 1) := by decide +kernel
theorem dX4_ran_104 : decode cX4_ran 104 = .ok (.aload_n 0, 1) := by decide +kernel
theorem dX4_ran_105 : decode cX4_ran 105 = .ok (.getfield 37, 3) := by decide +kernel
theorem dX4_ran_108 : decode cX4_ran 108 = .ok (.getfield 132, 3) := by decide +kernel
theorem dX4_ran_111 : decode cX4_ran 111 = .ok (.ireturn, 1) := by decide +kernel
theorem dX4_ran_112 : decode cX4_ran 112 = .ok (.iconst (-1), 1) := by decide +kernel
theorem dX4_ran_113 : decode cX4_ran 113 = .ok (.ireturn, 1) := by decide +kernel
theorem dX4_point_0 : decode cX4_point 0 = .ok (.iload_n 2, 1) := by decide +kernel
theorem dX4_point_1 : decode cX4_point 1 = .ok (.ifCond .lt 8, 3) := by decide +kernel
theorem dX4_point_4 : decode cX4_point 4 = .ok (.iload_n 2, 1) := by decide +kernel
theorem dX4_point_5 : decode cX4_point 5 = .ok (.iconst 1, 1) := by decide +kernel
theorem dX4_point_6 : decode cX4_point 6 = .ok (.if_icmp .le 5, 3) := by decide +kernel
theorem dX4_point_9 : decode cX4_point 9 = .ok (.iconst (-1), 1) := by decide +kernel
theorem dX4_point_10 : decode cX4_point 10 = .ok (.ireturn, 1) := by decide +kernel
theorem dX4_point_11 : decode cX4_point 11 = .ok (.aload_n 0, 1) := by decide +kernel
theorem dX4_point_12 : decode cX4_point 12 = .ok (.getfield 30, 3) := by decide +kernel
theorem dX4_point_15 : decode cX4_point 15 = .ok (.iload_n 1, 1) := by decide +kernel
theorem dX4_point_16 : decode cX4_point 16 = .ok (.invokevirtual 135, 3) := by decide +kernel
theorem dX4_point_19 : decode cX4_point 19 = .ok (.ifCond .ne 6, 3) := by decide +kernel
theorem dX4_point_22 : decode cX4_point 22 = .ok (.bipush (-9), 2) := by decide +kernel
theorem dX4_point_24 : decode cX4_point 24 = .ok (.ireturn, 1) := by decide +kernel
theorem dX4_point_25 : decode cX4_point 25 = .ok (.iload_n 2, 1) := by decide +kernel
theorem dX4_point_26 : decode cX4_point 26 = .ok (.ifCond .ne 14, 3) := by decide +kernel
theorem dX4_point_29 : decode cX4_point 29 = .ok (.aload_n 0, 1) := by decide +kernel
theorem dX4_point_30 : decode cX4_point 30 = .ok (.getfield 30, 3) := by decide +kernel
theorem dX4_point_33 : decode cX4_point 33 = .ok (.iload_n 1, 1) := by decide +kernel
theorem dX4_point_34 : decode cX4_point 34 = .ok (.invokevirtual 138, 3) := by decide +kernel
theorem dX4_point_37 : decode cX4_point 37 = .ok (.goto 11, 3) := by decide +kernel
theorem dX4_point_40 : decode cX4_point 40 = .ok (.aload_n 0, 1) := by decide +kernel
theorem dX4_point_41 : decode cX4_point 41 = .ok (.getfield 30, 3) := by decide +kernel
theorem dX4_point_44 : decode cX4_point 44 = .ok (.iload_n 1, 1) := by decide +kernel
theorem dX4_point_45 : decode cX4_point 45 = .ok (.invokevirtual 141, 3) := by decide +kernel
theorem dX4_point_48 : decode cX4_point 48 = .ok (.ireturn, 1) := by decide +kernel
theorem dX4_points_0 : decode cX4_points 0 = .ok (.aload_n 0, 1) := by decide +kernel
theorem dX4_points_1 : decode cX4_points 1 = .ok (.getfield 30, 3) := by decide +kernel
theorem dX4_points_4 : decode cX4_points 4 = .ok (.getfield 144, 3) := by decide +kernel
theorem dX4_points_7 : decode cX4_points 7 = .ok (.ireturn, 1) := by decide +kernel
theorem dX4_out_0 : decode cX4_out 0 = .ok (.iload_n 1, 1) := by decide +kernel
theorem dX4_out_1 : decode cX4_out 1 = .ok (.bipush (-2), 2) := by decide +kernel
theorem dX4_out_3 : decode cX4_out 3 = .ok (.if_icmp .ge 5, 3) := by decide +kernel
theorem dX4_out_6 : decode cX4_out 6 = .ok (.iconst (-1), 1) := by decide +kernel
theorem dX4_out_7 : decode cX4_out 7 = .ok (.ireturn, 1) := by decide +kernel
theorem dX4_out_8 : decode cX4_out 8 = .ok (.iload_n 1, 1) := by decide +kernel
theorem dX4_out_9 : decode cX4_out 9 = .ok (.bipush (-2), 2) := by decide +kernel
theorem dX4_out_11 : decode cX4_out 11 = .ok (.if_icmp .ne 11, 3) := by decide +kernel
theorem dX4_out_14 : decode cX4_out 14 = .ok (.aload_n 0, 1) := by decide +kernel
theorem dX4_out_15 : decode cX4_out 15 = .ok (.getfield 23, 3) := by decide +kernel
theorem dX4_out_18 : decode cX4_out 18 = .ok (.getfield 147, 3) := by decide +kernel
theorem dX4_out_21 : decode cX4_out 21 = .ok (.ireturn, 1) := by decide +kernel
theorem dX4_out_22 : decode cX4_out 22 = .ok (.iload_n 1, 1) := by decide +kernel
theorem dX4_out_23 : decode cX4_out 23 = .ok (.iconst (-1), 1) := by decide +kernel
theorem dX4_out_24 : decode cX4_out 24 = .ok (.if_icmp .ne 13, 3) := by decide +kernel
theorem dX4_out_27 : decode cX4_out 27 = .ok (.aload_n 0, 1) := by decide +kernel
theorem dX4_out_28 : decode cX4_out 28 = .ok (.getfield 23, 3) := by decide +kernel
theorem dX4_out_31 : decode cX4_out 31 = .ok (.getfield 150, 3) := by decide +kernel
theorem dX4_out_34 : decode cX4_out 34 = .ok (.goto 11, 3) := by decide +kernel
theorem dX4_out_37 : decode cX4_out 37 = .ok (.aload_n 0, 1) := by decide +kernel
theorem dX4_out_38 : decode cX4_out 38 = .ok (.getfield 23, 3) := by decide +kernel
theorem dX4_out_41 : decode cX4_out 41 = .ok (.iload_n 1, 1) := by decide +kernel
theorem dX4_out_42 : decode cX4_out 42 = .ok (.invokevirtual 153, 3) := by decide +kernel
theorem dX4_out_45 : decode cX4_out 45 = .ok (.ireturn, 1) := by decide +kernel
theorem dX4_value_0 : decode cX4_value 0 = .ok (.iload_n 1, 1) := by decide +kernel
theorem dX4_value_1 : decode cX4_value 1 = .ok (.invokestatic 45, 3) := by decide +kernel
theorem dX4_value_4 : decode cX4_value 4 = .ok (.ifCond .ne 6, 3) := by decide +kernel
theorem dX4_value_7 : decode cX4_value 7 = .ok (.ldc 156, 2) := by decide +kernel
theorem dX4_value_9 : decode cX4_value 9 = .ok (.ireturn, 1) := by decide +kernel
theorem dX4_value_10 : decode cX4_value 10 = .ok (.iload_n 1, 1) := by decide +kernel
theorem dX4_value_11 : decode cX4_value 11 = .ok (.invokestatic 157, 3) := by decide +kernel
theorem dX4_value_14 : decode cX4_value 14 = .ok (.ifCond .ne 7, 3) := by decide +kernel
theorem dX4_value_17 : decode cX4_value 17 = .ok (.iload_n 1, 1) := by decide +kernel
theorem dX4_value_18 : decode cX4_value 18 = .ok (.goto 7, 3) := by decide +kernel
theorem dX4_value_21 : decode cX4_value 21 = .ok (.iload_n 1, 1) := by decide +kernel
theorem dX4_value_22 : decode cX4_value 22 = .ok (.ldc 160, 2) := by decide +kernel
theorem dX4_value_24 : decode cX4_value 24 = .ok (.isub, 1) := by decide +kernel
theorem dX4_value_25 : decode cX4_value 25 = .ok (.ireturn, 1) := by decide +kernel
theorem dX4_word_0 : decode cX4_word 0 = .ok (.iload_n 1, 1) := by decide +kernel
theorem dX4_word_1 : decode cX4_word 1 = .ok (.ldc 161, 2) := by decide +kernel
theorem dX4_word_3 : decode cX4_word 3 = .ok (.if_icmp .lt 9, 3) := by decide +kernel
theorem dX4_word_6 : decode cX4_word 6 = .ok (.iload_n 1, 1) := by decide +kernel
theorem dX4_word_7 : decode cX4_word 7 = .ok (.ldc 162, 2) := by decide +kernel
theorem dX4_word_9 : decode cX4_word 9 = .ok (.if_icmp .le 5, 3) := by decide +kernel
theorem dX4_word_12 : decode cX4_word 12 = .ok (.iconst (-1), 1) := by decide +kernel
theorem dX4_word_13 : decode cX4_word 13 = .ok (.ireturn, 1) := by decide +kernel
theorem dX4_word_14 : decode cX4_word 14 = .ok (.iload_n 1, 1) := by decide +kernel
theorem dX4_word_15 : decode cX4_word 15 = .ok (.ifCond .ge 10, 3) := by decide +kernel
theorem dX4_word_18 : decode cX4_word 18 = .ok (.iload_n 1, 1) := by decide +kernel
theorem dX4_word_19 : decode cX4_word 19 = .ok (.ldc 160, 2) := by decide +kernel
theorem dX4_word_21 : decode cX4_word 21 = .ok (.iadd, 1) := by decide +kernel
theorem dX4_word_22 : decode cX4_word 22 = .ok (.goto 4, 3) := by decide +kernel
theorem dX4_word_25 : decode cX4_word 25 = .ok (.iload_n 1, 1) := by decide +kernel
theorem dX4_word_26 : decode cX4_word 26 = .ok (.ireturn, 1) := by decide +kernel
theorem dX4_reads_0 : decode cX4_reads 0 = .ok (.iload_n 1, 1) := by decide +kernel
theorem dX4_reads_1 : decode cX4_reads 1 = .ok (.invokestatic 45, 3) := by decide +kernel
theorem dX4_reads_4 : decode cX4_reads 4 = .ok (.ifCond .ne 5, 3) := by decide +kernel
theorem dX4_reads_7 : decode cX4_reads 7 = .ok (.iconst (-1), 1) := by decide +kernel
theorem dX4_reads_8 : decode cX4_reads 8 = .ok (.ireturn, 1) := by decide +kernel
theorem dX4_reads_9 : decode cX4_reads 9 = .ok (.iload_n 2, 1) := by decide +kernel
theorem dX4_reads_10 : decode cX4_reads 10 = .ok (.tableswitch 92 0 5 #[38, 43, 56, 61, 66, 79], 38) := by decide +kernel
theorem dX4_reads_48 : decode cX4_reads 48 = .ok (.iload_n 1, 1) := by decide +kernel
theorem dX4_reads_49 : decode cX4_reads 49 = .ok (.invokestatic 163, 3) := by decide +kernel
theorem dX4_reads_52 : decode cX4_reads 52 = .ok (.ireturn, 1) := by decide +kernel
theorem dX4_reads_53 : decode cX4_reads 53 = .ok (.iload_n 1, 1) := by decide +kernel
theorem dX4_reads_54 : decode cX4_reads 54 = .ok (.invokestatic 166, 3) := by decide +kernel
theorem dX4_reads_57 : decode cX4_reads 57 = .ok (.ifCond .eq 7, 3) := by decide +kernel
theorem dX4_reads_60 : decode cX4_reads 60 = .ok (.iconst 1, 1) := by decide +kernel
theorem dX4_reads_61 : decode cX4_reads 61 = .ok (.goto 4, 3) := by decide +kernel
theorem dX4_reads_64 : decode cX4_reads 64 = .ok (.iconst 0, 1) := by decide +kernel
theorem dX4_reads_65 : decode cX4_reads 65 = .ok (.ireturn, 1) := by decide +kernel
theorem dX4_reads_66 : decode cX4_reads 66 = .ok (.iload_n 1, 1) := by decide +kernel
theorem dX4_reads_67 : decode cX4_reads 67 = .ok (.invokestatic 169, 3) := by decide +kernel
theorem dX4_reads_70 : decode cX4_reads 70 = .ok (.ireturn, 1) := by decide +kernel
theorem dX4_reads_71 : decode cX4_reads 71 = .ok (.iload_n 1, 1) := by decide +kernel
theorem dX4_reads_72 : decode cX4_reads 72 = .ok (.invokestatic 170, 3) := by decide +kernel
theorem dX4_reads_75 : decode cX4_reads 75 = .ok (.ireturn, 1) := by decide +kernel
theorem dX4_reads_76 : decode cX4_reads 76 = .ok (.iload_n 1, 1) := by decide +kernel
theorem dX4_reads_77 : decode cX4_reads 77 = .ok (.invokestatic 173, 3) := by decide +kernel
theorem dX4_reads_80 : decode cX4_reads 80 = .ok (.ifCond .eq 7, 3) := by decide +kernel
theorem dX4_reads_83 : decode cX4_reads 83 = .ok (.iconst 1, 1) := by decide +kernel
theorem dX4_reads_84 : decode cX4_reads 84 = .ok (.goto 4, 3) := by decide +kernel
theorem dX4_reads_87 : decode cX4_reads 87 = .ok (.iconst 0, 1) := by decide +kernel
theorem dX4_reads_88 : decode cX4_reads 88 = .ok (.ireturn, 1) := by decide +kernel
theorem dX4_reads_89 : decode cX4_reads 89 = .ok (.iload_n 1, 1) := by decide +kernel
theorem dX4_reads_90 : decode cX4_reads 90 = .ok (.invokestatic 176, 3) := by decide +kernel
theorem dX4_reads_93 : decode cX4_reads 93 = .ok (.ifCond .eq 7, 3) := by decide +kernel
theorem dX4_reads_96 : decode cX4_reads 96 = .ok (.iconst 1, 1) := by decide +kernel
theorem dX4_reads_97 : decode cX4_reads 97 = .ok (.goto 4, 3) := by decide +kernel
theorem dX4_reads_100 : decode cX4_reads 100 = .ok (.iconst 0, 1) := by decide +kernel
theorem dX4_reads_101 : decode cX4_reads 101 = .ok (.ireturn, 1) := by decide +kernel
theorem dX4_reads_102 : decode cX4_reads 102 = .ok (.iconst (-1), 1) := by decide +kernel
theorem dX4_reads_103 : decode cX4_reads 103 = .ok (.ireturn, 1) := by decide +kernel
theorem dX4_digest_0 : decode cX4_digest 0 = .ok (.iconst 0, 1) := by decide +kernel
theorem dX4_digest_1 : decode cX4_digest 1 = .ok (.istore_n 1, 1) := by decide +kernel
theorem dX4_digest_2 : decode cX4_digest 2 = .ok (.iconst 0, 1) := by decide +kernel
theorem dX4_digest_3 : decode cX4_digest 3 = .ok (.istore_n 2, 1) := by decide +kernel
theorem dX4_digest_4 : decode cX4_digest 4 = .ok (.iload_n 2, 1) := by decide +kernel
theorem dX4_digest_5 : decode cX4_digest 5 = .ok (.sipush 4096, 3) := by decide +kernel
theorem dX4_digest_8 : decode cX4_digest 8 = .ok (.if_icmp .ge 20, 3) := by decide +kernel
theorem dX4_digest_11 : decode cX4_digest 11 = .ok (.bipush 31, 2) := by decide +kernel
theorem dX4_digest_13 : decode cX4_digest 13 = .ok (.iload_n 1, 1) := by decide +kernel
theorem dX4_digest_14 : decode cX4_digest 14 = .ok (.imul, 1) := by decide +kernel
theorem dX4_digest_15 : decode cX4_digest 15 = .ok (.aload_n 0, 1) := by decide +kernel
theorem dX4_digest_16 : decode cX4_digest 16 = .ok (.iload_n 2, 1) := by decide +kernel
theorem dX4_digest_17 : decode cX4_digest 17 = .ok (.invokevirtual 48, 3) := by decide +kernel
theorem dX4_digest_20 : decode cX4_digest 20 = .ok (.iadd, 1) := by decide +kernel
theorem dX4_digest_21 : decode cX4_digest 21 = .ok (.istore_n 1, 1) := by decide +kernel
theorem dX4_digest_22 : decode cX4_digest 22 = .ok (.iinc 2 1, 3) := by decide +kernel
theorem dX4_digest_25 : decode cX4_digest 25 = .ok (.goto (-21), 3) := by decide +kernel
theorem dX4_digest_28 : decode cX4_digest 28 = .ok (.iload_n 1, 1) := by decide +kernel
theorem dX4_digest_29 : decode cX4_digest 29 = .ok (.ireturn, 1) := by decide +kernel
theorem dX4_isAddress_0 : decode cX4_isAddress 0 = .ok (.iload_n 0, 1) := by decide +kernel
theorem dX4_isAddress_1 : decode cX4_isAddress 1 = .ok (.ifCond .lt 14, 3) := by decide +kernel
theorem dX4_isAddress_4 : decode cX4_isAddress 4 = .ok (.iload_n 0, 1) := by decide +kernel
theorem dX4_isAddress_5 : decode cX4_isAddress 5 = .ok (.sipush 4095, 3) := by decide +kernel
theorem dX4_isAddress_8 : decode cX4_isAddress 8 = .ok (.if_icmp .gt 7, 3) := by decide +kernel
theorem dX4_isAddress_11 : decode cX4_isAddress 11 = .ok (.iconst 1, 1) := by decide +kernel
theorem dX4_isAddress_12 : decode cX4_isAddress 12 = .ok (.goto 4, 3) := by decide +kernel
theorem dX4_isAddress_15 : decode cX4_isAddress 15 = .ok (.iconst 0, 1) := by decide +kernel
theorem dX4_isAddress_16 : decode cX4_isAddress 16 = .ok (.ireturn, 1) := by decide +kernel
theorem dX4_isWord_0 : decode cX4_isWord 0 = .ok (.iload_n 0, 1) := by decide +kernel
theorem dX4_isWord_1 : decode cX4_isWord 1 = .ok (.ifCond .lt 13, 3) := by decide +kernel
theorem dX4_isWord_4 : decode cX4_isWord 4 = .ok (.iload_n 0, 1) := by decide +kernel
theorem dX4_isWord_5 : decode cX4_isWord 5 = .ok (.ldc 160, 2) := by decide +kernel
theorem dX4_isWord_7 : decode cX4_isWord 7 = .ok (.if_icmp .gt 7, 3) := by decide +kernel
theorem dX4_isWord_10 : decode cX4_isWord 10 = .ok (.iconst 1, 1) := by decide +kernel
theorem dX4_isWord_11 : decode cX4_isWord 11 = .ok (.goto 4, 3) := by decide +kernel
theorem dX4_isWord_14 : decode cX4_isWord 14 = .ok (.iconst 0, 1) := by decide +kernel
theorem dX4_isWord_15 : decode cX4_isWord 15 = .ok (.ireturn, 1) := by decide +kernel
theorem dX4_mostOf_0 : decode cX4_mostOf 0 = .ok (.iload_n 0, 1) := by decide +kernel
theorem dX4_mostOf_1 : decode cX4_mostOf 1 = .ok (.tableswitch 45 0 4 #[35, 35, 38, 45, 42], 35) := by decide +kernel
theorem dX4_mostOf_36 : decode cX4_mostOf 36 = .ok (.ldc 160, 2) := by decide +kernel
theorem dX4_mostOf_38 : decode cX4_mostOf 38 = .ok (.ireturn, 1) := by decide +kernel
theorem dX4_mostOf_39 : decode cX4_mostOf 39 = .ok (.sipush 4095, 3) := by decide +kernel
theorem dX4_mostOf_42 : decode cX4_mostOf 42 = .ok (.ireturn, 1) := by decide +kernel
theorem dX4_mostOf_43 : decode cX4_mostOf 43 = .ok (.bipush 63, 2) := by decide +kernel
theorem dX4_mostOf_45 : decode cX4_mostOf 45 = .ok (.ireturn, 1) := by decide +kernel
theorem dX4_mostOf_46 : decode cX4_mostOf 46 = .ok (.iconst 1, 1) := by decide +kernel
theorem dX4_mostOf_47 : decode cX4_mostOf 47 = .ok (.ireturn, 1) := by decide +kernel
theorem dX4_signOf_0 : decode cX4_signOf 0 = .ok (.iload_n 0, 1) := by decide +kernel
theorem dX4_signOf_1 : decode cX4_signOf 1 = .ok (.ldc 179, 2) := by decide +kernel
theorem dX4_signOf_3 : decode cX4_signOf 3 = .ok (.iand, 1) := by decide +kernel
theorem dX4_signOf_4 : decode cX4_signOf 4 = .ok (.ifCond .ne 7, 3) := by decide +kernel
theorem dX4_signOf_7 : decode cX4_signOf 7 = .ok (.iconst 0, 1) := by decide +kernel
theorem dX4_signOf_8 : decode cX4_signOf 8 = .ok (.goto 4, 3) := by decide +kernel
theorem dX4_signOf_11 : decode cX4_signOf 11 = .ok (.iconst 1, 1) := by decide +kernel
theorem dX4_signOf_12 : decode cX4_signOf 12 = .ok (.ireturn, 1) := by decide +kernel
theorem dX4_not_0 : decode cX4_not 0 = .ok (.ldc 160, 2) := by decide +kernel
theorem dX4_not_2 : decode cX4_not 2 = .ok (.iload_n 0, 1) := by decide +kernel
theorem dX4_not_3 : decode cX4_not 3 = .ok (.isub, 1) := by decide +kernel
theorem dX4_not_4 : decode cX4_not 4 = .ok (.ireturn, 1) := by decide +kernel
theorem dX4_sum_0 : decode cX4_sum 0 = .ok (.iload_n 0, 1) := by decide +kernel
theorem dX4_sum_1 : decode cX4_sum 1 = .ok (.iload_n 1, 1) := by decide +kernel
theorem dX4_sum_2 : decode cX4_sum 2 = .ok (.iadd, 1) := by decide +kernel
theorem dX4_sum_3 : decode cX4_sum 3 = .ok (.istore_n 2, 1) := by decide +kernel
theorem dX4_sum_4 : decode cX4_sum 4 = .ok (.iload_n 2, 1) := by decide +kernel
theorem dX4_sum_5 : decode cX4_sum 5 = .ok (.ldc 160, 2) := by decide +kernel
theorem dX4_sum_7 : decode cX4_sum 7 = .ok (.if_icmp .le 10, 3) := by decide +kernel
theorem dX4_sum_10 : decode cX4_sum 10 = .ok (.iload_n 2, 1) := by decide +kernel
theorem dX4_sum_11 : decode cX4_sum 11 = .ok (.ldc 160, 2) := by decide +kernel
theorem dX4_sum_13 : decode cX4_sum 13 = .ok (.isub, 1) := by decide +kernel
theorem dX4_sum_14 : decode cX4_sum 14 = .ok (.goto 4, 3) := by decide +kernel
theorem dX4_sum_17 : decode cX4_sum 17 = .ok (.iload_n 2, 1) := by decide +kernel
theorem dX4_sum_18 : decode cX4_sum 18 = .ok (.ireturn, 1) := by decide +kernel
theorem dX4_withoutMinusZero_0 : decode cX4_withoutMinusZero 0 = .ok (.iload_n 0, 1) := by decide +kernel
theorem dX4_withoutMinusZero_1 : decode cX4_withoutMinusZero 1 = .ok (.ldc 160, 2) := by decide +kernel
theorem dX4_withoutMinusZero_3 : decode cX4_withoutMinusZero 3 = .ok (.if_icmp .ne 7, 3) := by decide +kernel
theorem dX4_withoutMinusZero_6 : decode cX4_withoutMinusZero 6 = .ok (.iconst 0, 1) := by decide +kernel
theorem dX4_withoutMinusZero_7 : decode cX4_withoutMinusZero 7 = .ok (.goto 4, 3) := by decide +kernel
theorem dX4_withoutMinusZero_10 : decode cX4_withoutMinusZero 10 = .ok (.iload_n 0, 1) := by decide +kernel
theorem dX4_withoutMinusZero_11 : decode cX4_withoutMinusZero 11 = .ok (.ireturn, 1) := by decide +kernel
theorem dX4_codeOf_0 : decode cX4_codeOf 0 = .ok (.iload_n 0, 1) := by decide +kernel
theorem dX4_codeOf_1 : decode cX4_codeOf 1 = .ok (.bipush 13, 2) := by decide +kernel
theorem dX4_codeOf_3 : decode cX4_codeOf 3 = .ok (.ishr, 1) := by decide +kernel
theorem dX4_codeOf_4 : decode cX4_codeOf 4 = .ok (.ireturn, 1) := by decide +kernel
theorem dX4_hasI_0 : decode cX4_hasI 0 = .ok (.iload_n 0, 1) := by decide +kernel
theorem dX4_hasI_1 : decode cX4_hasI 1 = .ok (.sipush 4096, 3) := by decide +kernel
theorem dX4_hasI_4 : decode cX4_hasI 4 = .ok (.iand, 1) := by decide +kernel
theorem dX4_hasI_5 : decode cX4_hasI 5 = .ok (.ifCond .eq 7, 3) := by decide +kernel
theorem dX4_hasI_8 : decode cX4_hasI 8 = .ok (.iconst 1, 1) := by decide +kernel
theorem dX4_hasI_9 : decode cX4_hasI 9 = .ok (.goto 4, 3) := by decide +kernel
theorem dX4_hasI_12 : decode cX4_hasI 12 = .ok (.iconst 0, 1) := by decide +kernel
theorem dX4_hasI_13 : decode cX4_hasI 13 = .ok (.ireturn, 1) := by decide +kernel
theorem dX4_yOf_0 : decode cX4_yOf 0 = .ok (.iload_n 0, 1) := by decide +kernel
theorem dX4_yOf_1 : decode cX4_yOf 1 = .ok (.sipush 4095, 3) := by decide +kernel
theorem dX4_yOf_4 : decode cX4_yOf 4 = .ok (.iand, 1) := by decide +kernel
theorem dX4_yOf_5 : decode cX4_yOf 5 = .ok (.ireturn, 1) := by decide +kernel
theorem dX4_onesOf_0 : decode cX4_onesOf 0 = .ok (.iload_n 0, 1) := by decide +kernel
theorem dX4_onesOf_1 : decode cX4_onesOf 1 = .ok (.sipush 511, 3) := by decide +kernel
theorem dX4_onesOf_4 : decode cX4_onesOf 4 = .ok (.iand, 1) := by decide +kernel
theorem dX4_onesOf_5 : decode cX4_onesOf 5 = .ok (.invokestatic 180, 3) := by decide +kernel
theorem dX4_onesOf_8 : decode cX4_onesOf 8 = .ok (.ireturn, 1) := by decide +kernel
theorem dX4_shiftKindOf_0 : decode cX4_shiftKindOf 0 = .ok (.iload_n 0, 1) := by decide +kernel
theorem dX4_shiftKindOf_1 : decode cX4_shiftKindOf 1 = .ok (.bipush 9, 2) := by decide +kernel
theorem dX4_shiftKindOf_3 : decode cX4_shiftKindOf 3 = .ok (.ishr, 1) := by decide +kernel
theorem dX4_shiftKindOf_4 : decode cX4_shiftKindOf 4 = .ok (.bipush 15, 2) := by decide +kernel
theorem dX4_shiftKindOf_6 : decode cX4_shiftKindOf 6 = .ok (.iand, 1) := by decide +kernel
theorem dX4_shiftKindOf_7 : decode cX4_shiftKindOf 7 = .ok (.ireturn, 1) := by decide +kernel
theorem dX4_hasAddress_0 : decode cX4_hasAddress 0 = .ok (.iload_n 0, 1) := by decide +kernel
theorem dX4_hasAddress_1 : decode cX4_hasAddress 1 = .ok (.invokestatic 163, 3) := by decide +kernel
theorem dX4_hasAddress_4 : decode cX4_hasAddress 4 = .ok (.istore_n 1, 1) := by decide +kernel
theorem dX4_hasAddress_5 : decode cX4_hasAddress 5 = .ok (.iload_n 1, 1) := by decide +kernel
theorem dX4_hasAddress_6 : decode cX4_hasAddress 6 = .ok (.iconst 1, 1) := by decide +kernel
theorem dX4_hasAddress_7 : decode cX4_hasAddress 7 = .ok (.if_icmp .lt 8, 3) := by decide +kernel
theorem dX4_hasAddress_10 : decode cX4_hasAddress 10 = .ok (.iload_n 1, 1) := by decide +kernel
theorem dX4_hasAddress_11 : decode cX4_hasAddress 11 = .ok (.iconst 4, 1) := by decide +kernel
theorem dX4_hasAddress_12 : decode cX4_hasAddress 12 = .ok (.if_icmp .le 27, 3) := by decide +kernel
theorem dX4_hasAddress_15 : decode cX4_hasAddress 15 = .ok (.iload_n 1, 1) := by decide +kernel
theorem dX4_hasAddress_16 : decode cX4_hasAddress 16 = .ok (.bipush 8, 2) := by decide +kernel
theorem dX4_hasAddress_18 : decode cX4_hasAddress 18 = .ok (.if_icmp .lt 9, 3) := by decide +kernel
theorem dX4_hasAddress_21 : decode cX4_hasAddress 21 = .ok (.iload_n 1, 1) := by decide +kernel
theorem dX4_hasAddress_22 : decode cX4_hasAddress 22 = .ok (.bipush 14, 2) := by decide +kernel
theorem dX4_hasAddress_24 : decode cX4_hasAddress 24 = .ok (.if_icmp .le 15, 3) := by decide +kernel
theorem dX4_hasAddress_27 : decode cX4_hasAddress 27 = .ok (.iload_n 1, 1) := by decide +kernel
theorem dX4_hasAddress_28 : decode cX4_hasAddress 28 = .ok (.bipush 16, 2) := by decide +kernel
theorem dX4_hasAddress_30 : decode cX4_hasAddress 30 = .ok (.if_icmp .lt 13, 3) := by decide +kernel
theorem dX4_hasAddress_33 : decode cX4_hasAddress 33 = .ok (.iload_n 1, 1) := by decide +kernel
theorem dX4_hasAddress_34 : decode cX4_hasAddress 34 = .ok (.bipush 25, 2) := by decide +kernel
theorem dX4_hasAddress_36 : decode cX4_hasAddress 36 = .ok (.if_icmp .gt 7, 3) := by decide +kernel
theorem dX4_hasAddress_39 : decode cX4_hasAddress 39 = .ok (.iconst 1, 1) := by decide +kernel
theorem dX4_hasAddress_40 : decode cX4_hasAddress 40 = .ok (.goto 4, 3) := by decide +kernel
theorem dX4_hasAddress_43 : decode cX4_hasAddress 43 = .ok (.iconst 0, 1) := by decide +kernel
theorem dX4_hasAddress_44 : decode cX4_hasAddress 44 = .ok (.ireturn, 1) := by decide +kernel
theorem dX4_isIllegal_0 : decode cX4_isIllegal 0 = .ok (.iload_n 0, 1) := by decide +kernel
theorem dX4_isIllegal_1 : decode cX4_isIllegal 1 = .ok (.invokestatic 163, 3) := by decide +kernel
theorem dX4_isIllegal_4 : decode cX4_isIllegal 4 = .ok (.lookupswitch 77 #[(0, 60), (5, 60), (6, 60), (15, 60), (27, 62), (30, 60)], 60) := by decide +kernel
theorem dX4_isIllegal_64 : decode cX4_isIllegal 64 = .ok (.iconst 1, 1) := by decide +kernel
theorem dX4_isIllegal_65 : decode cX4_isIllegal 65 = .ok (.ireturn, 1) := by decide +kernel
theorem dX4_isIllegal_66 : decode cX4_isIllegal 66 = .ok (.iload_n 0, 1) := by decide +kernel
theorem dX4_isIllegal_67 : decode cX4_isIllegal 67 = .ok (.invokestatic 185, 3) := by decide +kernel
theorem dX4_isIllegal_70 : decode cX4_isIllegal 70 = .ok (.iconst 3, 1) := by decide +kernel
theorem dX4_isIllegal_71 : decode cX4_isIllegal 71 = .ok (.iand, 1) := by decide +kernel
theorem dX4_isIllegal_72 : decode cX4_isIllegal 72 = .ok (.ifCond .ne 7, 3) := by decide +kernel
theorem dX4_isIllegal_75 : decode cX4_isIllegal 75 = .ok (.iconst 1, 1) := by decide +kernel
theorem dX4_isIllegal_76 : decode cX4_isIllegal 76 = .ok (.goto 4, 3) := by decide +kernel
theorem dX4_isIllegal_79 : decode cX4_isIllegal 79 = .ok (.iconst 0, 1) := by decide +kernel
theorem dX4_isIllegal_80 : decode cX4_isIllegal 80 = .ok (.ireturn, 1) := by decide +kernel
theorem dX4_isIllegal_81 : decode cX4_isIllegal 81 = .ok (.iconst 0, 1) := by decide +kernel
theorem dX4_isIllegal_82 : decode cX4_isIllegal 82 = .ok (.ireturn, 1) := by decide +kernel
theorem dX4_fetch_0 : decode cX4_fetch 0 = .ok (.aload_n 0, 1) := by decide +kernel
theorem dX4_fetch_1 : decode cX4_fetch 1 = .ok (.getfield 9, 3) := by decide +kernel
theorem dX4_fetch_4 : decode cX4_fetch 4 = .ok (.iload_n 1, 1) := by decide +kernel
theorem dX4_fetch_5 : decode cX4_fetch 5 = .ok (.sipush 4095, 3) := by decide +kernel
theorem dX4_fetch_8 : decode cX4_fetch 8 = .ok (.iand, 1) := by decide +kernel
theorem dX4_fetch_9 : decode cX4_fetch 9 = .ok (.iaload, 1) := by decide +kernel
theorem dX4_fetch_10 : decode cX4_fetch 10 = .ok (.ireturn, 1) := by decide +kernel
theorem dX4_store_0 : decode cX4_store 0 = .ok (.aload_n 0, 1) := by decide +kernel
theorem dX4_store_1 : decode cX4_store 1 = .ok (.getfield 9, 3) := by decide +kernel
theorem dX4_store_4 : decode cX4_store 4 = .ok (.iload_n 1, 1) := by decide +kernel
theorem dX4_store_5 : decode cX4_store 5 = .ok (.sipush 4095, 3) := by decide +kernel
theorem dX4_store_8 : decode cX4_store 8 = .ok (.iand, 1) := by decide +kernel
theorem dX4_store_9 : decode cX4_store 9 = .ok (.iload_n 2, 1) := by decide +kernel
theorem dX4_store_10 : decode cX4_store 10 = .ok (.iastore, 1) := by decide +kernel
theorem dX4_store_11 : decode cX4_store 11 = .ok (.return_, 1) := by decide +kernel
theorem dX4_place_0 : decode cX4_place 0 = .ok (.aload_n 0, 1) := by decide +kernel
theorem dX4_place_1 : decode cX4_place 1 = .ok (.getfield 68, 3) := by decide +kernel
theorem dX4_place_4 : decode cX4_place 4 = .ok (.ifCond .ne 10, 3) := by decide +kernel
theorem dX4_place_7 : decode cX4_place 7 = .ok (.aload_n 0, 1) := by decide +kernel
theorem dX4_place_8 : decode cX4_place 8 = .ok (.getfield 65, 3) := by decide +kernel
theorem dX4_place_11 : decode cX4_place 11 = .ok (.goto 10, 3) := by decide +kernel
theorem dX4_place_14 : decode cX4_place 14 = .ok (.aload_n 0, 1) := by decide +kernel
theorem dX4_place_15 : decode cX4_place 15 = .ok (.getfield 65, 3) := by decide +kernel
theorem dX4_place_18 : decode cX4_place 18 = .ok (.ldc 179, 2) := by decide +kernel
theorem dX4_place_20 : decode cX4_place 20 = .ok (.iadd, 1) := by decide +kernel
theorem dX4_place_21 : decode cX4_place 21 = .ok (.ireturn, 1) := by decide +kernel
theorem dX4_advance_0 : decode cX4_advance 0 = .ok (.aload_n 0, 1) := by decide +kernel
theorem dX4_advance_1 : decode cX4_advance 1 = .ok (.aload_n 0, 1) := by decide +kernel
theorem dX4_advance_2 : decode cX4_advance 2 = .ok (.getfield 65, 3) := by decide +kernel
theorem dX4_advance_5 : decode cX4_advance 5 = .ok (.iconst 1, 1) := by decide +kernel
theorem dX4_advance_6 : decode cX4_advance 6 = .ok (.iadd, 1) := by decide +kernel
theorem dX4_advance_7 : decode cX4_advance 7 = .ok (.sipush 4095, 3) := by decide +kernel
theorem dX4_advance_10 : decode cX4_advance 10 = .ok (.iand, 1) := by decide +kernel
theorem dX4_advance_11 : decode cX4_advance 11 = .ok (.putfield 65, 3) := by decide +kernel
theorem dX4_advance_14 : decode cX4_advance 14 = .ok (.return_, 1) := by decide +kernel
theorem dX4_skipIf_0 : decode cX4_skipIf 0 = .ok (.iload_n 1, 1) := by decide +kernel
theorem dX4_skipIf_1 : decode cX4_skipIf 1 = .ok (.ifCond .eq 20, 3) := by decide +kernel
theorem dX4_skipIf_4 : decode cX4_skipIf 4 = .ok (.aload_n 0, 1) := by decide +kernel
theorem dX4_skipIf_5 : decode cX4_skipIf 5 = .ok (.invokevirtual 188, 3) := by decide +kernel
theorem dX4_skipIf_8 : decode cX4_skipIf 8 = .ok (.aload_n 0, 1) := by decide +kernel
theorem dX4_skipIf_9 : decode cX4_skipIf 9 = .ok (.getfield 37, 3) := by decide +kernel
theorem dX4_skipIf_12 : decode cX4_skipIf 12 = .ok (.dup, 1) := by decide +kernel
theorem dX4_skipIf_13 : decode cX4_skipIf 13 = .ok (.getfield 126, 3) := by decide +kernel
theorem dX4_skipIf_16 : decode cX4_skipIf 16 = .ok (.iconst 1, 1) := by decide +kernel
theorem dX4_skipIf_17 : decode cX4_skipIf 17 = .ok (.iadd, 1) := by decide +kernel
theorem dX4_skipIf_18 : decode cX4_skipIf 18 = .ok (.putfield 126, 3) := by decide +kernel
theorem dX4_skipIf_21 : decode cX4_skipIf 21 = .ok (.return_, 1) := by decide +kernel
theorem dX4_addressOf_0 : decode cX4_addressOf 0 = .ok (.iload_n 1, 1) := by decide +kernel
theorem dX4_addressOf_1 : decode cX4_addressOf 1 = .ok (.istore_n 2, 1) := by decide +kernel
theorem dX4_addressOf_2 : decode cX4_addressOf 2 = .ok (.iconst 0, 1) := by decide +kernel
theorem dX4_addressOf_3 : decode cX4_addressOf 3 = .ok (.istore_n 3, 1) := by decide +kernel
theorem dX4_addressOf_4 : decode cX4_addressOf 4 = .ok (.iload_n 3, 1) := by decide +kernel
theorem dX4_addressOf_5 : decode cX4_addressOf 5 = .ok (.bipush 32, 2) := by decide +kernel
theorem dX4_addressOf_7 : decode cX4_addressOf 7 = .ok (.if_icmp .ge 38, 3) := by decide +kernel
theorem dX4_addressOf_10 : decode cX4_addressOf 10 = .ok (.iload_n 2, 1) := by decide +kernel
theorem dX4_addressOf_11 : decode cX4_addressOf 11 = .ok (.invokestatic 166, 3) := by decide +kernel
theorem dX4_addressOf_14 : decode cX4_addressOf 14 = .ok (.ifCond .eq 31, 3) := by decide +kernel
theorem dX4_addressOf_17 : decode cX4_addressOf 17 = .ok (.aload_n 0, 1) := by decide +kernel
theorem dX4_addressOf_18 : decode cX4_addressOf 18 = .ok (.iload_n 2, 1) := by decide +kernel
theorem dX4_addressOf_19 : decode cX4_addressOf 19 = .ok (.invokestatic 169, 3) := by decide +kernel
theorem dX4_addressOf_22 : decode cX4_addressOf 22 = .ok (.invokevirtual 48, 3) := by decide +kernel
theorem dX4_addressOf_25 : decode cX4_addressOf 25 = .ok (.istore_n 2, 1) := by decide +kernel
theorem dX4_addressOf_26 : decode cX4_addressOf 26 = .ok (.aload_n 0, 1) := by decide +kernel
theorem dX4_addressOf_27 : decode cX4_addressOf 27 = .ok (.getfield 37, 3) := by decide +kernel
theorem dX4_addressOf_30 : decode cX4_addressOf 30 = .ok (.dup, 1) := by decide +kernel
theorem dX4_addressOf_31 : decode cX4_addressOf 31 = .ok (.getfield 120, 3) := by decide +kernel
theorem dX4_addressOf_34 : decode cX4_addressOf 34 = .ok (.iconst 1, 1) := by decide +kernel
theorem dX4_addressOf_35 : decode cX4_addressOf 35 = .ok (.iadd, 1) := by decide +kernel
theorem dX4_addressOf_36 : decode cX4_addressOf 36 = .ok (.putfield 120, 3) := by decide +kernel
theorem dX4_addressOf_39 : decode cX4_addressOf 39 = .ok (.iinc 3 1, 3) := by decide +kernel
theorem dX4_addressOf_42 : decode cX4_addressOf 42 = .ok (.goto (-38), 3) := by decide +kernel
theorem dX4_addressOf_45 : decode cX4_addressOf 45 = .ok (.iload_n 2, 1) := by decide +kernel
theorem dX4_addressOf_46 : decode cX4_addressOf 46 = .ok (.invokestatic 166, 3) := by decide +kernel
theorem dX4_addressOf_49 : decode cX4_addressOf 49 = .ok (.ifCond .eq 8, 3) := by decide +kernel
theorem dX4_addressOf_52 : decode cX4_addressOf 52 = .ok (.bipush (-9), 2) := by decide +kernel
theorem dX4_addressOf_54 : decode cX4_addressOf 54 = .ok (.goto 7, 3) := by decide +kernel
theorem dX4_addressOf_57 : decode cX4_addressOf 57 = .ok (.iload_n 2, 1) := by decide +kernel
theorem dX4_addressOf_58 : decode cX4_addressOf 58 = .ok (.invokestatic 169, 3) := by decide +kernel
theorem dX4_addressOf_61 : decode cX4_addressOf 61 = .ok (.ireturn, 1) := by decide +kernel
theorem dX4_step_0 : decode cX4_step 0 = .ok (.aload_n 0, 1) := by decide +kernel
theorem dX4_step_1 : decode cX4_step 1 = .ok (.getfield 77, 3) := by decide +kernel
theorem dX4_step_4 : decode cX4_step 4 = .ok (.iconst 1, 1) := by decide +kernel
theorem dX4_step_5 : decode cX4_step 5 = .ok (.if_icmp .ne 24, 3) := by decide +kernel
theorem dX4_step_8 : decode cX4_step 8 = .ok (.aload_n 0, 1) := by decide +kernel
theorem dX4_step_9 : decode cX4_step 9 = .ok (.getfield 74, 3) := by decide +kernel
theorem dX4_step_12 : decode cX4_step 12 = .ok (.iconst 1, 1) := by decide +kernel
theorem dX4_step_13 : decode cX4_step 13 = .ok (.if_icmp .ne 16, 3) := by decide +kernel
theorem dX4_step_16 : decode cX4_step 16 = .ok (.aload_n 0, 1) := by decide +kernel
theorem dX4_step_17 : decode cX4_step 17 = .ok (.getfield 80, 3) := by decide +kernel
theorem dX4_step_20 : decode cX4_step 20 = .ok (.ifCond .ne 9, 3) := by decide +kernel
theorem dX4_step_23 : decode cX4_step 23 = .ok (.aload_n 0, 1) := by decide +kernel
theorem dX4_step_24 : decode cX4_step 24 = .ok (.invokevirtual 191, 3) := by decide +kernel
theorem dX4_step_27 : decode cX4_step 27 = .ok (.iconst 0, 1) := by decide +kernel
theorem dX4_step_28 : decode cX4_step 28 = .ok (.ireturn, 1) := by decide +kernel
theorem dX4_step_29 : decode cX4_step 29 = .ok (.aload_n 0, 1) := by decide +kernel
theorem dX4_step_30 : decode cX4_step 30 = .ok (.aload_n 0, 1) := by decide +kernel
theorem dX4_step_31 : decode cX4_step 31 = .ok (.getfield 65, 3) := by decide +kernel
theorem dX4_step_34 : decode cX4_step 34 = .ok (.invokevirtual 48, 3) := by decide +kernel
theorem dX4_step_37 : decode cX4_step 37 = .ok (.istore_n 1, 1) := by decide +kernel
theorem dX4_step_38 : decode cX4_step 38 = .ok (.aload_n 0, 1) := by decide +kernel
theorem dX4_step_39 : decode cX4_step 39 = .ok (.invokevirtual 188, 3) := by decide +kernel
theorem dX4_step_42 : decode cX4_step 42 = .ok (.aload_n 0, 1) := by decide +kernel
theorem dX4_step_43 : decode cX4_step 43 = .ok (.iload_n 1, 1) := by decide +kernel
theorem dX4_step_44 : decode cX4_step 44 = .ok (.invokevirtual 194, 3) := by decide +kernel
theorem dX4_step_47 : decode cX4_step 47 = .ok (.istore_n 2, 1) := by decide +kernel
theorem dX4_step_48 : decode cX4_step 48 = .ok (.iload_n 2, 1) := by decide +kernel
theorem dX4_step_49 : decode cX4_step 49 = .ok (.bipush (-9), 2) := by decide +kernel
theorem dX4_step_51 : decode cX4_step 51 = .ok (.if_icmp .ne 7, 3) := by decide +kernel
theorem dX4_step_54 : decode cX4_step 54 = .ok (.iconst 2, 1) := by decide +kernel
theorem dX4_step_55 : decode cX4_step 55 = .ok (.goto 8, 3) := by decide +kernel
theorem dX4_step_58 : decode cX4_step 58 = .ok (.aload_n 0, 1) := by decide +kernel
theorem dX4_step_59 : decode cX4_step 59 = .ok (.iload_n 2, 1) := by decide +kernel
theorem dX4_step_60 : decode cX4_step 60 = .ok (.invokevirtual 197, 3) := by decide +kernel
theorem dX4_step_63 : decode cX4_step 63 = .ok (.ireturn, 1) := by decide +kernel
theorem dX4_beginBreak_0 : decode cX4_beginBreak 0 = .ok (.aload_n 0, 1) := by decide +kernel
theorem dX4_beginBreak_1 : decode cX4_beginBreak 1 = .ok (.iconst 0, 1) := by decide +kernel
theorem dX4_beginBreak_2 : decode cX4_beginBreak 2 = .ok (.aload_n 0, 1) := by decide +kernel
theorem dX4_beginBreak_3 : decode cX4_beginBreak 3 = .ok (.getfield 58, 3) := by decide +kernel
theorem dX4_beginBreak_6 : decode cX4_beginBreak 6 = .ok (.invokevirtual 52, 3) := by decide +kernel
theorem dX4_beginBreak_9 : decode cX4_beginBreak 9 = .ok (.aload_n 0, 1) := by decide +kernel
theorem dX4_beginBreak_10 : decode cX4_beginBreak 10 = .ok (.iconst 1, 1) := by decide +kernel
theorem dX4_beginBreak_11 : decode cX4_beginBreak 11 = .ok (.aload_n 0, 1) := by decide +kernel
theorem dX4_beginBreak_12 : decode cX4_beginBreak 12 = .ok (.invokevirtual 200, 3) := by decide +kernel
theorem dX4_beginBreak_15 : decode cX4_beginBreak 15 = .ok (.invokevirtual 52, 3) := by decide +kernel
theorem dX4_beginBreak_18 : decode cX4_beginBreak 18 = .ok (.aload_n 0, 1) := by decide +kernel
theorem dX4_beginBreak_19 : decode cX4_beginBreak 19 = .ok (.iconst 2, 1) := by decide +kernel
theorem dX4_beginBreak_20 : decode cX4_beginBreak 20 = .ok (.aload_n 0, 1) := by decide +kernel
theorem dX4_beginBreak_21 : decode cX4_beginBreak 21 = .ok (.getfield 62, 3) := by decide +kernel
theorem dX4_beginBreak_24 : decode cX4_beginBreak 24 = .ok (.invokevirtual 52, 3) := by decide +kernel
theorem dX4_beginBreak_27 : decode cX4_beginBreak 27 = .ok (.aload_n 0, 1) := by decide +kernel
theorem dX4_beginBreak_28 : decode cX4_beginBreak 28 = .ok (.iconst 3, 1) := by decide +kernel
theorem dX4_beginBreak_29 : decode cX4_beginBreak 29 = .ok (.putfield 65, 3) := by decide +kernel
theorem dX4_beginBreak_32 : decode cX4_beginBreak 32 = .ok (.aload_n 0, 1) := by decide +kernel
theorem dX4_beginBreak_33 : decode cX4_beginBreak 33 = .ok (.iconst 1, 1) := by decide +kernel
theorem dX4_beginBreak_34 : decode cX4_beginBreak 34 = .ok (.putfield 80, 3) := by decide +kernel
theorem dX4_beginBreak_37 : decode cX4_beginBreak 37 = .ok (.aload_n 0, 1) := by decide +kernel
theorem dX4_beginBreak_38 : decode cX4_beginBreak 38 = .ok (.iconst 0, 1) := by decide +kernel
theorem dX4_beginBreak_39 : decode cX4_beginBreak 39 = .ok (.putfield 77, 3) := by decide +kernel
theorem dX4_beginBreak_42 : decode cX4_beginBreak 42 = .ok (.aload_n 0, 1) := by decide +kernel
theorem dX4_beginBreak_43 : decode cX4_beginBreak 43 = .ok (.getfield 37, 3) := by decide +kernel
theorem dX4_beginBreak_46 : decode cX4_beginBreak 46 = .ok (.dup, 1) := by decide +kernel
theorem dX4_beginBreak_47 : decode cX4_beginBreak 47 = .ok (.getfield 117, 3) := by decide +kernel
theorem dX4_beginBreak_50 : decode cX4_beginBreak 50 = .ok (.iconst 1, 1) := by decide +kernel
theorem dX4_beginBreak_51 : decode cX4_beginBreak 51 = .ok (.iadd, 1) := by decide +kernel
theorem dX4_beginBreak_52 : decode cX4_beginBreak 52 = .ok (.putfield 117, 3) := by decide +kernel
theorem dX4_beginBreak_55 : decode cX4_beginBreak 55 = .ok (.return_, 1) := by decide +kernel
end
section
theorem dX4_endBreak_0 : decode cX4_endBreak 0 = .ok (.aload_n 0, 1) := by decide +kernel
theorem dX4_endBreak_1 : decode cX4_endBreak 1 = .ok (.iconst 1, 1) := by decide +kernel
theorem dX4_endBreak_2 : decode cX4_endBreak 2 = .ok (.invokevirtual 48, 3) := by decide +kernel
theorem dX4_endBreak_5 : decode cX4_endBreak 5 = .ok (.istore_n 1, 1) := by decide +kernel
theorem dX4_endBreak_6 : decode cX4_endBreak 6 = .ok (.aload_n 0, 1) := by decide +kernel
theorem dX4_endBreak_7 : decode cX4_endBreak 7 = .ok (.iload_n 1, 1) := by decide +kernel
theorem dX4_endBreak_8 : decode cX4_endBreak 8 = .ok (.invokestatic 169, 3) := by decide +kernel
theorem dX4_endBreak_11 : decode cX4_endBreak 11 = .ok (.putfield 65, 3) := by decide +kernel
theorem dX4_endBreak_14 : decode cX4_endBreak 14 = .ok (.aload_n 0, 1) := by decide +kernel
theorem dX4_endBreak_15 : decode cX4_endBreak 15 = .ok (.iload_n 1, 1) := by decide +kernel
theorem dX4_endBreak_16 : decode cX4_endBreak 16 = .ok (.invokestatic 157, 3) := by decide +kernel
theorem dX4_endBreak_19 : decode cX4_endBreak 19 = .ok (.putfield 68, 3) := by decide +kernel
theorem dX4_endBreak_22 : decode cX4_endBreak 22 = .ok (.aload_n 0, 1) := by decide +kernel
theorem dX4_endBreak_23 : decode cX4_endBreak 23 = .ok (.iconst 0, 1) := by decide +kernel
theorem dX4_endBreak_24 : decode cX4_endBreak 24 = .ok (.putfield 80, 3) := by decide +kernel
theorem dX4_endBreak_27 : decode cX4_endBreak 27 = .ok (.return_, 1) := by decide +kernel
theorem dX4_followXct_0 : decode cX4_followXct 0 = .ok (.iload_n 1, 1) := by decide +kernel
theorem dX4_followXct_1 : decode cX4_followXct 1 = .ok (.istore_n 2, 1) := by decide +kernel
theorem dX4_followXct_2 : decode cX4_followXct 2 = .ok (.iconst 0, 1) := by decide +kernel
theorem dX4_followXct_3 : decode cX4_followXct 3 = .ok (.istore_n 3, 1) := by decide +kernel
theorem dX4_followXct_4 : decode cX4_followXct 4 = .ok (.iload_n 3, 1) := by decide +kernel
theorem dX4_followXct_5 : decode cX4_followXct 5 = .ok (.bipush 32, 2) := by decide +kernel
theorem dX4_followXct_7 : decode cX4_followXct 7 = .ok (.if_icmp .gt 43, 3) := by decide +kernel
theorem dX4_followXct_10 : decode cX4_followXct 10 = .ok (.iload_n 2, 1) := by decide +kernel
theorem dX4_followXct_11 : decode cX4_followXct 11 = .ok (.invokestatic 163, 3) := by decide +kernel
theorem dX4_followXct_14 : decode cX4_followXct 14 = .ok (.iconst 4, 1) := by decide +kernel
theorem dX4_followXct_15 : decode cX4_followXct 15 = .ok (.if_icmp .eq 5, 3) := by decide +kernel
theorem dX4_followXct_18 : decode cX4_followXct 18 = .ok (.iload_n 2, 1) := by decide +kernel
theorem dX4_followXct_19 : decode cX4_followXct 19 = .ok (.ireturn, 1) := by decide +kernel
theorem dX4_followXct_20 : decode cX4_followXct 20 = .ok (.aload_n 0, 1) := by decide +kernel
theorem dX4_followXct_21 : decode cX4_followXct 21 = .ok (.iload_n 2, 1) := by decide +kernel
theorem dX4_followXct_22 : decode cX4_followXct 22 = .ok (.invokevirtual 203, 3) := by decide +kernel
theorem dX4_followXct_25 : decode cX4_followXct 25 = .ok (.istore 4, 2) := by decide +kernel
theorem dX4_followXct_27 : decode cX4_followXct 27 = .ok (.iload 4, 2) := by decide +kernel
theorem dX4_followXct_29 : decode cX4_followXct 29 = .ok (.bipush (-9), 2) := by decide +kernel
theorem dX4_followXct_31 : decode cX4_followXct 31 = .ok (.if_icmp .ne 6, 3) := by decide +kernel
theorem dX4_followXct_34 : decode cX4_followXct 34 = .ok (.bipush (-9), 2) := by decide +kernel
theorem dX4_followXct_36 : decode cX4_followXct 36 = .ok (.ireturn, 1) := by decide +kernel
theorem dX4_followXct_37 : decode cX4_followXct 37 = .ok (.aload_n 0, 1) := by decide +kernel
theorem dX4_followXct_38 : decode cX4_followXct 38 = .ok (.iload 4, 2) := by decide +kernel
theorem dX4_followXct_40 : decode cX4_followXct 40 = .ok (.invokevirtual 48, 3) := by decide +kernel
theorem dX4_followXct_43 : decode cX4_followXct 43 = .ok (.istore_n 2, 1) := by decide +kernel
theorem dX4_followXct_44 : decode cX4_followXct 44 = .ok (.iinc 3 1, 3) := by decide +kernel
theorem dX4_followXct_47 : decode cX4_followXct 47 = .ok (.goto (-43), 3) := by decide +kernel
theorem dX4_followXct_50 : decode cX4_followXct 50 = .ok (.bipush (-9), 2) := by decide +kernel
theorem dX4_followXct_52 : decode cX4_followXct 52 = .ok (.ireturn, 1) := by decide +kernel
theorem dX4_perform_0 : decode cX4_perform 0 = .ok (.iload_n 1, 1) := by decide +kernel
theorem dX4_perform_1 : decode cX4_perform 1 = .ok (.invokestatic 176, 3) := by decide +kernel
theorem dX4_perform_4 : decode cX4_perform 4 = .ok (.ifCond .eq 5, 3) := by decide +kernel
theorem dX4_perform_7 : decode cX4_perform 7 = .ok (.iconst 3, 1) := by decide +kernel
theorem dX4_perform_8 : decode cX4_perform 8 = .ok (.ireturn, 1) := by decide +kernel
theorem dX4_perform_9 : decode cX4_perform 9 = .ok (.aload_n 0, 1) := by decide +kernel
theorem dX4_perform_10 : decode cX4_perform 10 = .ok (.iload_n 1, 1) := by decide +kernel
theorem dX4_perform_11 : decode cX4_perform 11 = .ok (.invokevirtual 206, 3) := by decide +kernel
theorem dX4_perform_14 : decode cX4_perform 14 = .ok (.ifCond .eq 9, 3) := by decide +kernel
theorem dX4_perform_17 : decode cX4_perform 17 = .ok (.aload_n 0, 1) := by decide +kernel
theorem dX4_perform_18 : decode cX4_perform 18 = .ok (.invokevirtual 209, 3) := by decide +kernel
theorem dX4_perform_21 : decode cX4_perform 21 = .ok (.iconst 0, 1) := by decide +kernel
theorem dX4_perform_22 : decode cX4_perform 22 = .ok (.ireturn, 1) := by decide +kernel
theorem dX4_perform_23 : decode cX4_perform 23 = .ok (.iload_n 1, 1) := by decide +kernel
theorem dX4_perform_24 : decode cX4_perform 24 = .ok (.invokestatic 173, 3) := by decide +kernel
theorem dX4_perform_27 : decode cX4_perform 27 = .ok (.ifCond .ne 9, 3) := by decide +kernel
theorem dX4_perform_30 : decode cX4_perform 30 = .ok (.aload_n 0, 1) := by decide +kernel
theorem dX4_perform_31 : decode cX4_perform 31 = .ok (.iload_n 1, 1) := by decide +kernel
theorem dX4_perform_32 : decode cX4_perform 32 = .ok (.invokevirtual 212, 3) := by decide +kernel
theorem dX4_perform_35 : decode cX4_perform 35 = .ok (.ireturn, 1) := by decide +kernel
theorem dX4_perform_36 : decode cX4_perform 36 = .ok (.aload_n 0, 1) := by decide +kernel
theorem dX4_perform_37 : decode cX4_perform 37 = .ok (.iload_n 1, 1) := by decide +kernel
theorem dX4_perform_38 : decode cX4_perform 38 = .ok (.invokevirtual 203, 3) := by decide +kernel
theorem dX4_perform_41 : decode cX4_perform 41 = .ok (.istore_n 2, 1) := by decide +kernel
theorem dX4_perform_42 : decode cX4_perform 42 = .ok (.iload_n 2, 1) := by decide +kernel
theorem dX4_perform_43 : decode cX4_perform 43 = .ok (.bipush (-9), 2) := by decide +kernel
theorem dX4_perform_45 : decode cX4_perform 45 = .ok (.if_icmp .ne 5, 3) := by decide +kernel
theorem dX4_perform_48 : decode cX4_perform 48 = .ok (.iconst 2, 1) := by decide +kernel
theorem dX4_perform_49 : decode cX4_perform 49 = .ok (.ireturn, 1) := by decide +kernel
theorem dX4_perform_50 : decode cX4_perform 50 = .ok (.aload_n 0, 1) := by decide +kernel
theorem dX4_perform_51 : decode cX4_perform 51 = .ok (.iload_n 1, 1) := by decide +kernel
theorem dX4_perform_52 : decode cX4_perform 52 = .ok (.invokestatic 163, 3) := by decide +kernel
theorem dX4_perform_55 : decode cX4_perform 55 = .ok (.iload_n 2, 1) := by decide +kernel
theorem dX4_perform_56 : decode cX4_perform 56 = .ok (.invokevirtual 215, 3) := by decide +kernel
theorem dX4_perform_59 : decode cX4_perform 59 = .ok (.iconst 0, 1) := by decide +kernel
theorem dX4_perform_60 : decode cX4_perform 60 = .ok (.ireturn, 1) := by decide +kernel
theorem dX4_endsBreak_0 : decode cX4_endsBreak 0 = .ok (.aload_n 0, 1) := by decide +kernel
theorem dX4_endsBreak_1 : decode cX4_endsBreak 1 = .ok (.getfield 80, 3) := by decide +kernel
theorem dX4_endsBreak_4 : decode cX4_endsBreak 4 = .ok (.iconst 1, 1) := by decide +kernel
theorem dX4_endsBreak_5 : decode cX4_endsBreak 5 = .ok (.if_icmp .ne 31, 3) := by decide +kernel
theorem dX4_endsBreak_8 : decode cX4_endsBreak 8 = .ok (.iload_n 1, 1) := by decide +kernel
theorem dX4_endsBreak_9 : decode cX4_endsBreak 9 = .ok (.invokestatic 163, 3) := by decide +kernel
theorem dX4_endsBreak_12 : decode cX4_endsBreak 12 = .ok (.bipush 24, 2) := by decide +kernel
theorem dX4_endsBreak_14 : decode cX4_endsBreak 14 = .ok (.if_icmp .ne 22, 3) := by decide +kernel
theorem dX4_endsBreak_17 : decode cX4_endsBreak 17 = .ok (.iload_n 1, 1) := by decide +kernel
theorem dX4_endsBreak_18 : decode cX4_endsBreak 18 = .ok (.invokestatic 166, 3) := by decide +kernel
theorem dX4_endsBreak_21 : decode cX4_endsBreak 21 = .ok (.ifCond .eq 15, 3) := by decide +kernel
theorem dX4_endsBreak_24 : decode cX4_endsBreak 24 = .ok (.iload_n 1, 1) := by decide +kernel
theorem dX4_endsBreak_25 : decode cX4_endsBreak 25 = .ok (.invokestatic 169, 3) := by decide +kernel
theorem dX4_endsBreak_28 : decode cX4_endsBreak 28 = .ok (.iconst 1, 1) := by decide +kernel
theorem dX4_endsBreak_29 : decode cX4_endsBreak 29 = .ok (.if_icmp .ne 7, 3) := by decide +kernel
theorem dX4_endsBreak_32 : decode cX4_endsBreak 32 = .ok (.iconst 1, 1) := by decide +kernel
theorem dX4_endsBreak_33 : decode cX4_endsBreak 33 = .ok (.goto 4, 3) := by decide +kernel
theorem dX4_endsBreak_36 : decode cX4_endsBreak 36 = .ok (.iconst 0, 1) := by decide +kernel
theorem dX4_endsBreak_37 : decode cX4_endsBreak 37 = .ok (.ireturn, 1) := by decide +kernel
theorem dX4_performWithoutAddress_0 : decode cX4_performWithoutAddress 0 = .ok (.iload_n 1, 1) := by decide +kernel
theorem dX4_performWithoutAddress_1 : decode cX4_performWithoutAddress 1 = .ok (.invokestatic 163, 3) := by decide +kernel
theorem dX4_performWithoutAddress_4 : decode cX4_performWithoutAddress 4 = .ok (.lookupswitch 168 #[(7, 60), (26, 82), (27, 108), (28, 122), (29, 149), (31, 159)], 60) := by decide +kernel
theorem dX4_performWithoutAddress_64 : decode cX4_performWithoutAddress 64 = .ok (.aload_n 0, 1) := by decide +kernel
theorem dX4_performWithoutAddress_65 : decode cX4_performWithoutAddress 65 = .ok (.iload_n 1, 1) := by decide +kernel
theorem dX4_performWithoutAddress_66 : decode cX4_performWithoutAddress 66 = .ok (.invokestatic 166, 3) := by decide +kernel
theorem dX4_performWithoutAddress_69 : decode cX4_performWithoutAddress 69 = .ok (.ifCond .eq 10, 3) := by decide +kernel
theorem dX4_performWithoutAddress_72 : decode cX4_performWithoutAddress 72 = .ok (.iload_n 1, 1) := by decide +kernel
theorem dX4_performWithoutAddress_73 : decode cX4_performWithoutAddress 73 = .ok (.invokestatic 169, 3) := by decide +kernel
theorem dX4_performWithoutAddress_76 : decode cX4_performWithoutAddress 76 = .ok (.goto 5, 3) := by decide +kernel
theorem dX4_performWithoutAddress_79 : decode cX4_performWithoutAddress 79 = .ok (.bipush 64, 2) := by decide +kernel
theorem dX4_performWithoutAddress_81 : decode cX4_performWithoutAddress 81 = .ok (.invokevirtual 218, 3) := by decide +kernel
theorem dX4_performWithoutAddress_84 : decode cX4_performWithoutAddress 84 = .ok (.iconst 0, 1) := by decide +kernel
theorem dX4_performWithoutAddress_85 : decode cX4_performWithoutAddress 85 = .ok (.ireturn, 1) := by decide +kernel
theorem dX4_performWithoutAddress_86 : decode cX4_performWithoutAddress 86 = .ok (.aload_n 0, 1) := by decide +kernel
theorem dX4_performWithoutAddress_87 : decode cX4_performWithoutAddress 87 = .ok (.aload_n 0, 1) := by decide +kernel
theorem dX4_performWithoutAddress_88 : decode cX4_performWithoutAddress 88 = .ok (.iload_n 1, 1) := by decide +kernel
theorem dX4_performWithoutAddress_89 : decode cX4_performWithoutAddress 89 = .ok (.invokestatic 169, 3) := by decide +kernel
theorem dX4_performWithoutAddress_92 : decode cX4_performWithoutAddress 92 = .ok (.invokevirtual 222, 3) := by decide +kernel
theorem dX4_performWithoutAddress_95 : decode cX4_performWithoutAddress 95 = .ok (.iload_n 1, 1) := by decide +kernel
theorem dX4_performWithoutAddress_96 : decode cX4_performWithoutAddress 96 = .ok (.invokestatic 166, 3) := by decide +kernel
theorem dX4_performWithoutAddress_99 : decode cX4_performWithoutAddress 99 = .ok (.if_icmp .eq 7, 3) := by decide +kernel
theorem dX4_performWithoutAddress_102 : decode cX4_performWithoutAddress 102 = .ok (.iconst 1, 1) := by decide +kernel
theorem dX4_performWithoutAddress_103 : decode cX4_performWithoutAddress 103 = .ok (.goto 4, 3) := by decide +kernel
theorem dX4_performWithoutAddress_106 : decode cX4_performWithoutAddress 106 = .ok (.iconst 0, 1) := by decide +kernel
theorem dX4_performWithoutAddress_107 : decode cX4_performWithoutAddress 107 = .ok (.invokevirtual 225, 3) := by decide +kernel
theorem dX4_performWithoutAddress_110 : decode cX4_performWithoutAddress 110 = .ok (.iconst 0, 1) := by decide +kernel
theorem dX4_performWithoutAddress_111 : decode cX4_performWithoutAddress 111 = .ok (.ireturn, 1) := by decide +kernel
theorem dX4_performWithoutAddress_112 : decode cX4_performWithoutAddress 112 = .ok (.aload_n 0, 1) := by decide +kernel
theorem dX4_performWithoutAddress_113 : decode cX4_performWithoutAddress 113 = .ok (.iload_n 1, 1) := by decide +kernel
theorem dX4_performWithoutAddress_114 : decode cX4_performWithoutAddress 114 = .ok (.invokestatic 185, 3) := by decide +kernel
theorem dX4_performWithoutAddress_117 : decode cX4_performWithoutAddress 117 = .ok (.iload_n 1, 1) := by decide +kernel
theorem dX4_performWithoutAddress_118 : decode cX4_performWithoutAddress 118 = .ok (.invokestatic 170, 3) := by decide +kernel
theorem dX4_performWithoutAddress_121 : decode cX4_performWithoutAddress 121 = .ok (.invokevirtual 229, 3) := by decide +kernel
theorem dX4_performWithoutAddress_124 : decode cX4_performWithoutAddress 124 = .ok (.iconst 0, 1) := by decide +kernel
theorem dX4_performWithoutAddress_125 : decode cX4_performWithoutAddress 125 = .ok (.ireturn, 1) := by decide +kernel
theorem dX4_performWithoutAddress_126 : decode cX4_performWithoutAddress 126 = .ok (.aload_n 0, 1) := by decide +kernel
theorem dX4_performWithoutAddress_127 : decode cX4_performWithoutAddress 127 = .ok (.iload_n 1, 1) := by decide +kernel
theorem dX4_performWithoutAddress_128 : decode cX4_performWithoutAddress 128 = .ok (.invokestatic 166, 3) := by decide +kernel
theorem dX4_performWithoutAddress_131 : decode cX4_performWithoutAddress 131 = .ok (.ifCond .eq 13, 3) := by decide +kernel
theorem dX4_performWithoutAddress_134 : decode cX4_performWithoutAddress 134 = .ok (.iload_n 1, 1) := by decide +kernel
theorem dX4_performWithoutAddress_135 : decode cX4_performWithoutAddress 135 = .ok (.invokestatic 169, 3) := by decide +kernel
theorem dX4_performWithoutAddress_138 : decode cX4_performWithoutAddress 138 = .ok (.invokestatic 232, 3) := by decide +kernel
theorem dX4_performWithoutAddress_141 : decode cX4_performWithoutAddress 141 = .ok (.goto 7, 3) := by decide +kernel
theorem dX4_performWithoutAddress_144 : decode cX4_performWithoutAddress 144 = .ok (.iload_n 1, 1) := by decide +kernel
theorem dX4_performWithoutAddress_145 : decode cX4_performWithoutAddress 145 = .ok (.invokestatic 169, 3) := by decide +kernel
theorem dX4_performWithoutAddress_148 : decode cX4_performWithoutAddress 148 = .ok (.putfield 58, 3) := by decide +kernel
theorem dX4_performWithoutAddress_151 : decode cX4_performWithoutAddress 151 = .ok (.iconst 0, 1) := by decide +kernel
theorem dX4_performWithoutAddress_152 : decode cX4_performWithoutAddress 152 = .ok (.ireturn, 1) := by decide +kernel
theorem dX4_performWithoutAddress_153 : decode cX4_performWithoutAddress 153 = .ok (.aload_n 0, 1) := by decide +kernel
theorem dX4_performWithoutAddress_154 : decode cX4_performWithoutAddress 154 = .ok (.iload_n 1, 1) := by decide +kernel
theorem dX4_performWithoutAddress_155 : decode cX4_performWithoutAddress 155 = .ok (.bipush 63, 2) := by decide +kernel
theorem dX4_performWithoutAddress_157 : decode cX4_performWithoutAddress 157 = .ok (.iand, 1) := by decide +kernel
theorem dX4_performWithoutAddress_158 : decode cX4_performWithoutAddress 158 = .ok (.invokevirtual 235, 3) := by decide +kernel
theorem dX4_performWithoutAddress_161 : decode cX4_performWithoutAddress 161 = .ok (.iconst 0, 1) := by decide +kernel
theorem dX4_performWithoutAddress_162 : decode cX4_performWithoutAddress 162 = .ok (.ireturn, 1) := by decide +kernel
theorem dX4_performWithoutAddress_163 : decode cX4_performWithoutAddress 163 = .ok (.aload_n 0, 1) := by decide +kernel
theorem dX4_performWithoutAddress_164 : decode cX4_performWithoutAddress 164 = .ok (.iload_n 1, 1) := by decide +kernel
theorem dX4_performWithoutAddress_165 : decode cX4_performWithoutAddress 165 = .ok (.invokestatic 169, 3) := by decide +kernel
theorem dX4_performWithoutAddress_168 : decode cX4_performWithoutAddress 168 = .ok (.invokevirtual 238, 3) := by decide +kernel
theorem dX4_performWithoutAddress_171 : decode cX4_performWithoutAddress 171 = .ok (.ireturn, 1) := by decide +kernel
theorem dX4_performWithoutAddress_172 : decode cX4_performWithoutAddress 172 = .ok (.iconst 3, 1) := by decide +kernel
theorem dX4_performWithoutAddress_173 : decode cX4_performWithoutAddress 173 = .ok (.ireturn, 1) := by decide +kernel
theorem dX4_callAt_0 : decode cX4_callAt 0 = .ok (.aload_n 0, 1) := by decide +kernel
theorem dX4_callAt_1 : decode cX4_callAt 1 = .ok (.iload_n 1, 1) := by decide +kernel
theorem dX4_callAt_2 : decode cX4_callAt 2 = .ok (.aload_n 0, 1) := by decide +kernel
theorem dX4_callAt_3 : decode cX4_callAt 3 = .ok (.getfield 58, 3) := by decide +kernel
theorem dX4_callAt_6 : decode cX4_callAt 6 = .ok (.invokevirtual 52, 3) := by decide +kernel
theorem dX4_callAt_9 : decode cX4_callAt 9 = .ok (.aload_n 0, 1) := by decide +kernel
theorem dX4_callAt_10 : decode cX4_callAt 10 = .ok (.aload_n 0, 1) := by decide +kernel
theorem dX4_callAt_11 : decode cX4_callAt 11 = .ok (.invokevirtual 200, 3) := by decide +kernel
theorem dX4_callAt_14 : decode cX4_callAt 14 = .ok (.putfield 58, 3) := by decide +kernel
theorem dX4_callAt_17 : decode cX4_callAt 17 = .ok (.aload_n 0, 1) := by decide +kernel
theorem dX4_callAt_18 : decode cX4_callAt 18 = .ok (.iload_n 1, 1) := by decide +kernel
theorem dX4_callAt_19 : decode cX4_callAt 19 = .ok (.iconst 1, 1) := by decide +kernel
theorem dX4_callAt_20 : decode cX4_callAt 20 = .ok (.iadd, 1) := by decide +kernel
theorem dX4_callAt_21 : decode cX4_callAt 21 = .ok (.sipush 4095, 3) := by decide +kernel
theorem dX4_callAt_24 : decode cX4_callAt 24 = .ok (.iand, 1) := by decide +kernel
theorem dX4_callAt_25 : decode cX4_callAt 25 = .ok (.putfield 65, 3) := by decide +kernel
theorem dX4_callAt_28 : decode cX4_callAt 28 = .ok (.return_, 1) := by decide +kernel
theorem dX4_performAt_0 : decode cX4_performAt 0 = .ok (.aload_n 0, 1) := by decide +kernel
theorem dX4_performAt_1 : decode cX4_performAt 1 = .ok (.iload_n 2, 1) := by decide +kernel
theorem dX4_performAt_2 : decode cX4_performAt 2 = .ok (.invokevirtual 48, 3) := by decide +kernel
theorem dX4_performAt_5 : decode cX4_performAt 5 = .ok (.istore_n 3, 1) := by decide +kernel
theorem dX4_performAt_6 : decode cX4_performAt 6 = .ok (.iload_n 1, 1) := by decide +kernel
theorem dX4_performAt_7 : decode cX4_performAt 7 = .ok (.tableswitch 376 1 25 #[113, 126, 139, 376, 376, 376, 376, 152, 160, 168, 180, 202, 224, 236, 376, 245, 253, 261, 269, 296, 316, 336, 344, 352, 360], 113) := by decide +kernel
theorem dX4_performAt_120 : decode cX4_performAt 120 = .ok (.aload_n 0, 1) := by decide +kernel
theorem dX4_performAt_121 : decode cX4_performAt 121 = .ok (.aload_n 0, 1) := by decide +kernel
theorem dX4_performAt_122 : decode cX4_performAt 122 = .ok (.getfield 58, 3) := by decide +kernel
theorem dX4_performAt_125 : decode cX4_performAt 125 = .ok (.iload_n 3, 1) := by decide +kernel
theorem dX4_performAt_126 : decode cX4_performAt 126 = .ok (.iand, 1) := by decide +kernel
theorem dX4_performAt_127 : decode cX4_performAt 127 = .ok (.putfield 58, 3) := by decide +kernel
theorem dX4_performAt_130 : decode cX4_performAt 130 = .ok (.goto 253, 3) := by decide +kernel
theorem dX4_performAt_133 : decode cX4_performAt 133 = .ok (.aload_n 0, 1) := by decide +kernel
theorem dX4_performAt_134 : decode cX4_performAt 134 = .ok (.aload_n 0, 1) := by decide +kernel
theorem dX4_performAt_135 : decode cX4_performAt 135 = .ok (.getfield 58, 3) := by decide +kernel
theorem dX4_performAt_138 : decode cX4_performAt 138 = .ok (.iload_n 3, 1) := by decide +kernel
theorem dX4_performAt_139 : decode cX4_performAt 139 = .ok (.ior, 1) := by decide +kernel
theorem dX4_performAt_140 : decode cX4_performAt 140 = .ok (.putfield 58, 3) := by decide +kernel
theorem dX4_performAt_143 : decode cX4_performAt 143 = .ok (.goto 240, 3) := by decide +kernel
theorem dX4_performAt_146 : decode cX4_performAt 146 = .ok (.aload_n 0, 1) := by decide +kernel
theorem dX4_performAt_147 : decode cX4_performAt 147 = .ok (.aload_n 0, 1) := by decide +kernel
theorem dX4_performAt_148 : decode cX4_performAt 148 = .ok (.getfield 58, 3) := by decide +kernel
theorem dX4_performAt_151 : decode cX4_performAt 151 = .ok (.iload_n 3, 1) := by decide +kernel
theorem dX4_performAt_152 : decode cX4_performAt 152 = .ok (.ixor, 1) := by decide +kernel
theorem dX4_performAt_153 : decode cX4_performAt 153 = .ok (.putfield 58, 3) := by decide +kernel
theorem dX4_performAt_156 : decode cX4_performAt 156 = .ok (.goto 227, 3) := by decide +kernel
theorem dX4_performAt_159 : decode cX4_performAt 159 = .ok (.aload_n 0, 1) := by decide +kernel
theorem dX4_performAt_160 : decode cX4_performAt 160 = .ok (.iload_n 3, 1) := by decide +kernel
theorem dX4_performAt_161 : decode cX4_performAt 161 = .ok (.putfield 58, 3) := by decide +kernel
theorem dX4_performAt_164 : decode cX4_performAt 164 = .ok (.goto 219, 3) := by decide +kernel
theorem dX4_performAt_167 : decode cX4_performAt 167 = .ok (.aload_n 0, 1) := by decide +kernel
theorem dX4_performAt_168 : decode cX4_performAt 168 = .ok (.iload_n 3, 1) := by decide +kernel
theorem dX4_performAt_169 : decode cX4_performAt 169 = .ok (.putfield 62, 3) := by decide +kernel
theorem dX4_performAt_172 : decode cX4_performAt 172 = .ok (.goto 211, 3) := by decide +kernel
theorem dX4_performAt_175 : decode cX4_performAt 175 = .ok (.aload_n 0, 1) := by decide +kernel
theorem dX4_performAt_176 : decode cX4_performAt 176 = .ok (.iload_n 2, 1) := by decide +kernel
theorem dX4_performAt_177 : decode cX4_performAt 177 = .ok (.aload_n 0, 1) := by decide +kernel
theorem dX4_performAt_178 : decode cX4_performAt 178 = .ok (.getfield 58, 3) := by decide +kernel
theorem dX4_performAt_181 : decode cX4_performAt 181 = .ok (.invokevirtual 52, 3) := by decide +kernel
theorem dX4_performAt_184 : decode cX4_performAt 184 = .ok (.goto 199, 3) := by decide +kernel
theorem dX4_performAt_187 : decode cX4_performAt 187 = .ok (.aload_n 0, 1) := by decide +kernel
theorem dX4_performAt_188 : decode cX4_performAt 188 = .ok (.iload_n 2, 1) := by decide +kernel
theorem dX4_performAt_189 : decode cX4_performAt 189 = .ok (.iload_n 3, 1) := by decide +kernel
theorem dX4_performAt_190 : decode cX4_performAt 190 = .ok (.sipush (-4096), 3) := by decide +kernel
theorem dX4_performAt_193 : decode cX4_performAt 193 = .ok (.iand, 1) := by decide +kernel
theorem dX4_performAt_194 : decode cX4_performAt 194 = .ok (.aload_n 0, 1) := by decide +kernel
theorem dX4_performAt_195 : decode cX4_performAt 195 = .ok (.getfield 58, 3) := by decide +kernel
theorem dX4_performAt_198 : decode cX4_performAt 198 = .ok (.sipush 4095, 3) := by decide +kernel
theorem dX4_performAt_201 : decode cX4_performAt 201 = .ok (.iand, 1) := by decide +kernel
theorem dX4_performAt_202 : decode cX4_performAt 202 = .ok (.ior, 1) := by decide +kernel
theorem dX4_performAt_203 : decode cX4_performAt 203 = .ok (.invokevirtual 52, 3) := by decide +kernel
theorem dX4_performAt_206 : decode cX4_performAt 206 = .ok (.goto 177, 3) := by decide +kernel
theorem dX4_performAt_209 : decode cX4_performAt 209 = .ok (.aload_n 0, 1) := by decide +kernel
theorem dX4_performAt_210 : decode cX4_performAt 210 = .ok (.iload_n 2, 1) := by decide +kernel
theorem dX4_performAt_211 : decode cX4_performAt 211 = .ok (.iload_n 3, 1) := by decide +kernel
theorem dX4_performAt_212 : decode cX4_performAt 212 = .ok (.sipush 4095, 3) := by decide +kernel
theorem dX4_performAt_215 : decode cX4_performAt 215 = .ok (.iand, 1) := by decide +kernel
theorem dX4_performAt_216 : decode cX4_performAt 216 = .ok (.aload_n 0, 1) := by decide +kernel
theorem dX4_performAt_217 : decode cX4_performAt 217 = .ok (.getfield 58, 3) := by decide +kernel
theorem dX4_performAt_220 : decode cX4_performAt 220 = .ok (.sipush (-4096), 3) := by decide +kernel
theorem dX4_performAt_223 : decode cX4_performAt 223 = .ok (.iand, 1) := by decide +kernel
theorem dX4_performAt_224 : decode cX4_performAt 224 = .ok (.ior, 1) := by decide +kernel
theorem dX4_performAt_225 : decode cX4_performAt 225 = .ok (.invokevirtual 52, 3) := by decide +kernel
theorem dX4_performAt_228 : decode cX4_performAt 228 = .ok (.goto 155, 3) := by decide +kernel
theorem dX4_performAt_231 : decode cX4_performAt 231 = .ok (.aload_n 0, 1) := by decide +kernel
theorem dX4_performAt_232 : decode cX4_performAt 232 = .ok (.iload_n 2, 1) := by decide +kernel
theorem dX4_performAt_233 : decode cX4_performAt 233 = .ok (.aload_n 0, 1) := by decide +kernel
theorem dX4_performAt_234 : decode cX4_performAt 234 = .ok (.getfield 62, 3) := by decide +kernel
theorem dX4_performAt_237 : decode cX4_performAt 237 = .ok (.invokevirtual 52, 3) := by decide +kernel
theorem dX4_performAt_240 : decode cX4_performAt 240 = .ok (.goto 143, 3) := by decide +kernel
theorem dX4_performAt_243 : decode cX4_performAt 243 = .ok (.aload_n 0, 1) := by decide +kernel
theorem dX4_performAt_244 : decode cX4_performAt 244 = .ok (.iload_n 2, 1) := by decide +kernel
theorem dX4_performAt_245 : decode cX4_performAt 245 = .ok (.iconst 0, 1) := by decide +kernel
theorem dX4_performAt_246 : decode cX4_performAt 246 = .ok (.invokevirtual 52, 3) := by decide +kernel
theorem dX4_performAt_249 : decode cX4_performAt 249 = .ok (.goto 134, 3) := by decide +kernel
theorem dX4_performAt_252 : decode cX4_performAt 252 = .ok (.aload_n 0, 1) := by decide +kernel
theorem dX4_performAt_253 : decode cX4_performAt 253 = .ok (.iload_n 3, 1) := by decide +kernel
theorem dX4_performAt_254 : decode cX4_performAt 254 = .ok (.invokevirtual 241, 3) := by decide +kernel
theorem dX4_performAt_257 : decode cX4_performAt 257 = .ok (.goto 126, 3) := by decide +kernel
theorem dX4_performAt_260 : decode cX4_performAt 260 = .ok (.aload_n 0, 1) := by decide +kernel
theorem dX4_performAt_261 : decode cX4_performAt 261 = .ok (.iload_n 3, 1) := by decide +kernel
theorem dX4_performAt_262 : decode cX4_performAt 262 = .ok (.invokevirtual 244, 3) := by decide +kernel
theorem dX4_performAt_265 : decode cX4_performAt 265 = .ok (.goto 118, 3) := by decide +kernel
theorem dX4_performAt_268 : decode cX4_performAt 268 = .ok (.aload_n 0, 1) := by decide +kernel
theorem dX4_performAt_269 : decode cX4_performAt 269 = .ok (.iload_n 2, 1) := by decide +kernel
theorem dX4_performAt_270 : decode cX4_performAt 270 = .ok (.invokevirtual 247, 3) := by decide +kernel
theorem dX4_performAt_273 : decode cX4_performAt 273 = .ok (.goto 110, 3) := by decide +kernel
theorem dX4_performAt_276 : decode cX4_performAt 276 = .ok (.aload_n 0, 1) := by decide +kernel
theorem dX4_performAt_277 : decode cX4_performAt 277 = .ok (.iload_n 2, 1) := by decide +kernel
theorem dX4_performAt_278 : decode cX4_performAt 278 = .ok (.invokevirtual 247, 3) := by decide +kernel
theorem dX4_performAt_281 : decode cX4_performAt 281 = .ok (.aload_n 0, 1) := by decide +kernel
theorem dX4_performAt_282 : decode cX4_performAt 282 = .ok (.aload_n 0, 1) := by decide +kernel
theorem dX4_performAt_283 : decode cX4_performAt 283 = .ok (.getfield 58, 3) := by decide +kernel
theorem dX4_performAt_286 : decode cX4_performAt 286 = .ok (.invokestatic 157, 3) := by decide +kernel
theorem dX4_performAt_289 : decode cX4_performAt 289 = .ok (.ifCond .ne 7, 3) := by decide +kernel
theorem dX4_performAt_292 : decode cX4_performAt 292 = .ok (.iconst 1, 1) := by decide +kernel
theorem dX4_performAt_293 : decode cX4_performAt 293 = .ok (.goto 4, 3) := by decide +kernel
theorem dX4_performAt_296 : decode cX4_performAt 296 = .ok (.iconst 0, 1) := by decide +kernel
theorem dX4_performAt_297 : decode cX4_performAt 297 = .ok (.invokevirtual 225, 3) := by decide +kernel
theorem dX4_performAt_300 : decode cX4_performAt 300 = .ok (.goto 83, 3) := by decide +kernel
theorem dX4_performAt_303 : decode cX4_performAt 303 = .ok (.aload_n 0, 1) := by decide +kernel
theorem dX4_performAt_304 : decode cX4_performAt 304 = .ok (.aload_n 0, 1) := by decide +kernel
theorem dX4_performAt_305 : decode cX4_performAt 305 = .ok (.getfield 58, 3) := by decide +kernel
theorem dX4_performAt_308 : decode cX4_performAt 308 = .ok (.iload_n 3, 1) := by decide +kernel
theorem dX4_performAt_309 : decode cX4_performAt 309 = .ok (.if_icmp .eq 7, 3) := by decide +kernel
theorem dX4_performAt_312 : decode cX4_performAt 312 = .ok (.iconst 1, 1) := by decide +kernel
theorem dX4_performAt_313 : decode cX4_performAt 313 = .ok (.goto 4, 3) := by decide +kernel
theorem dX4_performAt_316 : decode cX4_performAt 316 = .ok (.iconst 0, 1) := by decide +kernel
theorem dX4_performAt_317 : decode cX4_performAt 317 = .ok (.invokevirtual 225, 3) := by decide +kernel
theorem dX4_performAt_320 : decode cX4_performAt 320 = .ok (.goto 63, 3) := by decide +kernel
theorem dX4_performAt_323 : decode cX4_performAt 323 = .ok (.aload_n 0, 1) := by decide +kernel
theorem dX4_performAt_324 : decode cX4_performAt 324 = .ok (.aload_n 0, 1) := by decide +kernel
theorem dX4_performAt_325 : decode cX4_performAt 325 = .ok (.getfield 58, 3) := by decide +kernel
theorem dX4_performAt_328 : decode cX4_performAt 328 = .ok (.iload_n 3, 1) := by decide +kernel
theorem dX4_performAt_329 : decode cX4_performAt 329 = .ok (.if_icmp .ne 7, 3) := by decide +kernel
theorem dX4_performAt_332 : decode cX4_performAt 332 = .ok (.iconst 1, 1) := by decide +kernel
theorem dX4_performAt_333 : decode cX4_performAt 333 = .ok (.goto 4, 3) := by decide +kernel
theorem dX4_performAt_336 : decode cX4_performAt 336 = .ok (.iconst 0, 1) := by decide +kernel
theorem dX4_performAt_337 : decode cX4_performAt 337 = .ok (.invokevirtual 225, 3) := by decide +kernel
theorem dX4_performAt_340 : decode cX4_performAt 340 = .ok (.goto 43, 3) := by decide +kernel
theorem dX4_performAt_343 : decode cX4_performAt 343 = .ok (.aload_n 0, 1) := by decide +kernel
theorem dX4_performAt_344 : decode cX4_performAt 344 = .ok (.iload_n 3, 1) := by decide +kernel
theorem dX4_performAt_345 : decode cX4_performAt 345 = .ok (.invokevirtual 250, 3) := by decide +kernel
theorem dX4_performAt_348 : decode cX4_performAt 348 = .ok (.goto 35, 3) := by decide +kernel
theorem dX4_performAt_351 : decode cX4_performAt 351 = .ok (.aload_n 0, 1) := by decide +kernel
theorem dX4_performAt_352 : decode cX4_performAt 352 = .ok (.iload_n 3, 1) := by decide +kernel
theorem dX4_performAt_353 : decode cX4_performAt 353 = .ok (.invokevirtual 253, 3) := by decide +kernel
theorem dX4_performAt_356 : decode cX4_performAt 356 = .ok (.goto 27, 3) := by decide +kernel
theorem dX4_performAt_359 : decode cX4_performAt 359 = .ok (.aload_n 0, 1) := by decide +kernel
theorem dX4_performAt_360 : decode cX4_performAt 360 = .ok (.iload_n 2, 1) := by decide +kernel
theorem dX4_performAt_361 : decode cX4_performAt 361 = .ok (.putfield 65, 3) := by decide +kernel
theorem dX4_performAt_364 : decode cX4_performAt 364 = .ok (.goto 19, 3) := by decide +kernel
theorem dX4_performAt_367 : decode cX4_performAt 367 = .ok (.aload_n 0, 1) := by decide +kernel
theorem dX4_performAt_368 : decode cX4_performAt 368 = .ok (.aload_n 0, 1) := by decide +kernel
theorem dX4_performAt_369 : decode cX4_performAt 369 = .ok (.invokevirtual 200, 3) := by decide +kernel
theorem dX4_performAt_372 : decode cX4_performAt 372 = .ok (.putfield 58, 3) := by decide +kernel
theorem dX4_performAt_375 : decode cX4_performAt 375 = .ok (.aload_n 0, 1) := by decide +kernel
theorem dX4_performAt_376 : decode cX4_performAt 376 = .ok (.iload_n 2, 1) := by decide +kernel
theorem dX4_performAt_377 : decode cX4_performAt 377 = .ok (.putfield 65, 3) := by decide +kernel
theorem dX4_performAt_380 : decode cX4_performAt 380 = .ok (.goto 3, 3) := by decide +kernel
theorem dX4_performAt_383 : decode cX4_performAt 383 = .ok (.return_, 1) := by decide +kernel
theorem dX4_add_0 : decode cX4_add 0 = .ok (.aload_n 0, 1) := by decide +kernel
theorem dX4_add_1 : decode cX4_add 1 = .ok (.getfield 58, 3) := by decide +kernel
theorem dX4_add_4 : decode cX4_add 4 = .ok (.iload_n 1, 1) := by decide +kernel
theorem dX4_add_5 : decode cX4_add 5 = .ok (.invokestatic 256, 3) := by decide +kernel
theorem dX4_add_8 : decode cX4_add 8 = .ok (.istore_n 2, 1) := by decide +kernel
theorem dX4_add_9 : decode cX4_add 9 = .ok (.aload_n 0, 1) := by decide +kernel
theorem dX4_add_10 : decode cX4_add 10 = .ok (.aload_n 0, 1) := by decide +kernel
theorem dX4_add_11 : decode cX4_add 11 = .ok (.getfield 58, 3) := by decide +kernel
theorem dX4_add_14 : decode cX4_add 14 = .ok (.iload_n 1, 1) := by decide +kernel
theorem dX4_add_15 : decode cX4_add 15 = .ok (.iload_n 2, 1) := by decide +kernel
theorem dX4_add_16 : decode cX4_add 16 = .ok (.invokevirtual 260, 3) := by decide +kernel
theorem dX4_add_19 : decode cX4_add 19 = .ok (.aload_n 0, 1) := by decide +kernel
theorem dX4_add_20 : decode cX4_add 20 = .ok (.iload_n 2, 1) := by decide +kernel
theorem dX4_add_21 : decode cX4_add 21 = .ok (.invokestatic 264, 3) := by decide +kernel
theorem dX4_add_24 : decode cX4_add 24 = .ok (.putfield 58, 3) := by decide +kernel
theorem dX4_add_27 : decode cX4_add 27 = .ok (.return_, 1) := by decide +kernel
theorem dX4_subtract_0 : decode cX4_subtract 0 = .ok (.aload_n 0, 1) := by decide +kernel
theorem dX4_subtract_1 : decode cX4_subtract 1 = .ok (.getfield 58, 3) := by decide +kernel
theorem dX4_subtract_4 : decode cX4_subtract 4 = .ok (.invokestatic 232, 3) := by decide +kernel
theorem dX4_subtract_7 : decode cX4_subtract 7 = .ok (.iload_n 1, 1) := by decide +kernel
theorem dX4_subtract_8 : decode cX4_subtract 8 = .ok (.invokestatic 256, 3) := by decide +kernel
theorem dX4_subtract_11 : decode cX4_subtract 11 = .ok (.istore_n 2, 1) := by decide +kernel
theorem dX4_subtract_12 : decode cX4_subtract 12 = .ok (.aload_n 0, 1) := by decide +kernel
theorem dX4_subtract_13 : decode cX4_subtract 13 = .ok (.aload_n 0, 1) := by decide +kernel
theorem dX4_subtract_14 : decode cX4_subtract 14 = .ok (.getfield 58, 3) := by decide +kernel
theorem dX4_subtract_17 : decode cX4_subtract 17 = .ok (.invokestatic 232, 3) := by decide +kernel
theorem dX4_subtract_20 : decode cX4_subtract 20 = .ok (.iload_n 1, 1) := by decide +kernel
theorem dX4_subtract_21 : decode cX4_subtract 21 = .ok (.iload_n 2, 1) := by decide +kernel
theorem dX4_subtract_22 : decode cX4_subtract 22 = .ok (.invokevirtual 260, 3) := by decide +kernel
theorem dX4_subtract_25 : decode cX4_subtract 25 = .ok (.aload_n 0, 1) := by decide +kernel
theorem dX4_subtract_26 : decode cX4_subtract 26 = .ok (.iload_n 2, 1) := by decide +kernel
theorem dX4_subtract_27 : decode cX4_subtract 27 = .ok (.invokestatic 232, 3) := by decide +kernel
theorem dX4_subtract_30 : decode cX4_subtract 30 = .ok (.putfield 58, 3) := by decide +kernel
theorem dX4_subtract_33 : decode cX4_subtract 33 = .ok (.return_, 1) := by decide +kernel
theorem dX4_noteOverflow_0 : decode cX4_noteOverflow 0 = .ok (.iload_n 1, 1) := by decide +kernel
theorem dX4_noteOverflow_1 : decode cX4_noteOverflow 1 = .ok (.invokestatic 157, 3) := by decide +kernel
theorem dX4_noteOverflow_4 : decode cX4_noteOverflow 4 = .ok (.iload_n 2, 1) := by decide +kernel
theorem dX4_noteOverflow_5 : decode cX4_noteOverflow 5 = .ok (.invokestatic 157, 3) := by decide +kernel
theorem dX4_noteOverflow_8 : decode cX4_noteOverflow 8 = .ok (.if_icmp .ne 32, 3) := by decide +kernel
theorem dX4_noteOverflow_11 : decode cX4_noteOverflow 11 = .ok (.iload_n 3, 1) := by decide +kernel
theorem dX4_noteOverflow_12 : decode cX4_noteOverflow 12 = .ok (.invokestatic 157, 3) := by decide +kernel
theorem dX4_noteOverflow_15 : decode cX4_noteOverflow 15 = .ok (.iload_n 1, 1) := by decide +kernel
theorem dX4_noteOverflow_16 : decode cX4_noteOverflow 16 = .ok (.invokestatic 157, 3) := by decide +kernel
theorem dX4_noteOverflow_19 : decode cX4_noteOverflow 19 = .ok (.if_icmp .eq 21, 3) := by decide +kernel
theorem dX4_noteOverflow_22 : decode cX4_noteOverflow 22 = .ok (.aload_n 0, 1) := by decide +kernel
theorem dX4_noteOverflow_23 : decode cX4_noteOverflow 23 = .ok (.iconst 1, 1) := by decide +kernel
theorem dX4_noteOverflow_24 : decode cX4_noteOverflow 24 = .ok (.putfield 68, 3) := by decide +kernel
theorem dX4_noteOverflow_27 : decode cX4_noteOverflow 27 = .ok (.aload_n 0, 1) := by decide +kernel
theorem dX4_noteOverflow_28 : decode cX4_noteOverflow 28 = .ok (.getfield 37, 3) := by decide +kernel
theorem dX4_noteOverflow_31 : decode cX4_noteOverflow 31 = .ok (.dup, 1) := by decide +kernel
theorem dX4_noteOverflow_32 : decode cX4_noteOverflow 32 = .ok (.getfield 129, 3) := by decide +kernel
theorem dX4_noteOverflow_35 : decode cX4_noteOverflow 35 = .ok (.iconst 1, 1) := by decide +kernel
theorem dX4_noteOverflow_36 : decode cX4_noteOverflow 36 = .ok (.iadd, 1) := by decide +kernel
theorem dX4_noteOverflow_37 : decode cX4_noteOverflow 37 = .ok (.putfield 129, 3) := by decide +kernel
theorem dX4_noteOverflow_40 : decode cX4_noteOverflow 40 = .ok (.return_, 1) := by decide +kernel
theorem dX4_index_0 : decode cX4_index 0 = .ok (.aload_n 0, 1) := by decide +kernel
theorem dX4_index_1 : decode cX4_index 1 = .ok (.iload_n 1, 1) := by decide +kernel
theorem dX4_index_2 : decode cX4_index 2 = .ok (.invokevirtual 48, 3) := by decide +kernel
theorem dX4_index_5 : decode cX4_index 5 = .ok (.iconst 1, 1) := by decide +kernel
theorem dX4_index_6 : decode cX4_index 6 = .ok (.iadd, 1) := by decide +kernel
theorem dX4_index_7 : decode cX4_index 7 = .ok (.istore_n 2, 1) := by decide +kernel
theorem dX4_index_8 : decode cX4_index 8 = .ok (.aload_n 0, 1) := by decide +kernel
theorem dX4_index_9 : decode cX4_index 9 = .ok (.iload_n 2, 1) := by decide +kernel
theorem dX4_index_10 : decode cX4_index 10 = .ok (.ldc 160, 2) := by decide +kernel
theorem dX4_index_12 : decode cX4_index 12 = .ok (.if_icmp .lt 10, 3) := by decide +kernel
theorem dX4_index_15 : decode cX4_index 15 = .ok (.iload_n 2, 1) := by decide +kernel
theorem dX4_index_16 : decode cX4_index 16 = .ok (.ldc 160, 2) := by decide +kernel
theorem dX4_index_18 : decode cX4_index 18 = .ok (.isub, 1) := by decide +kernel
theorem dX4_index_19 : decode cX4_index 19 = .ok (.goto 4, 3) := by decide +kernel
theorem dX4_index_22 : decode cX4_index 22 = .ok (.iload_n 2, 1) := by decide +kernel
theorem dX4_index_23 : decode cX4_index 23 = .ok (.putfield 58, 3) := by decide +kernel
theorem dX4_index_26 : decode cX4_index 26 = .ok (.aload_n 0, 1) := by decide +kernel
theorem dX4_index_27 : decode cX4_index 27 = .ok (.iload_n 1, 1) := by decide +kernel
theorem dX4_index_28 : decode cX4_index 28 = .ok (.aload_n 0, 1) := by decide +kernel
theorem dX4_index_29 : decode cX4_index 29 = .ok (.getfield 58, 3) := by decide +kernel
theorem dX4_index_32 : decode cX4_index 32 = .ok (.invokevirtual 52, 3) := by decide +kernel
theorem dX4_index_35 : decode cX4_index 35 = .ok (.return_, 1) := by decide +kernel
theorem dX4_multiplyStep_0 : decode cX4_multiplyStep 0 = .ok (.aload_n 0, 1) := by decide +kernel
theorem dX4_multiplyStep_1 : decode cX4_multiplyStep 1 = .ok (.getfield 62, 3) := by decide +kernel
theorem dX4_multiplyStep_4 : decode cX4_multiplyStep 4 = .ok (.iconst 1, 1) := by decide +kernel
theorem dX4_multiplyStep_5 : decode cX4_multiplyStep 5 = .ok (.iand, 1) := by decide +kernel
theorem dX4_multiplyStep_6 : decode cX4_multiplyStep 6 = .ok (.iconst 1, 1) := by decide +kernel
theorem dX4_multiplyStep_7 : decode cX4_multiplyStep 7 = .ok (.if_icmp .ne 18, 3) := by decide +kernel
theorem dX4_multiplyStep_10 : decode cX4_multiplyStep 10 = .ok (.aload_n 0, 1) := by decide +kernel
theorem dX4_multiplyStep_11 : decode cX4_multiplyStep 11 = .ok (.aload_n 0, 1) := by decide +kernel
theorem dX4_multiplyStep_12 : decode cX4_multiplyStep 12 = .ok (.getfield 58, 3) := by decide +kernel
theorem dX4_multiplyStep_15 : decode cX4_multiplyStep 15 = .ok (.iload_n 1, 1) := by decide +kernel
theorem dX4_multiplyStep_16 : decode cX4_multiplyStep 16 = .ok (.invokestatic 256, 3) := by decide +kernel
theorem dX4_multiplyStep_19 : decode cX4_multiplyStep 19 = .ok (.invokestatic 264, 3) := by decide +kernel
theorem dX4_multiplyStep_22 : decode cX4_multiplyStep 22 = .ok (.putfield 58, 3) := by decide +kernel
theorem dX4_multiplyStep_25 : decode cX4_multiplyStep 25 = .ok (.aload_n 0, 1) := by decide +kernel
theorem dX4_multiplyStep_26 : decode cX4_multiplyStep 26 = .ok (.aload_n 0, 1) := by decide +kernel
theorem dX4_multiplyStep_27 : decode cX4_multiplyStep 27 = .ok (.invokevirtual 267, 3) := by decide +kernel
theorem dX4_multiplyStep_30 : decode cX4_multiplyStep 30 = .ok (.iconst 1, 1) := by decide +kernel
theorem dX4_multiplyStep_31 : decode cX4_multiplyStep 31 = .ok (.lshr, 1) := by decide +kernel
theorem dX4_multiplyStep_32 : decode cX4_multiplyStep 32 = .ok (.invokevirtual 271, 3) := by decide +kernel
theorem dX4_multiplyStep_35 : decode cX4_multiplyStep 35 = .ok (.return_, 1) := by decide +kernel
theorem dX4_divideStep_0 : decode cX4_divideStep 0 = .ok (.iconst 1, 1) := by decide +kernel
theorem dX4_divideStep_1 : decode cX4_divideStep 1 = .ok (.aload_n 0, 1) := by decide +kernel
theorem dX4_divideStep_2 : decode cX4_divideStep 2 = .ok (.getfield 58, 3) := by decide +kernel
theorem dX4_divideStep_5 : decode cX4_divideStep 5 = .ok (.invokestatic 157, 3) := by decide +kernel
theorem dX4_divideStep_8 : decode cX4_divideStep 8 = .ok (.isub, 1) := by decide +kernel
theorem dX4_divideStep_9 : decode cX4_divideStep 9 = .ok (.istore_n 2, 1) := by decide +kernel
theorem dX4_divideStep_10 : decode cX4_divideStep 10 = .ok (.aload_n 0, 1) := by decide +kernel
theorem dX4_divideStep_11 : decode cX4_divideStep 11 = .ok (.aload_n 0, 1) := by decide +kernel
theorem dX4_divideStep_12 : decode cX4_divideStep 12 = .ok (.invokevirtual 267, 3) := by decide +kernel
theorem dX4_divideStep_15 : decode cX4_divideStep 15 = .ok (.iconst 1, 1) := by decide +kernel
theorem dX4_divideStep_16 : decode cX4_divideStep 16 = .ok (.lshl, 1) := by decide +kernel
theorem dX4_divideStep_17 : decode cX4_divideStep 17 = .ok (.iload_n 2, 1) := by decide +kernel
theorem dX4_divideStep_18 : decode cX4_divideStep 18 = .ok (.i2l, 1) := by decide +kernel
theorem dX4_divideStep_19 : decode cX4_divideStep 19 = .ok (.lor, 1) := by decide +kernel
theorem dX4_divideStep_20 : decode cX4_divideStep 20 = .ok (.invokevirtual 271, 3) := by decide +kernel
theorem dX4_divideStep_23 : decode cX4_divideStep 23 = .ok (.iload_n 2, 1) := by decide +kernel
theorem dX4_divideStep_24 : decode cX4_divideStep 24 = .ok (.iconst 1, 1) := by decide +kernel
theorem dX4_divideStep_25 : decode cX4_divideStep 25 = .ok (.if_icmp .ne 17, 3) := by decide +kernel
theorem dX4_divideStep_28 : decode cX4_divideStep 28 = .ok (.aload_n 0, 1) := by decide +kernel
theorem dX4_divideStep_29 : decode cX4_divideStep 29 = .ok (.getfield 58, 3) := by decide +kernel
theorem dX4_divideStep_32 : decode cX4_divideStep 32 = .ok (.iload_n 1, 1) := by decide +kernel
theorem dX4_divideStep_33 : decode cX4_divideStep 33 = .ok (.invokestatic 232, 3) := by decide +kernel
theorem dX4_divideStep_36 : decode cX4_divideStep 36 = .ok (.invokestatic 256, 3) := by decide +kernel
theorem dX4_divideStep_39 : decode cX4_divideStep 39 = .ok (.goto 15, 3) := by decide +kernel
theorem dX4_divideStep_42 : decode cX4_divideStep 42 = .ok (.aload_n 0, 1) := by decide +kernel
theorem dX4_divideStep_43 : decode cX4_divideStep 43 = .ok (.getfield 58, 3) := by decide +kernel
theorem dX4_divideStep_46 : decode cX4_divideStep 46 = .ok (.iload_n 1, 1) := by decide +kernel
theorem dX4_divideStep_47 : decode cX4_divideStep 47 = .ok (.invokestatic 256, 3) := by decide +kernel
theorem dX4_divideStep_50 : decode cX4_divideStep 50 = .ok (.iconst 1, 1) := by decide +kernel
theorem dX4_divideStep_51 : decode cX4_divideStep 51 = .ok (.invokestatic 256, 3) := by decide +kernel
theorem dX4_divideStep_54 : decode cX4_divideStep 54 = .ok (.istore_n 3, 1) := by decide +kernel
theorem dX4_divideStep_55 : decode cX4_divideStep 55 = .ok (.aload_n 0, 1) := by decide +kernel
theorem dX4_divideStep_56 : decode cX4_divideStep 56 = .ok (.iload_n 3, 1) := by decide +kernel
theorem dX4_divideStep_57 : decode cX4_divideStep 57 = .ok (.invokestatic 264, 3) := by decide +kernel
theorem dX4_divideStep_60 : decode cX4_divideStep 60 = .ok (.putfield 58, 3) := by decide +kernel
theorem dX4_divideStep_63 : decode cX4_divideStep 63 = .ok (.return_, 1) := by decide +kernel
end
section
theorem dX4_someHolds_0 : decode cX4_someHolds 0 = .ok (.iload_n 1, 1) := by decide +kernel
theorem dX4_someHolds_1 : decode cX4_someHolds 1 = .ok (.bipush 64, 2) := by decide +kernel
theorem dX4_someHolds_3 : decode cX4_someHolds 3 = .ok (.iand, 1) := by decide +kernel
theorem dX4_someHolds_4 : decode cX4_someHolds 4 = .ok (.ifCond .eq 10, 3) := by decide +kernel
theorem dX4_someHolds_7 : decode cX4_someHolds 7 = .ok (.aload_n 0, 1) := by decide +kernel
theorem dX4_someHolds_8 : decode cX4_someHolds 8 = .ok (.getfield 58, 3) := by decide +kernel
theorem dX4_someHolds_11 : decode cX4_someHolds 11 = .ok (.ifCond .eq 103, 3) := by decide +kernel
theorem dX4_someHolds_14 : decode cX4_someHolds 14 = .ok (.iload_n 1, 1) := by decide +kernel
theorem dX4_someHolds_15 : decode cX4_someHolds 15 = .ok (.sipush 128, 3) := by decide +kernel
theorem dX4_someHolds_18 : decode cX4_someHolds 18 = .ok (.iand, 1) := by decide +kernel
theorem dX4_someHolds_19 : decode cX4_someHolds 19 = .ok (.ifCond .eq 13, 3) := by decide +kernel
theorem dX4_someHolds_22 : decode cX4_someHolds 22 = .ok (.aload_n 0, 1) := by decide +kernel
theorem dX4_someHolds_23 : decode cX4_someHolds 23 = .ok (.getfield 58, 3) := by decide +kernel
theorem dX4_someHolds_26 : decode cX4_someHolds 26 = .ok (.invokestatic 157, 3) := by decide +kernel
theorem dX4_someHolds_29 : decode cX4_someHolds 29 = .ok (.ifCond .eq 85, 3) := by decide +kernel
theorem dX4_someHolds_32 : decode cX4_someHolds 32 = .ok (.iload_n 1, 1) := by decide +kernel
theorem dX4_someHolds_33 : decode cX4_someHolds 33 = .ok (.sipush 256, 3) := by decide +kernel
theorem dX4_someHolds_36 : decode cX4_someHolds 36 = .ok (.iand, 1) := by decide +kernel
theorem dX4_someHolds_37 : decode cX4_someHolds 37 = .ok (.ifCond .eq 14, 3) := by decide +kernel
theorem dX4_someHolds_40 : decode cX4_someHolds 40 = .ok (.aload_n 0, 1) := by decide +kernel
theorem dX4_someHolds_41 : decode cX4_someHolds 41 = .ok (.getfield 58, 3) := by decide +kernel
theorem dX4_someHolds_44 : decode cX4_someHolds 44 = .ok (.invokestatic 157, 3) := by decide +kernel
theorem dX4_someHolds_47 : decode cX4_someHolds 47 = .ok (.iconst 1, 1) := by decide +kernel
theorem dX4_someHolds_48 : decode cX4_someHolds 48 = .ok (.if_icmp .eq 66, 3) := by decide +kernel
theorem dX4_someHolds_51 : decode cX4_someHolds 51 = .ok (.iload_n 1, 1) := by decide +kernel
theorem dX4_someHolds_52 : decode cX4_someHolds 52 = .ok (.sipush 512, 3) := by decide +kernel
theorem dX4_someHolds_55 : decode cX4_someHolds 55 = .ok (.iand, 1) := by decide +kernel
theorem dX4_someHolds_56 : decode cX4_someHolds 56 = .ok (.ifCond .eq 10, 3) := by decide +kernel
theorem dX4_someHolds_59 : decode cX4_someHolds 59 = .ok (.aload_n 0, 1) := by decide +kernel
theorem dX4_someHolds_60 : decode cX4_someHolds 60 = .ok (.getfield 68, 3) := by decide +kernel
theorem dX4_someHolds_63 : decode cX4_someHolds 63 = .ok (.ifCond .eq 51, 3) := by decide +kernel
theorem dX4_someHolds_66 : decode cX4_someHolds 66 = .ok (.iload_n 1, 1) := by decide +kernel
theorem dX4_someHolds_67 : decode cX4_someHolds 67 = .ok (.sipush 1024, 3) := by decide +kernel
theorem dX4_someHolds_70 : decode cX4_someHolds 70 = .ok (.iand, 1) := by decide +kernel
theorem dX4_someHolds_71 : decode cX4_someHolds 71 = .ok (.ifCond .eq 13, 3) := by decide +kernel
theorem dX4_someHolds_74 : decode cX4_someHolds 74 = .ok (.aload_n 0, 1) := by decide +kernel
theorem dX4_someHolds_75 : decode cX4_someHolds 75 = .ok (.getfield 62, 3) := by decide +kernel
theorem dX4_someHolds_78 : decode cX4_someHolds 78 = .ok (.invokestatic 157, 3) := by decide +kernel
theorem dX4_someHolds_81 : decode cX4_someHolds 81 = .ok (.ifCond .eq 33, 3) := by decide +kernel
theorem dX4_someHolds_84 : decode cX4_someHolds 84 = .ok (.aload_n 0, 1) := by decide +kernel
theorem dX4_someHolds_85 : decode cX4_someHolds 85 = .ok (.getfield 89, 3) := by decide +kernel
theorem dX4_someHolds_88 : decode cX4_someHolds 88 = .ok (.iload_n 1, 1) := by decide +kernel
theorem dX4_someHolds_89 : decode cX4_someHolds 89 = .ok (.iconst 3, 1) := by decide +kernel
theorem dX4_someHolds_90 : decode cX4_someHolds 90 = .ok (.ishr, 1) := by decide +kernel
theorem dX4_someHolds_91 : decode cX4_someHolds 91 = .ok (.bipush 7, 2) := by decide +kernel
theorem dX4_someHolds_93 : decode cX4_someHolds 93 = .ok (.iand, 1) := by decide +kernel
theorem dX4_someHolds_94 : decode cX4_someHolds 94 = .ok (.invokestatic 275, 3) := by decide +kernel
theorem dX4_someHolds_97 : decode cX4_someHolds 97 = .ok (.ifCond .ne 17, 3) := by decide +kernel
theorem dX4_someHolds_100 : decode cX4_someHolds 100 = .ok (.aload_n 0, 1) := by decide +kernel
theorem dX4_someHolds_101 : decode cX4_someHolds 101 = .ok (.getfield 71, 3) := by decide +kernel
theorem dX4_someHolds_104 : decode cX4_someHolds 104 = .ok (.iload_n 1, 1) := by decide +kernel
theorem dX4_someHolds_105 : decode cX4_someHolds 105 = .ok (.bipush 7, 2) := by decide +kernel
theorem dX4_someHolds_107 : decode cX4_someHolds 107 = .ok (.iand, 1) := by decide +kernel
theorem dX4_someHolds_108 : decode cX4_someHolds 108 = .ok (.invokestatic 275, 3) := by decide +kernel
theorem dX4_someHolds_111 : decode cX4_someHolds 111 = .ok (.ifCond .eq 7, 3) := by decide +kernel
theorem dX4_someHolds_114 : decode cX4_someHolds 114 = .ok (.iconst 1, 1) := by decide +kernel
theorem dX4_someHolds_115 : decode cX4_someHolds 115 = .ok (.goto 4, 3) := by decide +kernel
theorem dX4_someHolds_118 : decode cX4_someHolds 118 = .ok (.iconst 0, 1) := by decide +kernel
theorem dX4_someHolds_119 : decode cX4_someHolds 119 = .ok (.istore_n 2, 1) := by decide +kernel
theorem dX4_someHolds_120 : decode cX4_someHolds 120 = .ok (.iload_n 1, 1) := by decide +kernel
theorem dX4_someHolds_121 : decode cX4_someHolds 121 = .ok (.sipush 512, 3) := by decide +kernel
theorem dX4_someHolds_124 : decode cX4_someHolds 124 = .ok (.iand, 1) := by decide +kernel
theorem dX4_someHolds_125 : decode cX4_someHolds 125 = .ok (.ifCond .eq 8, 3) := by decide +kernel
theorem dX4_someHolds_128 : decode cX4_someHolds 128 = .ok (.aload_n 0, 1) := by decide +kernel
theorem dX4_someHolds_129 : decode cX4_someHolds 129 = .ok (.iconst 0, 1) := by decide +kernel
theorem dX4_someHolds_130 : decode cX4_someHolds 130 = .ok (.putfield 68, 3) := by decide +kernel
theorem dX4_someHolds_133 : decode cX4_someHolds 133 = .ok (.iload_n 2, 1) := by decide +kernel
theorem dX4_someHolds_134 : decode cX4_someHolds 134 = .ok (.ireturn, 1) := by decide +kernel
theorem dX4_isOff_0 : decode cX4_isOff 0 = .ok (.iload_n 1, 1) := by decide +kernel
theorem dX4_isOff_1 : decode cX4_isOff 1 = .ok (.ifCond .ne 5, 3) := by decide +kernel
theorem dX4_isOff_4 : decode cX4_isOff 4 = .ok (.iconst 0, 1) := by decide +kernel
theorem dX4_isOff_5 : decode cX4_isOff 5 = .ok (.ireturn, 1) := by decide +kernel
theorem dX4_isOff_6 : decode cX4_isOff 6 = .ok (.iload_n 1, 1) := by decide +kernel
theorem dX4_isOff_7 : decode cX4_isOff 7 = .ok (.bipush 7, 2) := by decide +kernel
theorem dX4_isOff_9 : decode cX4_isOff 9 = .ok (.if_icmp .ne 15, 3) := by decide +kernel
theorem dX4_isOff_12 : decode cX4_isOff 12 = .ok (.iload_n 0, 1) := by decide +kernel
theorem dX4_isOff_13 : decode cX4_isOff 13 = .ok (.ifCond .ne 7, 3) := by decide +kernel
theorem dX4_isOff_16 : decode cX4_isOff 16 = .ok (.iconst 1, 1) := by decide +kernel
theorem dX4_isOff_17 : decode cX4_isOff 17 = .ok (.goto 22, 3) := by decide +kernel
theorem dX4_isOff_20 : decode cX4_isOff 20 = .ok (.iconst 0, 1) := by decide +kernel
theorem dX4_isOff_21 : decode cX4_isOff 21 = .ok (.goto 18, 3) := by decide +kernel
theorem dX4_isOff_24 : decode cX4_isOff 24 = .ok (.iload_n 0, 1) := by decide +kernel
theorem dX4_isOff_25 : decode cX4_isOff 25 = .ok (.iload_n 1, 1) := by decide +kernel
theorem dX4_isOff_26 : decode cX4_isOff 26 = .ok (.iconst 1, 1) := by decide +kernel
theorem dX4_isOff_27 : decode cX4_isOff 27 = .ok (.isub, 1) := by decide +kernel
theorem dX4_isOff_28 : decode cX4_isOff 28 = .ok (.ishr, 1) := by decide +kernel
theorem dX4_isOff_29 : decode cX4_isOff 29 = .ok (.iconst 1, 1) := by decide +kernel
theorem dX4_isOff_30 : decode cX4_isOff 30 = .ok (.iand, 1) := by decide +kernel
theorem dX4_isOff_31 : decode cX4_isOff 31 = .ok (.ifCond .ne 7, 3) := by decide +kernel
theorem dX4_isOff_34 : decode cX4_isOff 34 = .ok (.iconst 1, 1) := by decide +kernel
theorem dX4_isOff_35 : decode cX4_isOff 35 = .ok (.goto 4, 3) := by decide +kernel
theorem dX4_isOff_38 : decode cX4_isOff 38 = .ok (.iconst 0, 1) := by decide +kernel
theorem dX4_isOff_39 : decode cX4_isOff 39 = .ok (.ireturn, 1) := by decide +kernel
theorem dX4_both_0 : decode cX4_both 0 = .ok (.aload_n 0, 1) := by decide +kernel
theorem dX4_both_1 : decode cX4_both 1 = .ok (.getfield 58, 3) := by decide +kernel
theorem dX4_both_4 : decode cX4_both 4 = .ok (.i2l, 1) := by decide +kernel
theorem dX4_both_5 : decode cX4_both 5 = .ok (.bipush 18, 2) := by decide +kernel
theorem dX4_both_7 : decode cX4_both 7 = .ok (.lshl, 1) := by decide +kernel
theorem dX4_both_8 : decode cX4_both 8 = .ok (.aload_n 0, 1) := by decide +kernel
theorem dX4_both_9 : decode cX4_both 9 = .ok (.getfield 62, 3) := by decide +kernel
theorem dX4_both_12 : decode cX4_both 12 = .ok (.i2l, 1) := by decide +kernel
theorem dX4_both_13 : decode cX4_both 13 = .ok (.lor, 1) := by decide +kernel
theorem dX4_both_14 : decode cX4_both 14 = .ok (.lreturn, 1) := by decide +kernel
theorem dX4_setBoth_0 : decode cX4_setBoth 0 = .ok (.aload_n 0, 1) := by decide +kernel
theorem dX4_setBoth_1 : decode cX4_setBoth 1 = .ok (.lload_n 1, 1) := by decide +kernel
theorem dX4_setBoth_2 : decode cX4_setBoth 2 = .ok (.bipush 18, 2) := by decide +kernel
theorem dX4_setBoth_4 : decode cX4_setBoth 4 = .ok (.lshr, 1) := by decide +kernel
theorem dX4_setBoth_5 : decode cX4_setBoth 5 = .ok (.ldc2_w 56, 3) := by decide +kernel
theorem dX4_setBoth_8 : decode cX4_setBoth 8 = .ok (.land, 1) := by decide +kernel
theorem dX4_setBoth_9 : decode cX4_setBoth 9 = .ok (.l2i, 1) := by decide +kernel
theorem dX4_setBoth_10 : decode cX4_setBoth 10 = .ok (.putfield 58, 3) := by decide +kernel
theorem dX4_setBoth_13 : decode cX4_setBoth 13 = .ok (.aload_n 0, 1) := by decide +kernel
theorem dX4_setBoth_14 : decode cX4_setBoth 14 = .ok (.lload_n 1, 1) := by decide +kernel
theorem dX4_setBoth_15 : decode cX4_setBoth 15 = .ok (.ldc2_w 56, 3) := by decide +kernel
theorem dX4_setBoth_18 : decode cX4_setBoth 18 = .ok (.land, 1) := by decide +kernel
theorem dX4_setBoth_19 : decode cX4_setBoth 19 = .ok (.l2i, 1) := by decide +kernel
theorem dX4_setBoth_20 : decode cX4_setBoth 20 = .ok (.putfield 62, 3) := by decide +kernel
theorem dX4_setBoth_23 : decode cX4_setBoth 23 = .ok (.return_, 1) := by decide +kernel
theorem dX4_shift_0 : decode cX4_shift 0 = .ok (.iload_n 1, 1) := by decide +kernel
theorem dX4_shift_1 : decode cX4_shift 1 = .ok (.iconst 2, 1) := by decide +kernel
theorem dX4_shift_2 : decode cX4_shift 2 = .ok (.ishr, 1) := by decide +kernel
theorem dX4_shift_3 : decode cX4_shift 3 = .ok (.istore_n 3, 1) := by decide +kernel
theorem dX4_shift_4 : decode cX4_shift 4 = .ok (.iload_n 1, 1) := by decide +kernel
theorem dX4_shift_5 : decode cX4_shift 5 = .ok (.iconst 3, 1) := by decide +kernel
theorem dX4_shift_6 : decode cX4_shift 6 = .ok (.iand, 1) := by decide +kernel
theorem dX4_shift_7 : decode cX4_shift 7 = .ok (.lookupswitch 65 #[(1, 25), (2, 45)], 25) := by decide +kernel
theorem dX4_shift_32 : decode cX4_shift 32 = .ok (.aload_n 0, 1) := by decide +kernel
theorem dX4_shift_33 : decode cX4_shift 33 = .ok (.aload_n 0, 1) := by decide +kernel
theorem dX4_shift_34 : decode cX4_shift 34 = .ok (.getfield 58, 3) := by decide +kernel
theorem dX4_shift_37 : decode cX4_shift 37 = .ok (.i2l, 1) := by decide +kernel
theorem dX4_shift_38 : decode cX4_shift 38 = .ok (.bipush 18, 2) := by decide +kernel
theorem dX4_shift_40 : decode cX4_shift 40 = .ok (.iload_n 3, 1) := by decide +kernel
theorem dX4_shift_41 : decode cX4_shift 41 = .ok (.iload_n 2, 1) := by decide +kernel
theorem dX4_shift_42 : decode cX4_shift 42 = .ok (.invokestatic 279, 3) := by decide +kernel
theorem dX4_shift_45 : decode cX4_shift 45 = .ok (.l2i, 1) := by decide +kernel
theorem dX4_shift_46 : decode cX4_shift 46 = .ok (.putfield 58, 3) := by decide +kernel
theorem dX4_shift_49 : decode cX4_shift 49 = .ok (.goto 38, 3) := by decide +kernel
theorem dX4_shift_52 : decode cX4_shift 52 = .ok (.aload_n 0, 1) := by decide +kernel
theorem dX4_shift_53 : decode cX4_shift 53 = .ok (.aload_n 0, 1) := by decide +kernel
theorem dX4_shift_54 : decode cX4_shift 54 = .ok (.getfield 62, 3) := by decide +kernel
theorem dX4_shift_57 : decode cX4_shift 57 = .ok (.i2l, 1) := by decide +kernel
theorem dX4_shift_58 : decode cX4_shift 58 = .ok (.bipush 18, 2) := by decide +kernel
theorem dX4_shift_60 : decode cX4_shift 60 = .ok (.iload_n 3, 1) := by decide +kernel
theorem dX4_shift_61 : decode cX4_shift 61 = .ok (.iload_n 2, 1) := by decide +kernel
theorem dX4_shift_62 : decode cX4_shift 62 = .ok (.invokestatic 279, 3) := by decide +kernel
theorem dX4_shift_65 : decode cX4_shift 65 = .ok (.l2i, 1) := by decide +kernel
theorem dX4_shift_66 : decode cX4_shift 66 = .ok (.putfield 62, 3) := by decide +kernel
theorem dX4_shift_69 : decode cX4_shift 69 = .ok (.goto 18, 3) := by decide +kernel
theorem dX4_shift_72 : decode cX4_shift 72 = .ok (.aload_n 0, 1) := by decide +kernel
theorem dX4_shift_73 : decode cX4_shift 73 = .ok (.aload_n 0, 1) := by decide +kernel
theorem dX4_shift_74 : decode cX4_shift 74 = .ok (.invokevirtual 267, 3) := by decide +kernel
theorem dX4_shift_77 : decode cX4_shift 77 = .ok (.bipush 36, 2) := by decide +kernel
theorem dX4_shift_79 : decode cX4_shift 79 = .ok (.iload_n 3, 1) := by decide +kernel
theorem dX4_shift_80 : decode cX4_shift 80 = .ok (.iload_n 2, 1) := by decide +kernel
theorem dX4_shift_81 : decode cX4_shift 81 = .ok (.invokestatic 279, 3) := by decide +kernel
theorem dX4_shift_84 : decode cX4_shift 84 = .ok (.invokevirtual 271, 3) := by decide +kernel
theorem dX4_shift_87 : decode cX4_shift 87 = .ok (.return_, 1) := by decide +kernel
theorem dX4_moved_0 : decode cX4_moved 0 = .ok (.lload_n 0, 1) := by decide +kernel
theorem dX4_moved_1 : decode cX4_moved 1 = .ok (.lstore 5, 2) := by decide +kernel
theorem dX4_moved_3 : decode cX4_moved 3 = .ok (.iconst 0, 1) := by decide +kernel
theorem dX4_moved_4 : decode cX4_moved 4 = .ok (.istore 7, 2) := by decide +kernel
theorem dX4_moved_6 : decode cX4_moved 6 = .ok (.iload 7, 2) := by decide +kernel
theorem dX4_moved_8 : decode cX4_moved 8 = .ok (.iload 4, 2) := by decide +kernel
theorem dX4_moved_10 : decode cX4_moved 10 = .ok (.if_icmp .ge 18, 3) := by decide +kernel
theorem dX4_moved_13 : decode cX4_moved 13 = .ok (.lload 5, 2) := by decide +kernel
theorem dX4_moved_15 : decode cX4_moved 15 = .ok (.iload_n 2, 1) := by decide +kernel
theorem dX4_moved_16 : decode cX4_moved 16 = .ok (.iload_n 3, 1) := by decide +kernel
theorem dX4_moved_17 : decode cX4_moved 17 = .ok (.invokestatic 283, 3) := by decide +kernel
theorem dX4_moved_20 : decode cX4_moved 20 = .ok (.lstore 5, 2) := by decide +kernel
theorem dX4_moved_22 : decode cX4_moved 22 = .ok (.iinc 7 1, 3) := by decide +kernel
theorem dX4_moved_25 : decode cX4_moved 25 = .ok (.goto (-19), 3) := by decide +kernel
theorem dX4_moved_28 : decode cX4_moved 28 = .ok (.lload 5, 2) := by decide +kernel
theorem dX4_moved_30 : decode cX4_moved 30 = .ok (.lreturn, 1) := by decide +kernel
theorem dX4_movedOnce_0 : decode cX4_movedOnce 0 = .ok (.lconst 1, 1) := by decide +kernel
theorem dX4_movedOnce_1 : decode cX4_movedOnce 1 = .ok (.iload_n 2, 1) := by decide +kernel
theorem dX4_movedOnce_2 : decode cX4_movedOnce 2 = .ok (.iconst 1, 1) := by decide +kernel
theorem dX4_movedOnce_3 : decode cX4_movedOnce 3 = .ok (.isub, 1) := by decide +kernel
theorem dX4_movedOnce_4 : decode cX4_movedOnce 4 = .ok (.lshl, 1) := by decide +kernel
theorem dX4_movedOnce_5 : decode cX4_movedOnce 5 = .ok (.lstore 4, 2) := by decide +kernel
theorem dX4_movedOnce_7 : decode cX4_movedOnce 7 = .ok (.lload 4, 2) := by decide +kernel
theorem dX4_movedOnce_9 : decode cX4_movedOnce 9 = .ok (.lconst 1, 1) := by decide +kernel
theorem dX4_movedOnce_10 : decode cX4_movedOnce 10 = .ok (.lsub, 1) := by decide +kernel
theorem dX4_movedOnce_11 : decode cX4_movedOnce 11 = .ok (.lstore 6, 2) := by decide +kernel
theorem dX4_movedOnce_13 : decode cX4_movedOnce 13 = .ok (.iload_n 3, 1) := by decide +kernel
theorem dX4_movedOnce_14 : decode cX4_movedOnce 14 = .ok (.tableswitch 69 0 2 #[26, 39, 57], 26) := by decide +kernel
theorem dX4_movedOnce_40 : decode cX4_movedOnce 40 = .ok (.lload_n 0, 1) := by decide +kernel
theorem dX4_movedOnce_41 : decode cX4_movedOnce 41 = .ok (.lload 6, 2) := by decide +kernel
theorem dX4_movedOnce_43 : decode cX4_movedOnce 43 = .ok (.land, 1) := by decide +kernel
theorem dX4_movedOnce_44 : decode cX4_movedOnce 44 = .ok (.iconst 1, 1) := by decide +kernel
theorem dX4_movedOnce_45 : decode cX4_movedOnce 45 = .ok (.lshl, 1) := by decide +kernel
theorem dX4_movedOnce_46 : decode cX4_movedOnce 46 = .ok (.lload_n 0, 1) := by decide +kernel
theorem dX4_movedOnce_47 : decode cX4_movedOnce 47 = .ok (.iload_n 2, 1) := by decide +kernel
theorem dX4_movedOnce_48 : decode cX4_movedOnce 48 = .ok (.iconst 1, 1) := by decide +kernel
theorem dX4_movedOnce_49 : decode cX4_movedOnce 49 = .ok (.isub, 1) := by decide +kernel
theorem dX4_movedOnce_50 : decode cX4_movedOnce 50 = .ok (.lshr, 1) := by decide +kernel
theorem dX4_movedOnce_51 : decode cX4_movedOnce 51 = .ok (.lor, 1) := by decide +kernel
theorem dX4_movedOnce_52 : decode cX4_movedOnce 52 = .ok (.lreturn, 1) := by decide +kernel
theorem dX4_movedOnce_53 : decode cX4_movedOnce 53 = .ok (.lload_n 0, 1) := by decide +kernel
theorem dX4_movedOnce_54 : decode cX4_movedOnce 54 = .ok (.lload 4, 2) := by decide +kernel
theorem dX4_movedOnce_56 : decode cX4_movedOnce 56 = .ok (.land, 1) := by decide +kernel
theorem dX4_movedOnce_57 : decode cX4_movedOnce 57 = .ok (.lload_n 0, 1) := by decide +kernel
theorem dX4_movedOnce_58 : decode cX4_movedOnce 58 = .ok (.iconst 1, 1) := by decide +kernel
theorem dX4_movedOnce_59 : decode cX4_movedOnce 59 = .ok (.lshl, 1) := by decide +kernel
theorem dX4_movedOnce_60 : decode cX4_movedOnce 60 = .ok (.lload 6, 2) := by decide +kernel
theorem dX4_movedOnce_62 : decode cX4_movedOnce 62 = .ok (.land, 1) := by decide +kernel
theorem dX4_movedOnce_63 : decode cX4_movedOnce 63 = .ok (.lor, 1) := by decide +kernel
theorem dX4_movedOnce_64 : decode cX4_movedOnce 64 = .ok (.lload_n 0, 1) := by decide +kernel
theorem dX4_movedOnce_65 : decode cX4_movedOnce 65 = .ok (.iload_n 2, 1) := by decide +kernel
theorem dX4_movedOnce_66 : decode cX4_movedOnce 66 = .ok (.iconst 1, 1) := by decide +kernel
theorem dX4_movedOnce_67 : decode cX4_movedOnce 67 = .ok (.isub, 1) := by decide +kernel
theorem dX4_movedOnce_68 : decode cX4_movedOnce 68 = .ok (.lshr, 1) := by decide +kernel
theorem dX4_movedOnce_69 : decode cX4_movedOnce 69 = .ok (.lor, 1) := by decide +kernel
theorem dX4_movedOnce_70 : decode cX4_movedOnce 70 = .ok (.lreturn, 1) := by decide +kernel
theorem dX4_movedOnce_71 : decode cX4_movedOnce 71 = .ok (.lload_n 0, 1) := by decide +kernel
theorem dX4_movedOnce_72 : decode cX4_movedOnce 72 = .ok (.iconst 1, 1) := by decide +kernel
theorem dX4_movedOnce_73 : decode cX4_movedOnce 73 = .ok (.lshr, 1) := by decide +kernel
theorem dX4_movedOnce_74 : decode cX4_movedOnce 74 = .ok (.lload_n 0, 1) := by decide +kernel
theorem dX4_movedOnce_75 : decode cX4_movedOnce 75 = .ok (.lconst 1, 1) := by decide +kernel
theorem dX4_movedOnce_76 : decode cX4_movedOnce 76 = .ok (.land, 1) := by decide +kernel
theorem dX4_movedOnce_77 : decode cX4_movedOnce 77 = .ok (.iload_n 2, 1) := by decide +kernel
theorem dX4_movedOnce_78 : decode cX4_movedOnce 78 = .ok (.iconst 1, 1) := by decide +kernel
theorem dX4_movedOnce_79 : decode cX4_movedOnce 79 = .ok (.isub, 1) := by decide +kernel
theorem dX4_movedOnce_80 : decode cX4_movedOnce 80 = .ok (.lshl, 1) := by decide +kernel
theorem dX4_movedOnce_81 : decode cX4_movedOnce 81 = .ok (.lor, 1) := by decide +kernel
theorem dX4_movedOnce_82 : decode cX4_movedOnce 82 = .ok (.lreturn, 1) := by decide +kernel
theorem dX4_movedOnce_83 : decode cX4_movedOnce 83 = .ok (.lload_n 0, 1) := by decide +kernel
theorem dX4_movedOnce_84 : decode cX4_movedOnce 84 = .ok (.lload 4, 2) := by decide +kernel
theorem dX4_movedOnce_86 : decode cX4_movedOnce 86 = .ok (.land, 1) := by decide +kernel
theorem dX4_movedOnce_87 : decode cX4_movedOnce 87 = .ok (.lload_n 0, 1) := by decide +kernel
theorem dX4_movedOnce_88 : decode cX4_movedOnce 88 = .ok (.iconst 1, 1) := by decide +kernel
theorem dX4_movedOnce_89 : decode cX4_movedOnce 89 = .ok (.lshr, 1) := by decide +kernel
theorem dX4_movedOnce_90 : decode cX4_movedOnce 90 = .ok (.lor, 1) := by decide +kernel
theorem dX4_movedOnce_91 : decode cX4_movedOnce 91 = .ok (.lreturn, 1) := by decide +kernel
theorem dX4_transfer_0 : decode cX4_transfer 0 = .ok (.iload_n 1, 1) := by decide +kernel
theorem dX4_transfer_1 : decode cX4_transfer 1 = .ok (.lookupswitch 151 #[(3, 59), (4, 76), (7, 90), (44, 127), (45, 135), (46, 143)], 59) := by decide +kernel
theorem dX4_transfer_60 : decode cX4_transfer 60 = .ok (.aload_n 0, 1) := by decide +kernel
theorem dX4_transfer_61 : decode cX4_transfer 61 = .ok (.getfield 23, 3) := by decide +kernel
theorem dX4_transfer_64 : decode cX4_transfer 64 = .ok (.aload_n 0, 1) := by decide +kernel
theorem dX4_transfer_65 : decode cX4_transfer 65 = .ok (.getfield 62, 3) := by decide +kernel
theorem dX4_transfer_68 : decode cX4_transfer 68 = .ok (.bipush 63, 2) := by decide +kernel
theorem dX4_transfer_70 : decode cX4_transfer 70 = .ok (.iand, 1) := by decide +kernel
theorem dX4_transfer_71 : decode cX4_transfer 71 = .ok (.invokevirtual 287, 3) := by decide +kernel
theorem dX4_transfer_74 : decode cX4_transfer 74 = .ok (.goto 78, 3) := by decide +kernel
theorem dX4_transfer_77 : decode cX4_transfer 77 = .ok (.aload_n 0, 1) := by decide +kernel
theorem dX4_transfer_78 : decode cX4_transfer 78 = .ok (.aload_n 0, 1) := by decide +kernel
theorem dX4_transfer_79 : decode cX4_transfer 79 = .ok (.getfield 16, 3) := by decide +kernel
theorem dX4_transfer_82 : decode cX4_transfer 82 = .ok (.invokevirtual 289, 3) := by decide +kernel
theorem dX4_transfer_85 : decode cX4_transfer 85 = .ok (.putfield 62, 3) := by decide +kernel
theorem dX4_transfer_88 : decode cX4_transfer 88 = .ok (.goto 64, 3) := by decide +kernel
theorem dX4_transfer_91 : decode cX4_transfer 91 = .ok (.aload_n 0, 1) := by decide +kernel
theorem dX4_transfer_92 : decode cX4_transfer 92 = .ok (.getfield 30, 3) := by decide +kernel
theorem dX4_transfer_95 : decode cX4_transfer 95 = .ok (.aload_n 0, 1) := by decide +kernel
theorem dX4_transfer_96 : decode cX4_transfer 96 = .ok (.getfield 58, 3) := by decide +kernel
theorem dX4_transfer_99 : decode cX4_transfer 99 = .ok (.bipush 8, 2) := by decide +kernel
theorem dX4_transfer_101 : decode cX4_transfer 101 = .ok (.ishr, 1) := by decide +kernel
theorem dX4_transfer_102 : decode cX4_transfer 102 = .ok (.aload_n 0, 1) := by decide +kernel
theorem dX4_transfer_103 : decode cX4_transfer 103 = .ok (.getfield 62, 3) := by decide +kernel
theorem dX4_transfer_106 : decode cX4_transfer 106 = .ok (.bipush 8, 2) := by decide +kernel
theorem dX4_transfer_108 : decode cX4_transfer 108 = .ok (.ishr, 1) := by decide +kernel
theorem dX4_transfer_109 : decode cX4_transfer 109 = .ok (.invokevirtual 292, 3) := by decide +kernel
theorem dX4_transfer_112 : decode cX4_transfer 112 = .ok (.aload_n 0, 1) := by decide +kernel
theorem dX4_transfer_113 : decode cX4_transfer 113 = .ok (.getfield 37, 3) := by decide +kernel
theorem dX4_transfer_116 : decode cX4_transfer 116 = .ok (.dup, 1) := by decide +kernel
theorem dX4_transfer_117 : decode cX4_transfer 117 = .ok (.getfield 123, 3) := by decide +kernel
theorem dX4_transfer_120 : decode cX4_transfer 120 = .ok (.iconst 1, 1) := by decide +kernel
theorem dX4_transfer_121 : decode cX4_transfer 121 = .ok (.iadd, 1) := by decide +kernel
theorem dX4_transfer_122 : decode cX4_transfer 122 = .ok (.putfield 123, 3) := by decide +kernel
theorem dX4_transfer_125 : decode cX4_transfer 125 = .ok (.goto 27, 3) := by decide +kernel
theorem dX4_transfer_128 : decode cX4_transfer 128 = .ok (.aload_n 0, 1) := by decide +kernel
theorem dX4_transfer_129 : decode cX4_transfer 129 = .ok (.iconst 0, 1) := by decide +kernel
theorem dX4_transfer_130 : decode cX4_transfer 130 = .ok (.putfield 74, 3) := by decide +kernel
theorem dX4_transfer_133 : decode cX4_transfer 133 = .ok (.goto 19, 3) := by decide +kernel
theorem dX4_transfer_136 : decode cX4_transfer 136 = .ok (.aload_n 0, 1) := by decide +kernel
theorem dX4_transfer_137 : decode cX4_transfer 137 = .ok (.iconst 1, 1) := by decide +kernel
theorem dX4_transfer_138 : decode cX4_transfer 138 = .ok (.putfield 74, 3) := by decide +kernel
theorem dX4_transfer_141 : decode cX4_transfer 141 = .ok (.goto 11, 3) := by decide +kernel
theorem dX4_transfer_144 : decode cX4_transfer 144 = .ok (.aload_n 0, 1) := by decide +kernel
theorem dX4_transfer_145 : decode cX4_transfer 145 = .ok (.iconst 0, 1) := by decide +kernel
theorem dX4_transfer_146 : decode cX4_transfer 146 = .ok (.putfield 77, 3) := by decide +kernel
theorem dX4_transfer_149 : decode cX4_transfer 149 = .ok (.goto 3, 3) := by decide +kernel
theorem dX4_transfer_152 : decode cX4_transfer 152 = .ok (.return_, 1) := by decide +kernel
theorem dX4_operate_0 : decode cX4_operate 0 = .ok (.iload_n 1, 1) := by decide +kernel
theorem dX4_operate_1 : decode cX4_operate 1 = .ok (.sipush 128, 3) := by decide +kernel
theorem dX4_operate_4 : decode cX4_operate 4 = .ok (.iand, 1) := by decide +kernel
theorem dX4_operate_5 : decode cX4_operate 5 = .ok (.ifCond .eq 8, 3) := by decide +kernel
theorem dX4_operate_8 : decode cX4_operate 8 = .ok (.aload_n 0, 1) := by decide +kernel
theorem dX4_operate_9 : decode cX4_operate 9 = .ok (.iconst 0, 1) := by decide +kernel
theorem dX4_operate_10 : decode cX4_operate 10 = .ok (.putfield 58, 3) := by decide +kernel
theorem dX4_operate_13 : decode cX4_operate 13 = .ok (.iload_n 1, 1) := by decide +kernel
theorem dX4_operate_14 : decode cX4_operate 14 = .ok (.sipush 2048, 3) := by decide +kernel
theorem dX4_operate_17 : decode cX4_operate 17 = .ok (.iand, 1) := by decide +kernel
theorem dX4_operate_18 : decode cX4_operate 18 = .ok (.ifCond .eq 8, 3) := by decide +kernel
theorem dX4_operate_21 : decode cX4_operate 21 = .ok (.aload_n 0, 1) := by decide +kernel
theorem dX4_operate_22 : decode cX4_operate 22 = .ok (.iconst 0, 1) := by decide +kernel
theorem dX4_operate_23 : decode cX4_operate 23 = .ok (.putfield 62, 3) := by decide +kernel
theorem dX4_operate_26 : decode cX4_operate 26 = .ok (.iload_n 1, 1) := by decide +kernel
theorem dX4_operate_27 : decode cX4_operate 27 = .ok (.sipush 1024, 3) := by decide +kernel
theorem dX4_operate_30 : decode cX4_operate 30 = .ok (.iand, 1) := by decide +kernel
theorem dX4_operate_31 : decode cX4_operate 31 = .ok (.ifCond .eq 16, 3) := by decide +kernel
theorem dX4_operate_34 : decode cX4_operate 34 = .ok (.aload_n 0, 1) := by decide +kernel
theorem dX4_operate_35 : decode cX4_operate 35 = .ok (.aload_n 0, 1) := by decide +kernel
theorem dX4_operate_36 : decode cX4_operate 36 = .ok (.getfield 58, 3) := by decide +kernel
theorem dX4_operate_39 : decode cX4_operate 39 = .ok (.aload_n 0, 1) := by decide +kernel
theorem dX4_operate_40 : decode cX4_operate 40 = .ok (.getfield 92, 3) := by decide +kernel
theorem dX4_operate_43 : decode cX4_operate 43 = .ok (.ior, 1) := by decide +kernel
theorem dX4_operate_44 : decode cX4_operate 44 = .ok (.putfield 58, 3) := by decide +kernel
theorem dX4_operate_47 : decode cX4_operate 47 = .ok (.iload_n 1, 1) := by decide +kernel
theorem dX4_operate_48 : decode cX4_operate 48 = .ok (.bipush 64, 2) := by decide +kernel
theorem dX4_operate_50 : decode cX4_operate 50 = .ok (.iand, 1) := by decide +kernel
theorem dX4_operate_51 : decode cX4_operate 51 = .ok (.ifCond .eq 16, 3) := by decide +kernel
theorem dX4_operate_54 : decode cX4_operate 54 = .ok (.aload_n 0, 1) := by decide +kernel
theorem dX4_operate_55 : decode cX4_operate 55 = .ok (.aload_n 0, 1) := by decide +kernel
theorem dX4_operate_56 : decode cX4_operate 56 = .ok (.getfield 58, 3) := by decide +kernel
theorem dX4_operate_59 : decode cX4_operate 59 = .ok (.aload_n 0, 1) := by decide +kernel
theorem dX4_operate_60 : decode cX4_operate 60 = .ok (.invokevirtual 200, 3) := by decide +kernel
theorem dX4_operate_63 : decode cX4_operate 63 = .ok (.ior, 1) := by decide +kernel
theorem dX4_operate_64 : decode cX4_operate 64 = .ok (.putfield 58, 3) := by decide +kernel
theorem dX4_operate_67 : decode cX4_operate 67 = .ok (.iload_n 1, 1) := by decide +kernel
theorem dX4_operate_68 : decode cX4_operate 68 = .ok (.sipush 512, 3) := by decide +kernel
theorem dX4_operate_71 : decode cX4_operate 71 = .ok (.iand, 1) := by decide +kernel
theorem dX4_operate_72 : decode cX4_operate 72 = .ok (.ifCond .eq 14, 3) := by decide +kernel
theorem dX4_operate_75 : decode cX4_operate 75 = .ok (.aload_n 0, 1) := by decide +kernel
theorem dX4_operate_76 : decode cX4_operate 76 = .ok (.aload_n 0, 1) := by decide +kernel
theorem dX4_operate_77 : decode cX4_operate 77 = .ok (.getfield 58, 3) := by decide +kernel
theorem dX4_operate_80 : decode cX4_operate 80 = .ok (.invokestatic 232, 3) := by decide +kernel
theorem dX4_operate_83 : decode cX4_operate 83 = .ok (.putfield 58, 3) := by decide +kernel
theorem dX4_operate_86 : decode cX4_operate 86 = .ok (.aload_n 0, 1) := by decide +kernel
theorem dX4_operate_87 : decode cX4_operate 87 = .ok (.iload_n 1, 1) := by decide +kernel
theorem dX4_operate_88 : decode cX4_operate 88 = .ok (.bipush 7, 2) := by decide +kernel
theorem dX4_operate_90 : decode cX4_operate 90 = .ok (.iand, 1) := by decide +kernel
theorem dX4_operate_91 : decode cX4_operate 91 = .ok (.iload_n 1, 1) := by decide +kernel
theorem dX4_operate_92 : decode cX4_operate 92 = .ok (.bipush 8, 2) := by decide +kernel
theorem dX4_operate_94 : decode cX4_operate 94 = .ok (.iand, 1) := by decide +kernel
theorem dX4_operate_95 : decode cX4_operate 95 = .ok (.ifCond .eq 7, 3) := by decide +kernel
theorem dX4_operate_98 : decode cX4_operate 98 = .ok (.iconst 1, 1) := by decide +kernel
theorem dX4_operate_99 : decode cX4_operate 99 = .ok (.goto 4, 3) := by decide +kernel
theorem dX4_operate_102 : decode cX4_operate 102 = .ok (.iconst 0, 1) := by decide +kernel
theorem dX4_operate_103 : decode cX4_operate 103 = .ok (.invokevirtual 295, 3) := by decide +kernel
theorem dX4_operate_106 : decode cX4_operate 106 = .ok (.iload_n 1, 1) := by decide +kernel
theorem dX4_operate_107 : decode cX4_operate 107 = .ok (.sipush 256, 3) := by decide +kernel
theorem dX4_operate_110 : decode cX4_operate 110 = .ok (.iand, 1) := by decide +kernel
theorem dX4_operate_111 : decode cX4_operate 111 = .ok (.ifCond .eq 7, 3) := by decide +kernel
theorem dX4_operate_114 : decode cX4_operate 114 = .ok (.iconst 1, 1) := by decide +kernel
theorem dX4_operate_115 : decode cX4_operate 115 = .ok (.goto 4, 3) := by decide +kernel
theorem dX4_operate_118 : decode cX4_operate 118 = .ok (.iconst 0, 1) := by decide +kernel
theorem dX4_operate_119 : decode cX4_operate 119 = .ok (.ireturn, 1) := by decide +kernel
theorem dX4_setFlags_0 : decode cX4_setFlags 0 = .ok (.iload_n 1, 1) := by decide +kernel
theorem dX4_setFlags_1 : decode cX4_setFlags 1 = .ok (.ifCond .ne 4, 3) := by decide +kernel
theorem dX4_setFlags_4 : decode cX4_setFlags 4 = .ok (.return_, 1) := by decide +kernel
theorem dX4_setFlags_5 : decode cX4_setFlags 5 = .ok (.iload_n 1, 1) := by decide +kernel
theorem dX4_setFlags_6 : decode cX4_setFlags 6 = .ok (.bipush 7, 2) := by decide +kernel
theorem dX4_setFlags_8 : decode cX4_setFlags 8 = .ok (.if_icmp .ne 8, 3) := by decide +kernel
theorem dX4_setFlags_11 : decode cX4_setFlags 11 = .ok (.bipush 63, 2) := by decide +kernel
theorem dX4_setFlags_13 : decode cX4_setFlags 13 = .ok (.goto 8, 3) := by decide +kernel
theorem dX4_setFlags_16 : decode cX4_setFlags 16 = .ok (.iconst 1, 1) := by decide +kernel
theorem dX4_setFlags_17 : decode cX4_setFlags 17 = .ok (.iload_n 1, 1) := by decide +kernel
theorem dX4_setFlags_18 : decode cX4_setFlags 18 = .ok (.iconst 1, 1) := by decide +kernel
theorem dX4_setFlags_19 : decode cX4_setFlags 19 = .ok (.isub, 1) := by decide +kernel
theorem dX4_setFlags_20 : decode cX4_setFlags 20 = .ok (.ishl, 1) := by decide +kernel
theorem dX4_setFlags_21 : decode cX4_setFlags 21 = .ok (.istore_n 3, 1) := by decide +kernel
theorem dX4_setFlags_22 : decode cX4_setFlags 22 = .ok (.aload_n 0, 1) := by decide +kernel
theorem dX4_setFlags_23 : decode cX4_setFlags 23 = .ok (.iload_n 2, 1) := by decide +kernel
theorem dX4_setFlags_24 : decode cX4_setFlags 24 = .ok (.ifCond .eq 12, 3) := by decide +kernel
theorem dX4_setFlags_27 : decode cX4_setFlags 27 = .ok (.aload_n 0, 1) := by decide +kernel
theorem dX4_setFlags_28 : decode cX4_setFlags 28 = .ok (.getfield 71, 3) := by decide +kernel
theorem dX4_setFlags_31 : decode cX4_setFlags 31 = .ok (.iload_n 3, 1) := by decide +kernel
theorem dX4_setFlags_32 : decode cX4_setFlags 32 = .ok (.ior, 1) := by decide +kernel
theorem dX4_setFlags_33 : decode cX4_setFlags 33 = .ok (.goto 11, 3) := by decide +kernel
theorem dX4_setFlags_36 : decode cX4_setFlags 36 = .ok (.aload_n 0, 1) := by decide +kernel
theorem dX4_setFlags_37 : decode cX4_setFlags 37 = .ok (.getfield 71, 3) := by decide +kernel
theorem dX4_setFlags_40 : decode cX4_setFlags 40 = .ok (.iload_n 3, 1) := by decide +kernel
theorem dX4_setFlags_41 : decode cX4_setFlags 41 = .ok (.iconst (-1), 1) := by decide +kernel
theorem dX4_setFlags_42 : decode cX4_setFlags 42 = .ok (.ixor, 1) := by decide +kernel
theorem dX4_setFlags_43 : decode cX4_setFlags 43 = .ok (.iand, 1) := by decide +kernel
theorem dX4_setFlags_44 : decode cX4_setFlags 44 = .ok (.putfield 71, 3) := by decide +kernel
theorem dX4_setFlags_47 : decode cX4_setFlags 47 = .ok (.return_, 1) := by decide +kernel
theorem dX5_init_0 : decode cX5_init 0 = .ok (.aload_n 0, 1) := by decide +kernel
theorem dX5_init_1 : decode cX5_init 1 = .ok (.invokespecial 1, 3) := by decide +kernel
theorem dX5_init_4 : decode cX5_init 4 = .ok (.aload_n 0, 1) := by decide +kernel
theorem dX5_init_5 : decode cX5_init 5 = .ok (.sipush 4096, 3) := by decide +kernel
theorem dX5_init_8 : decode cX5_init 8 = .ok (.newarray .int, 2) := by decide +kernel
theorem dX5_init_10 : decode cX5_init 10 = .ok (.putfield 7, 3) := by decide +kernel
theorem dX5_init_13 : decode cX5_init 13 = .ok (.aload_n 0, 1) := by decide +kernel
theorem dX5_init_14 : decode cX5_init 14 = .ok (.bipush 100, 2) := by decide +kernel
theorem dX5_init_16 : decode cX5_init 16 = .ok (.newarray .int, 2) := by decide +kernel
theorem dX5_init_18 : decode cX5_init 18 = .ok (.putfield 13, 3) := by decide +kernel
theorem dX5_init_21 : decode cX5_init 21 = .ok (.aload_n 0, 1) := by decide +kernel
theorem dX5_init_22 : decode cX5_init 22 = .ok (.bipush 64, 2) := by decide +kernel
theorem dX5_init_24 : decode cX5_init 24 = .ok (.newarray .int, 2) := by decide +kernel
theorem dX5_init_26 : decode cX5_init 26 = .ok (.putfield 16, 3) := by decide +kernel
theorem dX5_init_29 : decode cX5_init 29 = .ok (.aload_n 0, 1) := by decide +kernel
theorem dX5_init_30 : decode cX5_init 30 = .ok (.bipush 64, 2) := by decide +kernel
theorem dX5_init_32 : decode cX5_init 32 = .ok (.newarray .int, 2) := by decide +kernel
theorem dX5_init_34 : decode cX5_init 34 = .ok (.putfield 19, 3) := by decide +kernel
theorem dX5_init_37 : decode cX5_init 37 = .ok (.aload_n 0, 1) := by decide +kernel
theorem dX5_init_38 : decode cX5_init 38 = .ok (.bipush 64, 2) := by decide +kernel
theorem dX5_init_40 : decode cX5_init 40 = .ok (.newarray .int, 2) := by decide +kernel
theorem dX5_init_42 : decode cX5_init 42 = .ok (.putfield 22, 3) := by decide +kernel
theorem dX5_init_45 : decode cX5_init 45 = .ok (.aload_n 0, 1) := by decide +kernel
theorem dX5_init_46 : decode cX5_init 46 = .ok (.bipush 8, 2) := by decide +kernel
theorem dX5_init_48 : decode cX5_init 48 = .ok (.newarray .int, 2) := by decide +kernel
theorem dX5_init_50 : decode cX5_init 50 = .ok (.putfield 25, 3) := by decide +kernel
theorem dX5_init_53 : decode cX5_init 53 = .ok (.aload_n 0, 1) := by decide +kernel
theorem dX5_init_54 : decode cX5_init 54 = .ok (.getfield 25, 3) := by decide +kernel
theorem dX5_init_57 : decode cX5_init 57 = .ok (.bipush 6, 2) := by decide +kernel
theorem dX5_init_59 : decode cX5_init 59 = .ok (.bipush (-9), 2) := by decide +kernel
theorem dX5_init_61 : decode cX5_init 61 = .ok (.iastore, 1) := by decide +kernel
theorem dX5_init_62 : decode cX5_init 62 = .ok (.return_, 1) := by decide +kernel
theorem dX5_in_0 : decode cX5_in 0 = .ok (.iload_n 0, 1) := by decide +kernel
theorem dX5_in_1 : decode cX5_in 1 = .ok (.iload_n 1, 1) := by decide +kernel
theorem dX5_in_2 : decode cX5_in 2 = .ok (.if_icmp .lt 12, 3) := by decide +kernel
theorem dX5_in_5 : decode cX5_in 5 = .ok (.iload_n 0, 1) := by decide +kernel
theorem dX5_in_6 : decode cX5_in 6 = .ok (.iload_n 2, 1) := by decide +kernel
theorem dX5_in_7 : decode cX5_in 7 = .ok (.if_icmp .gt 7, 3) := by decide +kernel
theorem dX5_in_10 : decode cX5_in 10 = .ok (.iconst 1, 1) := by decide +kernel
theorem dX5_in_11 : decode cX5_in 11 = .ok (.goto 4, 3) := by decide +kernel
theorem dX5_in_14 : decode cX5_in 14 = .ok (.iconst 0, 1) := by decide +kernel
theorem dX5_in_15 : decode cX5_in 15 = .ok (.ireturn, 1) := by decide +kernel
theorem dX5_put_0 : decode cX5_put 0 = .ok (.iload_n 1, 1) := by decide +kernel
theorem dX5_put_1 : decode cX5_put 1 = .ok (.iconst 0, 1) := by decide +kernel
theorem dX5_put_2 : decode cX5_put 2 = .ok (.sipush 4095, 3) := by decide +kernel
theorem dX5_put_5 : decode cX5_put 5 = .ok (.invokestatic 28, 3) := by decide +kernel
theorem dX5_put_8 : decode cX5_put 8 = .ok (.ifCond .eq 13, 3) := by decide +kernel
theorem dX5_put_11 : decode cX5_put 11 = .ok (.iload_n 2, 1) := by decide +kernel
theorem dX5_put_12 : decode cX5_put 12 = .ok (.iconst 0, 1) := by decide +kernel
theorem dX5_put_13 : decode cX5_put 13 = .ok (.ldc 32, 2) := by decide +kernel
theorem dX5_put_15 : decode cX5_put 15 = .ok (.invokestatic 28, 3) := by decide +kernel
theorem dX5_put_18 : decode cX5_put 18 = .ok (.ifCond .ne 5, 3) := by decide +kernel
theorem dX5_put_21 : decode cX5_put 21 = .ok (.iconst (-1), 1) := by decide +kernel
theorem dX5_put_22 : decode cX5_put 22 = .ok (.ireturn, 1) := by decide +kernel
theorem dX5_put_23 : decode cX5_put 23 = .ok (.aload_n 0, 1) := by decide +kernel
theorem dX5_put_24 : decode cX5_put 24 = .ok (.getfield 7, 3) := by decide +kernel
theorem dX5_put_27 : decode cX5_put 27 = .ok (.iload_n 1, 1) := by decide +kernel
theorem dX5_put_28 : decode cX5_put 28 = .ok (.iaload, 1) := by decide +kernel
theorem dX5_put_29 : decode cX5_put 29 = .ok (.istore_n 3, 1) := by decide +kernel
theorem dX5_put_30 : decode cX5_put 30 = .ok (.aload_n 0, 1) := by decide +kernel
theorem dX5_put_31 : decode cX5_put 31 = .ok (.getfield 7, 3) := by decide +kernel
theorem dX5_put_34 : decode cX5_put 34 = .ok (.iload_n 1, 1) := by decide +kernel
theorem dX5_put_35 : decode cX5_put 35 = .ok (.iload_n 2, 1) := by decide +kernel
theorem dX5_put_36 : decode cX5_put 36 = .ok (.iastore, 1) := by decide +kernel
theorem dX5_put_37 : decode cX5_put 37 = .ok (.iload_n 3, 1) := by decide +kernel
theorem dX5_put_38 : decode cX5_put 38 = .ok (.ireturn, 1) := by decide +kernel
theorem dX5_core_0 : decode cX5_core 0 = .ok (.iload_n 1, 1) := by decide +kernel
theorem dX5_core_1 : decode cX5_core 1 = .ok (.iconst 0, 1) := by decide +kernel
theorem dX5_core_2 : decode cX5_core 2 = .ok (.sipush 4095, 3) := by decide +kernel
theorem dX5_core_5 : decode cX5_core 5 = .ok (.invokestatic 28, 3) := by decide +kernel
theorem dX5_core_8 : decode cX5_core 8 = .ok (.ifCond .eq 12, 3) := by decide +kernel
theorem dX5_core_11 : decode cX5_core 11 = .ok (.aload_n 0, 1) := by decide +kernel
theorem dX5_core_12 : decode cX5_core 12 = .ok (.getfield 7, 3) := by decide +kernel
theorem dX5_core_15 : decode cX5_core 15 = .ok (.iload_n 1, 1) := by decide +kernel
theorem dX5_core_16 : decode cX5_core 16 = .ok (.iaload, 1) := by decide +kernel
theorem dX5_core_17 : decode cX5_core 17 = .ok (.goto 4, 3) := by decide +kernel
theorem dX5_core_20 : decode cX5_core 20 = .ok (.iconst (-1), 1) := by decide +kernel
theorem dX5_core_21 : decode cX5_core 21 = .ok (.ireturn, 1) := by decide +kernel
end
section
theorem dX5_load_0 : decode cX5_load 0 = .ok (.iload_n 1, 1) := by decide +kernel
theorem dX5_load_1 : decode cX5_load 1 = .ok (.iconst 0, 1) := by decide +kernel
theorem dX5_load_2 : decode cX5_load 2 = .ok (.sipush 4095, 3) := by decide +kernel
theorem dX5_load_5 : decode cX5_load 5 = .ok (.invokestatic 28, 3) := by decide +kernel
theorem dX5_load_8 : decode cX5_load 8 = .ok (.ifCond .eq 25, 3) := by decide +kernel
theorem dX5_load_11 : decode cX5_load 11 = .ok (.iload 4, 2) := by decide +kernel
theorem dX5_load_13 : decode cX5_load 13 = .ok (.iconst 1, 1) := by decide +kernel
theorem dX5_load_14 : decode cX5_load 14 = .ok (.iconst 3, 1) := by decide +kernel
theorem dX5_load_15 : decode cX5_load 15 = .ok (.invokestatic 28, 3) := by decide +kernel
theorem dX5_load_18 : decode cX5_load 18 = .ok (.ifCond .eq 15, 3) := by decide +kernel
theorem dX5_load_21 : decode cX5_load 21 = .ok (.lload_n 2, 1) := by decide +kernel
theorem dX5_load_22 : decode cX5_load 22 = .ok (.bipush 18, 2) := by decide +kernel
theorem dX5_load_24 : decode cX5_load 24 = .ok (.iload 4, 2) := by decide +kernel
theorem dX5_load_26 : decode cX5_load 26 = .ok (.imul, 1) := by decide +kernel
theorem dX5_load_27 : decode cX5_load 27 = .ok (.lshr, 1) := by decide +kernel
theorem dX5_load_28 : decode cX5_load 28 = .ok (.lconst 0, 1) := by decide +kernel
theorem dX5_load_29 : decode cX5_load 29 = .ok (.lcmp, 1) := by decide +kernel
theorem dX5_load_30 : decode cX5_load 30 = .ok (.ifCond .eq 5, 3) := by decide +kernel
theorem dX5_load_33 : decode cX5_load 33 = .ok (.iconst (-1), 1) := by decide +kernel
theorem dX5_load_34 : decode cX5_load 34 = .ok (.ireturn, 1) := by decide +kernel
theorem dX5_load_35 : decode cX5_load 35 = .ok (.iconst 0, 1) := by decide +kernel
theorem dX5_load_36 : decode cX5_load 36 = .ok (.istore 5, 2) := by decide +kernel
theorem dX5_load_38 : decode cX5_load 38 = .ok (.iload 5, 2) := by decide +kernel
theorem dX5_load_40 : decode cX5_load 40 = .ok (.iload 4, 2) := by decide +kernel
theorem dX5_load_42 : decode cX5_load 42 = .ok (.if_icmp .ge 38, 3) := by decide +kernel
theorem dX5_load_45 : decode cX5_load 45 = .ok (.aload_n 0, 1) := by decide +kernel
theorem dX5_load_46 : decode cX5_load 46 = .ok (.getfield 7, 3) := by decide +kernel
theorem dX5_load_49 : decode cX5_load 49 = .ok (.iload_n 1, 1) := by decide +kernel
theorem dX5_load_50 : decode cX5_load 50 = .ok (.iload 5, 2) := by decide +kernel
theorem dX5_load_52 : decode cX5_load 52 = .ok (.iadd, 1) := by decide +kernel
theorem dX5_load_53 : decode cX5_load 53 = .ok (.sipush 4095, 3) := by decide +kernel
theorem dX5_load_56 : decode cX5_load 56 = .ok (.iand, 1) := by decide +kernel
theorem dX5_load_57 : decode cX5_load 57 = .ok (.lload_n 2, 1) := by decide +kernel
theorem dX5_load_58 : decode cX5_load 58 = .ok (.bipush 18, 2) := by decide +kernel
theorem dX5_load_60 : decode cX5_load 60 = .ok (.iload 4, 2) := by decide +kernel
theorem dX5_load_62 : decode cX5_load 62 = .ok (.iconst 1, 1) := by decide +kernel
theorem dX5_load_63 : decode cX5_load 63 = .ok (.isub, 1) := by decide +kernel
theorem dX5_load_64 : decode cX5_load 64 = .ok (.iload 5, 2) := by decide +kernel
theorem dX5_load_66 : decode cX5_load 66 = .ok (.isub, 1) := by decide +kernel
theorem dX5_load_67 : decode cX5_load 67 = .ok (.imul, 1) := by decide +kernel
theorem dX5_load_68 : decode cX5_load 68 = .ok (.lshr, 1) := by decide +kernel
theorem dX5_load_69 : decode cX5_load 69 = .ok (.l2i, 1) := by decide +kernel
theorem dX5_load_70 : decode cX5_load 70 = .ok (.ldc 32, 2) := by decide +kernel
theorem dX5_load_72 : decode cX5_load 72 = .ok (.iand, 1) := by decide +kernel
theorem dX5_load_73 : decode cX5_load 73 = .ok (.iastore, 1) := by decide +kernel
theorem dX5_load_74 : decode cX5_load 74 = .ok (.iinc 5 1, 3) := by decide +kernel
theorem dX5_load_77 : decode cX5_load 77 = .ok (.goto (-39), 3) := by decide +kernel
theorem dX5_load_80 : decode cX5_load 80 = .ok (.iload 4, 2) := by decide +kernel
theorem dX5_load_82 : decode cX5_load 82 = .ok (.ireturn, 1) := by decide +kernel
theorem dX5_told_0 : decode cX5_told 0 = .ok (.iload_n 1, 1) := by decide +kernel
theorem dX5_told_1 : decode cX5_told 1 = .ok (.tableswitch 111 0 7 #[47, 52, 57, 62, 67, 72, 85, 98], 47) := by decide +kernel
theorem dX5_told_48 : decode cX5_told 48 = .ok (.aload_n 0, 1) := by decide +kernel
theorem dX5_told_49 : decode cX5_told 49 = .ok (.getfield 33, 3) := by decide +kernel
theorem dX5_told_52 : decode cX5_told 52 = .ok (.ireturn, 1) := by decide +kernel
theorem dX5_told_53 : decode cX5_told 53 = .ok (.aload_n 0, 1) := by decide +kernel
theorem dX5_told_54 : decode cX5_told 54 = .ok (.getfield 37, 3) := by decide +kernel
theorem dX5_told_57 : decode cX5_told 57 = .ok (.ireturn, 1) := by decide +kernel
theorem dX5_told_58 : decode cX5_told 58 = .ok (.aload_n 0, 1) := by decide +kernel
theorem dX5_told_59 : decode cX5_told 59 = .ok (.getfield 40, 3) := by decide +kernel
theorem dX5_told_62 : decode cX5_told 62 = .ok (.ireturn, 1) := by decide +kernel
theorem dX5_told_63 : decode cX5_told 63 = .ok (.aload_n 0, 1) := by decide +kernel
theorem dX5_told_64 : decode cX5_told 64 = .ok (.getfield 43, 3) := by decide +kernel
theorem dX5_told_67 : decode cX5_told 67 = .ok (.ireturn, 1) := by decide +kernel
theorem dX5_told_68 : decode cX5_told 68 = .ok (.aload_n 0, 1) := by decide +kernel
theorem dX5_told_69 : decode cX5_told 69 = .ok (.getfield 46, 3) := by decide +kernel
theorem dX5_told_72 : decode cX5_told 72 = .ok (.ireturn, 1) := by decide +kernel
theorem dX5_told_73 : decode cX5_told 73 = .ok (.aload_n 0, 1) := by decide +kernel
theorem dX5_told_74 : decode cX5_told 74 = .ok (.getfield 49, 3) := by decide +kernel
theorem dX5_told_77 : decode cX5_told 77 = .ok (.ifCond .eq 7, 3) := by decide +kernel
theorem dX5_told_80 : decode cX5_told 80 = .ok (.iconst 1, 1) := by decide +kernel
theorem dX5_told_81 : decode cX5_told 81 = .ok (.goto 4, 3) := by decide +kernel
theorem dX5_told_84 : decode cX5_told 84 = .ok (.iconst 0, 1) := by decide +kernel
theorem dX5_told_85 : decode cX5_told 85 = .ok (.ireturn, 1) := by decide +kernel
theorem dX5_told_86 : decode cX5_told 86 = .ok (.aload_n 0, 1) := by decide +kernel
theorem dX5_told_87 : decode cX5_told 87 = .ok (.getfield 53, 3) := by decide +kernel
theorem dX5_told_90 : decode cX5_told 90 = .ok (.ifCond .eq 7, 3) := by decide +kernel
theorem dX5_told_93 : decode cX5_told 93 = .ok (.iconst 1, 1) := by decide +kernel
theorem dX5_told_94 : decode cX5_told 94 = .ok (.goto 4, 3) := by decide +kernel
theorem dX5_told_97 : decode cX5_told 97 = .ok (.iconst 0, 1) := by decide +kernel
theorem dX5_told_98 : decode cX5_told 98 = .ok (.ireturn, 1) := by decide +kernel
theorem dX5_told_99 : decode cX5_told 99 = .ok (.aload_n 0, 1) := by decide +kernel
theorem dX5_told_100 : decode cX5_told 100 = .ok (.getfield 56, 3) := by decide +kernel
theorem dX5_told_103 : decode cX5_told 103 = .ok (.ifCond .eq 7, 3) := by decide +kernel
theorem dX5_told_106 : decode cX5_told 106 = .ok (.iconst 1, 1) := by decide +kernel
theorem dX5_told_107 : decode cX5_told 107 = .ok (.goto 4, 3) := by decide +kernel
theorem dX5_told_110 : decode cX5_told 110 = .ok (.iconst 0, 1) := by decide +kernel
theorem dX5_told_111 : decode cX5_told 111 = .ok (.ireturn, 1) := by decide +kernel
theorem dX5_told_112 : decode cX5_told 112 = .ok (.iconst (-1), 1) := by decide +kernel
theorem dX5_told_113 : decode cX5_told 113 = .ok (.ireturn, 1) := by decide +kernel
theorem dX5_set_0 : decode cX5_set 0 = .ok (.iload_n 1, 1) := by decide +kernel
theorem dX5_set_1 : decode cX5_set 1 = .ok (.iconst 2, 1) := by decide +kernel
theorem dX5_set_2 : decode cX5_set 2 = .ok (.if_icmp .ge 8, 3) := by decide +kernel
theorem dX5_set_5 : decode cX5_set 5 = .ok (.ldc 32, 2) := by decide +kernel
theorem dX5_set_7 : decode cX5_set 7 = .ok (.goto 25, 3) := by decide +kernel
theorem dX5_set_10 : decode cX5_set 10 = .ok (.iload_n 1, 1) := by decide +kernel
theorem dX5_set_11 : decode cX5_set 11 = .ok (.iconst 2, 1) := by decide +kernel
theorem dX5_set_12 : decode cX5_set 12 = .ok (.if_icmp .ne 9, 3) := by decide +kernel
theorem dX5_set_15 : decode cX5_set 15 = .ok (.sipush 4095, 3) := by decide +kernel
theorem dX5_set_18 : decode cX5_set 18 = .ok (.goto 14, 3) := by decide +kernel
theorem dX5_set_21 : decode cX5_set 21 = .ok (.iload_n 1, 1) := by decide +kernel
theorem dX5_set_22 : decode cX5_set 22 = .ok (.iconst 4, 1) := by decide +kernel
theorem dX5_set_23 : decode cX5_set 23 = .ok (.if_icmp .ne 8, 3) := by decide +kernel
theorem dX5_set_26 : decode cX5_set 26 = .ok (.bipush 63, 2) := by decide +kernel
theorem dX5_set_28 : decode cX5_set 28 = .ok (.goto 4, 3) := by decide +kernel
theorem dX5_set_31 : decode cX5_set 31 = .ok (.iconst 1, 1) := by decide +kernel
theorem dX5_set_32 : decode cX5_set 32 = .ok (.istore_n 3, 1) := by decide +kernel
theorem dX5_set_33 : decode cX5_set 33 = .ok (.iload_n 1, 1) := by decide +kernel
theorem dX5_set_34 : decode cX5_set 34 = .ok (.iconst 0, 1) := by decide +kernel
theorem dX5_set_35 : decode cX5_set 35 = .ok (.iconst 5, 1) := by decide +kernel
theorem dX5_set_36 : decode cX5_set 36 = .ok (.invokestatic 28, 3) := by decide +kernel
theorem dX5_set_39 : decode cX5_set 39 = .ok (.ifCond .eq 12, 3) := by decide +kernel
theorem dX5_set_42 : decode cX5_set 42 = .ok (.iload_n 2, 1) := by decide +kernel
theorem dX5_set_43 : decode cX5_set 43 = .ok (.iconst 0, 1) := by decide +kernel
theorem dX5_set_44 : decode cX5_set 44 = .ok (.iload_n 3, 1) := by decide +kernel
theorem dX5_set_45 : decode cX5_set 45 = .ok (.invokestatic 28, 3) := by decide +kernel
theorem dX5_set_48 : decode cX5_set 48 = .ok (.ifCond .ne 5, 3) := by decide +kernel
theorem dX5_set_51 : decode cX5_set 51 = .ok (.iconst (-1), 1) := by decide +kernel
theorem dX5_set_52 : decode cX5_set 52 = .ok (.ireturn, 1) := by decide +kernel
theorem dX5_set_53 : decode cX5_set 53 = .ok (.aload_n 0, 1) := by decide +kernel
theorem dX5_set_54 : decode cX5_set 54 = .ok (.iload_n 1, 1) := by decide +kernel
theorem dX5_set_55 : decode cX5_set 55 = .ok (.invokevirtual 59, 3) := by decide +kernel
theorem dX5_set_58 : decode cX5_set 58 = .ok (.istore 4, 2) := by decide +kernel
theorem dX5_set_60 : decode cX5_set 60 = .ok (.iload_n 1, 1) := by decide +kernel
theorem dX5_set_61 : decode cX5_set 61 = .ok (.tableswitch 75 0 4 #[35, 43, 51, 59, 67], 35) := by decide +kernel
theorem dX5_set_96 : decode cX5_set 96 = .ok (.aload_n 0, 1) := by decide +kernel
theorem dX5_set_97 : decode cX5_set 97 = .ok (.iload_n 2, 1) := by decide +kernel
theorem dX5_set_98 : decode cX5_set 98 = .ok (.putfield 33, 3) := by decide +kernel
theorem dX5_set_101 : decode cX5_set 101 = .ok (.goto 49, 3) := by decide +kernel
theorem dX5_set_104 : decode cX5_set 104 = .ok (.aload_n 0, 1) := by decide +kernel
theorem dX5_set_105 : decode cX5_set 105 = .ok (.iload_n 2, 1) := by decide +kernel
theorem dX5_set_106 : decode cX5_set 106 = .ok (.putfield 37, 3) := by decide +kernel
theorem dX5_set_109 : decode cX5_set 109 = .ok (.goto 41, 3) := by decide +kernel
theorem dX5_set_112 : decode cX5_set 112 = .ok (.aload_n 0, 1) := by decide +kernel
theorem dX5_set_113 : decode cX5_set 113 = .ok (.iload_n 2, 1) := by decide +kernel
theorem dX5_set_114 : decode cX5_set 114 = .ok (.putfield 40, 3) := by decide +kernel
theorem dX5_set_117 : decode cX5_set 117 = .ok (.goto 33, 3) := by decide +kernel
theorem dX5_set_120 : decode cX5_set 120 = .ok (.aload_n 0, 1) := by decide +kernel
theorem dX5_set_121 : decode cX5_set 121 = .ok (.iload_n 2, 1) := by decide +kernel
theorem dX5_set_122 : decode cX5_set 122 = .ok (.putfield 43, 3) := by decide +kernel
theorem dX5_set_125 : decode cX5_set 125 = .ok (.goto 25, 3) := by decide +kernel
theorem dX5_set_128 : decode cX5_set 128 = .ok (.aload_n 0, 1) := by decide +kernel
theorem dX5_set_129 : decode cX5_set 129 = .ok (.iload_n 2, 1) := by decide +kernel
theorem dX5_set_130 : decode cX5_set 130 = .ok (.putfield 46, 3) := by decide +kernel
theorem dX5_set_133 : decode cX5_set 133 = .ok (.goto 17, 3) := by decide +kernel
theorem dX5_set_136 : decode cX5_set 136 = .ok (.aload_n 0, 1) := by decide +kernel
theorem dX5_set_137 : decode cX5_set 137 = .ok (.iload_n 2, 1) := by decide +kernel
theorem dX5_set_138 : decode cX5_set 138 = .ok (.iconst 1, 1) := by decide +kernel
theorem dX5_set_139 : decode cX5_set 139 = .ok (.if_icmp .ne 7, 3) := by decide +kernel
theorem dX5_set_142 : decode cX5_set 142 = .ok (.iconst 1, 1) := by decide +kernel
theorem dX5_set_143 : decode cX5_set 143 = .ok (.goto 4, 3) := by decide +kernel
theorem dX5_set_146 : decode cX5_set 146 = .ok (.iconst 0, 1) := by decide +kernel
theorem dX5_set_147 : decode cX5_set 147 = .ok (.putfield 49, 3) := by decide +kernel
theorem dX5_set_150 : decode cX5_set 150 = .ok (.iload 4, 2) := by decide +kernel
theorem dX5_set_152 : decode cX5_set 152 = .ok (.ireturn, 1) := by decide +kernel
theorem dX5_switches_0 : decode cX5_switches 0 = .ok (.iload_n 1, 1) := by decide +kernel
theorem dX5_switches_1 : decode cX5_switches 1 = .ok (.iconst 0, 1) := by decide +kernel
theorem dX5_switches_2 : decode cX5_switches 2 = .ok (.bipush 63, 2) := by decide +kernel
theorem dX5_switches_4 : decode cX5_switches 4 = .ok (.invokestatic 28, 3) := by decide +kernel
theorem dX5_switches_7 : decode cX5_switches 7 = .ok (.ifCond .eq 13, 3) := by decide +kernel
theorem dX5_switches_10 : decode cX5_switches 10 = .ok (.iload_n 2, 1) := by decide +kernel
theorem dX5_switches_11 : decode cX5_switches 11 = .ok (.iconst 0, 1) := by decide +kernel
theorem dX5_switches_12 : decode cX5_switches 12 = .ok (.ldc 32, 2) := by decide +kernel
theorem dX5_switches_14 : decode cX5_switches 14 = .ok (.invokestatic 28, 3) := by decide +kernel
theorem dX5_switches_17 : decode cX5_switches 17 = .ok (.ifCond .ne 5, 3) := by decide +kernel
theorem dX5_switches_20 : decode cX5_switches 20 = .ok (.iconst (-1), 1) := by decide +kernel
theorem dX5_switches_21 : decode cX5_switches 21 = .ok (.ireturn, 1) := by decide +kernel
theorem dX5_switches_22 : decode cX5_switches 22 = .ok (.aload_n 0, 1) := by decide +kernel
theorem dX5_switches_23 : decode cX5_switches 23 = .ok (.getfield 63, 3) := by decide +kernel
theorem dX5_switches_26 : decode cX5_switches 26 = .ok (.istore_n 3, 1) := by decide +kernel
theorem dX5_switches_27 : decode cX5_switches 27 = .ok (.aload_n 0, 1) := by decide +kernel
theorem dX5_switches_28 : decode cX5_switches 28 = .ok (.iload_n 1, 1) := by decide +kernel
theorem dX5_switches_29 : decode cX5_switches 29 = .ok (.putfield 63, 3) := by decide +kernel
theorem dX5_switches_32 : decode cX5_switches 32 = .ok (.aload_n 0, 1) := by decide +kernel
theorem dX5_switches_33 : decode cX5_switches 33 = .ok (.iload_n 2, 1) := by decide +kernel
theorem dX5_switches_34 : decode cX5_switches 34 = .ok (.putfield 66, 3) := by decide +kernel
theorem dX5_switches_37 : decode cX5_switches 37 = .ok (.iload_n 3, 1) := by decide +kernel
theorem dX5_switches_38 : decode cX5_switches 38 = .ok (.ireturn, 1) := by decide +kernel
theorem dX5_type_0 : decode cX5_type 0 = .ok (.iload_n 1, 1) := by decide +kernel
theorem dX5_type_1 : decode cX5_type 1 = .ok (.iconst 0, 1) := by decide +kernel
theorem dX5_type_2 : decode cX5_type 2 = .ok (.bipush 63, 2) := by decide +kernel
theorem dX5_type_4 : decode cX5_type 4 = .ok (.invokestatic 28, 3) := by decide +kernel
theorem dX5_type_7 : decode cX5_type 7 = .ok (.ifCond .ne 5, 3) := by decide +kernel
theorem dX5_type_10 : decode cX5_type 10 = .ok (.iconst (-1), 1) := by decide +kernel
theorem dX5_type_11 : decode cX5_type 11 = .ok (.ireturn, 1) := by decide +kernel
theorem dX5_type_12 : decode cX5_type 12 = .ok (.aload_n 0, 1) := by decide +kernel
theorem dX5_type_13 : decode cX5_type 13 = .ok (.getfield 69, 3) := by decide +kernel
theorem dX5_type_16 : decode cX5_type 16 = .ok (.bipush 100, 2) := by decide +kernel
theorem dX5_type_18 : decode cX5_type 18 = .ok (.if_icmp .ne 6, 3) := by decide +kernel
theorem dX5_type_21 : decode cX5_type 21 = .ok (.bipush (-3), 2) := by decide +kernel
theorem dX5_type_23 : decode cX5_type 23 = .ok (.ireturn, 1) := by decide +kernel
theorem dX5_type_24 : decode cX5_type 24 = .ok (.aload_n 0, 1) := by decide +kernel
theorem dX5_type_25 : decode cX5_type 25 = .ok (.getfield 13, 3) := by decide +kernel
theorem dX5_type_28 : decode cX5_type 28 = .ok (.aload_n 0, 1) := by decide +kernel
theorem dX5_type_29 : decode cX5_type 29 = .ok (.getfield 69, 3) := by decide +kernel
theorem dX5_type_32 : decode cX5_type 32 = .ok (.iload_n 1, 1) := by decide +kernel
theorem dX5_type_33 : decode cX5_type 33 = .ok (.iastore, 1) := by decide +kernel
theorem dX5_type_34 : decode cX5_type 34 = .ok (.aload_n 0, 1) := by decide +kernel
theorem dX5_type_35 : decode cX5_type 35 = .ok (.dup, 1) := by decide +kernel
theorem dX5_type_36 : decode cX5_type 36 = .ok (.getfield 69, 3) := by decide +kernel
theorem dX5_type_39 : decode cX5_type 39 = .ok (.iconst 1, 1) := by decide +kernel
theorem dX5_type_40 : decode cX5_type 40 = .ok (.iadd, 1) := by decide +kernel
theorem dX5_type_41 : decode cX5_type 41 = .ok (.putfield 69, 3) := by decide +kernel
theorem dX5_type_44 : decode cX5_type 44 = .ok (.aload_n 0, 1) := by decide +kernel
theorem dX5_type_45 : decode cX5_type 45 = .ok (.getfield 69, 3) := by decide +kernel
theorem dX5_type_48 : decode cX5_type 48 = .ok (.aload_n 0, 1) := by decide +kernel
theorem dX5_type_49 : decode cX5_type 49 = .ok (.getfield 72, 3) := by decide +kernel
theorem dX5_type_52 : decode cX5_type 52 = .ok (.isub, 1) := by decide +kernel
theorem dX5_type_53 : decode cX5_type 53 = .ok (.ireturn, 1) := by decide +kernel
theorem dX5_ask_0 : decode cX5_ask 0 = .ok (.aload_n 0, 1) := by decide +kernel
theorem dX5_ask_1 : decode cX5_ask 1 = .ok (.getfield 53, 3) := by decide +kernel
theorem dX5_ask_4 : decode cX5_ask 4 = .ok (.ifCond .eq 7, 3) := by decide +kernel
theorem dX5_ask_7 : decode cX5_ask 7 = .ok (.iconst 0, 1) := by decide +kernel
theorem dX5_ask_8 : decode cX5_ask 8 = .ok (.goto 4, 3) := by decide +kernel
theorem dX5_ask_11 : decode cX5_ask 11 = .ok (.iconst 1, 1) := by decide +kernel
theorem dX5_ask_12 : decode cX5_ask 12 = .ok (.istore_n 1, 1) := by decide +kernel
theorem dX5_ask_13 : decode cX5_ask 13 = .ok (.aload_n 0, 1) := by decide +kernel
theorem dX5_ask_14 : decode cX5_ask 14 = .ok (.iconst 1, 1) := by decide +kernel
theorem dX5_ask_15 : decode cX5_ask 15 = .ok (.putfield 53, 3) := by decide +kernel
theorem dX5_ask_18 : decode cX5_ask 18 = .ok (.iload_n 1, 1) := by decide +kernel
theorem dX5_ask_19 : decode cX5_ask 19 = .ok (.ireturn, 1) := by decide +kernel
theorem dX5_not_0 : decode cX5_not 0 = .ok (.ldc 32, 2) := by decide +kernel
theorem dX5_not_2 : decode cX5_not 2 = .ok (.iload_n 0, 1) := by decide +kernel
theorem dX5_not_3 : decode cX5_not 3 = .ok (.isub, 1) := by decide +kernel
theorem dX5_not_4 : decode cX5_not 4 = .ok (.ireturn, 1) := by decide +kernel
theorem dX5_sign_0 : decode cX5_sign 0 = .ok (.iload_n 0, 1) := by decide +kernel
theorem dX5_sign_1 : decode cX5_sign 1 = .ok (.bipush 17, 2) := by decide +kernel
theorem dX5_sign_3 : decode cX5_sign 3 = .ok (.ishr, 1) := by decide +kernel
theorem dX5_sign_4 : decode cX5_sign 4 = .ok (.ireturn, 1) := by decide +kernel
theorem dX5_sum_0 : decode cX5_sum 0 = .ok (.iload_n 0, 1) := by decide +kernel
theorem dX5_sum_1 : decode cX5_sum 1 = .ok (.iload_n 1, 1) := by decide +kernel
theorem dX5_sum_2 : decode cX5_sum 2 = .ok (.iadd, 1) := by decide +kernel
theorem dX5_sum_3 : decode cX5_sum 3 = .ok (.istore_n 2, 1) := by decide +kernel
theorem dX5_sum_4 : decode cX5_sum 4 = .ok (.iload_n 2, 1) := by decide +kernel
theorem dX5_sum_5 : decode cX5_sum 5 = .ok (.ldc 32, 2) := by decide +kernel
theorem dX5_sum_7 : decode cX5_sum 7 = .ok (.if_icmp .le 10, 3) := by decide +kernel
theorem dX5_sum_10 : decode cX5_sum 10 = .ok (.iload_n 2, 1) := by decide +kernel
theorem dX5_sum_11 : decode cX5_sum 11 = .ok (.ldc 32, 2) := by decide +kernel
theorem dX5_sum_13 : decode cX5_sum 13 = .ok (.isub, 1) := by decide +kernel
theorem dX5_sum_14 : decode cX5_sum 14 = .ok (.goto 4, 3) := by decide +kernel
theorem dX5_sum_17 : decode cX5_sum 17 = .ok (.iload_n 2, 1) := by decide +kernel
theorem dX5_sum_18 : decode cX5_sum 18 = .ok (.ireturn, 1) := by decide +kernel
theorem dX5_plain_0 : decode cX5_plain 0 = .ok (.iload_n 0, 1) := by decide +kernel
theorem dX5_plain_1 : decode cX5_plain 1 = .ok (.ldc 32, 2) := by decide +kernel
theorem dX5_plain_3 : decode cX5_plain 3 = .ok (.if_icmp .ne 7, 3) := by decide +kernel
theorem dX5_plain_6 : decode cX5_plain 6 = .ok (.iconst 0, 1) := by decide +kernel
theorem dX5_plain_7 : decode cX5_plain 7 = .ok (.goto 4, 3) := by decide +kernel
theorem dX5_plain_10 : decode cX5_plain 10 = .ok (.iload_n 0, 1) := by decide +kernel
theorem dX5_plain_11 : decode cX5_plain 11 = .ok (.ireturn, 1) := by decide +kernel
theorem dX5_overflows_0 : decode cX5_overflows 0 = .ok (.iload_n 1, 1) := by decide +kernel
theorem dX5_overflows_1 : decode cX5_overflows 1 = .ok (.iload_n 2, 1) := by decide +kernel
theorem dX5_overflows_2 : decode cX5_overflows 2 = .ok (.invokestatic 75, 3) := by decide +kernel
theorem dX5_overflows_5 : decode cX5_overflows 5 = .ok (.istore_n 3, 1) := by decide +kernel
theorem dX5_overflows_6 : decode cX5_overflows 6 = .ok (.iload_n 1, 1) := by decide +kernel
theorem dX5_overflows_7 : decode cX5_overflows 7 = .ok (.invokestatic 79, 3) := by decide +kernel
theorem dX5_overflows_10 : decode cX5_overflows 10 = .ok (.iload_n 2, 1) := by decide +kernel
theorem dX5_overflows_11 : decode cX5_overflows 11 = .ok (.invokestatic 79, 3) := by decide +kernel
theorem dX5_overflows_14 : decode cX5_overflows 14 = .ok (.if_icmp .ne 29, 3) := by decide +kernel
theorem dX5_overflows_17 : decode cX5_overflows 17 = .ok (.iload_n 3, 1) := by decide +kernel
theorem dX5_overflows_18 : decode cX5_overflows 18 = .ok (.invokestatic 79, 3) := by decide +kernel
theorem dX5_overflows_21 : decode cX5_overflows 21 = .ok (.iload_n 1, 1) := by decide +kernel
theorem dX5_overflows_22 : decode cX5_overflows 22 = .ok (.invokestatic 79, 3) := by decide +kernel
theorem dX5_overflows_25 : decode cX5_overflows 25 = .ok (.if_icmp .eq 18, 3) := by decide +kernel
theorem dX5_overflows_28 : decode cX5_overflows 28 = .ok (.aload_n 0, 1) := by decide +kernel
theorem dX5_overflows_29 : decode cX5_overflows 29 = .ok (.iconst 1, 1) := by decide +kernel
theorem dX5_overflows_30 : decode cX5_overflows 30 = .ok (.putfield 43, 3) := by decide +kernel
theorem dX5_overflows_33 : decode cX5_overflows 33 = .ok (.aload_n 0, 1) := by decide +kernel
theorem dX5_overflows_34 : decode cX5_overflows 34 = .ok (.getfield 25, 3) := by decide +kernel
theorem dX5_overflows_37 : decode cX5_overflows 37 = .ok (.iconst 5, 1) := by decide +kernel
theorem dX5_overflows_38 : decode cX5_overflows 38 = .ok (.dup2, 1) := by decide +kernel
theorem dX5_overflows_39 : decode cX5_overflows 39 = .ok (.iaload, 1) := by decide +kernel
theorem dX5_overflows_40 : decode cX5_overflows 40 = .ok (.iconst 1, 1) := by decide +kernel
theorem dX5_overflows_41 : decode cX5_overflows 41 = .ok (.iadd, 1) := by decide +kernel
theorem dX5_overflows_42 : decode cX5_overflows 42 = .ok (.iastore, 1) := by decide +kernel
theorem dX5_overflows_43 : decode cX5_overflows 43 = .ok (.return_, 1) := by decide +kernel
theorem dX5_ones_0 : decode cX5_ones 0 = .ok (.iconst 0, 1) := by decide +kernel
theorem dX5_ones_1 : decode cX5_ones 1 = .ok (.istore_n 1, 1) := by decide +kernel
theorem dX5_ones_2 : decode cX5_ones 2 = .ok (.iconst 0, 1) := by decide +kernel
theorem dX5_ones_3 : decode cX5_ones 3 = .ok (.istore_n 2, 1) := by decide +kernel
theorem dX5_ones_4 : decode cX5_ones 4 = .ok (.iload_n 2, 1) := by decide +kernel
theorem dX5_ones_5 : decode cX5_ones 5 = .ok (.bipush 9, 2) := by decide +kernel
theorem dX5_ones_7 : decode cX5_ones 7 = .ok (.if_icmp .ge 17, 3) := by decide +kernel
theorem dX5_ones_10 : decode cX5_ones 10 = .ok (.iload_n 1, 1) := by decide +kernel
theorem dX5_ones_11 : decode cX5_ones 11 = .ok (.iload_n 0, 1) := by decide +kernel
theorem dX5_ones_12 : decode cX5_ones 12 = .ok (.iload_n 2, 1) := by decide +kernel
theorem dX5_ones_13 : decode cX5_ones 13 = .ok (.ishr, 1) := by decide +kernel
theorem dX5_ones_14 : decode cX5_ones 14 = .ok (.iconst 1, 1) := by decide +kernel
theorem dX5_ones_15 : decode cX5_ones 15 = .ok (.iand, 1) := by decide +kernel
theorem dX5_ones_16 : decode cX5_ones 16 = .ok (.iadd, 1) := by decide +kernel
theorem dX5_ones_17 : decode cX5_ones 17 = .ok (.istore_n 1, 1) := by decide +kernel
theorem dX5_ones_18 : decode cX5_ones 18 = .ok (.iinc 2 1, 3) := by decide +kernel
theorem dX5_ones_21 : decode cX5_ones 21 = .ok (.goto (-17), 3) := by decide +kernel
theorem dX5_ones_24 : decode cX5_ones 24 = .ok (.iload_n 1, 1) := by decide +kernel
theorem dX5_ones_25 : decode cX5_ones 25 = .ok (.ireturn, 1) := by decide +kernel
theorem dX5_hasAddress_0 : decode cX5_hasAddress 0 = .ok (.iload_n 0, 1) := by decide +kernel
theorem dX5_hasAddress_1 : decode cX5_hasAddress 1 = .ok (.iconst 1, 1) := by decide +kernel
theorem dX5_hasAddress_2 : decode cX5_hasAddress 2 = .ok (.iconst 4, 1) := by decide +kernel
theorem dX5_hasAddress_3 : decode cX5_hasAddress 3 = .ok (.invokestatic 28, 3) := by decide +kernel
theorem dX5_hasAddress_6 : decode cX5_hasAddress 6 = .ok (.ifCond .ne 25, 3) := by decide +kernel
theorem dX5_hasAddress_9 : decode cX5_hasAddress 9 = .ok (.iload_n 0, 1) := by decide +kernel
theorem dX5_hasAddress_10 : decode cX5_hasAddress 10 = .ok (.bipush 8, 2) := by decide +kernel
theorem dX5_hasAddress_12 : decode cX5_hasAddress 12 = .ok (.bipush 14, 2) := by decide +kernel
theorem dX5_hasAddress_14 : decode cX5_hasAddress 14 = .ok (.invokestatic 28, 3) := by decide +kernel
theorem dX5_hasAddress_17 : decode cX5_hasAddress 17 = .ok (.ifCond .ne 14, 3) := by decide +kernel
theorem dX5_hasAddress_20 : decode cX5_hasAddress 20 = .ok (.iload_n 0, 1) := by decide +kernel
theorem dX5_hasAddress_21 : decode cX5_hasAddress 21 = .ok (.bipush 16, 2) := by decide +kernel
theorem dX5_hasAddress_23 : decode cX5_hasAddress 23 = .ok (.bipush 25, 2) := by decide +kernel
theorem dX5_hasAddress_25 : decode cX5_hasAddress 25 = .ok (.invokestatic 28, 3) := by decide +kernel
theorem dX5_hasAddress_28 : decode cX5_hasAddress 28 = .ok (.ifCond .eq 7, 3) := by decide +kernel
theorem dX5_hasAddress_31 : decode cX5_hasAddress 31 = .ok (.iconst 1, 1) := by decide +kernel
theorem dX5_hasAddress_32 : decode cX5_hasAddress 32 = .ok (.goto 4, 3) := by decide +kernel
theorem dX5_hasAddress_35 : decode cX5_hasAddress 35 = .ok (.iconst 0, 1) := by decide +kernel
theorem dX5_hasAddress_36 : decode cX5_hasAddress 36 = .ok (.ireturn, 1) := by decide +kernel
theorem dX5_isIllegal_0 : decode cX5_isIllegal 0 = .ok (.iload_n 0, 1) := by decide +kernel
theorem dX5_isIllegal_1 : decode cX5_isIllegal 1 = .ok (.bipush 13, 2) := by decide +kernel
theorem dX5_isIllegal_3 : decode cX5_isIllegal 3 = .ok (.ishr, 1) := by decide +kernel
theorem dX5_isIllegal_4 : decode cX5_isIllegal 4 = .ok (.istore_n 1, 1) := by decide +kernel
theorem dX5_isIllegal_5 : decode cX5_isIllegal 5 = .ok (.iload_n 0, 1) := by decide +kernel
theorem dX5_isIllegal_6 : decode cX5_isIllegal 6 = .ok (.bipush 9, 2) := by decide +kernel
theorem dX5_isIllegal_8 : decode cX5_isIllegal 8 = .ok (.ishr, 1) := by decide +kernel
theorem dX5_isIllegal_9 : decode cX5_isIllegal 9 = .ok (.iconst 3, 1) := by decide +kernel
theorem dX5_isIllegal_10 : decode cX5_isIllegal 10 = .ok (.iand, 1) := by decide +kernel
theorem dX5_isIllegal_11 : decode cX5_isIllegal 11 = .ok (.istore_n 2, 1) := by decide +kernel
theorem dX5_isIllegal_12 : decode cX5_isIllegal 12 = .ok (.iload_n 1, 1) := by decide +kernel
theorem dX5_isIllegal_13 : decode cX5_isIllegal 13 = .ok (.ifCond .eq 36, 3) := by decide +kernel
theorem dX5_isIllegal_16 : decode cX5_isIllegal 16 = .ok (.iload_n 1, 1) := by decide +kernel
theorem dX5_isIllegal_17 : decode cX5_isIllegal 17 = .ok (.iconst 5, 1) := by decide +kernel
theorem dX5_isIllegal_18 : decode cX5_isIllegal 18 = .ok (.if_icmp .eq 31, 3) := by decide +kernel
theorem dX5_isIllegal_21 : decode cX5_isIllegal 21 = .ok (.iload_n 1, 1) := by decide +kernel
theorem dX5_isIllegal_22 : decode cX5_isIllegal 22 = .ok (.bipush 6, 2) := by decide +kernel
theorem dX5_isIllegal_24 : decode cX5_isIllegal 24 = .ok (.if_icmp .eq 25, 3) := by decide +kernel
theorem dX5_isIllegal_27 : decode cX5_isIllegal 27 = .ok (.iload_n 1, 1) := by decide +kernel
theorem dX5_isIllegal_28 : decode cX5_isIllegal 28 = .ok (.bipush 15, 2) := by decide +kernel
theorem dX5_isIllegal_30 : decode cX5_isIllegal 30 = .ok (.if_icmp .eq 19, 3) := by decide +kernel
theorem dX5_isIllegal_33 : decode cX5_isIllegal 33 = .ok (.iload_n 1, 1) := by decide +kernel
theorem dX5_isIllegal_34 : decode cX5_isIllegal 34 = .ok (.bipush 30, 2) := by decide +kernel
theorem dX5_isIllegal_36 : decode cX5_isIllegal 36 = .ok (.if_icmp .eq 13, 3) := by decide +kernel
theorem dX5_isIllegal_39 : decode cX5_isIllegal 39 = .ok (.iload_n 1, 1) := by decide +kernel
theorem dX5_isIllegal_40 : decode cX5_isIllegal 40 = .ok (.bipush 27, 2) := by decide +kernel
theorem dX5_isIllegal_42 : decode cX5_isIllegal 42 = .ok (.if_icmp .ne 11, 3) := by decide +kernel
theorem dX5_isIllegal_45 : decode cX5_isIllegal 45 = .ok (.iload_n 2, 1) := by decide +kernel
theorem dX5_isIllegal_46 : decode cX5_isIllegal 46 = .ok (.ifCond .ne 7, 3) := by decide +kernel
theorem dX5_isIllegal_49 : decode cX5_isIllegal 49 = .ok (.iconst 1, 1) := by decide +kernel
theorem dX5_isIllegal_50 : decode cX5_isIllegal 50 = .ok (.goto 4, 3) := by decide +kernel
theorem dX5_isIllegal_53 : decode cX5_isIllegal 53 = .ok (.iconst 0, 1) := by decide +kernel
theorem dX5_isIllegal_54 : decode cX5_isIllegal 54 = .ok (.ireturn, 1) := by decide +kernel
theorem dX5_addressOf_0 : decode cX5_addressOf 0 = .ok (.iload_n 1, 1) := by decide +kernel
theorem dX5_addressOf_1 : decode cX5_addressOf 1 = .ok (.sipush 4095, 3) := by decide +kernel
theorem dX5_addressOf_4 : decode cX5_addressOf 4 = .ok (.iand, 1) := by decide +kernel
theorem dX5_addressOf_5 : decode cX5_addressOf 5 = .ok (.istore_n 2, 1) := by decide +kernel
theorem dX5_addressOf_6 : decode cX5_addressOf 6 = .ok (.iload_n 1, 1) := by decide +kernel
theorem dX5_addressOf_7 : decode cX5_addressOf 7 = .ok (.bipush 12, 2) := by decide +kernel
theorem dX5_addressOf_9 : decode cX5_addressOf 9 = .ok (.ishr, 1) := by decide +kernel
theorem dX5_addressOf_10 : decode cX5_addressOf 10 = .ok (.iconst 1, 1) := by decide +kernel
theorem dX5_addressOf_11 : decode cX5_addressOf 11 = .ok (.iand, 1) := by decide +kernel
theorem dX5_addressOf_12 : decode cX5_addressOf 12 = .ok (.iconst 1, 1) := by decide +kernel
theorem dX5_addressOf_13 : decode cX5_addressOf 13 = .ok (.if_icmp .ne 7, 3) := by decide +kernel
theorem dX5_addressOf_16 : decode cX5_addressOf 16 = .ok (.iconst 1, 1) := by decide +kernel
theorem dX5_addressOf_17 : decode cX5_addressOf 17 = .ok (.goto 4, 3) := by decide +kernel
theorem dX5_addressOf_20 : decode cX5_addressOf 20 = .ok (.iconst 0, 1) := by decide +kernel
theorem dX5_addressOf_21 : decode cX5_addressOf 21 = .ok (.istore_n 3, 1) := by decide +kernel
theorem dX5_addressOf_22 : decode cX5_addressOf 22 = .ok (.iconst 0, 1) := by decide +kernel
theorem dX5_addressOf_23 : decode cX5_addressOf 23 = .ok (.istore 4, 2) := by decide +kernel
theorem dX5_addressOf_25 : decode cX5_addressOf 25 = .ok (.iload_n 3, 1) := by decide +kernel
theorem dX5_addressOf_26 : decode cX5_addressOf 26 = .ok (.ifCond .eq 60, 3) := by decide +kernel
theorem dX5_addressOf_29 : decode cX5_addressOf 29 = .ok (.iload 4, 2) := by decide +kernel
theorem dX5_addressOf_31 : decode cX5_addressOf 31 = .ok (.bipush 32, 2) := by decide +kernel
theorem dX5_addressOf_33 : decode cX5_addressOf 33 = .ok (.if_icmp .ne 5, 3) := by decide +kernel
theorem dX5_addressOf_36 : decode cX5_addressOf 36 = .ok (.iconst (-1), 1) := by decide +kernel
theorem dX5_addressOf_37 : decode cX5_addressOf 37 = .ok (.ireturn, 1) := by decide +kernel
theorem dX5_addressOf_38 : decode cX5_addressOf 38 = .ok (.aload_n 0, 1) := by decide +kernel
theorem dX5_addressOf_39 : decode cX5_addressOf 39 = .ok (.getfield 7, 3) := by decide +kernel
theorem dX5_addressOf_42 : decode cX5_addressOf 42 = .ok (.iload_n 2, 1) := by decide +kernel
theorem dX5_addressOf_43 : decode cX5_addressOf 43 = .ok (.iaload, 1) := by decide +kernel
theorem dX5_addressOf_44 : decode cX5_addressOf 44 = .ok (.istore 5, 2) := by decide +kernel
theorem dX5_addressOf_46 : decode cX5_addressOf 46 = .ok (.aload_n 0, 1) := by decide +kernel
theorem dX5_addressOf_47 : decode cX5_addressOf 47 = .ok (.getfield 25, 3) := by decide +kernel
theorem dX5_addressOf_50 : decode cX5_addressOf 50 = .ok (.iconst 2, 1) := by decide +kernel
theorem dX5_addressOf_51 : decode cX5_addressOf 51 = .ok (.dup2, 1) := by decide +kernel
theorem dX5_addressOf_52 : decode cX5_addressOf 52 = .ok (.iaload, 1) := by decide +kernel
theorem dX5_addressOf_53 : decode cX5_addressOf 53 = .ok (.iconst 1, 1) := by decide +kernel
theorem dX5_addressOf_54 : decode cX5_addressOf 54 = .ok (.iadd, 1) := by decide +kernel
theorem dX5_addressOf_55 : decode cX5_addressOf 55 = .ok (.iastore, 1) := by decide +kernel
theorem dX5_addressOf_56 : decode cX5_addressOf 56 = .ok (.iload 5, 2) := by decide +kernel
theorem dX5_addressOf_58 : decode cX5_addressOf 58 = .ok (.sipush 4095, 3) := by decide +kernel
theorem dX5_addressOf_61 : decode cX5_addressOf 61 = .ok (.iand, 1) := by decide +kernel
theorem dX5_addressOf_62 : decode cX5_addressOf 62 = .ok (.istore_n 2, 1) := by decide +kernel
theorem dX5_addressOf_63 : decode cX5_addressOf 63 = .ok (.iload 5, 2) := by decide +kernel
theorem dX5_addressOf_65 : decode cX5_addressOf 65 = .ok (.bipush 12, 2) := by decide +kernel
theorem dX5_addressOf_67 : decode cX5_addressOf 67 = .ok (.ishr, 1) := by decide +kernel
theorem dX5_addressOf_68 : decode cX5_addressOf 68 = .ok (.iconst 1, 1) := by decide +kernel
theorem dX5_addressOf_69 : decode cX5_addressOf 69 = .ok (.iand, 1) := by decide +kernel
theorem dX5_addressOf_70 : decode cX5_addressOf 70 = .ok (.iconst 1, 1) := by decide +kernel
theorem dX5_addressOf_71 : decode cX5_addressOf 71 = .ok (.if_icmp .ne 7, 3) := by decide +kernel
theorem dX5_addressOf_74 : decode cX5_addressOf 74 = .ok (.iconst 1, 1) := by decide +kernel
theorem dX5_addressOf_75 : decode cX5_addressOf 75 = .ok (.goto 4, 3) := by decide +kernel
theorem dX5_addressOf_78 : decode cX5_addressOf 78 = .ok (.iconst 0, 1) := by decide +kernel
theorem dX5_addressOf_79 : decode cX5_addressOf 79 = .ok (.istore_n 3, 1) := by decide +kernel
theorem dX5_addressOf_80 : decode cX5_addressOf 80 = .ok (.iinc 4 1, 3) := by decide +kernel
theorem dX5_addressOf_83 : decode cX5_addressOf 83 = .ok (.goto (-58), 3) := by decide +kernel
theorem dX5_addressOf_86 : decode cX5_addressOf 86 = .ok (.iload_n 2, 1) := by decide +kernel
theorem dX5_addressOf_87 : decode cX5_addressOf 87 = .ok (.ireturn, 1) := by decide +kernel
theorem dX5_place_0 : decode cX5_place 0 = .ok (.aload_n 0, 1) := by decide +kernel
theorem dX5_place_1 : decode cX5_place 1 = .ok (.getfield 40, 3) := by decide +kernel
theorem dX5_place_4 : decode cX5_place 4 = .ok (.aload_n 0, 1) := by decide +kernel
theorem dX5_place_5 : decode cX5_place 5 = .ok (.getfield 43, 3) := by decide +kernel
theorem dX5_place_8 : decode cX5_place 8 = .ok (.bipush 17, 2) := by decide +kernel
theorem dX5_place_10 : decode cX5_place 10 = .ok (.ishl, 1) := by decide +kernel
theorem dX5_place_11 : decode cX5_place 11 = .ok (.ior, 1) := by decide +kernel
theorem dX5_place_12 : decode cX5_place 12 = .ok (.ireturn, 1) := by decide +kernel
theorem dX5_skips_0 : decode cX5_skips 0 = .ok (.iload_n 1, 1) := by decide +kernel
theorem dX5_skips_1 : decode cX5_skips 1 = .ok (.ifCond .eq 27, 3) := by decide +kernel
theorem dX5_skips_4 : decode cX5_skips 4 = .ok (.aload_n 0, 1) := by decide +kernel
theorem dX5_skips_5 : decode cX5_skips 5 = .ok (.aload_n 0, 1) := by decide +kernel
theorem dX5_skips_6 : decode cX5_skips 6 = .ok (.getfield 40, 3) := by decide +kernel
theorem dX5_skips_9 : decode cX5_skips 9 = .ok (.iconst 1, 1) := by decide +kernel
theorem dX5_skips_10 : decode cX5_skips 10 = .ok (.iadd, 1) := by decide +kernel
theorem dX5_skips_11 : decode cX5_skips 11 = .ok (.sipush 4095, 3) := by decide +kernel
theorem dX5_skips_14 : decode cX5_skips 14 = .ok (.iand, 1) := by decide +kernel
theorem dX5_skips_15 : decode cX5_skips 15 = .ok (.putfield 40, 3) := by decide +kernel
theorem dX5_skips_18 : decode cX5_skips 18 = .ok (.aload_n 0, 1) := by decide +kernel
theorem dX5_skips_19 : decode cX5_skips 19 = .ok (.getfield 25, 3) := by decide +kernel
theorem dX5_skips_22 : decode cX5_skips 22 = .ok (.iconst 4, 1) := by decide +kernel
theorem dX5_skips_23 : decode cX5_skips 23 = .ok (.dup2, 1) := by decide +kernel
theorem dX5_skips_24 : decode cX5_skips 24 = .ok (.iaload, 1) := by decide +kernel
theorem dX5_skips_25 : decode cX5_skips 25 = .ok (.iconst 1, 1) := by decide +kernel
theorem dX5_skips_26 : decode cX5_skips 26 = .ok (.iadd, 1) := by decide +kernel
theorem dX5_skips_27 : decode cX5_skips 27 = .ok (.iastore, 1) := by decide +kernel
theorem dX5_skips_28 : decode cX5_skips 28 = .ok (.return_, 1) := by decide +kernel
theorem dX5_index_0 : decode cX5_index 0 = .ok (.aload_n 0, 1) := by decide +kernel
theorem dX5_index_1 : decode cX5_index 1 = .ok (.getfield 7, 3) := by decide +kernel
theorem dX5_index_4 : decode cX5_index 4 = .ok (.iload_n 1, 1) := by decide +kernel
theorem dX5_index_5 : decode cX5_index 5 = .ok (.iaload, 1) := by decide +kernel
theorem dX5_index_6 : decode cX5_index 6 = .ok (.iconst 1, 1) := by decide +kernel
theorem dX5_index_7 : decode cX5_index 7 = .ok (.iadd, 1) := by decide +kernel
theorem dX5_index_8 : decode cX5_index 8 = .ok (.istore_n 2, 1) := by decide +kernel
theorem dX5_index_9 : decode cX5_index 9 = .ok (.aload_n 0, 1) := by decide +kernel
theorem dX5_index_10 : decode cX5_index 10 = .ok (.iload_n 2, 1) := by decide +kernel
theorem dX5_index_11 : decode cX5_index 11 = .ok (.ldc 32, 2) := by decide +kernel
theorem dX5_index_13 : decode cX5_index 13 = .ok (.if_icmp .ne 7, 3) := by decide +kernel
theorem dX5_index_16 : decode cX5_index 16 = .ok (.iconst 0, 1) := by decide +kernel
theorem dX5_index_17 : decode cX5_index 17 = .ok (.goto 14, 3) := by decide +kernel
theorem dX5_index_20 : decode cX5_index 20 = .ok (.iload_n 2, 1) := by decide +kernel
theorem dX5_index_21 : decode cX5_index 21 = .ok (.ldc 32, 2) := by decide +kernel
theorem dX5_index_23 : decode cX5_index 23 = .ok (.if_icmp .le 7, 3) := by decide +kernel
theorem dX5_index_26 : decode cX5_index 26 = .ok (.iconst 1, 1) := by decide +kernel
theorem dX5_index_27 : decode cX5_index 27 = .ok (.goto 4, 3) := by decide +kernel
theorem dX5_index_30 : decode cX5_index 30 = .ok (.iload_n 2, 1) := by decide +kernel
theorem dX5_index_31 : decode cX5_index 31 = .ok (.putfield 33, 3) := by decide +kernel
theorem dX5_index_34 : decode cX5_index 34 = .ok (.aload_n 0, 1) := by decide +kernel
theorem dX5_index_35 : decode cX5_index 35 = .ok (.getfield 7, 3) := by decide +kernel
theorem dX5_index_38 : decode cX5_index 38 = .ok (.iload_n 1, 1) := by decide +kernel
theorem dX5_index_39 : decode cX5_index 39 = .ok (.aload_n 0, 1) := by decide +kernel
theorem dX5_index_40 : decode cX5_index 40 = .ok (.getfield 33, 3) := by decide +kernel
theorem dX5_index_43 : decode cX5_index 43 = .ok (.iastore, 1) := by decide +kernel
theorem dX5_index_44 : decode cX5_index 44 = .ok (.return_, 1) := by decide +kernel
end
section
theorem dX5_multiplies_0 : decode cX5_multiplies 0 = .ok (.aload_n 0, 1) := by decide +kernel
theorem dX5_multiplies_1 : decode cX5_multiplies 1 = .ok (.getfield 37, 3) := by decide +kernel
theorem dX5_multiplies_4 : decode cX5_multiplies 4 = .ok (.iconst 1, 1) := by decide +kernel
theorem dX5_multiplies_5 : decode cX5_multiplies 5 = .ok (.iand, 1) := by decide +kernel
theorem dX5_multiplies_6 : decode cX5_multiplies 6 = .ok (.iconst 1, 1) := by decide +kernel
theorem dX5_multiplies_7 : decode cX5_multiplies 7 = .ok (.if_icmp .ne 18, 3) := by decide +kernel
theorem dX5_multiplies_10 : decode cX5_multiplies 10 = .ok (.aload_n 0, 1) := by decide +kernel
theorem dX5_multiplies_11 : decode cX5_multiplies 11 = .ok (.aload_n 0, 1) := by decide +kernel
theorem dX5_multiplies_12 : decode cX5_multiplies 12 = .ok (.getfield 33, 3) := by decide +kernel
theorem dX5_multiplies_15 : decode cX5_multiplies 15 = .ok (.iload_n 1, 1) := by decide +kernel
theorem dX5_multiplies_16 : decode cX5_multiplies 16 = .ok (.invokestatic 75, 3) := by decide +kernel
theorem dX5_multiplies_19 : decode cX5_multiplies 19 = .ok (.invokestatic 82, 3) := by decide +kernel
theorem dX5_multiplies_22 : decode cX5_multiplies 22 = .ok (.putfield 33, 3) := by decide +kernel
theorem dX5_multiplies_25 : decode cX5_multiplies 25 = .ok (.aload_n 0, 1) := by decide +kernel
theorem dX5_multiplies_26 : decode cX5_multiplies 26 = .ok (.aload_n 0, 1) := by decide +kernel
theorem dX5_multiplies_27 : decode cX5_multiplies 27 = .ok (.getfield 37, 3) := by decide +kernel
theorem dX5_multiplies_30 : decode cX5_multiplies 30 = .ok (.iconst 1, 1) := by decide +kernel
theorem dX5_multiplies_31 : decode cX5_multiplies 31 = .ok (.ishr, 1) := by decide +kernel
theorem dX5_multiplies_32 : decode cX5_multiplies 32 = .ok (.aload_n 0, 1) := by decide +kernel
theorem dX5_multiplies_33 : decode cX5_multiplies 33 = .ok (.getfield 33, 3) := by decide +kernel
theorem dX5_multiplies_36 : decode cX5_multiplies 36 = .ok (.iconst 1, 1) := by decide +kernel
theorem dX5_multiplies_37 : decode cX5_multiplies 37 = .ok (.iand, 1) := by decide +kernel
theorem dX5_multiplies_38 : decode cX5_multiplies 38 = .ok (.bipush 17, 2) := by decide +kernel
theorem dX5_multiplies_40 : decode cX5_multiplies 40 = .ok (.ishl, 1) := by decide +kernel
theorem dX5_multiplies_41 : decode cX5_multiplies 41 = .ok (.ior, 1) := by decide +kernel
theorem dX5_multiplies_42 : decode cX5_multiplies 42 = .ok (.putfield 37, 3) := by decide +kernel
theorem dX5_multiplies_45 : decode cX5_multiplies 45 = .ok (.aload_n 0, 1) := by decide +kernel
theorem dX5_multiplies_46 : decode cX5_multiplies 46 = .ok (.aload_n 0, 1) := by decide +kernel
theorem dX5_multiplies_47 : decode cX5_multiplies 47 = .ok (.getfield 33, 3) := by decide +kernel
theorem dX5_multiplies_50 : decode cX5_multiplies 50 = .ok (.iconst 1, 1) := by decide +kernel
theorem dX5_multiplies_51 : decode cX5_multiplies 51 = .ok (.ishr, 1) := by decide +kernel
theorem dX5_multiplies_52 : decode cX5_multiplies 52 = .ok (.putfield 33, 3) := by decide +kernel
theorem dX5_multiplies_55 : decode cX5_multiplies 55 = .ok (.return_, 1) := by decide +kernel
theorem dX5_divides_0 : decode cX5_divides 0 = .ok (.iconst 1, 1) := by decide +kernel
theorem dX5_divides_1 : decode cX5_divides 1 = .ok (.aload_n 0, 1) := by decide +kernel
theorem dX5_divides_2 : decode cX5_divides 2 = .ok (.getfield 33, 3) := by decide +kernel
theorem dX5_divides_5 : decode cX5_divides 5 = .ok (.invokestatic 79, 3) := by decide +kernel
theorem dX5_divides_8 : decode cX5_divides 8 = .ok (.isub, 1) := by decide +kernel
theorem dX5_divides_9 : decode cX5_divides 9 = .ok (.istore_n 2, 1) := by decide +kernel
theorem dX5_divides_10 : decode cX5_divides 10 = .ok (.aload_n 0, 1) := by decide +kernel
theorem dX5_divides_11 : decode cX5_divides 11 = .ok (.aload_n 0, 1) := by decide +kernel
theorem dX5_divides_12 : decode cX5_divides 12 = .ok (.getfield 33, 3) := by decide +kernel
theorem dX5_divides_15 : decode cX5_divides 15 = .ok (.iconst 1, 1) := by decide +kernel
theorem dX5_divides_16 : decode cX5_divides 16 = .ok (.ishl, 1) := by decide +kernel
theorem dX5_divides_17 : decode cX5_divides 17 = .ok (.ldc 32, 2) := by decide +kernel
theorem dX5_divides_19 : decode cX5_divides 19 = .ok (.iand, 1) := by decide +kernel
theorem dX5_divides_20 : decode cX5_divides 20 = .ok (.aload_n 0, 1) := by decide +kernel
theorem dX5_divides_21 : decode cX5_divides 21 = .ok (.getfield 37, 3) := by decide +kernel
theorem dX5_divides_24 : decode cX5_divides 24 = .ok (.invokestatic 79, 3) := by decide +kernel
theorem dX5_divides_27 : decode cX5_divides 27 = .ok (.ior, 1) := by decide +kernel
theorem dX5_divides_28 : decode cX5_divides 28 = .ok (.putfield 33, 3) := by decide +kernel
theorem dX5_divides_31 : decode cX5_divides 31 = .ok (.aload_n 0, 1) := by decide +kernel
theorem dX5_divides_32 : decode cX5_divides 32 = .ok (.aload_n 0, 1) := by decide +kernel
theorem dX5_divides_33 : decode cX5_divides 33 = .ok (.getfield 37, 3) := by decide +kernel
theorem dX5_divides_36 : decode cX5_divides 36 = .ok (.iconst 1, 1) := by decide +kernel
theorem dX5_divides_37 : decode cX5_divides 37 = .ok (.ishl, 1) := by decide +kernel
theorem dX5_divides_38 : decode cX5_divides 38 = .ok (.ldc 32, 2) := by decide +kernel
theorem dX5_divides_40 : decode cX5_divides 40 = .ok (.iand, 1) := by decide +kernel
theorem dX5_divides_41 : decode cX5_divides 41 = .ok (.iload_n 2, 1) := by decide +kernel
theorem dX5_divides_42 : decode cX5_divides 42 = .ok (.ior, 1) := by decide +kernel
theorem dX5_divides_43 : decode cX5_divides 43 = .ok (.putfield 37, 3) := by decide +kernel
theorem dX5_divides_46 : decode cX5_divides 46 = .ok (.aload_n 0, 1) := by decide +kernel
theorem dX5_divides_47 : decode cX5_divides 47 = .ok (.iload_n 2, 1) := by decide +kernel
theorem dX5_divides_48 : decode cX5_divides 48 = .ok (.iconst 1, 1) := by decide +kernel
theorem dX5_divides_49 : decode cX5_divides 49 = .ok (.if_icmp .ne 17, 3) := by decide +kernel
theorem dX5_divides_52 : decode cX5_divides 52 = .ok (.aload_n 0, 1) := by decide +kernel
theorem dX5_divides_53 : decode cX5_divides 53 = .ok (.getfield 33, 3) := by decide +kernel
theorem dX5_divides_56 : decode cX5_divides 56 = .ok (.iload_n 1, 1) := by decide +kernel
theorem dX5_divides_57 : decode cX5_divides 57 = .ok (.invokestatic 85, 3) := by decide +kernel
theorem dX5_divides_60 : decode cX5_divides 60 = .ok (.invokestatic 75, 3) := by decide +kernel
theorem dX5_divides_63 : decode cX5_divides 63 = .ok (.goto 15, 3) := by decide +kernel
theorem dX5_divides_66 : decode cX5_divides 66 = .ok (.aload_n 0, 1) := by decide +kernel
theorem dX5_divides_67 : decode cX5_divides 67 = .ok (.getfield 33, 3) := by decide +kernel
theorem dX5_divides_70 : decode cX5_divides 70 = .ok (.iload_n 1, 1) := by decide +kernel
theorem dX5_divides_71 : decode cX5_divides 71 = .ok (.invokestatic 75, 3) := by decide +kernel
theorem dX5_divides_74 : decode cX5_divides 74 = .ok (.iconst 1, 1) := by decide +kernel
theorem dX5_divides_75 : decode cX5_divides 75 = .ok (.invokestatic 75, 3) := by decide +kernel
theorem dX5_divides_78 : decode cX5_divides 78 = .ok (.invokestatic 82, 3) := by decide +kernel
theorem dX5_divides_81 : decode cX5_divides 81 = .ok (.putfield 33, 3) := by decide +kernel
theorem dX5_divides_84 : decode cX5_divides 84 = .ok (.return_, 1) := by decide +kernel
theorem dX5_ofMemory_0 : decode cX5_ofMemory 0 = .ok (.aload_n 0, 1) := by decide +kernel
theorem dX5_ofMemory_1 : decode cX5_ofMemory 1 = .ok (.getfield 7, 3) := by decide +kernel
theorem dX5_ofMemory_4 : decode cX5_ofMemory 4 = .ok (.iload_n 2, 1) := by decide +kernel
theorem dX5_ofMemory_5 : decode cX5_ofMemory 5 = .ok (.iaload, 1) := by decide +kernel
theorem dX5_ofMemory_6 : decode cX5_ofMemory 6 = .ok (.istore_n 3, 1) := by decide +kernel
theorem dX5_ofMemory_7 : decode cX5_ofMemory 7 = .ok (.iload_n 1, 1) := by decide +kernel
theorem dX5_ofMemory_8 : decode cX5_ofMemory 8 = .ok (.tableswitch 408 1 24 #[112, 125, 138, 408, 408, 408, 408, 151, 159, 167, 180, 203, 226, 239, 408, 249, 276, 309, 317, 344, 364, 384, 392, 400], 112) := by decide +kernel
theorem dX5_ofMemory_120 : decode cX5_ofMemory 120 = .ok (.aload_n 0, 1) := by decide +kernel
theorem dX5_ofMemory_121 : decode cX5_ofMemory 121 = .ok (.aload_n 0, 1) := by decide +kernel
theorem dX5_ofMemory_122 : decode cX5_ofMemory 122 = .ok (.getfield 33, 3) := by decide +kernel
theorem dX5_ofMemory_125 : decode cX5_ofMemory 125 = .ok (.iload_n 3, 1) := by decide +kernel
theorem dX5_ofMemory_126 : decode cX5_ofMemory 126 = .ok (.iand, 1) := by decide +kernel
theorem dX5_ofMemory_127 : decode cX5_ofMemory 127 = .ok (.putfield 33, 3) := by decide +kernel
theorem dX5_ofMemory_130 : decode cX5_ofMemory 130 = .ok (.goto 299, 3) := by decide +kernel
theorem dX5_ofMemory_133 : decode cX5_ofMemory 133 = .ok (.aload_n 0, 1) := by decide +kernel
theorem dX5_ofMemory_134 : decode cX5_ofMemory 134 = .ok (.aload_n 0, 1) := by decide +kernel
theorem dX5_ofMemory_135 : decode cX5_ofMemory 135 = .ok (.getfield 33, 3) := by decide +kernel
theorem dX5_ofMemory_138 : decode cX5_ofMemory 138 = .ok (.iload_n 3, 1) := by decide +kernel
theorem dX5_ofMemory_139 : decode cX5_ofMemory 139 = .ok (.ior, 1) := by decide +kernel
theorem dX5_ofMemory_140 : decode cX5_ofMemory 140 = .ok (.putfield 33, 3) := by decide +kernel
theorem dX5_ofMemory_143 : decode cX5_ofMemory 143 = .ok (.goto 286, 3) := by decide +kernel
theorem dX5_ofMemory_146 : decode cX5_ofMemory 146 = .ok (.aload_n 0, 1) := by decide +kernel
theorem dX5_ofMemory_147 : decode cX5_ofMemory 147 = .ok (.aload_n 0, 1) := by decide +kernel
theorem dX5_ofMemory_148 : decode cX5_ofMemory 148 = .ok (.getfield 33, 3) := by decide +kernel
theorem dX5_ofMemory_151 : decode cX5_ofMemory 151 = .ok (.iload_n 3, 1) := by decide +kernel
theorem dX5_ofMemory_152 : decode cX5_ofMemory 152 = .ok (.ixor, 1) := by decide +kernel
theorem dX5_ofMemory_153 : decode cX5_ofMemory 153 = .ok (.putfield 33, 3) := by decide +kernel
theorem dX5_ofMemory_156 : decode cX5_ofMemory 156 = .ok (.goto 273, 3) := by decide +kernel
theorem dX5_ofMemory_159 : decode cX5_ofMemory 159 = .ok (.aload_n 0, 1) := by decide +kernel
theorem dX5_ofMemory_160 : decode cX5_ofMemory 160 = .ok (.iload_n 3, 1) := by decide +kernel
theorem dX5_ofMemory_161 : decode cX5_ofMemory 161 = .ok (.putfield 33, 3) := by decide +kernel
theorem dX5_ofMemory_164 : decode cX5_ofMemory 164 = .ok (.goto 265, 3) := by decide +kernel
theorem dX5_ofMemory_167 : decode cX5_ofMemory 167 = .ok (.aload_n 0, 1) := by decide +kernel
theorem dX5_ofMemory_168 : decode cX5_ofMemory 168 = .ok (.iload_n 3, 1) := by decide +kernel
theorem dX5_ofMemory_169 : decode cX5_ofMemory 169 = .ok (.putfield 37, 3) := by decide +kernel
theorem dX5_ofMemory_172 : decode cX5_ofMemory 172 = .ok (.goto 257, 3) := by decide +kernel
theorem dX5_ofMemory_175 : decode cX5_ofMemory 175 = .ok (.aload_n 0, 1) := by decide +kernel
theorem dX5_ofMemory_176 : decode cX5_ofMemory 176 = .ok (.getfield 7, 3) := by decide +kernel
theorem dX5_ofMemory_179 : decode cX5_ofMemory 179 = .ok (.iload_n 2, 1) := by decide +kernel
theorem dX5_ofMemory_180 : decode cX5_ofMemory 180 = .ok (.aload_n 0, 1) := by decide +kernel
theorem dX5_ofMemory_181 : decode cX5_ofMemory 181 = .ok (.getfield 33, 3) := by decide +kernel
theorem dX5_ofMemory_184 : decode cX5_ofMemory 184 = .ok (.iastore, 1) := by decide +kernel
theorem dX5_ofMemory_185 : decode cX5_ofMemory 185 = .ok (.goto 244, 3) := by decide +kernel
theorem dX5_ofMemory_188 : decode cX5_ofMemory 188 = .ok (.aload_n 0, 1) := by decide +kernel
theorem dX5_ofMemory_189 : decode cX5_ofMemory 189 = .ok (.getfield 7, 3) := by decide +kernel
theorem dX5_ofMemory_192 : decode cX5_ofMemory 192 = .ok (.iload_n 2, 1) := by decide +kernel
theorem dX5_ofMemory_193 : decode cX5_ofMemory 193 = .ok (.iload_n 3, 1) := by decide +kernel
theorem dX5_ofMemory_194 : decode cX5_ofMemory 194 = .ok (.sipush (-4096), 3) := by decide +kernel
theorem dX5_ofMemory_197 : decode cX5_ofMemory 197 = .ok (.iand, 1) := by decide +kernel
theorem dX5_ofMemory_198 : decode cX5_ofMemory 198 = .ok (.aload_n 0, 1) := by decide +kernel
theorem dX5_ofMemory_199 : decode cX5_ofMemory 199 = .ok (.getfield 33, 3) := by decide +kernel
theorem dX5_ofMemory_202 : decode cX5_ofMemory 202 = .ok (.sipush 4095, 3) := by decide +kernel
theorem dX5_ofMemory_205 : decode cX5_ofMemory 205 = .ok (.iand, 1) := by decide +kernel
theorem dX5_ofMemory_206 : decode cX5_ofMemory 206 = .ok (.ior, 1) := by decide +kernel
theorem dX5_ofMemory_207 : decode cX5_ofMemory 207 = .ok (.iastore, 1) := by decide +kernel
theorem dX5_ofMemory_208 : decode cX5_ofMemory 208 = .ok (.goto 221, 3) := by decide +kernel
theorem dX5_ofMemory_211 : decode cX5_ofMemory 211 = .ok (.aload_n 0, 1) := by decide +kernel
theorem dX5_ofMemory_212 : decode cX5_ofMemory 212 = .ok (.getfield 7, 3) := by decide +kernel
theorem dX5_ofMemory_215 : decode cX5_ofMemory 215 = .ok (.iload_n 2, 1) := by decide +kernel
theorem dX5_ofMemory_216 : decode cX5_ofMemory 216 = .ok (.iload_n 3, 1) := by decide +kernel
theorem dX5_ofMemory_217 : decode cX5_ofMemory 217 = .ok (.sipush 4095, 3) := by decide +kernel
theorem dX5_ofMemory_220 : decode cX5_ofMemory 220 = .ok (.iand, 1) := by decide +kernel
theorem dX5_ofMemory_221 : decode cX5_ofMemory 221 = .ok (.aload_n 0, 1) := by decide +kernel
theorem dX5_ofMemory_222 : decode cX5_ofMemory 222 = .ok (.getfield 33, 3) := by decide +kernel
theorem dX5_ofMemory_225 : decode cX5_ofMemory 225 = .ok (.sipush (-4096), 3) := by decide +kernel
theorem dX5_ofMemory_228 : decode cX5_ofMemory 228 = .ok (.iand, 1) := by decide +kernel
theorem dX5_ofMemory_229 : decode cX5_ofMemory 229 = .ok (.ior, 1) := by decide +kernel
theorem dX5_ofMemory_230 : decode cX5_ofMemory 230 = .ok (.iastore, 1) := by decide +kernel
theorem dX5_ofMemory_231 : decode cX5_ofMemory 231 = .ok (.goto 198, 3) := by decide +kernel
theorem dX5_ofMemory_234 : decode cX5_ofMemory 234 = .ok (.aload_n 0, 1) := by decide +kernel
theorem dX5_ofMemory_235 : decode cX5_ofMemory 235 = .ok (.getfield 7, 3) := by decide +kernel
theorem dX5_ofMemory_238 : decode cX5_ofMemory 238 = .ok (.iload_n 2, 1) := by decide +kernel
theorem dX5_ofMemory_239 : decode cX5_ofMemory 239 = .ok (.aload_n 0, 1) := by decide +kernel
theorem dX5_ofMemory_240 : decode cX5_ofMemory 240 = .ok (.getfield 37, 3) := by decide +kernel
theorem dX5_ofMemory_243 : decode cX5_ofMemory 243 = .ok (.iastore, 1) := by decide +kernel
theorem dX5_ofMemory_244 : decode cX5_ofMemory 244 = .ok (.goto 185, 3) := by decide +kernel
theorem dX5_ofMemory_247 : decode cX5_ofMemory 247 = .ok (.aload_n 0, 1) := by decide +kernel
theorem dX5_ofMemory_248 : decode cX5_ofMemory 248 = .ok (.getfield 7, 3) := by decide +kernel
theorem dX5_ofMemory_251 : decode cX5_ofMemory 251 = .ok (.iload_n 2, 1) := by decide +kernel
theorem dX5_ofMemory_252 : decode cX5_ofMemory 252 = .ok (.iconst 0, 1) := by decide +kernel
theorem dX5_ofMemory_253 : decode cX5_ofMemory 253 = .ok (.iastore, 1) := by decide +kernel
theorem dX5_ofMemory_254 : decode cX5_ofMemory 254 = .ok (.goto 175, 3) := by decide +kernel
theorem dX5_ofMemory_257 : decode cX5_ofMemory 257 = .ok (.aload_n 0, 1) := by decide +kernel
theorem dX5_ofMemory_258 : decode cX5_ofMemory 258 = .ok (.aload_n 0, 1) := by decide +kernel
theorem dX5_ofMemory_259 : decode cX5_ofMemory 259 = .ok (.getfield 33, 3) := by decide +kernel
theorem dX5_ofMemory_262 : decode cX5_ofMemory 262 = .ok (.iload_n 3, 1) := by decide +kernel
theorem dX5_ofMemory_263 : decode cX5_ofMemory 263 = .ok (.invokevirtual 88, 3) := by decide +kernel
theorem dX5_ofMemory_266 : decode cX5_ofMemory 266 = .ok (.aload_n 0, 1) := by decide +kernel
theorem dX5_ofMemory_267 : decode cX5_ofMemory 267 = .ok (.aload_n 0, 1) := by decide +kernel
theorem dX5_ofMemory_268 : decode cX5_ofMemory 268 = .ok (.getfield 33, 3) := by decide +kernel
theorem dX5_ofMemory_271 : decode cX5_ofMemory 271 = .ok (.iload_n 3, 1) := by decide +kernel
theorem dX5_ofMemory_272 : decode cX5_ofMemory 272 = .ok (.invokestatic 75, 3) := by decide +kernel
theorem dX5_ofMemory_275 : decode cX5_ofMemory 275 = .ok (.invokestatic 82, 3) := by decide +kernel
theorem dX5_ofMemory_278 : decode cX5_ofMemory 278 = .ok (.putfield 33, 3) := by decide +kernel
theorem dX5_ofMemory_281 : decode cX5_ofMemory 281 = .ok (.goto 148, 3) := by decide +kernel
theorem dX5_ofMemory_284 : decode cX5_ofMemory 284 = .ok (.aload_n 0, 1) := by decide +kernel
theorem dX5_ofMemory_285 : decode cX5_ofMemory 285 = .ok (.aload_n 0, 1) := by decide +kernel
theorem dX5_ofMemory_286 : decode cX5_ofMemory 286 = .ok (.getfield 33, 3) := by decide +kernel
theorem dX5_ofMemory_289 : decode cX5_ofMemory 289 = .ok (.invokestatic 85, 3) := by decide +kernel
theorem dX5_ofMemory_292 : decode cX5_ofMemory 292 = .ok (.iload_n 3, 1) := by decide +kernel
theorem dX5_ofMemory_293 : decode cX5_ofMemory 293 = .ok (.invokevirtual 88, 3) := by decide +kernel
theorem dX5_ofMemory_296 : decode cX5_ofMemory 296 = .ok (.aload_n 0, 1) := by decide +kernel
theorem dX5_ofMemory_297 : decode cX5_ofMemory 297 = .ok (.aload_n 0, 1) := by decide +kernel
theorem dX5_ofMemory_298 : decode cX5_ofMemory 298 = .ok (.getfield 33, 3) := by decide +kernel
theorem dX5_ofMemory_301 : decode cX5_ofMemory 301 = .ok (.invokestatic 85, 3) := by decide +kernel
theorem dX5_ofMemory_304 : decode cX5_ofMemory 304 = .ok (.iload_n 3, 1) := by decide +kernel
theorem dX5_ofMemory_305 : decode cX5_ofMemory 305 = .ok (.invokestatic 75, 3) := by decide +kernel
theorem dX5_ofMemory_308 : decode cX5_ofMemory 308 = .ok (.invokestatic 85, 3) := by decide +kernel
theorem dX5_ofMemory_311 : decode cX5_ofMemory 311 = .ok (.putfield 33, 3) := by decide +kernel
theorem dX5_ofMemory_314 : decode cX5_ofMemory 314 = .ok (.goto 115, 3) := by decide +kernel
theorem dX5_ofMemory_317 : decode cX5_ofMemory 317 = .ok (.aload_n 0, 1) := by decide +kernel
theorem dX5_ofMemory_318 : decode cX5_ofMemory 318 = .ok (.iload_n 2, 1) := by decide +kernel
theorem dX5_ofMemory_319 : decode cX5_ofMemory 319 = .ok (.invokevirtual 92, 3) := by decide +kernel
theorem dX5_ofMemory_322 : decode cX5_ofMemory 322 = .ok (.goto 107, 3) := by decide +kernel
theorem dX5_ofMemory_325 : decode cX5_ofMemory 325 = .ok (.aload_n 0, 1) := by decide +kernel
theorem dX5_ofMemory_326 : decode cX5_ofMemory 326 = .ok (.iload_n 2, 1) := by decide +kernel
theorem dX5_ofMemory_327 : decode cX5_ofMemory 327 = .ok (.invokevirtual 92, 3) := by decide +kernel
theorem dX5_ofMemory_330 : decode cX5_ofMemory 330 = .ok (.aload_n 0, 1) := by decide +kernel
theorem dX5_ofMemory_331 : decode cX5_ofMemory 331 = .ok (.aload_n 0, 1) := by decide +kernel
theorem dX5_ofMemory_332 : decode cX5_ofMemory 332 = .ok (.getfield 33, 3) := by decide +kernel
theorem dX5_ofMemory_335 : decode cX5_ofMemory 335 = .ok (.invokestatic 79, 3) := by decide +kernel
theorem dX5_ofMemory_338 : decode cX5_ofMemory 338 = .ok (.ifCond .ne 7, 3) := by decide +kernel
theorem dX5_ofMemory_341 : decode cX5_ofMemory 341 = .ok (.iconst 1, 1) := by decide +kernel
theorem dX5_ofMemory_342 : decode cX5_ofMemory 342 = .ok (.goto 4, 3) := by decide +kernel
theorem dX5_ofMemory_345 : decode cX5_ofMemory 345 = .ok (.iconst 0, 1) := by decide +kernel
theorem dX5_ofMemory_346 : decode cX5_ofMemory 346 = .ok (.invokevirtual 96, 3) := by decide +kernel
theorem dX5_ofMemory_349 : decode cX5_ofMemory 349 = .ok (.goto 80, 3) := by decide +kernel
theorem dX5_ofMemory_352 : decode cX5_ofMemory 352 = .ok (.aload_n 0, 1) := by decide +kernel
theorem dX5_ofMemory_353 : decode cX5_ofMemory 353 = .ok (.aload_n 0, 1) := by decide +kernel
theorem dX5_ofMemory_354 : decode cX5_ofMemory 354 = .ok (.getfield 33, 3) := by decide +kernel
theorem dX5_ofMemory_357 : decode cX5_ofMemory 357 = .ok (.iload_n 3, 1) := by decide +kernel
theorem dX5_ofMemory_358 : decode cX5_ofMemory 358 = .ok (.if_icmp .eq 7, 3) := by decide +kernel
theorem dX5_ofMemory_361 : decode cX5_ofMemory 361 = .ok (.iconst 1, 1) := by decide +kernel
theorem dX5_ofMemory_362 : decode cX5_ofMemory 362 = .ok (.goto 4, 3) := by decide +kernel
theorem dX5_ofMemory_365 : decode cX5_ofMemory 365 = .ok (.iconst 0, 1) := by decide +kernel
theorem dX5_ofMemory_366 : decode cX5_ofMemory 366 = .ok (.invokevirtual 96, 3) := by decide +kernel
theorem dX5_ofMemory_369 : decode cX5_ofMemory 369 = .ok (.goto 60, 3) := by decide +kernel
theorem dX5_ofMemory_372 : decode cX5_ofMemory 372 = .ok (.aload_n 0, 1) := by decide +kernel
theorem dX5_ofMemory_373 : decode cX5_ofMemory 373 = .ok (.aload_n 0, 1) := by decide +kernel
theorem dX5_ofMemory_374 : decode cX5_ofMemory 374 = .ok (.getfield 33, 3) := by decide +kernel
theorem dX5_ofMemory_377 : decode cX5_ofMemory 377 = .ok (.iload_n 3, 1) := by decide +kernel
theorem dX5_ofMemory_378 : decode cX5_ofMemory 378 = .ok (.if_icmp .ne 7, 3) := by decide +kernel
theorem dX5_ofMemory_381 : decode cX5_ofMemory 381 = .ok (.iconst 1, 1) := by decide +kernel
theorem dX5_ofMemory_382 : decode cX5_ofMemory 382 = .ok (.goto 4, 3) := by decide +kernel
theorem dX5_ofMemory_385 : decode cX5_ofMemory 385 = .ok (.iconst 0, 1) := by decide +kernel
theorem dX5_ofMemory_386 : decode cX5_ofMemory 386 = .ok (.invokevirtual 96, 3) := by decide +kernel
theorem dX5_ofMemory_389 : decode cX5_ofMemory 389 = .ok (.goto 40, 3) := by decide +kernel
theorem dX5_ofMemory_392 : decode cX5_ofMemory 392 = .ok (.aload_n 0, 1) := by decide +kernel
theorem dX5_ofMemory_393 : decode cX5_ofMemory 393 = .ok (.iload_n 3, 1) := by decide +kernel
theorem dX5_ofMemory_394 : decode cX5_ofMemory 394 = .ok (.invokevirtual 100, 3) := by decide +kernel
theorem dX5_ofMemory_397 : decode cX5_ofMemory 397 = .ok (.goto 32, 3) := by decide +kernel
theorem dX5_ofMemory_400 : decode cX5_ofMemory 400 = .ok (.aload_n 0, 1) := by decide +kernel
theorem dX5_ofMemory_401 : decode cX5_ofMemory 401 = .ok (.iload_n 3, 1) := by decide +kernel
theorem dX5_ofMemory_402 : decode cX5_ofMemory 402 = .ok (.invokevirtual 103, 3) := by decide +kernel
theorem dX5_ofMemory_405 : decode cX5_ofMemory 405 = .ok (.goto 24, 3) := by decide +kernel
theorem dX5_ofMemory_408 : decode cX5_ofMemory 408 = .ok (.aload_n 0, 1) := by decide +kernel
theorem dX5_ofMemory_409 : decode cX5_ofMemory 409 = .ok (.iload_n 2, 1) := by decide +kernel
theorem dX5_ofMemory_410 : decode cX5_ofMemory 410 = .ok (.putfield 40, 3) := by decide +kernel
theorem dX5_ofMemory_413 : decode cX5_ofMemory 413 = .ok (.goto 16, 3) := by decide +kernel
theorem dX5_ofMemory_416 : decode cX5_ofMemory 416 = .ok (.aload_n 0, 1) := by decide +kernel
theorem dX5_ofMemory_417 : decode cX5_ofMemory 417 = .ok (.aload_n 0, 1) := by decide +kernel
theorem dX5_ofMemory_418 : decode cX5_ofMemory 418 = .ok (.invokevirtual 106, 3) := by decide +kernel
theorem dX5_ofMemory_421 : decode cX5_ofMemory 421 = .ok (.putfield 33, 3) := by decide +kernel
theorem dX5_ofMemory_424 : decode cX5_ofMemory 424 = .ok (.aload_n 0, 1) := by decide +kernel
theorem dX5_ofMemory_425 : decode cX5_ofMemory 425 = .ok (.iload_n 2, 1) := by decide +kernel
theorem dX5_ofMemory_426 : decode cX5_ofMemory 426 = .ok (.putfield 40, 3) := by decide +kernel
theorem dX5_ofMemory_429 : decode cX5_ofMemory 429 = .ok (.return_, 1) := by decide +kernel
theorem dX5_calls_0 : decode cX5_calls 0 = .ok (.aload_n 0, 1) := by decide +kernel
theorem dX5_calls_1 : decode cX5_calls 1 = .ok (.getfield 7, 3) := by decide +kernel
theorem dX5_calls_4 : decode cX5_calls 4 = .ok (.iload_n 1, 1) := by decide +kernel
theorem dX5_calls_5 : decode cX5_calls 5 = .ok (.aload_n 0, 1) := by decide +kernel
theorem dX5_calls_6 : decode cX5_calls 6 = .ok (.getfield 33, 3) := by decide +kernel
theorem dX5_calls_9 : decode cX5_calls 9 = .ok (.iastore, 1) := by decide +kernel
theorem dX5_calls_10 : decode cX5_calls 10 = .ok (.aload_n 0, 1) := by decide +kernel
theorem dX5_calls_11 : decode cX5_calls 11 = .ok (.aload_n 0, 1) := by decide +kernel
theorem dX5_calls_12 : decode cX5_calls 12 = .ok (.invokevirtual 106, 3) := by decide +kernel
theorem dX5_calls_15 : decode cX5_calls 15 = .ok (.putfield 33, 3) := by decide +kernel
theorem dX5_calls_18 : decode cX5_calls 18 = .ok (.aload_n 0, 1) := by decide +kernel
theorem dX5_calls_19 : decode cX5_calls 19 = .ok (.iload_n 1, 1) := by decide +kernel
theorem dX5_calls_20 : decode cX5_calls 20 = .ok (.iconst 1, 1) := by decide +kernel
theorem dX5_calls_21 : decode cX5_calls 21 = .ok (.iadd, 1) := by decide +kernel
theorem dX5_calls_22 : decode cX5_calls 22 = .ok (.sipush 4095, 3) := by decide +kernel
theorem dX5_calls_25 : decode cX5_calls 25 = .ok (.iand, 1) := by decide +kernel
theorem dX5_calls_26 : decode cX5_calls 26 = .ok (.putfield 40, 3) := by decide +kernel
theorem dX5_calls_29 : decode cX5_calls 29 = .ok (.return_, 1) := by decide +kernel
theorem dX5_asksSkip_0 : decode cX5_asksSkip 0 = .ok (.iload_n 1, 1) := by decide +kernel
theorem dX5_asksSkip_1 : decode cX5_asksSkip 1 = .ok (.iconst 3, 1) := by decide +kernel
theorem dX5_asksSkip_2 : decode cX5_asksSkip 2 = .ok (.ishr, 1) := by decide +kernel
theorem dX5_asksSkip_3 : decode cX5_asksSkip 3 = .ok (.bipush 7, 2) := by decide +kernel
theorem dX5_asksSkip_5 : decode cX5_asksSkip 5 = .ok (.iand, 1) := by decide +kernel
theorem dX5_asksSkip_6 : decode cX5_asksSkip 6 = .ok (.istore_n 2, 1) := by decide +kernel
theorem dX5_asksSkip_7 : decode cX5_asksSkip 7 = .ok (.iload_n 1, 1) := by decide +kernel
theorem dX5_asksSkip_8 : decode cX5_asksSkip 8 = .ok (.bipush 7, 2) := by decide +kernel
theorem dX5_asksSkip_10 : decode cX5_asksSkip 10 = .ok (.iand, 1) := by decide +kernel
theorem dX5_asksSkip_11 : decode cX5_asksSkip 11 = .ok (.istore_n 3, 1) := by decide +kernel
theorem dX5_asksSkip_12 : decode cX5_asksSkip 12 = .ok (.iload_n 1, 1) := by decide +kernel
theorem dX5_asksSkip_13 : decode cX5_asksSkip 13 = .ok (.bipush 64, 2) := by decide +kernel
theorem dX5_asksSkip_15 : decode cX5_asksSkip 15 = .ok (.iand, 1) := by decide +kernel
theorem dX5_asksSkip_16 : decode cX5_asksSkip 16 = .ok (.ifCond .le 10, 3) := by decide +kernel
theorem dX5_asksSkip_19 : decode cX5_asksSkip 19 = .ok (.aload_n 0, 1) := by decide +kernel
theorem dX5_asksSkip_20 : decode cX5_asksSkip 20 = .ok (.getfield 33, 3) := by decide +kernel
theorem dX5_asksSkip_23 : decode cX5_asksSkip 23 = .ok (.ifCond .eq 73, 3) := by decide +kernel
theorem dX5_asksSkip_26 : decode cX5_asksSkip 26 = .ok (.iload_n 1, 1) := by decide +kernel
theorem dX5_asksSkip_27 : decode cX5_asksSkip 27 = .ok (.sipush 128, 3) := by decide +kernel
theorem dX5_asksSkip_30 : decode cX5_asksSkip 30 = .ok (.iand, 1) := by decide +kernel
theorem dX5_asksSkip_31 : decode cX5_asksSkip 31 = .ok (.ifCond .le 13, 3) := by decide +kernel
theorem dX5_asksSkip_34 : decode cX5_asksSkip 34 = .ok (.aload_n 0, 1) := by decide +kernel
theorem dX5_asksSkip_35 : decode cX5_asksSkip 35 = .ok (.getfield 33, 3) := by decide +kernel
theorem dX5_asksSkip_38 : decode cX5_asksSkip 38 = .ok (.invokestatic 79, 3) := by decide +kernel
theorem dX5_asksSkip_41 : decode cX5_asksSkip 41 = .ok (.ifCond .eq 55, 3) := by decide +kernel
theorem dX5_asksSkip_44 : decode cX5_asksSkip 44 = .ok (.iload_n 1, 1) := by decide +kernel
theorem dX5_asksSkip_45 : decode cX5_asksSkip 45 = .ok (.sipush 256, 3) := by decide +kernel
theorem dX5_asksSkip_48 : decode cX5_asksSkip 48 = .ok (.iand, 1) := by decide +kernel
theorem dX5_asksSkip_49 : decode cX5_asksSkip 49 = .ok (.ifCond .le 14, 3) := by decide +kernel
theorem dX5_asksSkip_52 : decode cX5_asksSkip 52 = .ok (.aload_n 0, 1) := by decide +kernel
theorem dX5_asksSkip_53 : decode cX5_asksSkip 53 = .ok (.getfield 33, 3) := by decide +kernel
theorem dX5_asksSkip_56 : decode cX5_asksSkip 56 = .ok (.invokestatic 79, 3) := by decide +kernel
theorem dX5_asksSkip_59 : decode cX5_asksSkip 59 = .ok (.iconst 1, 1) := by decide +kernel
theorem dX5_asksSkip_60 : decode cX5_asksSkip 60 = .ok (.if_icmp .eq 36, 3) := by decide +kernel
theorem dX5_asksSkip_63 : decode cX5_asksSkip 63 = .ok (.iload_n 1, 1) := by decide +kernel
theorem dX5_asksSkip_64 : decode cX5_asksSkip 64 = .ok (.sipush 512, 3) := by decide +kernel
theorem dX5_asksSkip_67 : decode cX5_asksSkip 67 = .ok (.iand, 1) := by decide +kernel
theorem dX5_asksSkip_68 : decode cX5_asksSkip 68 = .ok (.ifCond .le 10, 3) := by decide +kernel
theorem dX5_asksSkip_71 : decode cX5_asksSkip 71 = .ok (.aload_n 0, 1) := by decide +kernel
theorem dX5_asksSkip_72 : decode cX5_asksSkip 72 = .ok (.getfield 43, 3) := by decide +kernel
theorem dX5_asksSkip_75 : decode cX5_asksSkip 75 = .ok (.ifCond .eq 21, 3) := by decide +kernel
theorem dX5_asksSkip_78 : decode cX5_asksSkip 78 = .ok (.iload_n 1, 1) := by decide +kernel
theorem dX5_asksSkip_79 : decode cX5_asksSkip 79 = .ok (.sipush 1024, 3) := by decide +kernel
theorem dX5_asksSkip_82 : decode cX5_asksSkip 82 = .ok (.iand, 1) := by decide +kernel
theorem dX5_asksSkip_83 : decode cX5_asksSkip 83 = .ok (.ifCond .le 17, 3) := by decide +kernel
theorem dX5_asksSkip_86 : decode cX5_asksSkip 86 = .ok (.aload_n 0, 1) := by decide +kernel
theorem dX5_asksSkip_87 : decode cX5_asksSkip 87 = .ok (.getfield 37, 3) := by decide +kernel
theorem dX5_asksSkip_90 : decode cX5_asksSkip 90 = .ok (.invokestatic 79, 3) := by decide +kernel
theorem dX5_asksSkip_93 : decode cX5_asksSkip 93 = .ok (.ifCond .ne 7, 3) := by decide +kernel
theorem dX5_asksSkip_96 : decode cX5_asksSkip 96 = .ok (.iconst 1, 1) := by decide +kernel
theorem dX5_asksSkip_97 : decode cX5_asksSkip 97 = .ok (.goto 4, 3) := by decide +kernel
theorem dX5_asksSkip_100 : decode cX5_asksSkip 100 = .ok (.iconst 0, 1) := by decide +kernel
theorem dX5_asksSkip_101 : decode cX5_asksSkip 101 = .ok (.istore 4, 2) := by decide +kernel
theorem dX5_asksSkip_103 : decode cX5_asksSkip 103 = .ok (.iload 4, 2) := by decide +kernel
theorem dX5_asksSkip_105 : decode cX5_asksSkip 105 = .ok (.ifCond .ne 39, 3) := by decide +kernel
theorem dX5_asksSkip_108 : decode cX5_asksSkip 108 = .ok (.iload_n 2, 1) := by decide +kernel
theorem dX5_asksSkip_109 : decode cX5_asksSkip 109 = .ok (.bipush 7, 2) := by decide +kernel
theorem dX5_asksSkip_111 : decode cX5_asksSkip 111 = .ok (.if_icmp .ne 10, 3) := by decide +kernel
theorem dX5_asksSkip_114 : decode cX5_asksSkip 114 = .ok (.aload_n 0, 1) := by decide +kernel
theorem dX5_asksSkip_115 : decode cX5_asksSkip 115 = .ok (.getfield 63, 3) := by decide +kernel
theorem dX5_asksSkip_118 : decode cX5_asksSkip 118 = .ok (.ifCond .eq 26, 3) := by decide +kernel
theorem dX5_asksSkip_121 : decode cX5_asksSkip 121 = .ok (.iload_n 2, 1) := by decide +kernel
theorem dX5_asksSkip_122 : decode cX5_asksSkip 122 = .ok (.ifCond .le 26, 3) := by decide +kernel
theorem dX5_asksSkip_125 : decode cX5_asksSkip 125 = .ok (.iload_n 2, 1) := by decide +kernel
theorem dX5_asksSkip_126 : decode cX5_asksSkip 126 = .ok (.bipush 7, 2) := by decide +kernel
theorem dX5_asksSkip_128 : decode cX5_asksSkip 128 = .ok (.if_icmp .ge 20, 3) := by decide +kernel
theorem dX5_asksSkip_131 : decode cX5_asksSkip 131 = .ok (.aload_n 0, 1) := by decide +kernel
theorem dX5_asksSkip_132 : decode cX5_asksSkip 132 = .ok (.getfield 63, 3) := by decide +kernel
theorem dX5_asksSkip_135 : decode cX5_asksSkip 135 = .ok (.iload_n 2, 1) := by decide +kernel
theorem dX5_asksSkip_136 : decode cX5_asksSkip 136 = .ok (.iconst 1, 1) := by decide +kernel
theorem dX5_asksSkip_137 : decode cX5_asksSkip 137 = .ok (.isub, 1) := by decide +kernel
theorem dX5_asksSkip_138 : decode cX5_asksSkip 138 = .ok (.ishr, 1) := by decide +kernel
theorem dX5_asksSkip_139 : decode cX5_asksSkip 139 = .ok (.iconst 1, 1) := by decide +kernel
theorem dX5_asksSkip_140 : decode cX5_asksSkip 140 = .ok (.iand, 1) := by decide +kernel
theorem dX5_asksSkip_141 : decode cX5_asksSkip 141 = .ok (.ifCond .ne 7, 3) := by decide +kernel
theorem dX5_asksSkip_144 : decode cX5_asksSkip 144 = .ok (.iconst 1, 1) := by decide +kernel
theorem dX5_asksSkip_145 : decode cX5_asksSkip 145 = .ok (.goto 4, 3) := by decide +kernel
theorem dX5_asksSkip_148 : decode cX5_asksSkip 148 = .ok (.iconst 0, 1) := by decide +kernel
theorem dX5_asksSkip_149 : decode cX5_asksSkip 149 = .ok (.istore 4, 2) := by decide +kernel
theorem dX5_asksSkip_151 : decode cX5_asksSkip 151 = .ok (.iload 4, 2) := by decide +kernel
theorem dX5_asksSkip_153 : decode cX5_asksSkip 153 = .ok (.ifCond .ne 39, 3) := by decide +kernel
theorem dX5_asksSkip_156 : decode cX5_asksSkip 156 = .ok (.iload_n 3, 1) := by decide +kernel
theorem dX5_asksSkip_157 : decode cX5_asksSkip 157 = .ok (.bipush 7, 2) := by decide +kernel
theorem dX5_asksSkip_159 : decode cX5_asksSkip 159 = .ok (.if_icmp .ne 10, 3) := by decide +kernel
theorem dX5_asksSkip_162 : decode cX5_asksSkip 162 = .ok (.aload_n 0, 1) := by decide +kernel
theorem dX5_asksSkip_163 : decode cX5_asksSkip 163 = .ok (.getfield 46, 3) := by decide +kernel
theorem dX5_asksSkip_166 : decode cX5_asksSkip 166 = .ok (.ifCond .eq 26, 3) := by decide +kernel
theorem dX5_asksSkip_169 : decode cX5_asksSkip 169 = .ok (.iload_n 3, 1) := by decide +kernel
theorem dX5_asksSkip_170 : decode cX5_asksSkip 170 = .ok (.ifCond .le 26, 3) := by decide +kernel
theorem dX5_asksSkip_173 : decode cX5_asksSkip 173 = .ok (.iload_n 3, 1) := by decide +kernel
theorem dX5_asksSkip_174 : decode cX5_asksSkip 174 = .ok (.bipush 7, 2) := by decide +kernel
theorem dX5_asksSkip_176 : decode cX5_asksSkip 176 = .ok (.if_icmp .ge 20, 3) := by decide +kernel
theorem dX5_asksSkip_179 : decode cX5_asksSkip 179 = .ok (.aload_n 0, 1) := by decide +kernel
theorem dX5_asksSkip_180 : decode cX5_asksSkip 180 = .ok (.getfield 46, 3) := by decide +kernel
theorem dX5_asksSkip_183 : decode cX5_asksSkip 183 = .ok (.iload_n 3, 1) := by decide +kernel
theorem dX5_asksSkip_184 : decode cX5_asksSkip 184 = .ok (.iconst 1, 1) := by decide +kernel
theorem dX5_asksSkip_185 : decode cX5_asksSkip 185 = .ok (.isub, 1) := by decide +kernel
theorem dX5_asksSkip_186 : decode cX5_asksSkip 186 = .ok (.ishr, 1) := by decide +kernel
theorem dX5_asksSkip_187 : decode cX5_asksSkip 187 = .ok (.iconst 1, 1) := by decide +kernel
theorem dX5_asksSkip_188 : decode cX5_asksSkip 188 = .ok (.iand, 1) := by decide +kernel
theorem dX5_asksSkip_189 : decode cX5_asksSkip 189 = .ok (.ifCond .ne 7, 3) := by decide +kernel
theorem dX5_asksSkip_192 : decode cX5_asksSkip 192 = .ok (.iconst 1, 1) := by decide +kernel
theorem dX5_asksSkip_193 : decode cX5_asksSkip 193 = .ok (.goto 4, 3) := by decide +kernel
theorem dX5_asksSkip_196 : decode cX5_asksSkip 196 = .ok (.iconst 0, 1) := by decide +kernel
theorem dX5_asksSkip_197 : decode cX5_asksSkip 197 = .ok (.istore 4, 2) := by decide +kernel
theorem dX5_asksSkip_199 : decode cX5_asksSkip 199 = .ok (.aload_n 0, 1) := by decide +kernel
theorem dX5_asksSkip_200 : decode cX5_asksSkip 200 = .ok (.iload_n 1, 1) := by decide +kernel
theorem dX5_asksSkip_201 : decode cX5_asksSkip 201 = .ok (.sipush 512, 3) := by decide +kernel
theorem dX5_asksSkip_204 : decode cX5_asksSkip 204 = .ok (.iand, 1) := by decide +kernel
theorem dX5_asksSkip_205 : decode cX5_asksSkip 205 = .ok (.ifCond .le 7, 3) := by decide +kernel
theorem dX5_asksSkip_208 : decode cX5_asksSkip 208 = .ok (.iconst 0, 1) := by decide +kernel
theorem dX5_asksSkip_209 : decode cX5_asksSkip 209 = .ok (.goto 7, 3) := by decide +kernel
theorem dX5_asksSkip_212 : decode cX5_asksSkip 212 = .ok (.aload_n 0, 1) := by decide +kernel
theorem dX5_asksSkip_213 : decode cX5_asksSkip 213 = .ok (.getfield 43, 3) := by decide +kernel
theorem dX5_asksSkip_216 : decode cX5_asksSkip 216 = .ok (.putfield 43, 3) := by decide +kernel
theorem dX5_asksSkip_219 : decode cX5_asksSkip 219 = .ok (.aload_n 0, 1) := by decide +kernel
theorem dX5_asksSkip_220 : decode cX5_asksSkip 220 = .ok (.iload 4, 2) := by decide +kernel
theorem dX5_asksSkip_222 : decode cX5_asksSkip 222 = .ok (.iload_n 1, 1) := by decide +kernel
theorem dX5_asksSkip_223 : decode cX5_asksSkip 223 = .ok (.bipush 12, 2) := by decide +kernel
theorem dX5_asksSkip_225 : decode cX5_asksSkip 225 = .ok (.ishr, 1) := by decide +kernel
theorem dX5_asksSkip_226 : decode cX5_asksSkip 226 = .ok (.iconst 1, 1) := by decide +kernel
theorem dX5_asksSkip_227 : decode cX5_asksSkip 227 = .ok (.iand, 1) := by decide +kernel
theorem dX5_asksSkip_228 : decode cX5_asksSkip 228 = .ok (.iconst 1, 1) := by decide +kernel
theorem dX5_asksSkip_229 : decode cX5_asksSkip 229 = .ok (.if_icmp .ne 7, 3) := by decide +kernel
theorem dX5_asksSkip_232 : decode cX5_asksSkip 232 = .ok (.iconst 1, 1) := by decide +kernel
theorem dX5_asksSkip_233 : decode cX5_asksSkip 233 = .ok (.goto 4, 3) := by decide +kernel
theorem dX5_asksSkip_236 : decode cX5_asksSkip 236 = .ok (.iconst 0, 1) := by decide +kernel
theorem dX5_asksSkip_237 : decode cX5_asksSkip 237 = .ok (.if_icmp .eq 7, 3) := by decide +kernel
theorem dX5_asksSkip_240 : decode cX5_asksSkip 240 = .ok (.iconst 1, 1) := by decide +kernel
theorem dX5_asksSkip_241 : decode cX5_asksSkip 241 = .ok (.goto 4, 3) := by decide +kernel
theorem dX5_asksSkip_244 : decode cX5_asksSkip 244 = .ok (.iconst 0, 1) := by decide +kernel
theorem dX5_asksSkip_245 : decode cX5_asksSkip 245 = .ok (.invokevirtual 96, 3) := by decide +kernel
theorem dX5_asksSkip_248 : decode cX5_asksSkip 248 = .ok (.return_, 1) := by decide +kernel
theorem dX5_moved_0 : decode cX5_moved 0 = .ok (.lload_n 0, 1) := by decide +kernel
theorem dX5_moved_1 : decode cX5_moved 1 = .ok (.iload_n 2, 1) := by decide +kernel
theorem dX5_moved_2 : decode cX5_moved 2 = .ok (.iconst 1, 1) := by decide +kernel
theorem dX5_moved_3 : decode cX5_moved 3 = .ok (.isub, 1) := by decide +kernel
theorem dX5_moved_4 : decode cX5_moved 4 = .ok (.lshr, 1) := by decide +kernel
theorem dX5_moved_5 : decode cX5_moved 5 = .ok (.lconst 1, 1) := by decide +kernel
theorem dX5_moved_6 : decode cX5_moved 6 = .ok (.land, 1) := by decide +kernel
theorem dX5_moved_7 : decode cX5_moved 7 = .ok (.lstore 4, 2) := by decide +kernel
theorem dX5_moved_9 : decode cX5_moved 9 = .ok (.lconst 1, 1) := by decide +kernel
theorem dX5_moved_10 : decode cX5_moved 10 = .ok (.iload_n 2, 1) := by decide +kernel
theorem dX5_moved_11 : decode cX5_moved 11 = .ok (.lshl, 1) := by decide +kernel
theorem dX5_moved_12 : decode cX5_moved 12 = .ok (.lconst 1, 1) := by decide +kernel
theorem dX5_moved_13 : decode cX5_moved 13 = .ok (.lsub, 1) := by decide +kernel
theorem dX5_moved_14 : decode cX5_moved 14 = .ok (.lstore 6, 2) := by decide +kernel
theorem dX5_moved_16 : decode cX5_moved 16 = .ok (.lconst 1, 1) := by decide +kernel
theorem dX5_moved_17 : decode cX5_moved 17 = .ok (.iload_n 2, 1) := by decide +kernel
theorem dX5_moved_18 : decode cX5_moved 18 = .ok (.iconst 1, 1) := by decide +kernel
theorem dX5_moved_19 : decode cX5_moved 19 = .ok (.isub, 1) := by decide +kernel
theorem dX5_moved_20 : decode cX5_moved 20 = .ok (.lshl, 1) := by decide +kernel
theorem dX5_moved_21 : decode cX5_moved 21 = .ok (.lstore 8, 2) := by decide +kernel
theorem dX5_moved_23 : decode cX5_moved 23 = .ok (.iload_n 3, 1) := by decide +kernel
theorem dX5_moved_24 : decode cX5_moved 24 = .ok (.tableswitch 72 0 2 #[28, 38, 61], 28) := by decide +kernel
theorem dX5_moved_52 : decode cX5_moved 52 = .ok (.lload_n 0, 1) := by decide +kernel
theorem dX5_moved_53 : decode cX5_moved 53 = .ok (.iconst 1, 1) := by decide +kernel
theorem dX5_moved_54 : decode cX5_moved 54 = .ok (.lshl, 1) := by decide +kernel
theorem dX5_moved_55 : decode cX5_moved 55 = .ok (.lload 6, 2) := by decide +kernel
theorem dX5_moved_57 : decode cX5_moved 57 = .ok (.land, 1) := by decide +kernel
theorem dX5_moved_58 : decode cX5_moved 58 = .ok (.lload 4, 2) := by decide +kernel
theorem dX5_moved_60 : decode cX5_moved 60 = .ok (.lor, 1) := by decide +kernel
theorem dX5_moved_61 : decode cX5_moved 61 = .ok (.lreturn, 1) := by decide +kernel
theorem dX5_moved_62 : decode cX5_moved 62 = .ok (.lload 4, 2) := by decide +kernel
theorem dX5_moved_64 : decode cX5_moved 64 = .ok (.lload 8, 2) := by decide +kernel
theorem dX5_moved_66 : decode cX5_moved 66 = .ok (.lmul, 1) := by decide +kernel
theorem dX5_moved_67 : decode cX5_moved 67 = .ok (.lload_n 0, 1) := by decide +kernel
theorem dX5_moved_68 : decode cX5_moved 68 = .ok (.iconst 1, 1) := by decide +kernel
theorem dX5_moved_69 : decode cX5_moved 69 = .ok (.lshl, 1) := by decide +kernel
theorem dX5_moved_70 : decode cX5_moved 70 = .ok (.lload 6, 2) := by decide +kernel
theorem dX5_moved_72 : decode cX5_moved 72 = .ok (.land, 1) := by decide +kernel
theorem dX5_moved_73 : decode cX5_moved 73 = .ok (.lload 8, 2) := by decide +kernel
theorem dX5_moved_75 : decode cX5_moved 75 = .ok (.ldc2_w 110, 3) := by decide +kernel
theorem dX5_moved_78 : decode cX5_moved 78 = .ok (.lxor, 1) := by decide +kernel
theorem dX5_moved_79 : decode cX5_moved 79 = .ok (.land, 1) := by decide +kernel
theorem dX5_moved_80 : decode cX5_moved 80 = .ok (.lor, 1) := by decide +kernel
theorem dX5_moved_81 : decode cX5_moved 81 = .ok (.lload 4, 2) := by decide +kernel
theorem dX5_moved_83 : decode cX5_moved 83 = .ok (.lor, 1) := by decide +kernel
theorem dX5_moved_84 : decode cX5_moved 84 = .ok (.lreturn, 1) := by decide +kernel
theorem dX5_moved_85 : decode cX5_moved 85 = .ok (.lload_n 0, 1) := by decide +kernel
theorem dX5_moved_86 : decode cX5_moved 86 = .ok (.iconst 1, 1) := by decide +kernel
theorem dX5_moved_87 : decode cX5_moved 87 = .ok (.lshr, 1) := by decide +kernel
theorem dX5_moved_88 : decode cX5_moved 88 = .ok (.lload_n 0, 1) := by decide +kernel
theorem dX5_moved_89 : decode cX5_moved 89 = .ok (.lconst 1, 1) := by decide +kernel
theorem dX5_moved_90 : decode cX5_moved 90 = .ok (.land, 1) := by decide +kernel
theorem dX5_moved_91 : decode cX5_moved 91 = .ok (.lload 8, 2) := by decide +kernel
theorem dX5_moved_93 : decode cX5_moved 93 = .ok (.lmul, 1) := by decide +kernel
theorem dX5_moved_94 : decode cX5_moved 94 = .ok (.lor, 1) := by decide +kernel
theorem dX5_moved_95 : decode cX5_moved 95 = .ok (.lreturn, 1) := by decide +kernel
theorem dX5_moved_96 : decode cX5_moved 96 = .ok (.lload_n 0, 1) := by decide +kernel
theorem dX5_moved_97 : decode cX5_moved 97 = .ok (.iconst 1, 1) := by decide +kernel
theorem dX5_moved_98 : decode cX5_moved 98 = .ok (.lshr, 1) := by decide +kernel
theorem dX5_moved_99 : decode cX5_moved 99 = .ok (.lload 4, 2) := by decide +kernel
theorem dX5_moved_101 : decode cX5_moved 101 = .ok (.lload 8, 2) := by decide +kernel
theorem dX5_moved_103 : decode cX5_moved 103 = .ok (.lmul, 1) := by decide +kernel
theorem dX5_moved_104 : decode cX5_moved 104 = .ok (.lor, 1) := by decide +kernel
theorem dX5_moved_105 : decode cX5_moved 105 = .ok (.lreturn, 1) := by decide +kernel
end
section
theorem dX5_shifts_0 : decode cX5_shifts 0 = .ok (.iload_n 1, 1) := by decide +kernel
theorem dX5_shifts_1 : decode cX5_shifts 1 = .ok (.bipush 11, 2) := by decide +kernel
theorem dX5_shifts_3 : decode cX5_shifts 3 = .ok (.ishr, 1) := by decide +kernel
theorem dX5_shifts_4 : decode cX5_shifts 4 = .ok (.iconst 3, 1) := by decide +kernel
theorem dX5_shifts_5 : decode cX5_shifts 5 = .ok (.iand, 1) := by decide +kernel
theorem dX5_shifts_6 : decode cX5_shifts 6 = .ok (.istore_n 2, 1) := by decide +kernel
theorem dX5_shifts_7 : decode cX5_shifts 7 = .ok (.iload_n 1, 1) := by decide +kernel
theorem dX5_shifts_8 : decode cX5_shifts 8 = .ok (.bipush 9, 2) := by decide +kernel
theorem dX5_shifts_10 : decode cX5_shifts 10 = .ok (.ishr, 1) := by decide +kernel
theorem dX5_shifts_11 : decode cX5_shifts 11 = .ok (.iconst 3, 1) := by decide +kernel
theorem dX5_shifts_12 : decode cX5_shifts 12 = .ok (.iand, 1) := by decide +kernel
theorem dX5_shifts_13 : decode cX5_shifts 13 = .ok (.istore_n 3, 1) := by decide +kernel
theorem dX5_shifts_14 : decode cX5_shifts 14 = .ok (.iload_n 1, 1) := by decide +kernel
theorem dX5_shifts_15 : decode cX5_shifts 15 = .ok (.sipush 511, 3) := by decide +kernel
theorem dX5_shifts_18 : decode cX5_shifts 18 = .ok (.iand, 1) := by decide +kernel
theorem dX5_shifts_19 : decode cX5_shifts 19 = .ok (.invokestatic 112, 3) := by decide +kernel
theorem dX5_shifts_22 : decode cX5_shifts 22 = .ok (.istore 4, 2) := by decide +kernel
theorem dX5_shifts_24 : decode cX5_shifts 24 = .ok (.iload 4, 2) := by decide +kernel
theorem dX5_shifts_26 : decode cX5_shifts 26 = .ok (.ifCond .le 100, 3) := by decide +kernel
theorem dX5_shifts_29 : decode cX5_shifts 29 = .ok (.iload_n 3, 1) := by decide +kernel
theorem dX5_shifts_30 : decode cX5_shifts 30 = .ok (.iconst 1, 1) := by decide +kernel
theorem dX5_shifts_31 : decode cX5_shifts 31 = .ok (.if_icmp .ne 22, 3) := by decide +kernel
theorem dX5_shifts_34 : decode cX5_shifts 34 = .ok (.aload_n 0, 1) := by decide +kernel
theorem dX5_shifts_35 : decode cX5_shifts 35 = .ok (.aload_n 0, 1) := by decide +kernel
theorem dX5_shifts_36 : decode cX5_shifts 36 = .ok (.getfield 33, 3) := by decide +kernel
theorem dX5_shifts_39 : decode cX5_shifts 39 = .ok (.i2l, 1) := by decide +kernel
theorem dX5_shifts_40 : decode cX5_shifts 40 = .ok (.bipush 18, 2) := by decide +kernel
theorem dX5_shifts_42 : decode cX5_shifts 42 = .ok (.iload_n 2, 1) := by decide +kernel
theorem dX5_shifts_43 : decode cX5_shifts 43 = .ok (.invokestatic 115, 3) := by decide +kernel
theorem dX5_shifts_46 : decode cX5_shifts 46 = .ok (.l2i, 1) := by decide +kernel
theorem dX5_shifts_47 : decode cX5_shifts 47 = .ok (.putfield 33, 3) := by decide +kernel
theorem dX5_shifts_50 : decode cX5_shifts 50 = .ok (.goto 70, 3) := by decide +kernel
theorem dX5_shifts_53 : decode cX5_shifts 53 = .ok (.iload_n 3, 1) := by decide +kernel
theorem dX5_shifts_54 : decode cX5_shifts 54 = .ok (.iconst 2, 1) := by decide +kernel
theorem dX5_shifts_55 : decode cX5_shifts 55 = .ok (.if_icmp .ne 22, 3) := by decide +kernel
theorem dX5_shifts_58 : decode cX5_shifts 58 = .ok (.aload_n 0, 1) := by decide +kernel
theorem dX5_shifts_59 : decode cX5_shifts 59 = .ok (.aload_n 0, 1) := by decide +kernel
theorem dX5_shifts_60 : decode cX5_shifts 60 = .ok (.getfield 37, 3) := by decide +kernel
theorem dX5_shifts_63 : decode cX5_shifts 63 = .ok (.i2l, 1) := by decide +kernel
theorem dX5_shifts_64 : decode cX5_shifts 64 = .ok (.bipush 18, 2) := by decide +kernel
theorem dX5_shifts_66 : decode cX5_shifts 66 = .ok (.iload_n 2, 1) := by decide +kernel
theorem dX5_shifts_67 : decode cX5_shifts 67 = .ok (.invokestatic 115, 3) := by decide +kernel
theorem dX5_shifts_70 : decode cX5_shifts 70 = .ok (.l2i, 1) := by decide +kernel
theorem dX5_shifts_71 : decode cX5_shifts 71 = .ok (.putfield 37, 3) := by decide +kernel
theorem dX5_shifts_74 : decode cX5_shifts 74 = .ok (.goto 46, 3) := by decide +kernel
theorem dX5_shifts_77 : decode cX5_shifts 77 = .ok (.aload_n 0, 1) := by decide +kernel
theorem dX5_shifts_78 : decode cX5_shifts 78 = .ok (.getfield 33, 3) := by decide +kernel
theorem dX5_shifts_81 : decode cX5_shifts 81 = .ok (.i2l, 1) := by decide +kernel
theorem dX5_shifts_82 : decode cX5_shifts 82 = .ok (.bipush 18, 2) := by decide +kernel
theorem dX5_shifts_84 : decode cX5_shifts 84 = .ok (.lshl, 1) := by decide +kernel
theorem dX5_shifts_85 : decode cX5_shifts 85 = .ok (.aload_n 0, 1) := by decide +kernel
theorem dX5_shifts_86 : decode cX5_shifts 86 = .ok (.getfield 37, 3) := by decide +kernel
theorem dX5_shifts_89 : decode cX5_shifts 89 = .ok (.i2l, 1) := by decide +kernel
theorem dX5_shifts_90 : decode cX5_shifts 90 = .ok (.lor, 1) := by decide +kernel
theorem dX5_shifts_91 : decode cX5_shifts 91 = .ok (.bipush 36, 2) := by decide +kernel
theorem dX5_shifts_93 : decode cX5_shifts 93 = .ok (.iload_n 2, 1) := by decide +kernel
theorem dX5_shifts_94 : decode cX5_shifts 94 = .ok (.invokestatic 115, 3) := by decide +kernel
theorem dX5_shifts_97 : decode cX5_shifts 97 = .ok (.lstore 5, 2) := by decide +kernel
theorem dX5_shifts_99 : decode cX5_shifts 99 = .ok (.aload_n 0, 1) := by decide +kernel
theorem dX5_shifts_100 : decode cX5_shifts 100 = .ok (.lload 5, 2) := by decide +kernel
theorem dX5_shifts_102 : decode cX5_shifts 102 = .ok (.bipush 18, 2) := by decide +kernel
theorem dX5_shifts_104 : decode cX5_shifts 104 = .ok (.lshr, 1) := by decide +kernel
theorem dX5_shifts_105 : decode cX5_shifts 105 = .ok (.l2i, 1) := by decide +kernel
theorem dX5_shifts_106 : decode cX5_shifts 106 = .ok (.putfield 33, 3) := by decide +kernel
theorem dX5_shifts_109 : decode cX5_shifts 109 = .ok (.aload_n 0, 1) := by decide +kernel
theorem dX5_shifts_110 : decode cX5_shifts 110 = .ok (.lload 5, 2) := by decide +kernel
theorem dX5_shifts_112 : decode cX5_shifts 112 = .ok (.ldc2_w 119, 3) := by decide +kernel
theorem dX5_shifts_115 : decode cX5_shifts 115 = .ok (.land, 1) := by decide +kernel
theorem dX5_shifts_116 : decode cX5_shifts 116 = .ok (.l2i, 1) := by decide +kernel
theorem dX5_shifts_117 : decode cX5_shifts 117 = .ok (.putfield 37, 3) := by decide +kernel
theorem dX5_shifts_120 : decode cX5_shifts 120 = .ok (.iinc 4 (-1), 3) := by decide +kernel
theorem dX5_shifts_123 : decode cX5_shifts 123 = .ok (.goto (-99), 3) := by decide +kernel
theorem dX5_shifts_126 : decode cX5_shifts 126 = .ok (.return_, 1) := by decide +kernel
theorem dX5_transfers_0 : decode cX5_transfers 0 = .ok (.iload_n 1, 1) := by decide +kernel
theorem dX5_transfers_1 : decode cX5_transfers 1 = .ok (.bipush 63, 2) := by decide +kernel
theorem dX5_transfers_3 : decode cX5_transfers 3 = .ok (.iand, 1) := by decide +kernel
theorem dX5_transfers_4 : decode cX5_transfers 4 = .ok (.lookupswitch 252 #[(3, 121), (4, 172), (7, 60), (44, 228), (45, 236), (46, 244)], 60) := by decide +kernel
theorem dX5_transfers_64 : decode cX5_transfers 64 = .ok (.aload_n 0, 1) := by decide +kernel
theorem dX5_transfers_65 : decode cX5_transfers 65 = .ok (.getfield 19, 3) := by decide +kernel
theorem dX5_transfers_68 : decode cX5_transfers 68 = .ok (.aload_n 0, 1) := by decide +kernel
theorem dX5_transfers_69 : decode cX5_transfers 69 = .ok (.getfield 121, 3) := by decide +kernel
theorem dX5_transfers_72 : decode cX5_transfers 72 = .ok (.bipush 64, 2) := by decide +kernel
theorem dX5_transfers_74 : decode cX5_transfers 74 = .ok (.irem, 1) := by decide +kernel
theorem dX5_transfers_75 : decode cX5_transfers 75 = .ok (.aload_n 0, 1) := by decide +kernel
theorem dX5_transfers_76 : decode cX5_transfers 76 = .ok (.getfield 33, 3) := by decide +kernel
theorem dX5_transfers_79 : decode cX5_transfers 79 = .ok (.bipush 8, 2) := by decide +kernel
theorem dX5_transfers_81 : decode cX5_transfers 81 = .ok (.ishr, 1) := by decide +kernel
theorem dX5_transfers_82 : decode cX5_transfers 82 = .ok (.iastore, 1) := by decide +kernel
theorem dX5_transfers_83 : decode cX5_transfers 83 = .ok (.aload_n 0, 1) := by decide +kernel
theorem dX5_transfers_84 : decode cX5_transfers 84 = .ok (.getfield 22, 3) := by decide +kernel
theorem dX5_transfers_87 : decode cX5_transfers 87 = .ok (.aload_n 0, 1) := by decide +kernel
theorem dX5_transfers_88 : decode cX5_transfers 88 = .ok (.getfield 121, 3) := by decide +kernel
theorem dX5_transfers_91 : decode cX5_transfers 91 = .ok (.bipush 64, 2) := by decide +kernel
theorem dX5_transfers_93 : decode cX5_transfers 93 = .ok (.irem, 1) := by decide +kernel
theorem dX5_transfers_94 : decode cX5_transfers 94 = .ok (.aload_n 0, 1) := by decide +kernel
theorem dX5_transfers_95 : decode cX5_transfers 95 = .ok (.getfield 37, 3) := by decide +kernel
theorem dX5_transfers_98 : decode cX5_transfers 98 = .ok (.bipush 8, 2) := by decide +kernel
theorem dX5_transfers_100 : decode cX5_transfers 100 = .ok (.ishr, 1) := by decide +kernel
theorem dX5_transfers_101 : decode cX5_transfers 101 = .ok (.iastore, 1) := by decide +kernel
theorem dX5_transfers_102 : decode cX5_transfers 102 = .ok (.aload_n 0, 1) := by decide +kernel
theorem dX5_transfers_103 : decode cX5_transfers 103 = .ok (.dup, 1) := by decide +kernel
theorem dX5_transfers_104 : decode cX5_transfers 104 = .ok (.getfield 121, 3) := by decide +kernel
theorem dX5_transfers_107 : decode cX5_transfers 107 = .ok (.iconst 1, 1) := by decide +kernel
theorem dX5_transfers_108 : decode cX5_transfers 108 = .ok (.iadd, 1) := by decide +kernel
theorem dX5_transfers_109 : decode cX5_transfers 109 = .ok (.putfield 121, 3) := by decide +kernel
theorem dX5_transfers_112 : decode cX5_transfers 112 = .ok (.aload_n 0, 1) := by decide +kernel
theorem dX5_transfers_113 : decode cX5_transfers 113 = .ok (.getfield 25, 3) := by decide +kernel
theorem dX5_transfers_116 : decode cX5_transfers 116 = .ok (.iconst 3, 1) := by decide +kernel
theorem dX5_transfers_117 : decode cX5_transfers 117 = .ok (.dup2, 1) := by decide +kernel
theorem dX5_transfers_118 : decode cX5_transfers 118 = .ok (.iaload, 1) := by decide +kernel
theorem dX5_transfers_119 : decode cX5_transfers 119 = .ok (.iconst 1, 1) := by decide +kernel
theorem dX5_transfers_120 : decode cX5_transfers 120 = .ok (.iadd, 1) := by decide +kernel
theorem dX5_transfers_121 : decode cX5_transfers 121 = .ok (.iastore, 1) := by decide +kernel
theorem dX5_transfers_122 : decode cX5_transfers 122 = .ok (.goto 134, 3) := by decide +kernel
theorem dX5_transfers_125 : decode cX5_transfers 125 = .ok (.aload_n 0, 1) := by decide +kernel
theorem dX5_transfers_126 : decode cX5_transfers 126 = .ok (.getfield 124, 3) := by decide +kernel
theorem dX5_transfers_129 : decode cX5_transfers 129 = .ok (.bipush 64, 2) := by decide +kernel
theorem dX5_transfers_131 : decode cX5_transfers 131 = .ok (.if_icmp .ne 16, 3) := by decide +kernel
theorem dX5_transfers_134 : decode cX5_transfers 134 = .ok (.aload_n 0, 1) := by decide +kernel
theorem dX5_transfers_135 : decode cX5_transfers 135 = .ok (.dup, 1) := by decide +kernel
theorem dX5_transfers_136 : decode cX5_transfers 136 = .ok (.getfield 127, 3) := by decide +kernel
theorem dX5_transfers_139 : decode cX5_transfers 139 = .ok (.iconst 1, 1) := by decide +kernel
theorem dX5_transfers_140 : decode cX5_transfers 140 = .ok (.iadd, 1) := by decide +kernel
theorem dX5_transfers_141 : decode cX5_transfers 141 = .ok (.putfield 127, 3) := by decide +kernel
theorem dX5_transfers_144 : decode cX5_transfers 144 = .ok (.goto 112, 3) := by decide +kernel
theorem dX5_transfers_147 : decode cX5_transfers 147 = .ok (.aload_n 0, 1) := by decide +kernel
theorem dX5_transfers_148 : decode cX5_transfers 148 = .ok (.getfield 16, 3) := by decide +kernel
theorem dX5_transfers_151 : decode cX5_transfers 151 = .ok (.aload_n 0, 1) := by decide +kernel
theorem dX5_transfers_152 : decode cX5_transfers 152 = .ok (.getfield 124, 3) := by decide +kernel
theorem dX5_transfers_155 : decode cX5_transfers 155 = .ok (.aload_n 0, 1) := by decide +kernel
theorem dX5_transfers_156 : decode cX5_transfers 156 = .ok (.getfield 37, 3) := by decide +kernel
theorem dX5_transfers_159 : decode cX5_transfers 159 = .ok (.bipush 63, 2) := by decide +kernel
theorem dX5_transfers_161 : decode cX5_transfers 161 = .ok (.iand, 1) := by decide +kernel
theorem dX5_transfers_162 : decode cX5_transfers 162 = .ok (.iastore, 1) := by decide +kernel
theorem dX5_transfers_163 : decode cX5_transfers 163 = .ok (.aload_n 0, 1) := by decide +kernel
theorem dX5_transfers_164 : decode cX5_transfers 164 = .ok (.dup, 1) := by decide +kernel
theorem dX5_transfers_165 : decode cX5_transfers 165 = .ok (.getfield 124, 3) := by decide +kernel
theorem dX5_transfers_168 : decode cX5_transfers 168 = .ok (.iconst 1, 1) := by decide +kernel
theorem dX5_transfers_169 : decode cX5_transfers 169 = .ok (.iadd, 1) := by decide +kernel
theorem dX5_transfers_170 : decode cX5_transfers 170 = .ok (.putfield 124, 3) := by decide +kernel
theorem dX5_transfers_173 : decode cX5_transfers 173 = .ok (.goto 83, 3) := by decide +kernel
theorem dX5_transfers_176 : decode cX5_transfers 176 = .ok (.aload_n 0, 1) := by decide +kernel
theorem dX5_transfers_177 : decode cX5_transfers 177 = .ok (.aload_n 0, 1) := by decide +kernel
theorem dX5_transfers_178 : decode cX5_transfers 178 = .ok (.getfield 72, 3) := by decide +kernel
theorem dX5_transfers_181 : decode cX5_transfers 181 = .ok (.aload_n 0, 1) := by decide +kernel
theorem dX5_transfers_182 : decode cX5_transfers 182 = .ok (.getfield 69, 3) := by decide +kernel
theorem dX5_transfers_185 : decode cX5_transfers 185 = .ok (.if_icmp .ge 15, 3) := by decide +kernel
theorem dX5_transfers_188 : decode cX5_transfers 188 = .ok (.aload_n 0, 1) := by decide +kernel
theorem dX5_transfers_189 : decode cX5_transfers 189 = .ok (.getfield 13, 3) := by decide +kernel
theorem dX5_transfers_192 : decode cX5_transfers 192 = .ok (.aload_n 0, 1) := by decide +kernel
theorem dX5_transfers_193 : decode cX5_transfers 193 = .ok (.getfield 72, 3) := by decide +kernel
theorem dX5_transfers_196 : decode cX5_transfers 196 = .ok (.iaload, 1) := by decide +kernel
theorem dX5_transfers_197 : decode cX5_transfers 197 = .ok (.goto 4, 3) := by decide +kernel
theorem dX5_transfers_200 : decode cX5_transfers 200 = .ok (.iconst 0, 1) := by decide +kernel
theorem dX5_transfers_201 : decode cX5_transfers 201 = .ok (.putfield 37, 3) := by decide +kernel
theorem dX5_transfers_204 : decode cX5_transfers 204 = .ok (.aload_n 0, 1) := by decide +kernel
theorem dX5_transfers_205 : decode cX5_transfers 205 = .ok (.dup, 1) := by decide +kernel
theorem dX5_transfers_206 : decode cX5_transfers 206 = .ok (.getfield 72, 3) := by decide +kernel
theorem dX5_transfers_209 : decode cX5_transfers 209 = .ok (.aload_n 0, 1) := by decide +kernel
theorem dX5_transfers_210 : decode cX5_transfers 210 = .ok (.getfield 72, 3) := by decide +kernel
theorem dX5_transfers_213 : decode cX5_transfers 213 = .ok (.aload_n 0, 1) := by decide +kernel
theorem dX5_transfers_214 : decode cX5_transfers 214 = .ok (.getfield 69, 3) := by decide +kernel
theorem dX5_transfers_217 : decode cX5_transfers 217 = .ok (.if_icmp .ge 7, 3) := by decide +kernel
theorem dX5_transfers_220 : decode cX5_transfers 220 = .ok (.iconst 1, 1) := by decide +kernel
theorem dX5_transfers_221 : decode cX5_transfers 221 = .ok (.goto 4, 3) := by decide +kernel
theorem dX5_transfers_224 : decode cX5_transfers 224 = .ok (.iconst 0, 1) := by decide +kernel
theorem dX5_transfers_225 : decode cX5_transfers 225 = .ok (.iadd, 1) := by decide +kernel
theorem dX5_transfers_226 : decode cX5_transfers 226 = .ok (.putfield 72, 3) := by decide +kernel
theorem dX5_transfers_229 : decode cX5_transfers 229 = .ok (.goto 27, 3) := by decide +kernel
theorem dX5_transfers_232 : decode cX5_transfers 232 = .ok (.aload_n 0, 1) := by decide +kernel
theorem dX5_transfers_233 : decode cX5_transfers 233 = .ok (.iconst 0, 1) := by decide +kernel
theorem dX5_transfers_234 : decode cX5_transfers 234 = .ok (.putfield 49, 3) := by decide +kernel
theorem dX5_transfers_237 : decode cX5_transfers 237 = .ok (.goto 19, 3) := by decide +kernel
theorem dX5_transfers_240 : decode cX5_transfers 240 = .ok (.aload_n 0, 1) := by decide +kernel
theorem dX5_transfers_241 : decode cX5_transfers 241 = .ok (.iconst 1, 1) := by decide +kernel
theorem dX5_transfers_242 : decode cX5_transfers 242 = .ok (.putfield 49, 3) := by decide +kernel
theorem dX5_transfers_245 : decode cX5_transfers 245 = .ok (.goto 11, 3) := by decide +kernel
theorem dX5_transfers_248 : decode cX5_transfers 248 = .ok (.aload_n 0, 1) := by decide +kernel
theorem dX5_transfers_249 : decode cX5_transfers 249 = .ok (.iconst 0, 1) := by decide +kernel
theorem dX5_transfers_250 : decode cX5_transfers 250 = .ok (.putfield 53, 3) := by decide +kernel
theorem dX5_transfers_253 : decode cX5_transfers 253 = .ok (.goto 3, 3) := by decide +kernel
theorem dX5_transfers_256 : decode cX5_transfers 256 = .ok (.return_, 1) := by decide +kernel
theorem dX5_operates_0 : decode cX5_operates 0 = .ok (.aload_n 0, 1) := by decide +kernel
theorem dX5_operates_1 : decode cX5_operates 1 = .ok (.iload_n 1, 1) := by decide +kernel
theorem dX5_operates_2 : decode cX5_operates 2 = .ok (.sipush 128, 3) := by decide +kernel
theorem dX5_operates_5 : decode cX5_operates 5 = .ok (.iand, 1) := by decide +kernel
theorem dX5_operates_6 : decode cX5_operates 6 = .ok (.ifCond .le 7, 3) := by decide +kernel
theorem dX5_operates_9 : decode cX5_operates 9 = .ok (.iconst 0, 1) := by decide +kernel
theorem dX5_operates_10 : decode cX5_operates 10 = .ok (.goto 7, 3) := by decide +kernel
theorem dX5_operates_13 : decode cX5_operates 13 = .ok (.aload_n 0, 1) := by decide +kernel
theorem dX5_operates_14 : decode cX5_operates 14 = .ok (.getfield 33, 3) := by decide +kernel
theorem dX5_operates_17 : decode cX5_operates 17 = .ok (.putfield 33, 3) := by decide +kernel
theorem dX5_operates_20 : decode cX5_operates 20 = .ok (.aload_n 0, 1) := by decide +kernel
theorem dX5_operates_21 : decode cX5_operates 21 = .ok (.iload_n 1, 1) := by decide +kernel
theorem dX5_operates_22 : decode cX5_operates 22 = .ok (.sipush 2048, 3) := by decide +kernel
theorem dX5_operates_25 : decode cX5_operates 25 = .ok (.iand, 1) := by decide +kernel
theorem dX5_operates_26 : decode cX5_operates 26 = .ok (.ifCond .le 7, 3) := by decide +kernel
theorem dX5_operates_29 : decode cX5_operates 29 = .ok (.iconst 0, 1) := by decide +kernel
theorem dX5_operates_30 : decode cX5_operates 30 = .ok (.goto 7, 3) := by decide +kernel
theorem dX5_operates_33 : decode cX5_operates 33 = .ok (.aload_n 0, 1) := by decide +kernel
theorem dX5_operates_34 : decode cX5_operates 34 = .ok (.getfield 37, 3) := by decide +kernel
theorem dX5_operates_37 : decode cX5_operates 37 = .ok (.putfield 37, 3) := by decide +kernel
theorem dX5_operates_40 : decode cX5_operates 40 = .ok (.aload_n 0, 1) := by decide +kernel
theorem dX5_operates_41 : decode cX5_operates 41 = .ok (.iload_n 1, 1) := by decide +kernel
theorem dX5_operates_42 : decode cX5_operates 42 = .ok (.sipush 1024, 3) := by decide +kernel
theorem dX5_operates_45 : decode cX5_operates 45 = .ok (.iand, 1) := by decide +kernel
theorem dX5_operates_46 : decode cX5_operates 46 = .ok (.ifCond .le 15, 3) := by decide +kernel
theorem dX5_operates_49 : decode cX5_operates 49 = .ok (.aload_n 0, 1) := by decide +kernel
theorem dX5_operates_50 : decode cX5_operates 50 = .ok (.getfield 33, 3) := by decide +kernel
theorem dX5_operates_53 : decode cX5_operates 53 = .ok (.aload_n 0, 1) := by decide +kernel
theorem dX5_operates_54 : decode cX5_operates 54 = .ok (.getfield 66, 3) := by decide +kernel
theorem dX5_operates_57 : decode cX5_operates 57 = .ok (.ior, 1) := by decide +kernel
theorem dX5_operates_58 : decode cX5_operates 58 = .ok (.goto 7, 3) := by decide +kernel
theorem dX5_operates_61 : decode cX5_operates 61 = .ok (.aload_n 0, 1) := by decide +kernel
theorem dX5_operates_62 : decode cX5_operates 62 = .ok (.getfield 33, 3) := by decide +kernel
theorem dX5_operates_65 : decode cX5_operates 65 = .ok (.putfield 33, 3) := by decide +kernel
theorem dX5_operates_68 : decode cX5_operates 68 = .ok (.aload_n 0, 1) := by decide +kernel
theorem dX5_operates_69 : decode cX5_operates 69 = .ok (.iload_n 1, 1) := by decide +kernel
theorem dX5_operates_70 : decode cX5_operates 70 = .ok (.bipush 64, 2) := by decide +kernel
theorem dX5_operates_72 : decode cX5_operates 72 = .ok (.iand, 1) := by decide +kernel
theorem dX5_operates_73 : decode cX5_operates 73 = .ok (.ifCond .le 15, 3) := by decide +kernel
theorem dX5_operates_76 : decode cX5_operates 76 = .ok (.aload_n 0, 1) := by decide +kernel
theorem dX5_operates_77 : decode cX5_operates 77 = .ok (.getfield 33, 3) := by decide +kernel
theorem dX5_operates_80 : decode cX5_operates 80 = .ok (.aload_n 0, 1) := by decide +kernel
theorem dX5_operates_81 : decode cX5_operates 81 = .ok (.invokevirtual 106, 3) := by decide +kernel
theorem dX5_operates_84 : decode cX5_operates 84 = .ok (.ior, 1) := by decide +kernel
theorem dX5_operates_85 : decode cX5_operates 85 = .ok (.goto 7, 3) := by decide +kernel
theorem dX5_operates_88 : decode cX5_operates 88 = .ok (.aload_n 0, 1) := by decide +kernel
theorem dX5_operates_89 : decode cX5_operates 89 = .ok (.getfield 33, 3) := by decide +kernel
theorem dX5_operates_92 : decode cX5_operates 92 = .ok (.putfield 33, 3) := by decide +kernel
theorem dX5_operates_95 : decode cX5_operates 95 = .ok (.aload_n 0, 1) := by decide +kernel
theorem dX5_operates_96 : decode cX5_operates 96 = .ok (.iload_n 1, 1) := by decide +kernel
theorem dX5_operates_97 : decode cX5_operates 97 = .ok (.sipush 512, 3) := by decide +kernel
theorem dX5_operates_100 : decode cX5_operates 100 = .ok (.iand, 1) := by decide +kernel
theorem dX5_operates_101 : decode cX5_operates 101 = .ok (.ifCond .le 13, 3) := by decide +kernel
theorem dX5_operates_104 : decode cX5_operates 104 = .ok (.aload_n 0, 1) := by decide +kernel
theorem dX5_operates_105 : decode cX5_operates 105 = .ok (.getfield 33, 3) := by decide +kernel
theorem dX5_operates_108 : decode cX5_operates 108 = .ok (.invokestatic 85, 3) := by decide +kernel
theorem dX5_operates_111 : decode cX5_operates 111 = .ok (.goto 7, 3) := by decide +kernel
theorem dX5_operates_114 : decode cX5_operates 114 = .ok (.aload_n 0, 1) := by decide +kernel
theorem dX5_operates_115 : decode cX5_operates 115 = .ok (.getfield 33, 3) := by decide +kernel
theorem dX5_operates_118 : decode cX5_operates 118 = .ok (.putfield 33, 3) := by decide +kernel
theorem dX5_operates_121 : decode cX5_operates 121 = .ok (.iload_n 1, 1) := by decide +kernel
theorem dX5_operates_122 : decode cX5_operates 122 = .ok (.bipush 7, 2) := by decide +kernel
theorem dX5_operates_124 : decode cX5_operates 124 = .ok (.iand, 1) := by decide +kernel
theorem dX5_operates_125 : decode cX5_operates 125 = .ok (.istore_n 2, 1) := by decide +kernel
theorem dX5_operates_126 : decode cX5_operates 126 = .ok (.iload_n 2, 1) := by decide +kernel
theorem dX5_operates_127 : decode cX5_operates 127 = .ok (.ifCond .ne 7, 3) := by decide +kernel
theorem dX5_operates_130 : decode cX5_operates 130 = .ok (.iconst 0, 1) := by decide +kernel
theorem dX5_operates_131 : decode cX5_operates 131 = .ok (.goto 19, 3) := by decide +kernel
theorem dX5_operates_134 : decode cX5_operates 134 = .ok (.iload_n 2, 1) := by decide +kernel
theorem dX5_operates_135 : decode cX5_operates 135 = .ok (.bipush 7, 2) := by decide +kernel
theorem dX5_operates_137 : decode cX5_operates 137 = .ok (.if_icmp .ne 8, 3) := by decide +kernel
theorem dX5_operates_140 : decode cX5_operates 140 = .ok (.bipush 63, 2) := by decide +kernel
theorem dX5_operates_142 : decode cX5_operates 142 = .ok (.goto 8, 3) := by decide +kernel
theorem dX5_operates_145 : decode cX5_operates 145 = .ok (.iconst 1, 1) := by decide +kernel
theorem dX5_operates_146 : decode cX5_operates 146 = .ok (.iload_n 2, 1) := by decide +kernel
theorem dX5_operates_147 : decode cX5_operates 147 = .ok (.iconst 1, 1) := by decide +kernel
theorem dX5_operates_148 : decode cX5_operates 148 = .ok (.isub, 1) := by decide +kernel
theorem dX5_operates_149 : decode cX5_operates 149 = .ok (.ishl, 1) := by decide +kernel
theorem dX5_operates_150 : decode cX5_operates 150 = .ok (.istore_n 3, 1) := by decide +kernel
theorem dX5_operates_151 : decode cX5_operates 151 = .ok (.aload_n 0, 1) := by decide +kernel
theorem dX5_operates_152 : decode cX5_operates 152 = .ok (.iload_n 1, 1) := by decide +kernel
theorem dX5_operates_153 : decode cX5_operates 153 = .ok (.bipush 8, 2) := by decide +kernel
theorem dX5_operates_155 : decode cX5_operates 155 = .ok (.iand, 1) := by decide +kernel
theorem dX5_operates_156 : decode cX5_operates 156 = .ok (.ifCond .le 12, 3) := by decide +kernel
theorem dX5_operates_159 : decode cX5_operates 159 = .ok (.aload_n 0, 1) := by decide +kernel
theorem dX5_operates_160 : decode cX5_operates 160 = .ok (.getfield 46, 3) := by decide +kernel
theorem dX5_operates_163 : decode cX5_operates 163 = .ok (.iload_n 3, 1) := by decide +kernel
theorem dX5_operates_164 : decode cX5_operates 164 = .ok (.ior, 1) := by decide +kernel
theorem dX5_operates_165 : decode cX5_operates 165 = .ok (.goto 11, 3) := by decide +kernel
theorem dX5_operates_168 : decode cX5_operates 168 = .ok (.aload_n 0, 1) := by decide +kernel
theorem dX5_operates_169 : decode cX5_operates 169 = .ok (.getfield 46, 3) := by decide +kernel
theorem dX5_operates_172 : decode cX5_operates 172 = .ok (.iload_n 3, 1) := by decide +kernel
theorem dX5_operates_173 : decode cX5_operates 173 = .ok (.iconst (-1), 1) := by decide +kernel
theorem dX5_operates_174 : decode cX5_operates 174 = .ok (.ixor, 1) := by decide +kernel
theorem dX5_operates_175 : decode cX5_operates 175 = .ok (.iand, 1) := by decide +kernel
theorem dX5_operates_176 : decode cX5_operates 176 = .ok (.putfield 46, 3) := by decide +kernel
theorem dX5_operates_179 : decode cX5_operates 179 = .ok (.aload_n 0, 1) := by decide +kernel
theorem dX5_operates_180 : decode cX5_operates 180 = .ok (.iload_n 1, 1) := by decide +kernel
theorem dX5_operates_181 : decode cX5_operates 181 = .ok (.sipush 256, 3) := by decide +kernel
theorem dX5_operates_184 : decode cX5_operates 184 = .ok (.iand, 1) := by decide +kernel
theorem dX5_operates_185 : decode cX5_operates 185 = .ok (.ifCond .le 7, 3) := by decide +kernel
theorem dX5_operates_188 : decode cX5_operates 188 = .ok (.iconst 1, 1) := by decide +kernel
theorem dX5_operates_189 : decode cX5_operates 189 = .ok (.goto 7, 3) := by decide +kernel
theorem dX5_operates_192 : decode cX5_operates 192 = .ok (.aload_n 0, 1) := by decide +kernel
theorem dX5_operates_193 : decode cX5_operates 193 = .ok (.getfield 130, 3) := by decide +kernel
theorem dX5_operates_196 : decode cX5_operates 196 = .ok (.putfield 130, 3) := by decide +kernel
theorem dX5_operates_199 : decode cX5_operates 199 = .ok (.return_, 1) := by decide +kernel
theorem dX5_does_0 : decode cX5_does 0 = .ok (.iload_n 1, 1) := by decide +kernel
theorem dX5_does_1 : decode cX5_does 1 = .ok (.istore_n 2, 1) := by decide +kernel
theorem dX5_does_2 : decode cX5_does 2 = .ok (.iconst 0, 1) := by decide +kernel
theorem dX5_does_3 : decode cX5_does 3 = .ok (.istore_n 3, 1) := by decide +kernel
theorem dX5_does_4 : decode cX5_does 4 = .ok (.iload_n 2, 1) := by decide +kernel
theorem dX5_does_5 : decode cX5_does 5 = .ok (.bipush 13, 2) := by decide +kernel
theorem dX5_does_7 : decode cX5_does 7 = .ok (.ishr, 1) := by decide +kernel
theorem dX5_does_8 : decode cX5_does 8 = .ok (.iconst 4, 1) := by decide +kernel
theorem dX5_does_9 : decode cX5_does 9 = .ok (.if_icmp .ne 41, 3) := by decide +kernel
theorem dX5_does_12 : decode cX5_does 12 = .ok (.aload_n 0, 1) := by decide +kernel
theorem dX5_does_13 : decode cX5_does 13 = .ok (.iload_n 2, 1) := by decide +kernel
theorem dX5_does_14 : decode cX5_does 14 = .ok (.invokevirtual 133, 3) := by decide +kernel
theorem dX5_does_17 : decode cX5_does 17 = .ok (.istore 4, 2) := by decide +kernel
theorem dX5_does_19 : decode cX5_does 19 = .ok (.iload 4, 2) := by decide +kernel
theorem dX5_does_21 : decode cX5_does 21 = .ok (.ifCond .lt 9, 3) := by decide +kernel
theorem dX5_does_24 : decode cX5_does 24 = .ok (.iload_n 3, 1) := by decide +kernel
theorem dX5_does_25 : decode cX5_does 25 = .ok (.bipush 32, 2) := by decide +kernel
theorem dX5_does_27 : decode cX5_does 27 = .ok (.if_icmp .ne 9, 3) := by decide +kernel
theorem dX5_does_30 : decode cX5_does 30 = .ok (.aload_n 0, 1) := by decide +kernel
theorem dX5_does_31 : decode cX5_does 31 = .ok (.iconst 2, 1) := by decide +kernel
theorem dX5_does_32 : decode cX5_does 32 = .ok (.putfield 130, 3) := by decide +kernel
theorem dX5_does_35 : decode cX5_does 35 = .ok (.return_, 1) := by decide +kernel
theorem dX5_does_36 : decode cX5_does 36 = .ok (.iinc 3 1, 3) := by decide +kernel
theorem dX5_does_39 : decode cX5_does 39 = .ok (.aload_n 0, 1) := by decide +kernel
theorem dX5_does_40 : decode cX5_does 40 = .ok (.getfield 7, 3) := by decide +kernel
theorem dX5_does_43 : decode cX5_does 43 = .ok (.iload 4, 2) := by decide +kernel
theorem dX5_does_45 : decode cX5_does 45 = .ok (.iaload, 1) := by decide +kernel
theorem dX5_does_46 : decode cX5_does 46 = .ok (.istore_n 2, 1) := by decide +kernel
theorem dX5_does_47 : decode cX5_does 47 = .ok (.goto (-43), 3) := by decide +kernel
theorem dX5_does_50 : decode cX5_does 50 = .ok (.iload_n 2, 1) := by decide +kernel
theorem dX5_does_51 : decode cX5_does 51 = .ok (.bipush 13, 2) := by decide +kernel
theorem dX5_does_53 : decode cX5_does 53 = .ok (.ishr, 1) := by decide +kernel
theorem dX5_does_54 : decode cX5_does 54 = .ok (.istore 4, 2) := by decide +kernel
theorem dX5_does_56 : decode cX5_does 56 = .ok (.iload_n 2, 1) := by decide +kernel
theorem dX5_does_57 : decode cX5_does 57 = .ok (.invokestatic 136, 3) := by decide +kernel
theorem dX5_does_60 : decode cX5_does 60 = .ok (.ifCond .eq 9, 3) := by decide +kernel
theorem dX5_does_63 : decode cX5_does 63 = .ok (.aload_n 0, 1) := by decide +kernel
theorem dX5_does_64 : decode cX5_does 64 = .ok (.iconst 3, 1) := by decide +kernel
theorem dX5_does_65 : decode cX5_does 65 = .ok (.putfield 130, 3) := by decide +kernel
theorem dX5_does_68 : decode cX5_does 68 = .ok (.return_, 1) := by decide +kernel
theorem dX5_does_69 : decode cX5_does 69 = .ok (.iload 4, 2) := by decide +kernel
theorem dX5_does_71 : decode cX5_does 71 = .ok (.bipush 24, 2) := by decide +kernel
theorem dX5_does_73 : decode cX5_does 73 = .ok (.if_icmp .ne 54, 3) := by decide +kernel
theorem dX5_does_76 : decode cX5_does 76 = .ok (.aload_n 0, 1) := by decide +kernel
theorem dX5_does_77 : decode cX5_does 77 = .ok (.getfield 56, 3) := by decide +kernel
theorem dX5_does_80 : decode cX5_does 80 = .ok (.ifCond .eq 47, 3) := by decide +kernel
theorem dX5_does_83 : decode cX5_does 83 = .ok (.iload_n 2, 1) := by decide +kernel
theorem dX5_does_84 : decode cX5_does 84 = .ok (.sipush 8191, 3) := by decide +kernel
theorem dX5_does_87 : decode cX5_does 87 = .ok (.iand, 1) := by decide +kernel
theorem dX5_does_88 : decode cX5_does 88 = .ok (.sipush 4097, 3) := by decide +kernel
theorem dX5_does_91 : decode cX5_does 91 = .ok (.if_icmp .ne 36, 3) := by decide +kernel
theorem dX5_does_94 : decode cX5_does 94 = .ok (.aload_n 0, 1) := by decide +kernel
theorem dX5_does_95 : decode cX5_does 95 = .ok (.aload_n 0, 1) := by decide +kernel
theorem dX5_does_96 : decode cX5_does 96 = .ok (.getfield 7, 3) := by decide +kernel
theorem dX5_does_99 : decode cX5_does 99 = .ok (.iconst 1, 1) := by decide +kernel
theorem dX5_does_100 : decode cX5_does 100 = .ok (.iaload, 1) := by decide +kernel
theorem dX5_does_101 : decode cX5_does 101 = .ok (.sipush 4095, 3) := by decide +kernel
theorem dX5_does_104 : decode cX5_does 104 = .ok (.iand, 1) := by decide +kernel
theorem dX5_does_105 : decode cX5_does 105 = .ok (.putfield 40, 3) := by decide +kernel
theorem dX5_does_108 : decode cX5_does 108 = .ok (.aload_n 0, 1) := by decide +kernel
theorem dX5_does_109 : decode cX5_does 109 = .ok (.aload_n 0, 1) := by decide +kernel
theorem dX5_does_110 : decode cX5_does 110 = .ok (.getfield 7, 3) := by decide +kernel
theorem dX5_does_113 : decode cX5_does 113 = .ok (.iconst 1, 1) := by decide +kernel
theorem dX5_does_114 : decode cX5_does 114 = .ok (.iaload, 1) := by decide +kernel
theorem dX5_does_115 : decode cX5_does 115 = .ok (.invokestatic 79, 3) := by decide +kernel
theorem dX5_does_118 : decode cX5_does 118 = .ok (.putfield 43, 3) := by decide +kernel
theorem dX5_does_121 : decode cX5_does 121 = .ok (.aload_n 0, 1) := by decide +kernel
theorem dX5_does_122 : decode cX5_does 122 = .ok (.iconst 0, 1) := by decide +kernel
theorem dX5_does_123 : decode cX5_does 123 = .ok (.putfield 56, 3) := by decide +kernel
theorem dX5_does_126 : decode cX5_does 126 = .ok (.return_, 1) := by decide +kernel
theorem dX5_does_127 : decode cX5_does 127 = .ok (.iload 4, 2) := by decide +kernel
theorem dX5_does_129 : decode cX5_does 129 = .ok (.invokestatic 140, 3) := by decide +kernel
theorem dX5_does_132 : decode cX5_does 132 = .ok (.ifCond .eq 32, 3) := by decide +kernel
theorem dX5_does_135 : decode cX5_does 135 = .ok (.aload_n 0, 1) := by decide +kernel
theorem dX5_does_136 : decode cX5_does 136 = .ok (.iload_n 2, 1) := by decide +kernel
theorem dX5_does_137 : decode cX5_does 137 = .ok (.invokevirtual 133, 3) := by decide +kernel
theorem dX5_does_140 : decode cX5_does 140 = .ok (.istore 5, 2) := by decide +kernel
theorem dX5_does_142 : decode cX5_does 142 = .ok (.iload 5, 2) := by decide +kernel
theorem dX5_does_144 : decode cX5_does 144 = .ok (.ifCond .ge 11, 3) := by decide +kernel
theorem dX5_does_147 : decode cX5_does 147 = .ok (.aload_n 0, 1) := by decide +kernel
theorem dX5_does_148 : decode cX5_does 148 = .ok (.iconst 2, 1) := by decide +kernel
theorem dX5_does_149 : decode cX5_does 149 = .ok (.putfield 130, 3) := by decide +kernel
theorem dX5_does_152 : decode cX5_does 152 = .ok (.goto 11, 3) := by decide +kernel
theorem dX5_does_155 : decode cX5_does 155 = .ok (.aload_n 0, 1) := by decide +kernel
theorem dX5_does_156 : decode cX5_does 156 = .ok (.iload 4, 2) := by decide +kernel
theorem dX5_does_158 : decode cX5_does 158 = .ok (.iload 5, 2) := by decide +kernel
theorem dX5_does_160 : decode cX5_does 160 = .ok (.invokevirtual 143, 3) := by decide +kernel
theorem dX5_does_163 : decode cX5_does 163 = .ok (.return_, 1) := by decide +kernel
theorem dX5_does_164 : decode cX5_does 164 = .ok (.iload 4, 2) := by decide +kernel
theorem dX5_does_166 : decode cX5_does 166 = .ok (.lookupswitch 133 #[(7, 50), (26, 76), (27, 84), (28, 92), (29, 125)], 50) := by decide +kernel
theorem dX5_does_216 : decode cX5_does 216 = .ok (.aload_n 0, 1) := by decide +kernel
theorem dX5_does_217 : decode cX5_does 217 = .ok (.iload_n 2, 1) := by decide +kernel
theorem dX5_does_218 : decode cX5_does 218 = .ok (.bipush 12, 2) := by decide +kernel
theorem dX5_does_220 : decode cX5_does 220 = .ok (.ishr, 1) := by decide +kernel
theorem dX5_does_221 : decode cX5_does 221 = .ok (.iconst 1, 1) := by decide +kernel
theorem dX5_does_222 : decode cX5_does 222 = .ok (.iand, 1) := by decide +kernel
theorem dX5_does_223 : decode cX5_does 223 = .ok (.ifCond .ne 8, 3) := by decide +kernel
theorem dX5_does_226 : decode cX5_does 226 = .ok (.bipush 64, 2) := by decide +kernel
theorem dX5_does_228 : decode cX5_does 228 = .ok (.goto 8, 3) := by decide +kernel
theorem dX5_does_231 : decode cX5_does 231 = .ok (.iload_n 2, 1) := by decide +kernel
theorem dX5_does_232 : decode cX5_does 232 = .ok (.sipush 4095, 3) := by decide +kernel
theorem dX5_does_235 : decode cX5_does 235 = .ok (.iand, 1) := by decide +kernel
theorem dX5_does_236 : decode cX5_does 236 = .ok (.invokevirtual 146, 3) := by decide +kernel
theorem dX5_does_239 : decode cX5_does 239 = .ok (.goto 65, 3) := by decide +kernel
theorem dX5_does_242 : decode cX5_does 242 = .ok (.aload_n 0, 1) := by decide +kernel
theorem dX5_does_243 : decode cX5_does 243 = .ok (.iload_n 2, 1) := by decide +kernel
theorem dX5_does_244 : decode cX5_does 244 = .ok (.invokevirtual 149, 3) := by decide +kernel
theorem dX5_does_247 : decode cX5_does 247 = .ok (.goto 57, 3) := by decide +kernel
theorem dX5_does_250 : decode cX5_does 250 = .ok (.aload_n 0, 1) := by decide +kernel
theorem dX5_does_251 : decode cX5_does 251 = .ok (.iload_n 2, 1) := by decide +kernel
theorem dX5_does_252 : decode cX5_does 252 = .ok (.invokevirtual 152, 3) := by decide +kernel
theorem dX5_does_255 : decode cX5_does 255 = .ok (.goto 49, 3) := by decide +kernel
theorem dX5_does_258 : decode cX5_does 258 = .ok (.aload_n 0, 1) := by decide +kernel
theorem dX5_does_259 : decode cX5_does 259 = .ok (.iload_n 2, 1) := by decide +kernel
theorem dX5_does_260 : decode cX5_does 260 = .ok (.bipush 12, 2) := by decide +kernel
theorem dX5_does_262 : decode cX5_does 262 = .ok (.ishr, 1) := by decide +kernel
theorem dX5_does_263 : decode cX5_does 263 = .ok (.iconst 1, 1) := by decide +kernel
theorem dX5_does_264 : decode cX5_does 264 = .ok (.iand, 1) := by decide +kernel
theorem dX5_does_265 : decode cX5_does 265 = .ok (.iconst 1, 1) := by decide +kernel
theorem dX5_does_266 : decode cX5_does 266 = .ok (.if_icmp .ne 14, 3) := by decide +kernel
theorem dX5_does_269 : decode cX5_does 269 = .ok (.iload_n 2, 1) := by decide +kernel
theorem dX5_does_270 : decode cX5_does 270 = .ok (.sipush 4095, 3) := by decide +kernel
theorem dX5_does_273 : decode cX5_does 273 = .ok (.iand, 1) := by decide +kernel
theorem dX5_does_274 : decode cX5_does 274 = .ok (.invokestatic 85, 3) := by decide +kernel
theorem dX5_does_277 : decode cX5_does 277 = .ok (.goto 8, 3) := by decide +kernel
theorem dX5_does_280 : decode cX5_does 280 = .ok (.iload_n 2, 1) := by decide +kernel
theorem dX5_does_281 : decode cX5_does 281 = .ok (.sipush 4095, 3) := by decide +kernel
theorem dX5_does_284 : decode cX5_does 284 = .ok (.iand, 1) := by decide +kernel
theorem dX5_does_285 : decode cX5_does 285 = .ok (.putfield 33, 3) := by decide +kernel
theorem dX5_does_288 : decode cX5_does 288 = .ok (.goto 16, 3) := by decide +kernel
theorem dX5_does_291 : decode cX5_does 291 = .ok (.aload_n 0, 1) := by decide +kernel
theorem dX5_does_292 : decode cX5_does 292 = .ok (.iload_n 2, 1) := by decide +kernel
theorem dX5_does_293 : decode cX5_does 293 = .ok (.invokevirtual 155, 3) := by decide +kernel
theorem dX5_does_296 : decode cX5_does 296 = .ok (.goto 8, 3) := by decide +kernel
theorem dX5_does_299 : decode cX5_does 299 = .ok (.aload_n 0, 1) := by decide +kernel
theorem dX5_does_300 : decode cX5_does 300 = .ok (.iload_n 2, 1) := by decide +kernel
theorem dX5_does_301 : decode cX5_does 301 = .ok (.invokevirtual 158, 3) := by decide +kernel
theorem dX5_does_304 : decode cX5_does 304 = .ok (.return_, 1) := by decide +kernel
theorem dX5_step_0 : decode cX5_step 0 = .ok (.aload_n 0, 1) := by decide +kernel
theorem dX5_step_1 : decode cX5_step 1 = .ok (.getfield 25, 3) := by decide +kernel
theorem dX5_step_4 : decode cX5_step 4 = .ok (.iconst 0, 1) := by decide +kernel
theorem dX5_step_5 : decode cX5_step 5 = .ok (.dup2, 1) := by decide +kernel
theorem dX5_step_6 : decode cX5_step 6 = .ok (.iaload, 1) := by decide +kernel
theorem dX5_step_7 : decode cX5_step 7 = .ok (.iconst 1, 1) := by decide +kernel
theorem dX5_step_8 : decode cX5_step 8 = .ok (.iadd, 1) := by decide +kernel
theorem dX5_step_9 : decode cX5_step 9 = .ok (.iastore, 1) := by decide +kernel
theorem dX5_step_10 : decode cX5_step 10 = .ok (.aload_n 0, 1) := by decide +kernel
theorem dX5_step_11 : decode cX5_step 11 = .ok (.getfield 25, 3) := by decide +kernel
theorem dX5_step_14 : decode cX5_step 14 = .ok (.bipush 7, 2) := by decide +kernel
theorem dX5_step_16 : decode cX5_step 16 = .ok (.dup2, 1) := by decide +kernel
theorem dX5_step_17 : decode cX5_step 17 = .ok (.iaload, 1) := by decide +kernel
theorem dX5_step_18 : decode cX5_step 18 = .ok (.iconst 1, 1) := by decide +kernel
theorem dX5_step_19 : decode cX5_step 19 = .ok (.iadd, 1) := by decide +kernel
theorem dX5_step_20 : decode cX5_step 20 = .ok (.iastore, 1) := by decide +kernel
theorem dX5_step_21 : decode cX5_step 21 = .ok (.aload_n 0, 1) := by decide +kernel
theorem dX5_step_22 : decode cX5_step 22 = .ok (.getfield 53, 3) := by decide +kernel
theorem dX5_step_25 : decode cX5_step 25 = .ok (.ifCond .eq 73, 3) := by decide +kernel
theorem dX5_step_28 : decode cX5_step 28 = .ok (.aload_n 0, 1) := by decide +kernel
theorem dX5_step_29 : decode cX5_step 29 = .ok (.getfield 49, 3) := by decide +kernel
theorem dX5_step_32 : decode cX5_step 32 = .ok (.ifCond .eq 66, 3) := by decide +kernel
theorem dX5_step_35 : decode cX5_step 35 = .ok (.aload_n 0, 1) := by decide +kernel
theorem dX5_step_36 : decode cX5_step 36 = .ok (.getfield 56, 3) := by decide +kernel
theorem dX5_step_39 : decode cX5_step 39 = .ok (.ifCond .ne 59, 3) := by decide +kernel
theorem dX5_step_42 : decode cX5_step 42 = .ok (.aload_n 0, 1) := by decide +kernel
theorem dX5_step_43 : decode cX5_step 43 = .ok (.getfield 7, 3) := by decide +kernel
theorem dX5_step_46 : decode cX5_step 46 = .ok (.iconst 0, 1) := by decide +kernel
theorem dX5_step_47 : decode cX5_step 47 = .ok (.aload_n 0, 1) := by decide +kernel
theorem dX5_step_48 : decode cX5_step 48 = .ok (.getfield 33, 3) := by decide +kernel
theorem dX5_step_51 : decode cX5_step 51 = .ok (.iastore, 1) := by decide +kernel
theorem dX5_step_52 : decode cX5_step 52 = .ok (.aload_n 0, 1) := by decide +kernel
theorem dX5_step_53 : decode cX5_step 53 = .ok (.getfield 7, 3) := by decide +kernel
theorem dX5_step_56 : decode cX5_step 56 = .ok (.iconst 1, 1) := by decide +kernel
theorem dX5_step_57 : decode cX5_step 57 = .ok (.aload_n 0, 1) := by decide +kernel
theorem dX5_step_58 : decode cX5_step 58 = .ok (.invokevirtual 106, 3) := by decide +kernel
theorem dX5_step_61 : decode cX5_step 61 = .ok (.iastore, 1) := by decide +kernel
theorem dX5_step_62 : decode cX5_step 62 = .ok (.aload_n 0, 1) := by decide +kernel
theorem dX5_step_63 : decode cX5_step 63 = .ok (.getfield 7, 3) := by decide +kernel
theorem dX5_step_66 : decode cX5_step 66 = .ok (.iconst 2, 1) := by decide +kernel
theorem dX5_step_67 : decode cX5_step 67 = .ok (.aload_n 0, 1) := by decide +kernel
theorem dX5_step_68 : decode cX5_step 68 = .ok (.getfield 37, 3) := by decide +kernel
theorem dX5_step_71 : decode cX5_step 71 = .ok (.iastore, 1) := by decide +kernel
theorem dX5_step_72 : decode cX5_step 72 = .ok (.aload_n 0, 1) := by decide +kernel
theorem dX5_step_73 : decode cX5_step 73 = .ok (.iconst 3, 1) := by decide +kernel
theorem dX5_step_74 : decode cX5_step 74 = .ok (.putfield 40, 3) := by decide +kernel
theorem dX5_step_77 : decode cX5_step 77 = .ok (.aload_n 0, 1) := by decide +kernel
theorem dX5_step_78 : decode cX5_step 78 = .ok (.iconst 1, 1) := by decide +kernel
theorem dX5_step_79 : decode cX5_step 79 = .ok (.putfield 56, 3) := by decide +kernel
theorem dX5_step_82 : decode cX5_step 82 = .ok (.aload_n 0, 1) := by decide +kernel
theorem dX5_step_83 : decode cX5_step 83 = .ok (.iconst 0, 1) := by decide +kernel
theorem dX5_step_84 : decode cX5_step 84 = .ok (.putfield 53, 3) := by decide +kernel
theorem dX5_step_87 : decode cX5_step 87 = .ok (.aload_n 0, 1) := by decide +kernel
theorem dX5_step_88 : decode cX5_step 88 = .ok (.getfield 25, 3) := by decide +kernel
theorem dX5_step_91 : decode cX5_step 91 = .ok (.iconst 1, 1) := by decide +kernel
theorem dX5_step_92 : decode cX5_step 92 = .ok (.dup2, 1) := by decide +kernel
theorem dX5_step_93 : decode cX5_step 93 = .ok (.iaload, 1) := by decide +kernel
theorem dX5_step_94 : decode cX5_step 94 = .ok (.iconst 1, 1) := by decide +kernel
theorem dX5_step_95 : decode cX5_step 95 = .ok (.iadd, 1) := by decide +kernel
theorem dX5_step_96 : decode cX5_step 96 = .ok (.iastore, 1) := by decide +kernel
theorem dX5_step_97 : decode cX5_step 97 = .ok (.return_, 1) := by decide +kernel
theorem dX5_step_98 : decode cX5_step 98 = .ok (.aload_n 0, 1) := by decide +kernel
theorem dX5_step_99 : decode cX5_step 99 = .ok (.getfield 40, 3) := by decide +kernel
theorem dX5_step_102 : decode cX5_step 102 = .ok (.istore_n 1, 1) := by decide +kernel
theorem dX5_step_103 : decode cX5_step 103 = .ok (.aload_n 0, 1) := by decide +kernel
theorem dX5_step_104 : decode cX5_step 104 = .ok (.aload_n 0, 1) := by decide +kernel
theorem dX5_step_105 : decode cX5_step 105 = .ok (.getfield 40, 3) := by decide +kernel
theorem dX5_step_108 : decode cX5_step 108 = .ok (.iconst 1, 1) := by decide +kernel
theorem dX5_step_109 : decode cX5_step 109 = .ok (.iadd, 1) := by decide +kernel
theorem dX5_step_110 : decode cX5_step 110 = .ok (.sipush 4095, 3) := by decide +kernel
theorem dX5_step_113 : decode cX5_step 113 = .ok (.iand, 1) := by decide +kernel
theorem dX5_step_114 : decode cX5_step 114 = .ok (.putfield 40, 3) := by decide +kernel
theorem dX5_step_117 : decode cX5_step 117 = .ok (.aload_n 0, 1) := by decide +kernel
theorem dX5_step_118 : decode cX5_step 118 = .ok (.aload_n 0, 1) := by decide +kernel
theorem dX5_step_119 : decode cX5_step 119 = .ok (.getfield 7, 3) := by decide +kernel
theorem dX5_step_122 : decode cX5_step 122 = .ok (.iload_n 1, 1) := by decide +kernel
theorem dX5_step_123 : decode cX5_step 123 = .ok (.iaload, 1) := by decide +kernel
theorem dX5_step_124 : decode cX5_step 124 = .ok (.invokevirtual 161, 3) := by decide +kernel
theorem dX5_step_127 : decode cX5_step 127 = .ok (.aload_n 0, 1) := by decide +kernel
theorem dX5_step_128 : decode cX5_step 128 = .ok (.getfield 25, 3) := by decide +kernel
theorem dX5_step_131 : decode cX5_step 131 = .ok (.bipush 6, 2) := by decide +kernel
theorem dX5_step_133 : decode cX5_step 133 = .ok (.aload_n 0, 1) := by decide +kernel
theorem dX5_step_134 : decode cX5_step 134 = .ok (.getfield 130, 3) := by decide +kernel
theorem dX5_step_137 : decode cX5_step 137 = .ok (.ifCond .ne 13, 3) := by decide +kernel
theorem dX5_step_140 : decode cX5_step 140 = .ok (.aload_n 0, 1) := by decide +kernel
theorem dX5_step_141 : decode cX5_step 141 = .ok (.getfield 25, 3) := by decide +kernel
theorem dX5_step_144 : decode cX5_step 144 = .ok (.bipush 6, 2) := by decide +kernel
theorem dX5_step_146 : decode cX5_step 146 = .ok (.iaload, 1) := by decide +kernel
theorem dX5_step_147 : decode cX5_step 147 = .ok (.goto 4, 3) := by decide +kernel
theorem dX5_step_150 : decode cX5_step 150 = .ok (.iload_n 1, 1) := by decide +kernel
theorem dX5_step_151 : decode cX5_step 151 = .ok (.iastore, 1) := by decide +kernel
theorem dX5_step_152 : decode cX5_step 152 = .ok (.return_, 1) := by decide +kernel
end
section
theorem dX5_run_0 : decode cX5_run 0 = .ok (.iload_n 1, 1) := by decide +kernel
theorem dX5_run_1 : decode cX5_run 1 = .ok (.iconst 1, 1) := by decide +kernel
theorem dX5_run_2 : decode cX5_run 2 = .ok (.sipush 5000, 3) := by decide +kernel
theorem dX5_run_5 : decode cX5_run 5 = .ok (.invokestatic 28, 3) := by decide +kernel
theorem dX5_run_8 : decode cX5_run 8 = .ok (.ifCond .ne 5, 3) := by decide +kernel
theorem dX5_run_11 : decode cX5_run 11 = .ok (.iconst (-1), 1) := by decide +kernel
theorem dX5_run_12 : decode cX5_run 12 = .ok (.ireturn, 1) := by decide +kernel
theorem dX5_run_13 : decode cX5_run 13 = .ok (.iconst 0, 1) := by decide +kernel
theorem dX5_run_14 : decode cX5_run 14 = .ok (.istore_n 2, 1) := by decide +kernel
theorem dX5_run_15 : decode cX5_run 15 = .ok (.iload_n 2, 1) := by decide +kernel
theorem dX5_run_16 : decode cX5_run 16 = .ok (.bipush 7, 2) := by decide +kernel
theorem dX5_run_18 : decode cX5_run 18 = .ok (.if_icmp .ge 27, 3) := by decide +kernel
theorem dX5_run_21 : decode cX5_run 21 = .ok (.aload_n 0, 1) := by decide +kernel
theorem dX5_run_22 : decode cX5_run 22 = .ok (.getfield 25, 3) := by decide +kernel
theorem dX5_run_25 : decode cX5_run 25 = .ok (.iload_n 2, 1) := by decide +kernel
theorem dX5_run_26 : decode cX5_run 26 = .ok (.iload_n 2, 1) := by decide +kernel
theorem dX5_run_27 : decode cX5_run 27 = .ok (.bipush 6, 2) := by decide +kernel
theorem dX5_run_29 : decode cX5_run 29 = .ok (.if_icmp .ne 8, 3) := by decide +kernel
theorem dX5_run_32 : decode cX5_run 32 = .ok (.bipush (-9), 2) := by decide +kernel
theorem dX5_run_34 : decode cX5_run 34 = .ok (.goto 4, 3) := by decide +kernel
theorem dX5_run_37 : decode cX5_run 37 = .ok (.iconst 0, 1) := by decide +kernel
theorem dX5_run_38 : decode cX5_run 38 = .ok (.iastore, 1) := by decide +kernel
theorem dX5_run_39 : decode cX5_run 39 = .ok (.iinc 2 1, 3) := by decide +kernel
theorem dX5_run_42 : decode cX5_run 42 = .ok (.goto (-27), 3) := by decide +kernel
theorem dX5_run_45 : decode cX5_run 45 = .ok (.aload_n 0, 1) := by decide +kernel
theorem dX5_run_46 : decode cX5_run 46 = .ok (.iconst 0, 1) := by decide +kernel
theorem dX5_run_47 : decode cX5_run 47 = .ok (.putfield 130, 3) := by decide +kernel
theorem dX5_run_50 : decode cX5_run 50 = .ok (.iconst 0, 1) := by decide +kernel
theorem dX5_run_51 : decode cX5_run 51 = .ok (.istore_n 2, 1) := by decide +kernel
theorem dX5_run_52 : decode cX5_run 52 = .ok (.iload_n 2, 1) := by decide +kernel
theorem dX5_run_53 : decode cX5_run 53 = .ok (.iload_n 1, 1) := by decide +kernel
theorem dX5_run_54 : decode cX5_run 54 = .ok (.if_icmp .ge 20, 3) := by decide +kernel
theorem dX5_run_57 : decode cX5_run 57 = .ok (.aload_n 0, 1) := by decide +kernel
theorem dX5_run_58 : decode cX5_run 58 = .ok (.getfield 130, 3) := by decide +kernel
theorem dX5_run_61 : decode cX5_run 61 = .ok (.ifCond .ne 13, 3) := by decide +kernel
theorem dX5_run_64 : decode cX5_run 64 = .ok (.aload_n 0, 1) := by decide +kernel
theorem dX5_run_65 : decode cX5_run 65 = .ok (.invokevirtual 164, 3) := by decide +kernel
theorem dX5_run_68 : decode cX5_run 68 = .ok (.iinc 2 1, 3) := by decide +kernel
theorem dX5_run_71 : decode cX5_run 71 = .ok (.goto (-19), 3) := by decide +kernel
theorem dX5_run_74 : decode cX5_run 74 = .ok (.aload_n 0, 1) := by decide +kernel
theorem dX5_run_75 : decode cX5_run 75 = .ok (.getfield 130, 3) := by decide +kernel
theorem dX5_run_78 : decode cX5_run 78 = .ok (.ireturn, 1) := by decide +kernel
theorem dX5_ran_0 : decode cX5_ran 0 = .ok (.iload_n 1, 1) := by decide +kernel
theorem dX5_ran_1 : decode cX5_ran 1 = .ok (.iconst 0, 1) := by decide +kernel
theorem dX5_ran_2 : decode cX5_ran 2 = .ok (.bipush 7, 2) := by decide +kernel
theorem dX5_ran_4 : decode cX5_ran 4 = .ok (.invokestatic 28, 3) := by decide +kernel
theorem dX5_ran_7 : decode cX5_ran 7 = .ok (.ifCond .eq 12, 3) := by decide +kernel
theorem dX5_ran_10 : decode cX5_ran 10 = .ok (.aload_n 0, 1) := by decide +kernel
theorem dX5_ran_11 : decode cX5_ran 11 = .ok (.getfield 25, 3) := by decide +kernel
theorem dX5_ran_14 : decode cX5_ran 14 = .ok (.iload_n 1, 1) := by decide +kernel
theorem dX5_ran_15 : decode cX5_ran 15 = .ok (.iaload, 1) := by decide +kernel
theorem dX5_ran_16 : decode cX5_ran 16 = .ok (.goto 4, 3) := by decide +kernel
theorem dX5_ran_19 : decode cX5_ran 19 = .ok (.iconst (-1), 1) := by decide +kernel
theorem dX5_ran_20 : decode cX5_ran 20 = .ok (.ireturn, 1) := by decide +kernel
theorem dX5_point_0 : decode cX5_point 0 = .ok (.iload_n 2, 1) := by decide +kernel
theorem dX5_point_1 : decode cX5_point 1 = .ok (.iconst 0, 1) := by decide +kernel
theorem dX5_point_2 : decode cX5_point 2 = .ok (.iconst 1, 1) := by decide +kernel
theorem dX5_point_3 : decode cX5_point 3 = .ok (.invokestatic 28, 3) := by decide +kernel
theorem dX5_point_6 : decode cX5_point 6 = .ok (.ifCond .ne 5, 3) := by decide +kernel
theorem dX5_point_9 : decode cX5_point 9 = .ok (.iconst (-1), 1) := by decide +kernel
theorem dX5_point_10 : decode cX5_point 10 = .ok (.ireturn, 1) := by decide +kernel
theorem dX5_point_11 : decode cX5_point 11 = .ok (.iload_n 1, 1) := by decide +kernel
theorem dX5_point_12 : decode cX5_point 12 = .ok (.iconst 0, 1) := by decide +kernel
theorem dX5_point_13 : decode cX5_point 13 = .ok (.bipush 63, 2) := by decide +kernel
theorem dX5_point_15 : decode cX5_point 15 = .ok (.invokestatic 28, 3) := by decide +kernel
theorem dX5_point_18 : decode cX5_point 18 = .ok (.ifCond .eq 11, 3) := by decide +kernel
theorem dX5_point_21 : decode cX5_point 21 = .ok (.iload_n 1, 1) := by decide +kernel
theorem dX5_point_22 : decode cX5_point 22 = .ok (.aload_n 0, 1) := by decide +kernel
theorem dX5_point_23 : decode cX5_point 23 = .ok (.getfield 121, 3) := by decide +kernel
theorem dX5_point_26 : decode cX5_point 26 = .ok (.if_icmp .lt 6, 3) := by decide +kernel
theorem dX5_point_29 : decode cX5_point 29 = .ok (.bipush (-9), 2) := by decide +kernel
theorem dX5_point_31 : decode cX5_point 31 = .ok (.ireturn, 1) := by decide +kernel
theorem dX5_point_32 : decode cX5_point 32 = .ok (.aload_n 0, 1) := by decide +kernel
theorem dX5_point_33 : decode cX5_point 33 = .ok (.getfield 121, 3) := by decide +kernel
theorem dX5_point_36 : decode cX5_point 36 = .ok (.iconst 1, 1) := by decide +kernel
theorem dX5_point_37 : decode cX5_point 37 = .ok (.isub, 1) := by decide +kernel
theorem dX5_point_38 : decode cX5_point 38 = .ok (.iload_n 1, 1) := by decide +kernel
theorem dX5_point_39 : decode cX5_point 39 = .ok (.isub, 1) := by decide +kernel
theorem dX5_point_40 : decode cX5_point 40 = .ok (.bipush 64, 2) := by decide +kernel
theorem dX5_point_42 : decode cX5_point 42 = .ok (.irem, 1) := by decide +kernel
theorem dX5_point_43 : decode cX5_point 43 = .ok (.istore_n 3, 1) := by decide +kernel
theorem dX5_point_44 : decode cX5_point 44 = .ok (.iload_n 2, 1) := by decide +kernel
theorem dX5_point_45 : decode cX5_point 45 = .ok (.ifCond .ne 12, 3) := by decide +kernel
theorem dX5_point_48 : decode cX5_point 48 = .ok (.aload_n 0, 1) := by decide +kernel
theorem dX5_point_49 : decode cX5_point 49 = .ok (.getfield 19, 3) := by decide +kernel
theorem dX5_point_52 : decode cX5_point 52 = .ok (.iload_n 3, 1) := by decide +kernel
theorem dX5_point_53 : decode cX5_point 53 = .ok (.iaload, 1) := by decide +kernel
theorem dX5_point_54 : decode cX5_point 54 = .ok (.goto 9, 3) := by decide +kernel
theorem dX5_point_57 : decode cX5_point 57 = .ok (.aload_n 0, 1) := by decide +kernel
theorem dX5_point_58 : decode cX5_point 58 = .ok (.getfield 22, 3) := by decide +kernel
theorem dX5_point_61 : decode cX5_point 61 = .ok (.iload_n 3, 1) := by decide +kernel
theorem dX5_point_62 : decode cX5_point 62 = .ok (.iaload, 1) := by decide +kernel
theorem dX5_point_63 : decode cX5_point 63 = .ok (.ireturn, 1) := by decide +kernel
theorem dX5_points_0 : decode cX5_points 0 = .ok (.aload_n 0, 1) := by decide +kernel
theorem dX5_points_1 : decode cX5_points 1 = .ok (.getfield 121, 3) := by decide +kernel
theorem dX5_points_4 : decode cX5_points 4 = .ok (.ireturn, 1) := by decide +kernel
theorem dX5_out_0 : decode cX5_out 0 = .ok (.iload_n 1, 1) := by decide +kernel
theorem dX5_out_1 : decode cX5_out 1 = .ok (.ifCond .ge 30, 3) := by decide +kernel
theorem dX5_out_4 : decode cX5_out 4 = .ok (.iload_n 1, 1) := by decide +kernel
theorem dX5_out_5 : decode cX5_out 5 = .ok (.iconst (-1), 1) := by decide +kernel
theorem dX5_out_6 : decode cX5_out 6 = .ok (.if_icmp .ne 10, 3) := by decide +kernel
theorem dX5_out_9 : decode cX5_out 9 = .ok (.aload_n 0, 1) := by decide +kernel
theorem dX5_out_10 : decode cX5_out 10 = .ok (.getfield 124, 3) := by decide +kernel
theorem dX5_out_13 : decode cX5_out 13 = .ok (.goto 17, 3) := by decide +kernel
theorem dX5_out_16 : decode cX5_out 16 = .ok (.iload_n 1, 1) := by decide +kernel
theorem dX5_out_17 : decode cX5_out 17 = .ok (.bipush (-2), 2) := by decide +kernel
theorem dX5_out_19 : decode cX5_out 19 = .ok (.if_icmp .ne 10, 3) := by decide +kernel
theorem dX5_out_22 : decode cX5_out 22 = .ok (.aload_n 0, 1) := by decide +kernel
theorem dX5_out_23 : decode cX5_out 23 = .ok (.getfield 127, 3) := by decide +kernel
theorem dX5_out_26 : decode cX5_out 26 = .ok (.goto 4, 3) := by decide +kernel
theorem dX5_out_29 : decode cX5_out 29 = .ok (.iconst (-1), 1) := by decide +kernel
theorem dX5_out_30 : decode cX5_out 30 = .ok (.ireturn, 1) := by decide +kernel
theorem dX5_out_31 : decode cX5_out 31 = .ok (.iload_n 1, 1) := by decide +kernel
theorem dX5_out_32 : decode cX5_out 32 = .ok (.aload_n 0, 1) := by decide +kernel
theorem dX5_out_33 : decode cX5_out 33 = .ok (.getfield 124, 3) := by decide +kernel
theorem dX5_out_36 : decode cX5_out 36 = .ok (.if_icmp .ge 12, 3) := by decide +kernel
theorem dX5_out_39 : decode cX5_out 39 = .ok (.aload_n 0, 1) := by decide +kernel
theorem dX5_out_40 : decode cX5_out 40 = .ok (.getfield 16, 3) := by decide +kernel
theorem dX5_out_43 : decode cX5_out 43 = .ok (.iload_n 1, 1) := by decide +kernel
theorem dX5_out_44 : decode cX5_out 44 = .ok (.iaload, 1) := by decide +kernel
theorem dX5_out_45 : decode cX5_out 45 = .ok (.goto 5, 3) := by decide +kernel
theorem dX5_out_48 : decode cX5_out 48 = .ok (.bipush (-9), 2) := by decide +kernel
theorem dX5_out_50 : decode cX5_out 50 = .ok (.ireturn, 1) := by decide +kernel
theorem dX5_value_0 : decode cX5_value 0 = .ok (.iload_n 1, 1) := by decide +kernel
theorem dX5_value_1 : decode cX5_value 1 = .ok (.iconst 0, 1) := by decide +kernel
theorem dX5_value_2 : decode cX5_value 2 = .ok (.ldc 32, 2) := by decide +kernel
theorem dX5_value_4 : decode cX5_value 4 = .ok (.invokestatic 28, 3) := by decide +kernel
theorem dX5_value_7 : decode cX5_value 7 = .ok (.ifCond .ne 8, 3) := by decide +kernel
theorem dX5_value_10 : decode cX5_value 10 = .ok (.ldc 167, 2) := by decide +kernel
theorem dX5_value_12 : decode cX5_value 12 = .ok (.goto 18, 3) := by decide +kernel
theorem dX5_value_15 : decode cX5_value 15 = .ok (.iload_n 1, 1) := by decide +kernel
theorem dX5_value_16 : decode cX5_value 16 = .ok (.invokestatic 79, 3) := by decide +kernel
theorem dX5_value_19 : decode cX5_value 19 = .ok (.ifCond .ne 7, 3) := by decide +kernel
theorem dX5_value_22 : decode cX5_value 22 = .ok (.iload_n 1, 1) := by decide +kernel
theorem dX5_value_23 : decode cX5_value 23 = .ok (.goto 7, 3) := by decide +kernel
theorem dX5_value_26 : decode cX5_value 26 = .ok (.iload_n 1, 1) := by decide +kernel
theorem dX5_value_27 : decode cX5_value 27 = .ok (.ldc 32, 2) := by decide +kernel
theorem dX5_value_29 : decode cX5_value 29 = .ok (.isub, 1) := by decide +kernel
theorem dX5_value_30 : decode cX5_value 30 = .ok (.ireturn, 1) := by decide +kernel
theorem dX5_word_0 : decode cX5_word 0 = .ok (.iload_n 1, 1) := by decide +kernel
theorem dX5_word_1 : decode cX5_word 1 = .ok (.ldc 168, 2) := by decide +kernel
theorem dX5_word_3 : decode cX5_word 3 = .ok (.ldc 169, 2) := by decide +kernel
theorem dX5_word_5 : decode cX5_word 5 = .ok (.invokestatic 28, 3) := by decide +kernel
theorem dX5_word_8 : decode cX5_word 8 = .ok (.ifCond .ne 7, 3) := by decide +kernel
theorem dX5_word_11 : decode cX5_word 11 = .ok (.iconst (-1), 1) := by decide +kernel
theorem dX5_word_12 : decode cX5_word 12 = .ok (.goto 15, 3) := by decide +kernel
theorem dX5_word_15 : decode cX5_word 15 = .ok (.iload_n 1, 1) := by decide +kernel
theorem dX5_word_16 : decode cX5_word 16 = .ok (.ifCond .ge 10, 3) := by decide +kernel
theorem dX5_word_19 : decode cX5_word 19 = .ok (.iload_n 1, 1) := by decide +kernel
theorem dX5_word_20 : decode cX5_word 20 = .ok (.ldc 32, 2) := by decide +kernel
theorem dX5_word_22 : decode cX5_word 22 = .ok (.iadd, 1) := by decide +kernel
theorem dX5_word_23 : decode cX5_word 23 = .ok (.goto 4, 3) := by decide +kernel
theorem dX5_word_26 : decode cX5_word 26 = .ok (.iload_n 1, 1) := by decide +kernel
theorem dX5_word_27 : decode cX5_word 27 = .ok (.ireturn, 1) := by decide +kernel
theorem dX5_reads_0 : decode cX5_reads 0 = .ok (.iload_n 1, 1) := by decide +kernel
theorem dX5_reads_1 : decode cX5_reads 1 = .ok (.iconst 0, 1) := by decide +kernel
theorem dX5_reads_2 : decode cX5_reads 2 = .ok (.ldc 32, 2) := by decide +kernel
theorem dX5_reads_4 : decode cX5_reads 4 = .ok (.invokestatic 28, 3) := by decide +kernel
theorem dX5_reads_7 : decode cX5_reads 7 = .ok (.ifCond .eq 12, 3) := by decide +kernel
theorem dX5_reads_10 : decode cX5_reads 10 = .ok (.iload_n 2, 1) := by decide +kernel
theorem dX5_reads_11 : decode cX5_reads 11 = .ok (.iconst 0, 1) := by decide +kernel
theorem dX5_reads_12 : decode cX5_reads 12 = .ok (.iconst 5, 1) := by decide +kernel
theorem dX5_reads_13 : decode cX5_reads 13 = .ok (.invokestatic 28, 3) := by decide +kernel
theorem dX5_reads_16 : decode cX5_reads 16 = .ok (.ifCond .ne 5, 3) := by decide +kernel
theorem dX5_reads_19 : decode cX5_reads 19 = .ok (.iconst (-1), 1) := by decide +kernel
theorem dX5_reads_20 : decode cX5_reads 20 = .ok (.ireturn, 1) := by decide +kernel
theorem dX5_reads_21 : decode cX5_reads 21 = .ok (.iload_n 2, 1) := by decide +kernel
theorem dX5_reads_22 : decode cX5_reads 22 = .ok (.tableswitch 77 0 4 #[34, 39, 46, 52, 61], 34) := by decide +kernel
theorem dX5_reads_56 : decode cX5_reads 56 = .ok (.iload_n 1, 1) := by decide +kernel
theorem dX5_reads_57 : decode cX5_reads 57 = .ok (.bipush 13, 2) := by decide +kernel
theorem dX5_reads_59 : decode cX5_reads 59 = .ok (.ishr, 1) := by decide +kernel
theorem dX5_reads_60 : decode cX5_reads 60 = .ok (.ireturn, 1) := by decide +kernel
theorem dX5_reads_61 : decode cX5_reads 61 = .ok (.iload_n 1, 1) := by decide +kernel
theorem dX5_reads_62 : decode cX5_reads 62 = .ok (.bipush 12, 2) := by decide +kernel
theorem dX5_reads_64 : decode cX5_reads 64 = .ok (.ishr, 1) := by decide +kernel
theorem dX5_reads_65 : decode cX5_reads 65 = .ok (.iconst 1, 1) := by decide +kernel
theorem dX5_reads_66 : decode cX5_reads 66 = .ok (.iand, 1) := by decide +kernel
theorem dX5_reads_67 : decode cX5_reads 67 = .ok (.ireturn, 1) := by decide +kernel
theorem dX5_reads_68 : decode cX5_reads 68 = .ok (.iload_n 1, 1) := by decide +kernel
theorem dX5_reads_69 : decode cX5_reads 69 = .ok (.sipush 4095, 3) := by decide +kernel
theorem dX5_reads_72 : decode cX5_reads 72 = .ok (.iand, 1) := by decide +kernel
theorem dX5_reads_73 : decode cX5_reads 73 = .ok (.ireturn, 1) := by decide +kernel
theorem dX5_reads_74 : decode cX5_reads 74 = .ok (.iload_n 1, 1) := by decide +kernel
theorem dX5_reads_75 : decode cX5_reads 75 = .ok (.sipush 511, 3) := by decide +kernel
theorem dX5_reads_78 : decode cX5_reads 78 = .ok (.iand, 1) := by decide +kernel
theorem dX5_reads_79 : decode cX5_reads 79 = .ok (.invokestatic 112, 3) := by decide +kernel
theorem dX5_reads_82 : decode cX5_reads 82 = .ok (.ireturn, 1) := by decide +kernel
theorem dX5_reads_83 : decode cX5_reads 83 = .ok (.iload_n 1, 1) := by decide +kernel
theorem dX5_reads_84 : decode cX5_reads 84 = .ok (.bipush 13, 2) := by decide +kernel
theorem dX5_reads_86 : decode cX5_reads 86 = .ok (.ishr, 1) := by decide +kernel
theorem dX5_reads_87 : decode cX5_reads 87 = .ok (.invokestatic 140, 3) := by decide +kernel
theorem dX5_reads_90 : decode cX5_reads 90 = .ok (.ifCond .eq 7, 3) := by decide +kernel
theorem dX5_reads_93 : decode cX5_reads 93 = .ok (.iconst 1, 1) := by decide +kernel
theorem dX5_reads_94 : decode cX5_reads 94 = .ok (.goto 4, 3) := by decide +kernel
theorem dX5_reads_97 : decode cX5_reads 97 = .ok (.iconst 0, 1) := by decide +kernel
theorem dX5_reads_98 : decode cX5_reads 98 = .ok (.ireturn, 1) := by decide +kernel
theorem dX5_reads_99 : decode cX5_reads 99 = .ok (.iload_n 1, 1) := by decide +kernel
theorem dX5_reads_100 : decode cX5_reads 100 = .ok (.invokestatic 136, 3) := by decide +kernel
theorem dX5_reads_103 : decode cX5_reads 103 = .ok (.ifCond .eq 7, 3) := by decide +kernel
theorem dX5_reads_106 : decode cX5_reads 106 = .ok (.iconst 1, 1) := by decide +kernel
theorem dX5_reads_107 : decode cX5_reads 107 = .ok (.goto 4, 3) := by decide +kernel
theorem dX5_reads_110 : decode cX5_reads 110 = .ok (.iconst 0, 1) := by decide +kernel
theorem dX5_reads_111 : decode cX5_reads 111 = .ok (.ireturn, 1) := by decide +kernel
theorem dX5_digest_0 : decode cX5_digest 0 = .ok (.iconst 0, 1) := by decide +kernel
theorem dX5_digest_1 : decode cX5_digest 1 = .ok (.istore_n 1, 1) := by decide +kernel
theorem dX5_digest_2 : decode cX5_digest 2 = .ok (.iconst 0, 1) := by decide +kernel
theorem dX5_digest_3 : decode cX5_digest 3 = .ok (.istore_n 2, 1) := by decide +kernel
theorem dX5_digest_4 : decode cX5_digest 4 = .ok (.iload_n 2, 1) := by decide +kernel
theorem dX5_digest_5 : decode cX5_digest 5 = .ok (.sipush 4096, 3) := by decide +kernel
theorem dX5_digest_8 : decode cX5_digest 8 = .ok (.if_icmp .ge 21, 3) := by decide +kernel
theorem dX5_digest_11 : decode cX5_digest 11 = .ok (.bipush 31, 2) := by decide +kernel
theorem dX5_digest_13 : decode cX5_digest 13 = .ok (.iload_n 1, 1) := by decide +kernel
theorem dX5_digest_14 : decode cX5_digest 14 = .ok (.imul, 1) := by decide +kernel
theorem dX5_digest_15 : decode cX5_digest 15 = .ok (.aload_n 0, 1) := by decide +kernel
theorem dX5_digest_16 : decode cX5_digest 16 = .ok (.getfield 7, 3) := by decide +kernel
theorem dX5_digest_19 : decode cX5_digest 19 = .ok (.iload_n 2, 1) := by decide +kernel
theorem dX5_digest_20 : decode cX5_digest 20 = .ok (.iaload, 1) := by decide +kernel
theorem dX5_digest_21 : decode cX5_digest 21 = .ok (.iadd, 1) := by decide +kernel
theorem dX5_digest_22 : decode cX5_digest 22 = .ok (.istore_n 1, 1) := by decide +kernel
theorem dX5_digest_23 : decode cX5_digest 23 = .ok (.iinc 2 1, 3) := by decide +kernel
theorem dX5_digest_26 : decode cX5_digest 26 = .ok (.goto (-22), 3) := by decide +kernel
theorem dX5_digest_29 : decode cX5_digest 29 = .ok (.iload_n 1, 1) := by decide +kernel
theorem dX5_digest_30 : decode cX5_digest 30 = .ok (.ireturn, 1) := by decide +kernel
theorem dJ6_bitCount_0f7a4_0 : decode cJ6_bitCount_0f7a4 0 = .ok (.iload_n 0, 1) := by decide +kernel
theorem dJ6_bitCount_0f7a4_1 : decode cJ6_bitCount_0f7a4 1 = .ok (.iload_n 0, 1) := by decide +kernel
theorem dJ6_bitCount_0f7a4_2 : decode cJ6_bitCount_0f7a4 2 = .ok (.iconst 1, 1) := by decide +kernel
theorem dJ6_bitCount_0f7a4_3 : decode cJ6_bitCount_0f7a4 3 = .ok (.iushr, 1) := by decide +kernel
theorem dJ6_bitCount_0f7a4_4 : decode cJ6_bitCount_0f7a4 4 = .ok (.ldc_w 265, 3) := by decide +kernel
theorem dJ6_bitCount_0f7a4_7 : decode cJ6_bitCount_0f7a4 7 = .ok (.iand, 1) := by decide +kernel
theorem dJ6_bitCount_0f7a4_8 : decode cJ6_bitCount_0f7a4 8 = .ok (.isub, 1) := by decide +kernel
theorem dJ6_bitCount_0f7a4_9 : decode cJ6_bitCount_0f7a4 9 = .ok (.istore_n 0, 1) := by decide +kernel
theorem dJ6_bitCount_0f7a4_10 : decode cJ6_bitCount_0f7a4 10 = .ok (.iload_n 0, 1) := by decide +kernel
theorem dJ6_bitCount_0f7a4_11 : decode cJ6_bitCount_0f7a4 11 = .ok (.ldc_w 266, 3) := by decide +kernel
theorem dJ6_bitCount_0f7a4_14 : decode cJ6_bitCount_0f7a4 14 = .ok (.iand, 1) := by decide +kernel
theorem dJ6_bitCount_0f7a4_15 : decode cJ6_bitCount_0f7a4 15 = .ok (.iload_n 0, 1) := by decide +kernel
theorem dJ6_bitCount_0f7a4_16 : decode cJ6_bitCount_0f7a4 16 = .ok (.iconst 2, 1) := by decide +kernel
theorem dJ6_bitCount_0f7a4_17 : decode cJ6_bitCount_0f7a4 17 = .ok (.iushr, 1) := by decide +kernel
theorem dJ6_bitCount_0f7a4_18 : decode cJ6_bitCount_0f7a4 18 = .ok (.ldc_w 266, 3) := by decide +kernel
theorem dJ6_bitCount_0f7a4_21 : decode cJ6_bitCount_0f7a4 21 = .ok (.iand, 1) := by decide +kernel
theorem dJ6_bitCount_0f7a4_22 : decode cJ6_bitCount_0f7a4 22 = .ok (.iadd, 1) := by decide +kernel
theorem dJ6_bitCount_0f7a4_23 : decode cJ6_bitCount_0f7a4 23 = .ok (.istore_n 0, 1) := by decide +kernel
theorem dJ6_bitCount_0f7a4_24 : decode cJ6_bitCount_0f7a4 24 = .ok (.iload_n 0, 1) := by decide +kernel
theorem dJ6_bitCount_0f7a4_25 : decode cJ6_bitCount_0f7a4 25 = .ok (.iload_n 0, 1) := by decide +kernel
theorem dJ6_bitCount_0f7a4_26 : decode cJ6_bitCount_0f7a4 26 = .ok (.iconst 4, 1) := by decide +kernel
theorem dJ6_bitCount_0f7a4_27 : decode cJ6_bitCount_0f7a4 27 = .ok (.iushr, 1) := by decide +kernel
theorem dJ6_bitCount_0f7a4_28 : decode cJ6_bitCount_0f7a4 28 = .ok (.iadd, 1) := by decide +kernel
theorem dJ6_bitCount_0f7a4_29 : decode cJ6_bitCount_0f7a4 29 = .ok (.ldc_w 267, 3) := by decide +kernel
theorem dJ6_bitCount_0f7a4_32 : decode cJ6_bitCount_0f7a4 32 = .ok (.iand, 1) := by decide +kernel
theorem dJ6_bitCount_0f7a4_33 : decode cJ6_bitCount_0f7a4 33 = .ok (.istore_n 0, 1) := by decide +kernel
theorem dJ6_bitCount_0f7a4_34 : decode cJ6_bitCount_0f7a4 34 = .ok (.iload_n 0, 1) := by decide +kernel
theorem dJ6_bitCount_0f7a4_35 : decode cJ6_bitCount_0f7a4 35 = .ok (.iload_n 0, 1) := by decide +kernel
theorem dJ6_bitCount_0f7a4_36 : decode cJ6_bitCount_0f7a4 36 = .ok (.bipush 8, 2) := by decide +kernel
theorem dJ6_bitCount_0f7a4_38 : decode cJ6_bitCount_0f7a4 38 = .ok (.iushr, 1) := by decide +kernel
theorem dJ6_bitCount_0f7a4_39 : decode cJ6_bitCount_0f7a4 39 = .ok (.iadd, 1) := by decide +kernel
theorem dJ6_bitCount_0f7a4_40 : decode cJ6_bitCount_0f7a4 40 = .ok (.istore_n 0, 1) := by decide +kernel
theorem dJ6_bitCount_0f7a4_41 : decode cJ6_bitCount_0f7a4 41 = .ok (.iload_n 0, 1) := by decide +kernel
theorem dJ6_bitCount_0f7a4_42 : decode cJ6_bitCount_0f7a4 42 = .ok (.iload_n 0, 1) := by decide +kernel
theorem dJ6_bitCount_0f7a4_43 : decode cJ6_bitCount_0f7a4 43 = .ok (.bipush 16, 2) := by decide +kernel
theorem dJ6_bitCount_0f7a4_45 : decode cJ6_bitCount_0f7a4 45 = .ok (.iushr, 1) := by decide +kernel
theorem dJ6_bitCount_0f7a4_46 : decode cJ6_bitCount_0f7a4 46 = .ok (.iadd, 1) := by decide +kernel
theorem dJ6_bitCount_0f7a4_47 : decode cJ6_bitCount_0f7a4 47 = .ok (.istore_n 0, 1) := by decide +kernel
theorem dJ6_bitCount_0f7a4_48 : decode cJ6_bitCount_0f7a4 48 = .ok (.iload_n 0, 1) := by decide +kernel
theorem dJ6_bitCount_0f7a4_49 : decode cJ6_bitCount_0f7a4 49 = .ok (.bipush 63, 2) := by decide +kernel
theorem dJ6_bitCount_0f7a4_51 : decode cJ6_bitCount_0f7a4 51 = .ok (.iand, 1) := by decide +kernel
theorem dJ6_bitCount_0f7a4_52 : decode cJ6_bitCount_0f7a4 52 = .ok (.ireturn, 1) := by decide +kernel
theorem dL_law_0 : decode cL_law 0 = .ok (.new 7, 3) := by decide +kernel
theorem dL_law_3 : decode cL_law 3 = .ok (.dup, 1) := by decide +kernel
theorem dL_law_4 : decode cL_law 4 = .ok (.invokespecial 9, 3) := by decide +kernel
theorem dL_law_7 : decode cL_law 7 = .ok (.astore_n 1, 1) := by decide +kernel
theorem dL_law_8 : decode cL_law 8 = .ok (.new 10, 3) := by decide +kernel
theorem dL_law_11 : decode cL_law 11 = .ok (.dup, 1) := by decide +kernel
theorem dL_law_12 : decode cL_law 12 = .ok (.invokespecial 12, 3) := by decide +kernel
theorem dL_law_15 : decode cL_law 15 = .ok (.astore_n 2, 1) := by decide +kernel
theorem dL_law_16 : decode cL_law 16 = .ok (.iconst 0, 1) := by decide +kernel
theorem dL_law_17 : decode cL_law 17 = .ok (.istore_n 3, 1) := by decide +kernel
theorem dL_law_18 : decode cL_law 18 = .ok (.iload_n 3, 1) := by decide +kernel
theorem dL_law_19 : decode cL_law 19 = .ok (.aload_n 0, 1) := by decide +kernel
theorem dL_law_20 : decode cL_law 20 = .ok (.arraylength, 1) := by decide +kernel
theorem dL_law_21 : decode cL_law 21 = .ok (.iconst 5, 1) := by decide +kernel
theorem dL_law_22 : decode cL_law 22 = .ok (.isub, 1) := by decide +kernel
theorem dL_law_23 : decode cL_law 23 = .ok (.if_icmp .gt 560, 3) := by decide +kernel
theorem dL_law_26 : decode cL_law 26 = .ok (.aload_n 0, 1) := by decide +kernel
theorem dL_law_27 : decode cL_law 27 = .ok (.iload_n 3, 1) := by decide +kernel
theorem dL_law_28 : decode cL_law 28 = .ok (.iaload, 1) := by decide +kernel
theorem dL_law_29 : decode cL_law 29 = .ok (.bipush 31, 2) := by decide +kernel
theorem dL_law_31 : decode cL_law 31 = .ok (.iand, 1) := by decide +kernel
theorem dL_law_32 : decode cL_law 32 = .ok (.tableswitch 545 0 16 #[84, 117, 140, 213, 236, 269, 302, 325, 338, 361, 384, 417, 430, 453, 476, 499, 532], 84) := by decide +kernel
theorem dL_law_116 : decode cL_law 116 = .ok (.aload_n 1, 1) := by decide +kernel
theorem dL_law_117 : decode cL_law 117 = .ok (.aload_n 0, 1) := by decide +kernel
theorem dL_law_118 : decode cL_law 118 = .ok (.iload_n 3, 1) := by decide +kernel
theorem dL_law_119 : decode cL_law 119 = .ok (.iconst 1, 1) := by decide +kernel
theorem dL_law_120 : decode cL_law 120 = .ok (.iadd, 1) := by decide +kernel
theorem dL_law_121 : decode cL_law 121 = .ok (.iaload, 1) := by decide +kernel
theorem dL_law_122 : decode cL_law 122 = .ok (.aload_n 0, 1) := by decide +kernel
theorem dL_law_123 : decode cL_law 123 = .ok (.iload_n 3, 1) := by decide +kernel
theorem dL_law_124 : decode cL_law 124 = .ok (.iconst 2, 1) := by decide +kernel
theorem dL_law_125 : decode cL_law 125 = .ok (.iadd, 1) := by decide +kernel
theorem dL_law_126 : decode cL_law 126 = .ok (.iaload, 1) := by decide +kernel
theorem dL_law_127 : decode cL_law 127 = .ok (.invokevirtual 13, 3) := by decide +kernel
theorem dL_law_130 : decode cL_law 130 = .ok (.aload_n 2, 1) := by decide +kernel
theorem dL_law_131 : decode cL_law 131 = .ok (.aload_n 0, 1) := by decide +kernel
theorem dL_law_132 : decode cL_law 132 = .ok (.iload_n 3, 1) := by decide +kernel
theorem dL_law_133 : decode cL_law 133 = .ok (.iconst 1, 1) := by decide +kernel
theorem dL_law_134 : decode cL_law 134 = .ok (.iadd, 1) := by decide +kernel
theorem dL_law_135 : decode cL_law 135 = .ok (.iaload, 1) := by decide +kernel
theorem dL_law_136 : decode cL_law 136 = .ok (.aload_n 0, 1) := by decide +kernel
theorem dL_law_137 : decode cL_law 137 = .ok (.iload_n 3, 1) := by decide +kernel
theorem dL_law_138 : decode cL_law 138 = .ok (.iconst 2, 1) := by decide +kernel
theorem dL_law_139 : decode cL_law 139 = .ok (.iadd, 1) := by decide +kernel
theorem dL_law_140 : decode cL_law 140 = .ok (.iaload, 1) := by decide +kernel
theorem dL_law_141 : decode cL_law 141 = .ok (.invokevirtual 17, 3) := by decide +kernel
theorem dL_law_144 : decode cL_law 144 = .ok (.if_icmp .eq 433, 3) := by decide +kernel
theorem dL_law_147 : decode cL_law 147 = .ok (.iconst 0, 1) := by decide +kernel
theorem dL_law_148 : decode cL_law 148 = .ok (.ireturn, 1) := by decide +kernel
theorem dL_law_149 : decode cL_law 149 = .ok (.aload_n 1, 1) := by decide +kernel
theorem dL_law_150 : decode cL_law 150 = .ok (.aload_n 0, 1) := by decide +kernel
theorem dL_law_151 : decode cL_law 151 = .ok (.iload_n 3, 1) := by decide +kernel
theorem dL_law_152 : decode cL_law 152 = .ok (.iconst 1, 1) := by decide +kernel
theorem dL_law_153 : decode cL_law 153 = .ok (.iadd, 1) := by decide +kernel
theorem dL_law_154 : decode cL_law 154 = .ok (.iaload, 1) := by decide +kernel
theorem dL_law_155 : decode cL_law 155 = .ok (.invokevirtual 18, 3) := by decide +kernel
theorem dL_law_158 : decode cL_law 158 = .ok (.aload_n 2, 1) := by decide +kernel
theorem dL_law_159 : decode cL_law 159 = .ok (.aload_n 0, 1) := by decide +kernel
theorem dL_law_160 : decode cL_law 160 = .ok (.iload_n 3, 1) := by decide +kernel
theorem dL_law_161 : decode cL_law 161 = .ok (.iconst 1, 1) := by decide +kernel
theorem dL_law_162 : decode cL_law 162 = .ok (.iadd, 1) := by decide +kernel
theorem dL_law_163 : decode cL_law 163 = .ok (.iaload, 1) := by decide +kernel
theorem dL_law_164 : decode cL_law 164 = .ok (.invokevirtual 22, 3) := by decide +kernel
theorem dL_law_167 : decode cL_law 167 = .ok (.if_icmp .eq 410, 3) := by decide +kernel
theorem dL_law_170 : decode cL_law 170 = .ok (.iconst 0, 1) := by decide +kernel
theorem dL_law_171 : decode cL_law 171 = .ok (.ireturn, 1) := by decide +kernel
theorem dL_law_172 : decode cL_law 172 = .ok (.aload_n 1, 1) := by decide +kernel
theorem dL_law_173 : decode cL_law 173 = .ok (.aload_n 0, 1) := by decide +kernel
theorem dL_law_174 : decode cL_law 174 = .ok (.iload_n 3, 1) := by decide +kernel
theorem dL_law_175 : decode cL_law 175 = .ok (.iconst 1, 1) := by decide +kernel
theorem dL_law_176 : decode cL_law 176 = .ok (.iadd, 1) := by decide +kernel
theorem dL_law_177 : decode cL_law 177 = .ok (.iaload, 1) := by decide +kernel
theorem dL_law_178 : decode cL_law 178 = .ok (.aload_n 0, 1) := by decide +kernel
theorem dL_law_179 : decode cL_law 179 = .ok (.iload_n 3, 1) := by decide +kernel
theorem dL_law_180 : decode cL_law 180 = .ok (.iconst 2, 1) := by decide +kernel
theorem dL_law_181 : decode cL_law 181 = .ok (.iadd, 1) := by decide +kernel
theorem dL_law_182 : decode cL_law 182 = .ok (.iaload, 1) := by decide +kernel
theorem dL_law_183 : decode cL_law 183 = .ok (.i2l, 1) := by decide +kernel
theorem dL_law_184 : decode cL_law 184 = .ok (.bipush 32, 2) := by decide +kernel
theorem dL_law_186 : decode cL_law 186 = .ok (.lshl, 1) := by decide +kernel
theorem dL_law_187 : decode cL_law 187 = .ok (.aload_n 0, 1) := by decide +kernel
theorem dL_law_188 : decode cL_law 188 = .ok (.iload_n 3, 1) := by decide +kernel
theorem dL_law_189 : decode cL_law 189 = .ok (.iconst 3, 1) := by decide +kernel
theorem dL_law_190 : decode cL_law 190 = .ok (.iadd, 1) := by decide +kernel
theorem dL_law_191 : decode cL_law 191 = .ok (.iaload, 1) := by decide +kernel
theorem dL_law_192 : decode cL_law 192 = .ok (.i2l, 1) := by decide +kernel
theorem dL_law_193 : decode cL_law 193 = .ok (.ldc2_w 23, 3) := by decide +kernel
theorem dL_law_196 : decode cL_law 196 = .ok (.land, 1) := by decide +kernel
theorem dL_law_197 : decode cL_law 197 = .ok (.lor, 1) := by decide +kernel
theorem dL_law_198 : decode cL_law 198 = .ok (.aload_n 0, 1) := by decide +kernel
theorem dL_law_199 : decode cL_law 199 = .ok (.iload_n 3, 1) := by decide +kernel
theorem dL_law_200 : decode cL_law 200 = .ok (.iconst 4, 1) := by decide +kernel
theorem dL_law_201 : decode cL_law 201 = .ok (.iadd, 1) := by decide +kernel
theorem dL_law_202 : decode cL_law 202 = .ok (.iaload, 1) := by decide +kernel
theorem dL_law_203 : decode cL_law 203 = .ok (.invokevirtual 25, 3) := by decide +kernel
theorem dL_law_206 : decode cL_law 206 = .ok (.aload_n 2, 1) := by decide +kernel
theorem dL_law_207 : decode cL_law 207 = .ok (.aload_n 0, 1) := by decide +kernel
theorem dL_law_208 : decode cL_law 208 = .ok (.iload_n 3, 1) := by decide +kernel
theorem dL_law_209 : decode cL_law 209 = .ok (.iconst 1, 1) := by decide +kernel
theorem dL_law_210 : decode cL_law 210 = .ok (.iadd, 1) := by decide +kernel
theorem dL_law_211 : decode cL_law 211 = .ok (.iaload, 1) := by decide +kernel
theorem dL_law_212 : decode cL_law 212 = .ok (.aload_n 0, 1) := by decide +kernel
theorem dL_law_213 : decode cL_law 213 = .ok (.iload_n 3, 1) := by decide +kernel
theorem dL_law_214 : decode cL_law 214 = .ok (.iconst 2, 1) := by decide +kernel
theorem dL_law_215 : decode cL_law 215 = .ok (.iadd, 1) := by decide +kernel
theorem dL_law_216 : decode cL_law 216 = .ok (.iaload, 1) := by decide +kernel
theorem dL_law_217 : decode cL_law 217 = .ok (.i2l, 1) := by decide +kernel
theorem dL_law_218 : decode cL_law 218 = .ok (.bipush 32, 2) := by decide +kernel
theorem dL_law_220 : decode cL_law 220 = .ok (.lshl, 1) := by decide +kernel
theorem dL_law_221 : decode cL_law 221 = .ok (.aload_n 0, 1) := by decide +kernel
theorem dL_law_222 : decode cL_law 222 = .ok (.iload_n 3, 1) := by decide +kernel
theorem dL_law_223 : decode cL_law 223 = .ok (.iconst 3, 1) := by decide +kernel
theorem dL_law_224 : decode cL_law 224 = .ok (.iadd, 1) := by decide +kernel
theorem dL_law_225 : decode cL_law 225 = .ok (.iaload, 1) := by decide +kernel
theorem dL_law_226 : decode cL_law 226 = .ok (.i2l, 1) := by decide +kernel
theorem dL_law_227 : decode cL_law 227 = .ok (.ldc2_w 23, 3) := by decide +kernel
theorem dL_law_230 : decode cL_law 230 = .ok (.land, 1) := by decide +kernel
theorem dL_law_231 : decode cL_law 231 = .ok (.lor, 1) := by decide +kernel
theorem dL_law_232 : decode cL_law 232 = .ok (.aload_n 0, 1) := by decide +kernel
theorem dL_law_233 : decode cL_law 233 = .ok (.iload_n 3, 1) := by decide +kernel
theorem dL_law_234 : decode cL_law 234 = .ok (.iconst 4, 1) := by decide +kernel
theorem dL_law_235 : decode cL_law 235 = .ok (.iadd, 1) := by decide +kernel
theorem dL_law_236 : decode cL_law 236 = .ok (.iaload, 1) := by decide +kernel
theorem dL_law_237 : decode cL_law 237 = .ok (.invokevirtual 29, 3) := by decide +kernel
theorem dL_law_240 : decode cL_law 240 = .ok (.if_icmp .eq 337, 3) := by decide +kernel
theorem dL_law_243 : decode cL_law 243 = .ok (.iconst 0, 1) := by decide +kernel
theorem dL_law_244 : decode cL_law 244 = .ok (.ireturn, 1) := by decide +kernel
theorem dL_law_245 : decode cL_law 245 = .ok (.aload_n 1, 1) := by decide +kernel
theorem dL_law_246 : decode cL_law 246 = .ok (.aload_n 0, 1) := by decide +kernel
theorem dL_law_247 : decode cL_law 247 = .ok (.iload_n 3, 1) := by decide +kernel
theorem dL_law_248 : decode cL_law 248 = .ok (.iconst 1, 1) := by decide +kernel
theorem dL_law_249 : decode cL_law 249 = .ok (.iadd, 1) := by decide +kernel
theorem dL_law_250 : decode cL_law 250 = .ok (.iaload, 1) := by decide +kernel
theorem dL_law_251 : decode cL_law 251 = .ok (.invokevirtual 30, 3) := by decide +kernel
theorem dL_law_254 : decode cL_law 254 = .ok (.aload_n 2, 1) := by decide +kernel
theorem dL_law_255 : decode cL_law 255 = .ok (.aload_n 0, 1) := by decide +kernel
theorem dL_law_256 : decode cL_law 256 = .ok (.iload_n 3, 1) := by decide +kernel
theorem dL_law_257 : decode cL_law 257 = .ok (.iconst 1, 1) := by decide +kernel
theorem dL_law_258 : decode cL_law 258 = .ok (.iadd, 1) := by decide +kernel
theorem dL_law_259 : decode cL_law 259 = .ok (.iaload, 1) := by decide +kernel
theorem dL_law_260 : decode cL_law 260 = .ok (.invokevirtual 33, 3) := by decide +kernel
theorem dL_law_263 : decode cL_law 263 = .ok (.if_icmp .eq 314, 3) := by decide +kernel
theorem dL_law_266 : decode cL_law 266 = .ok (.iconst 0, 1) := by decide +kernel
theorem dL_law_267 : decode cL_law 267 = .ok (.ireturn, 1) := by decide +kernel
theorem dL_law_268 : decode cL_law 268 = .ok (.aload_n 1, 1) := by decide +kernel
theorem dL_law_269 : decode cL_law 269 = .ok (.aload_n 0, 1) := by decide +kernel
theorem dL_law_270 : decode cL_law 270 = .ok (.iload_n 3, 1) := by decide +kernel
theorem dL_law_271 : decode cL_law 271 = .ok (.iconst 1, 1) := by decide +kernel
theorem dL_law_272 : decode cL_law 272 = .ok (.iadd, 1) := by decide +kernel
theorem dL_law_273 : decode cL_law 273 = .ok (.iaload, 1) := by decide +kernel
theorem dL_law_274 : decode cL_law 274 = .ok (.aload_n 0, 1) := by decide +kernel
theorem dL_law_275 : decode cL_law 275 = .ok (.iload_n 3, 1) := by decide +kernel
theorem dL_law_276 : decode cL_law 276 = .ok (.iconst 2, 1) := by decide +kernel
theorem dL_law_277 : decode cL_law 277 = .ok (.iadd, 1) := by decide +kernel
theorem dL_law_278 : decode cL_law 278 = .ok (.iaload, 1) := by decide +kernel
theorem dL_law_279 : decode cL_law 279 = .ok (.invokevirtual 34, 3) := by decide +kernel
theorem dL_law_282 : decode cL_law 282 = .ok (.aload_n 2, 1) := by decide +kernel
theorem dL_law_283 : decode cL_law 283 = .ok (.aload_n 0, 1) := by decide +kernel
theorem dL_law_284 : decode cL_law 284 = .ok (.iload_n 3, 1) := by decide +kernel
theorem dL_law_285 : decode cL_law 285 = .ok (.iconst 1, 1) := by decide +kernel
theorem dL_law_286 : decode cL_law 286 = .ok (.iadd, 1) := by decide +kernel
theorem dL_law_287 : decode cL_law 287 = .ok (.iaload, 1) := by decide +kernel
theorem dL_law_288 : decode cL_law 288 = .ok (.aload_n 0, 1) := by decide +kernel
theorem dL_law_289 : decode cL_law 289 = .ok (.iload_n 3, 1) := by decide +kernel
theorem dL_law_290 : decode cL_law 290 = .ok (.iconst 2, 1) := by decide +kernel
theorem dL_law_291 : decode cL_law 291 = .ok (.iadd, 1) := by decide +kernel
theorem dL_law_292 : decode cL_law 292 = .ok (.iaload, 1) := by decide +kernel
theorem dL_law_293 : decode cL_law 293 = .ok (.invokevirtual 37, 3) := by decide +kernel
theorem dL_law_296 : decode cL_law 296 = .ok (.if_icmp .eq 281, 3) := by decide +kernel
theorem dL_law_299 : decode cL_law 299 = .ok (.iconst 0, 1) := by decide +kernel
theorem dL_law_300 : decode cL_law 300 = .ok (.ireturn, 1) := by decide +kernel
theorem dL_law_301 : decode cL_law 301 = .ok (.aload_n 1, 1) := by decide +kernel
theorem dL_law_302 : decode cL_law 302 = .ok (.aload_n 0, 1) := by decide +kernel
theorem dL_law_303 : decode cL_law 303 = .ok (.iload_n 3, 1) := by decide +kernel
theorem dL_law_304 : decode cL_law 304 = .ok (.iconst 1, 1) := by decide +kernel
theorem dL_law_305 : decode cL_law 305 = .ok (.iadd, 1) := by decide +kernel
theorem dL_law_306 : decode cL_law 306 = .ok (.iaload, 1) := by decide +kernel
theorem dL_law_307 : decode cL_law 307 = .ok (.aload_n 0, 1) := by decide +kernel
theorem dL_law_308 : decode cL_law 308 = .ok (.iload_n 3, 1) := by decide +kernel
theorem dL_law_309 : decode cL_law 309 = .ok (.iconst 2, 1) := by decide +kernel
theorem dL_law_310 : decode cL_law 310 = .ok (.iadd, 1) := by decide +kernel
theorem dL_law_311 : decode cL_law 311 = .ok (.iaload, 1) := by decide +kernel
theorem dL_law_312 : decode cL_law 312 = .ok (.invokevirtual 38, 3) := by decide +kernel
theorem dL_law_315 : decode cL_law 315 = .ok (.aload_n 2, 1) := by decide +kernel
theorem dL_law_316 : decode cL_law 316 = .ok (.aload_n 0, 1) := by decide +kernel
theorem dL_law_317 : decode cL_law 317 = .ok (.iload_n 3, 1) := by decide +kernel
theorem dL_law_318 : decode cL_law 318 = .ok (.iconst 1, 1) := by decide +kernel
theorem dL_law_319 : decode cL_law 319 = .ok (.iadd, 1) := by decide +kernel
theorem dL_law_320 : decode cL_law 320 = .ok (.iaload, 1) := by decide +kernel
theorem dL_law_321 : decode cL_law 321 = .ok (.aload_n 0, 1) := by decide +kernel
theorem dL_law_322 : decode cL_law 322 = .ok (.iload_n 3, 1) := by decide +kernel
theorem dL_law_323 : decode cL_law 323 = .ok (.iconst 2, 1) := by decide +kernel
theorem dL_law_324 : decode cL_law 324 = .ok (.iadd, 1) := by decide +kernel
theorem dL_law_325 : decode cL_law 325 = .ok (.iaload, 1) := by decide +kernel
theorem dL_law_326 : decode cL_law 326 = .ok (.invokevirtual 41, 3) := by decide +kernel
theorem dL_law_329 : decode cL_law 329 = .ok (.if_icmp .eq 248, 3) := by decide +kernel
theorem dL_law_332 : decode cL_law 332 = .ok (.iconst 0, 1) := by decide +kernel
theorem dL_law_333 : decode cL_law 333 = .ok (.ireturn, 1) := by decide +kernel
theorem dL_law_334 : decode cL_law 334 = .ok (.aload_n 1, 1) := by decide +kernel
theorem dL_law_335 : decode cL_law 335 = .ok (.aload_n 0, 1) := by decide +kernel
theorem dL_law_336 : decode cL_law 336 = .ok (.iload_n 3, 1) := by decide +kernel
theorem dL_law_337 : decode cL_law 337 = .ok (.iconst 1, 1) := by decide +kernel
theorem dL_law_338 : decode cL_law 338 = .ok (.iadd, 1) := by decide +kernel
theorem dL_law_339 : decode cL_law 339 = .ok (.iaload, 1) := by decide +kernel
theorem dL_law_340 : decode cL_law 340 = .ok (.invokevirtual 42, 3) := by decide +kernel
theorem dL_law_343 : decode cL_law 343 = .ok (.aload_n 2, 1) := by decide +kernel
theorem dL_law_344 : decode cL_law 344 = .ok (.aload_n 0, 1) := by decide +kernel
theorem dL_law_345 : decode cL_law 345 = .ok (.iload_n 3, 1) := by decide +kernel
theorem dL_law_346 : decode cL_law 346 = .ok (.iconst 1, 1) := by decide +kernel
theorem dL_law_347 : decode cL_law 347 = .ok (.iadd, 1) := by decide +kernel
theorem dL_law_348 : decode cL_law 348 = .ok (.iaload, 1) := by decide +kernel
theorem dL_law_349 : decode cL_law 349 = .ok (.invokevirtual 45, 3) := by decide +kernel
theorem dL_law_352 : decode cL_law 352 = .ok (.if_icmp .eq 225, 3) := by decide +kernel
theorem dL_law_355 : decode cL_law 355 = .ok (.iconst 0, 1) := by decide +kernel
theorem dL_law_356 : decode cL_law 356 = .ok (.ireturn, 1) := by decide +kernel
theorem dL_law_357 : decode cL_law 357 = .ok (.aload_n 1, 1) := by decide +kernel
theorem dL_law_358 : decode cL_law 358 = .ok (.invokevirtual 46, 3) := by decide +kernel
theorem dL_law_361 : decode cL_law 361 = .ok (.aload_n 2, 1) := by decide +kernel
theorem dL_law_362 : decode cL_law 362 = .ok (.invokevirtual 50, 3) := by decide +kernel
theorem dL_law_365 : decode cL_law 365 = .ok (.if_icmp .eq 212, 3) := by decide +kernel
theorem dL_law_368 : decode cL_law 368 = .ok (.iconst 0, 1) := by decide +kernel
theorem dL_law_369 : decode cL_law 369 = .ok (.ireturn, 1) := by decide +kernel
theorem dL_law_370 : decode cL_law 370 = .ok (.aload_n 1, 1) := by decide +kernel
theorem dL_law_371 : decode cL_law 371 = .ok (.aload_n 0, 1) := by decide +kernel
theorem dL_law_372 : decode cL_law 372 = .ok (.iload_n 3, 1) := by decide +kernel
theorem dL_law_373 : decode cL_law 373 = .ok (.iconst 1, 1) := by decide +kernel
theorem dL_law_374 : decode cL_law 374 = .ok (.iadd, 1) := by decide +kernel
theorem dL_law_375 : decode cL_law 375 = .ok (.iaload, 1) := by decide +kernel
theorem dL_law_376 : decode cL_law 376 = .ok (.invokevirtual 51, 3) := by decide +kernel
theorem dL_law_379 : decode cL_law 379 = .ok (.aload_n 2, 1) := by decide +kernel
theorem dL_law_380 : decode cL_law 380 = .ok (.aload_n 0, 1) := by decide +kernel
theorem dL_law_381 : decode cL_law 381 = .ok (.iload_n 3, 1) := by decide +kernel
theorem dL_law_382 : decode cL_law 382 = .ok (.iconst 1, 1) := by decide +kernel
theorem dL_law_383 : decode cL_law 383 = .ok (.iadd, 1) := by decide +kernel
theorem dL_law_384 : decode cL_law 384 = .ok (.iaload, 1) := by decide +kernel
theorem dL_law_385 : decode cL_law 385 = .ok (.invokevirtual 54, 3) := by decide +kernel
theorem dL_law_388 : decode cL_law 388 = .ok (.if_icmp .eq 189, 3) := by decide +kernel
theorem dL_law_391 : decode cL_law 391 = .ok (.iconst 0, 1) := by decide +kernel
theorem dL_law_392 : decode cL_law 392 = .ok (.ireturn, 1) := by decide +kernel
theorem dL_law_393 : decode cL_law 393 = .ok (.aload_n 1, 1) := by decide +kernel
theorem dL_law_394 : decode cL_law 394 = .ok (.aload_n 0, 1) := by decide +kernel
theorem dL_law_395 : decode cL_law 395 = .ok (.iload_n 3, 1) := by decide +kernel
theorem dL_law_396 : decode cL_law 396 = .ok (.iconst 1, 1) := by decide +kernel
theorem dL_law_397 : decode cL_law 397 = .ok (.iadd, 1) := by decide +kernel
theorem dL_law_398 : decode cL_law 398 = .ok (.iaload, 1) := by decide +kernel
theorem dL_law_399 : decode cL_law 399 = .ok (.invokevirtual 55, 3) := by decide +kernel
theorem dL_law_402 : decode cL_law 402 = .ok (.aload_n 2, 1) := by decide +kernel
theorem dL_law_403 : decode cL_law 403 = .ok (.aload_n 0, 1) := by decide +kernel
theorem dL_law_404 : decode cL_law 404 = .ok (.iload_n 3, 1) := by decide +kernel
theorem dL_law_405 : decode cL_law 405 = .ok (.iconst 1, 1) := by decide +kernel
theorem dL_law_406 : decode cL_law 406 = .ok (.iadd, 1) := by decide +kernel
theorem dL_law_407 : decode cL_law 407 = .ok (.iaload, 1) := by decide +kernel
theorem dL_law_408 : decode cL_law 408 = .ok (.invokevirtual 58, 3) := by decide +kernel
theorem dL_law_411 : decode cL_law 411 = .ok (.if_icmp .eq 166, 3) := by decide +kernel
theorem dL_law_414 : decode cL_law 414 = .ok (.iconst 0, 1) := by decide +kernel
theorem dL_law_415 : decode cL_law 415 = .ok (.ireturn, 1) := by decide +kernel
theorem dL_law_416 : decode cL_law 416 = .ok (.aload_n 1, 1) := by decide +kernel
theorem dL_law_417 : decode cL_law 417 = .ok (.aload_n 0, 1) := by decide +kernel
theorem dL_law_418 : decode cL_law 418 = .ok (.iload_n 3, 1) := by decide +kernel
theorem dL_law_419 : decode cL_law 419 = .ok (.iconst 1, 1) := by decide +kernel
theorem dL_law_420 : decode cL_law 420 = .ok (.iadd, 1) := by decide +kernel
theorem dL_law_421 : decode cL_law 421 = .ok (.iaload, 1) := by decide +kernel
theorem dL_law_422 : decode cL_law 422 = .ok (.aload_n 0, 1) := by decide +kernel
theorem dL_law_423 : decode cL_law 423 = .ok (.iload_n 3, 1) := by decide +kernel
theorem dL_law_424 : decode cL_law 424 = .ok (.iconst 2, 1) := by decide +kernel
theorem dL_law_425 : decode cL_law 425 = .ok (.iadd, 1) := by decide +kernel
theorem dL_law_426 : decode cL_law 426 = .ok (.iaload, 1) := by decide +kernel
theorem dL_law_427 : decode cL_law 427 = .ok (.invokevirtual 59, 3) := by decide +kernel
theorem dL_law_430 : decode cL_law 430 = .ok (.aload_n 2, 1) := by decide +kernel
theorem dL_law_431 : decode cL_law 431 = .ok (.aload_n 0, 1) := by decide +kernel
theorem dL_law_432 : decode cL_law 432 = .ok (.iload_n 3, 1) := by decide +kernel
theorem dL_law_433 : decode cL_law 433 = .ok (.iconst 1, 1) := by decide +kernel
theorem dL_law_434 : decode cL_law 434 = .ok (.iadd, 1) := by decide +kernel
theorem dL_law_435 : decode cL_law 435 = .ok (.iaload, 1) := by decide +kernel
theorem dL_law_436 : decode cL_law 436 = .ok (.aload_n 0, 1) := by decide +kernel
theorem dL_law_437 : decode cL_law 437 = .ok (.iload_n 3, 1) := by decide +kernel
theorem dL_law_438 : decode cL_law 438 = .ok (.iconst 2, 1) := by decide +kernel
theorem dL_law_439 : decode cL_law 439 = .ok (.iadd, 1) := by decide +kernel
theorem dL_law_440 : decode cL_law 440 = .ok (.iaload, 1) := by decide +kernel
theorem dL_law_441 : decode cL_law 441 = .ok (.invokevirtual 62, 3) := by decide +kernel
theorem dL_law_444 : decode cL_law 444 = .ok (.if_icmp .eq 133, 3) := by decide +kernel
theorem dL_law_447 : decode cL_law 447 = .ok (.iconst 0, 1) := by decide +kernel
theorem dL_law_448 : decode cL_law 448 = .ok (.ireturn, 1) := by decide +kernel
theorem dL_law_449 : decode cL_law 449 = .ok (.aload_n 1, 1) := by decide +kernel
theorem dL_law_450 : decode cL_law 450 = .ok (.invokevirtual 63, 3) := by decide +kernel
theorem dL_law_453 : decode cL_law 453 = .ok (.aload_n 2, 1) := by decide +kernel
theorem dL_law_454 : decode cL_law 454 = .ok (.invokevirtual 66, 3) := by decide +kernel
theorem dL_law_457 : decode cL_law 457 = .ok (.if_icmp .eq 120, 3) := by decide +kernel
theorem dL_law_460 : decode cL_law 460 = .ok (.iconst 0, 1) := by decide +kernel
theorem dL_law_461 : decode cL_law 461 = .ok (.ireturn, 1) := by decide +kernel
theorem dL_law_462 : decode cL_law 462 = .ok (.aload_n 1, 1) := by decide +kernel
theorem dL_law_463 : decode cL_law 463 = .ok (.aload_n 0, 1) := by decide +kernel
theorem dL_law_464 : decode cL_law 464 = .ok (.iload_n 3, 1) := by decide +kernel
theorem dL_law_465 : decode cL_law 465 = .ok (.iconst 1, 1) := by decide +kernel
theorem dL_law_466 : decode cL_law 466 = .ok (.iadd, 1) := by decide +kernel
theorem dL_law_467 : decode cL_law 467 = .ok (.iaload, 1) := by decide +kernel
theorem dL_law_468 : decode cL_law 468 = .ok (.invokevirtual 67, 3) := by decide +kernel
theorem dL_law_471 : decode cL_law 471 = .ok (.aload_n 2, 1) := by decide +kernel
theorem dL_law_472 : decode cL_law 472 = .ok (.aload_n 0, 1) := by decide +kernel
theorem dL_law_473 : decode cL_law 473 = .ok (.iload_n 3, 1) := by decide +kernel
theorem dL_law_474 : decode cL_law 474 = .ok (.iconst 1, 1) := by decide +kernel
theorem dL_law_475 : decode cL_law 475 = .ok (.iadd, 1) := by decide +kernel
theorem dL_law_476 : decode cL_law 476 = .ok (.iaload, 1) := by decide +kernel
theorem dL_law_477 : decode cL_law 477 = .ok (.invokevirtual 70, 3) := by decide +kernel
theorem dL_law_480 : decode cL_law 480 = .ok (.if_icmp .eq 97, 3) := by decide +kernel
theorem dL_law_483 : decode cL_law 483 = .ok (.iconst 0, 1) := by decide +kernel
theorem dL_law_484 : decode cL_law 484 = .ok (.ireturn, 1) := by decide +kernel
theorem dL_law_485 : decode cL_law 485 = .ok (.aload_n 1, 1) := by decide +kernel
theorem dL_law_486 : decode cL_law 486 = .ok (.aload_n 0, 1) := by decide +kernel
theorem dL_law_487 : decode cL_law 487 = .ok (.iload_n 3, 1) := by decide +kernel
theorem dL_law_488 : decode cL_law 488 = .ok (.iconst 1, 1) := by decide +kernel
theorem dL_law_489 : decode cL_law 489 = .ok (.iadd, 1) := by decide +kernel
theorem dL_law_490 : decode cL_law 490 = .ok (.iaload, 1) := by decide +kernel
theorem dL_law_491 : decode cL_law 491 = .ok (.invokevirtual 71, 3) := by decide +kernel
theorem dL_law_494 : decode cL_law 494 = .ok (.aload_n 2, 1) := by decide +kernel
theorem dL_law_495 : decode cL_law 495 = .ok (.aload_n 0, 1) := by decide +kernel
theorem dL_law_496 : decode cL_law 496 = .ok (.iload_n 3, 1) := by decide +kernel
theorem dL_law_497 : decode cL_law 497 = .ok (.iconst 1, 1) := by decide +kernel
theorem dL_law_498 : decode cL_law 498 = .ok (.iadd, 1) := by decide +kernel
theorem dL_law_499 : decode cL_law 499 = .ok (.iaload, 1) := by decide +kernel
theorem dL_law_500 : decode cL_law 500 = .ok (.invokevirtual 74, 3) := by decide +kernel
theorem dL_law_503 : decode cL_law 503 = .ok (.if_icmp .eq 74, 3) := by decide +kernel
theorem dL_law_506 : decode cL_law 506 = .ok (.iconst 0, 1) := by decide +kernel
theorem dL_law_507 : decode cL_law 507 = .ok (.ireturn, 1) := by decide +kernel
theorem dL_law_508 : decode cL_law 508 = .ok (.aload_n 1, 1) := by decide +kernel
theorem dL_law_509 : decode cL_law 509 = .ok (.aload_n 0, 1) := by decide +kernel
theorem dL_law_510 : decode cL_law 510 = .ok (.iload_n 3, 1) := by decide +kernel
theorem dL_law_511 : decode cL_law 511 = .ok (.iconst 1, 1) := by decide +kernel
theorem dL_law_512 : decode cL_law 512 = .ok (.iadd, 1) := by decide +kernel
theorem dL_law_513 : decode cL_law 513 = .ok (.iaload, 1) := by decide +kernel
theorem dL_law_514 : decode cL_law 514 = .ok (.invokevirtual 75, 3) := by decide +kernel
theorem dL_law_517 : decode cL_law 517 = .ok (.aload_n 2, 1) := by decide +kernel
theorem dL_law_518 : decode cL_law 518 = .ok (.aload_n 0, 1) := by decide +kernel
theorem dL_law_519 : decode cL_law 519 = .ok (.iload_n 3, 1) := by decide +kernel
theorem dL_law_520 : decode cL_law 520 = .ok (.iconst 1, 1) := by decide +kernel
theorem dL_law_521 : decode cL_law 521 = .ok (.iadd, 1) := by decide +kernel
theorem dL_law_522 : decode cL_law 522 = .ok (.iaload, 1) := by decide +kernel
theorem dL_law_523 : decode cL_law 523 = .ok (.invokevirtual 78, 3) := by decide +kernel
theorem dL_law_526 : decode cL_law 526 = .ok (.if_icmp .eq 51, 3) := by decide +kernel
theorem dL_law_529 : decode cL_law 529 = .ok (.iconst 0, 1) := by decide +kernel
theorem dL_law_530 : decode cL_law 530 = .ok (.ireturn, 1) := by decide +kernel
theorem dL_law_531 : decode cL_law 531 = .ok (.aload_n 1, 1) := by decide +kernel
theorem dL_law_532 : decode cL_law 532 = .ok (.aload_n 0, 1) := by decide +kernel
theorem dL_law_533 : decode cL_law 533 = .ok (.iload_n 3, 1) := by decide +kernel
theorem dL_law_534 : decode cL_law 534 = .ok (.iconst 1, 1) := by decide +kernel
theorem dL_law_535 : decode cL_law 535 = .ok (.iadd, 1) := by decide +kernel
theorem dL_law_536 : decode cL_law 536 = .ok (.iaload, 1) := by decide +kernel
theorem dL_law_537 : decode cL_law 537 = .ok (.aload_n 0, 1) := by decide +kernel
theorem dL_law_538 : decode cL_law 538 = .ok (.iload_n 3, 1) := by decide +kernel
theorem dL_law_539 : decode cL_law 539 = .ok (.iconst 2, 1) := by decide +kernel
theorem dL_law_540 : decode cL_law 540 = .ok (.iadd, 1) := by decide +kernel
theorem dL_law_541 : decode cL_law 541 = .ok (.iaload, 1) := by decide +kernel
theorem dL_law_542 : decode cL_law 542 = .ok (.invokevirtual 79, 3) := by decide +kernel
theorem dL_law_545 : decode cL_law 545 = .ok (.aload_n 2, 1) := by decide +kernel
theorem dL_law_546 : decode cL_law 546 = .ok (.aload_n 0, 1) := by decide +kernel
theorem dL_law_547 : decode cL_law 547 = .ok (.iload_n 3, 1) := by decide +kernel
theorem dL_law_548 : decode cL_law 548 = .ok (.iconst 1, 1) := by decide +kernel
theorem dL_law_549 : decode cL_law 549 = .ok (.iadd, 1) := by decide +kernel
theorem dL_law_550 : decode cL_law 550 = .ok (.iaload, 1) := by decide +kernel
theorem dL_law_551 : decode cL_law 551 = .ok (.aload_n 0, 1) := by decide +kernel
theorem dL_law_552 : decode cL_law 552 = .ok (.iload_n 3, 1) := by decide +kernel
theorem dL_law_553 : decode cL_law 553 = .ok (.iconst 2, 1) := by decide +kernel
theorem dL_law_554 : decode cL_law 554 = .ok (.iadd, 1) := by decide +kernel
theorem dL_law_555 : decode cL_law 555 = .ok (.iaload, 1) := by decide +kernel
theorem dL_law_556 : decode cL_law 556 = .ok (.invokevirtual 82, 3) := by decide +kernel
theorem dL_law_559 : decode cL_law 559 = .ok (.if_icmp .eq 18, 3) := by decide +kernel
theorem dL_law_562 : decode cL_law 562 = .ok (.iconst 0, 1) := by decide +kernel
theorem dL_law_563 : decode cL_law 563 = .ok (.ireturn, 1) := by decide +kernel
theorem dL_law_564 : decode cL_law 564 = .ok (.aload_n 1, 1) := by decide +kernel
theorem dL_law_565 : decode cL_law 565 = .ok (.invokevirtual 83, 3) := by decide +kernel
theorem dL_law_568 : decode cL_law 568 = .ok (.aload_n 2, 1) := by decide +kernel
theorem dL_law_569 : decode cL_law 569 = .ok (.invokevirtual 86, 3) := by decide +kernel
theorem dL_law_572 : decode cL_law 572 = .ok (.if_icmp .eq 5, 3) := by decide +kernel
theorem dL_law_575 : decode cL_law 575 = .ok (.iconst 0, 1) := by decide +kernel
theorem dL_law_576 : decode cL_law 576 = .ok (.ireturn, 1) := by decide +kernel
theorem dL_law_577 : decode cL_law 577 = .ok (.iinc 3 5, 3) := by decide +kernel
theorem dL_law_580 : decode cL_law 580 = .ok (.goto (-562), 3) := by decide +kernel
theorem dL_law_583 : decode cL_law 583 = .ok (.iconst 1, 1) := by decide +kernel
theorem dL_law_584 : decode cL_law 584 = .ok (.ireturn, 1) := by decide +kernel
end
section
/-! contracts of this claim: what stands before and behind a method, the way in, the way out, the calls -/
abbrev wsU (y : MethodName) (cc : ByteArray) (n : Nat) (ret : Option FieldType) : List Cond := Cond.code y cc n ret :: wsG
theorem good_G {big : List Cond} (hbig : ∀ w ∈ wsG, w ∈ big) {w : Cond} (h : w ∈ wsG) : w ∈ big ∧ ((w.onTables && w.keeps) = true ∨ ∃ ty, w = .arrayClass ty) := ⟨hbig w h, good_of_word (List.mem_filter.mp h).2⟩
theorem goodU {big : List Cond} (hbig : ∀ w ∈ wsG, w ∈ big) {y : MethodName} {cc : ByteArray} {n : Nat} {ret : Option FieldType} (h : Cond.code y cc n ret ∈ wsG) : GoodIn big (wsU y cc n ret) := fun w hw => (List.mem_cons.mp hw).elim (fun q => by rw [q]; exact good_G hbig h) (fun q => good_G hbig q)
theorem good_c {big ws : List Cond} (hbig : ∀ w ∈ wsG, w ∈ big) {w : Cond} (h : w ∈ wsG) (hw : GoodIn big ws) : GoodIn big (w :: ws) := fun x hx => (List.mem_cons.mp hx).elim (fun q => by rw [q]; exact good_G hbig h) (fun q => hw x q)
def ncl : List (Nat × String × String × String) := [(111, "SignedCore$Tally", "haltedAt", "I"), (114, "SignedCore$Tally", "steps", "I"), (117, "SignedCore$Tally", "breaks", "I"), (120, "SignedCore$Tally", "chainWords", "I"), (123, "SignedCore$Tally", "pointsPut", "I"), (126, "SignedCore$Tally", "skips", "I"), (129, "SignedCore$Tally", "overflows", "I"), (132, "SignedCore$Tally", "allSteps", "I"), (144, "SignedCore$Display", "total", "I"), (147, "SignedCore$SentRow", "lost", "I"), (150, "SignedCore$SentRow", "count", "I")]
def ncs : List Cond := ncl.map fun q => Cond.fieldLinkNest RX4 q.1 q.2.1 q.2.2.1 q.2.2.2 "SignedCore"
def cN (U : State) : Prop := ∀ w ∈ ncs, va_Nw w U
theorem cN_warm {s U : State} (hW : s.WarmedH U.vm) (h : cN s) : cN U := by
  intro w hw
  obtain ⟨q, hq, rfl⟩ := List.mem_map.mp hw
  exact va_Nw.warmF hW (h _ (List.mem_map.mpr ⟨q, hq, rfl⟩))
theorem cN_calling {U : State} {g : JFrame} {mk : MethodId} {a : Array Value} (h : cN U) : cN (U.calling g mk a) := by
  intro w hw
  have h1 := h w hw
  obtain ⟨q, hq, rfl⟩ := List.mem_map.mp hw
  exact va_Nw.same rfl rfl h1
theorem nc_at {U : State} (h : cN U) (i : Nat) {n : Nat} {c f d : String} (hi : ncl[i]? = some (n, c, f, d)) {args : Array Value} : (Cond.fieldLinkNest RX4 n c f d "SignedCore").before args U = true := va_Nw.use rfl (h _ (List.mem_map.mpr ⟨(n, c, f, d), List.mem_of_getElem? hi, rfl⟩))
def cP (D : va_G) (cI : ClassId) (w : va_W) (sz : Nat) (U : State) : Prop := U.heap.size = sz ∧ va_P D vwCl w U.heap ∧ va_K D vwCl [(cI, .int)] U ∧ va_D (fun _ => True) w ∧ cN U
def cB (D : va_G) (cI : ClassId) (A : Nat → Prop) (w : va_W) (t : State) : Prop := va_P D vwCl w t.heap ∧ va_K D vwCl [(cI, .int)] t ∧ va_D A w
def MetI (l : Launch) (y : MethodName) (ws : List Cond) (rm : Room) (D : va_G) (cI : ClassId) (av : List Value) (w : va_W) {S : Type} (wf : S → va_W) (post : Int32 → S → Prop) : Prop :=
  ∀ sz, Met l y ws rm (va_Pc av (cP D cI w sz)) (va_Qi post (fun u => cB D cI (va_A w sz) (wf u)) (va_A w sz)) 0 0 (va_A w sz)
def MetL (l : Launch) (y : MethodName) (ws : List Cond) (rm : Room) (D : va_G) (cI : ClassId) (av : List Value) (w : va_W) {S : Type} (wf : S → va_W) (post : Int64 → S → Prop) : Prop :=
  ∀ sz, Met l y ws rm (va_Pc av (cP D cI w sz)) (va_Ql post (fun u => cB D cI (va_A w sz) (wf u)) (va_A w sz)) 0 0 (va_A w sz)
def MetV (l : Launch) (y : MethodName) (ws : List Cond) (rm : Room) (D : va_G) (cI : ClassId) (av : List Value) (w : va_W) {S : Type} (wf : S → va_W) (post : S → Prop) : Prop :=
  ∀ sz, Met l y ws rm (va_Pc av (cP D cI w sz)) (va_Qv post (fun u => cB D cI (va_A w sz) (wf u)) (va_A w sz)) 0 0 (va_A w sz)
theorem cP_blind {av : List Value} {D : va_G} {cI : ClassId} {w : va_W} {sz : Nat} : FrameBlind (va_Pc av (cP D cI w sz)) := fun a U g mk q => by
  obtain ⟨q0, q1, qP, qK, qD, qN⟩ := q
  exact ⟨q0, q1, qP, va_K.moved (u := U) (U := U.calling g mk a) (Vm.Alike.refl U.vm) qK, qD, cN_calling qN⟩
theorem cP_pre {av : List Value} {D : va_G} {cI : ClassId} {w : va_W} {s : State} {H : Heap} {A : Nat → Prop} (hP : va_P D vwCl w H) (hD : va_D A w) (hK : va_K D vwCl [(cI, .int)] s) (hN : cN s) : ∀ U : State, U.heap = H → s.WarmedH U.vm → va_Pc av (cP D cI w H.size) av.toArray U :=
  fun U hU hW => ⟨rfl, by rw [hU], by rw [hU]; exact hP, va_K.moved hW.alike hK, hD.weaken (fun _ _ _ _ => trivial), cN_warm hW hN⟩
theorem free_A {A : Nat → Prop} {w : va_W} {H0 H : Heap} {locs : List Loc} (hD : va_D A w) (hS : va_S A H0 H locs) (hA : ∀ q, H0.size ≤ q → A q) : ∀ q, va_A w H.size q → A q := by
  intro q hq
  rcases hq with ⟨k, e, hk⟩ | hq
  · exact hD.2 k _ hk
  · exact hA q (Nat.le_trans hS.1 hq)
set_option maxHeartbeats 4000000 in
theorem MetI.of {l : Launch} {y : MethodName} {cc : ByteArray} {maxL : Nat} {ty : FieldType} {rm : Room} {D : va_G} {cI : ClassId} {av : List Value} {w : va_W} {S : Type} {wf : S → va_W} {post : Int32 → S → Prop} (hy : plainName y.cls = true) (hlen : (lg_sl av).length ≤ maxL)
    (body : ∀ (p : Program) (e : Env) (s : State) (m : MethodId) (below : List Frame) (meth : Method) (c : Code) (A : Nat → Prop) (Q : State → Prop) (ls : Array Slot), p.tables.exec = Jvm.exec → c.code = cc → c.maxLocals = maxL → s.vm.findClass y.cls = some m.cls → (∀ w ∈ wsG, w.before av.toArray s = true) → va_K D vwCl [(cI, .int)] s → cN s → (∀ q : Nat, s.heap.size ≤ q → A q) →
      (∀ (v : Int32) (u : S) (H : Heap) (locs : List Loc) (pc : Nat) (ls : Array Slot), narrow ty (.int v) = .int v → post v u → va_P D vwCl (wf u) H → va_D A (wf u) → va_S A s.heap H locs → decode cc pc = .ok (.ireturn, 1) → W p l e rm s m av.toArray below meth c H locs 0 0 Q (F0 m pc ls [.int v])) →
      va_P D vwCl w s.heap → va_D A w → va_S A s.heap s.heap [] → lv_has ls maxL (lv_args 0 av) → W p l e rm s m av.toArray below meth c s.heap [] 0 0 Q (F0 m 0 ls [])) : MetI l y (wsU y cc maxL (some ty)) rm D cI av w wf post := by
  intro sz
  refine Met.ofW (cc := cc) (maxL := maxL) (ret := some ty) hy rfl ?_
  intro p e s m args below meth c s₁ B hml hv
  obtain ⟨rfl, hsz, hP, hK, hD0, hN⟩ := hv
  have hx := B.exec
  have hb := B.bytes
  have hr := B.returns
  have hts := atoms_spec (ws := wsU y cc maxL (some ty)) B.pre
  have hown : s.vm.findClass y.cls = some m.cls := findClass_of_methodNamed B.named
  have hlocks := B.notSynchronized
  subst hsz
  have hD := hD0.self (sz := s.heap.size)
  have hA : ∀ q : Nat, s.heap.size ≤ q → va_A w s.heap.size q := fun q h => Or.inr h
  have hl := lv_entry av (n := maxL) hlen
  rw [lg_entry_eq]
  refine body p e s m below meth c (va_A w s.heap.size) _ _ hx hb hml hown (fun w h => hts w (List.mem_cons_of_mem _ h)) hK hN hA ?_ hP hD va_S.rf hl
  intro v u H locs pc ls hn hp hP hD hS hdg
  exact W.zret hx hb hr hn (fun t ht hW => ⟨⟨v, u, rfl, hp, by rw [ht]; exact hP, va_K.moved hW.alike hK, hD⟩, hS.F ht⟩) hS.2.2 hdg
set_option maxHeartbeats 4000000 in
theorem MetL.of {l : Launch} {y : MethodName} {cc : ByteArray} {maxL : Nat} {rm : Room} {D : va_G} {cI : ClassId} {av : List Value} {w : va_W} {S : Type} {wf : S → va_W} {post : Int64 → S → Prop} (hy : plainName y.cls = true) (hlen : (lg_sl av).length ≤ maxL)
    (body : ∀ (p : Program) (e : Env) (s : State) (m : MethodId) (below : List Frame) (meth : Method) (c : Code) (A : Nat → Prop) (Q : State → Prop) (ls : Array Slot), p.tables.exec = Jvm.exec → c.code = cc → c.maxLocals = maxL → s.vm.findClass y.cls = some m.cls → (∀ w ∈ wsG, w.before av.toArray s = true) → va_K D vwCl [(cI, .int)] s → cN s → (∀ q : Nat, s.heap.size ≤ q → A q) →
      (∀ (v : Int64) (u : S) (H : Heap) (locs : List Loc) (pc : Nat) (ls : Array Slot), post v u → va_P D vwCl (wf u) H → va_D A (wf u) → va_S A s.heap H locs → decode cc pc = .ok (.lreturn, 1) → W p l e rm s m av.toArray below meth c H locs 0 0 Q (F0 m pc ls [.long v])) →
      va_P D vwCl w s.heap → va_D A w → va_S A s.heap s.heap [] → lv_has ls maxL (lv_args 0 av) → W p l e rm s m av.toArray below meth c s.heap [] 0 0 Q (F0 m 0 ls [])) : MetL l y (wsU y cc maxL (some .long)) rm D cI av w wf post := by
  intro sz
  refine Met.ofW (cc := cc) (maxL := maxL) (ret := some .long) hy rfl ?_
  intro p e s m args below meth c s₁ B hml hv
  obtain ⟨rfl, hsz, hP, hK, hD0, hN⟩ := hv
  have hx := B.exec
  have hb := B.bytes
  have hr := B.returns
  have hts := atoms_spec (ws := wsU y cc maxL (some .long)) B.pre
  have hown : s.vm.findClass y.cls = some m.cls := findClass_of_methodNamed B.named
  have hlocks := B.notSynchronized
  subst hsz
  have hD := hD0.self (sz := s.heap.size)
  have hA : ∀ q : Nat, s.heap.size ≤ q → va_A w s.heap.size q := fun q h => Or.inr h
  have hl := lv_entry av (n := maxL) hlen
  rw [lg_entry_eq]
  refine body p e s m below meth c (va_A w s.heap.size) _ _ hx hb hml hown (fun w h => hts w (List.mem_cons_of_mem _ h)) hK hN hA ?_ hP hD va_S.rf hl
  intro v u H locs pc ls hp hP hD hS hdg
  exact W.lret hx hb hr (fun t ht hW => ⟨⟨v, u, rfl, hp, by rw [ht]; exact hP, va_K.moved hW.alike hK, hD⟩, hS.F ht⟩) hS.2.2 hdg
set_option maxHeartbeats 4000000 in
theorem MetV.of {l : Launch} {y : MethodName} {cc : ByteArray} {maxL : Nat} {rm : Room} {D : va_G} {cI : ClassId} {av : List Value} {w : va_W} {S : Type} {wf : S → va_W} {post : S → Prop} (hy : plainName y.cls = true) (hlen : (lg_sl av).length ≤ maxL)
    (body : ∀ (p : Program) (e : Env) (s : State) (m : MethodId) (below : List Frame) (meth : Method) (c : Code) (A : Nat → Prop) (Q : State → Prop) (ls : Array Slot), p.tables.exec = Jvm.exec → c.code = cc → c.maxLocals = maxL → s.vm.findClass y.cls = some m.cls → (∀ w ∈ wsG, w.before av.toArray s = true) → va_K D vwCl [(cI, .int)] s → cN s → (∀ q : Nat, s.heap.size ≤ q → A q) →
      (∀ (u : S) (H : Heap) (locs : List Loc) (pc : Nat) (ls : Array Slot), post u → va_P D vwCl (wf u) H → va_D A (wf u) → va_S A s.heap H locs → decode cc pc = .ok (.return_, 1) → W p l e rm s m av.toArray below meth c H locs 0 0 Q (F0 m pc ls [])) →
      va_P D vwCl w s.heap → va_D A w → va_S A s.heap s.heap [] → lv_has ls maxL (lv_args 0 av) → W p l e rm s m av.toArray below meth c s.heap [] 0 0 Q (F0 m 0 ls [])) : MetV l y (wsU y cc maxL none) rm D cI av w wf post := by
  intro sz
  refine Met.ofW (cc := cc) (maxL := maxL) (ret := none) hy rfl ?_
  intro p e s m args below meth c s₁ B hml hv
  obtain ⟨rfl, hsz, hP, hK, hD0, hN⟩ := hv
  have hx := B.exec
  have hb := B.bytes
  have hr := B.returns
  have hts := atoms_spec (ws := wsU y cc maxL none) B.pre
  have hown : s.vm.findClass y.cls = some m.cls := findClass_of_methodNamed B.named
  have hlocks := B.notSynchronized
  subst hsz
  have hD := hD0.self (sz := s.heap.size)
  have hA : ∀ q : Nat, s.heap.size ≤ q → va_A w s.heap.size q := fun q h => Or.inr h
  have hl := lv_entry av (n := maxL) hlen
  rw [lg_entry_eq]
  refine body p e s m below meth c (va_A w s.heap.size) _ _ hx hb hml hown (fun w h => hts w (List.mem_cons_of_mem _ h)) hK hN hA ?_ hP hD va_S.rf hl
  intro u H locs pc ls hp hP hD hS hdg
  exact W.vret hx hb hr (fun t ht hW => ⟨⟨u, rfl, hp, by rw [ht]; exact hP, va_K.moved hW.alike hK, hD⟩, hS.F ht⟩) hS.2.2 hdg
section CALLS
variable {p : Program} {l : Launch} {e : Env} {R : Room} {s : State} {m : MethodId} {args : Array Value} {below : List Frame} {meth : Method} {c : Code} {H H0 : Heap} {locs : List Loc} {Q : State → Prop} {cells slots : Nat}
  {y : MethodName} {bytes cc : ByteArray} {maxL nL index : Nat} {ret : Option FieldType} {rm : Room} {D : va_G} {cI : ClassId} {w : va_W} {own C : String} {b : Addr} {As rest st : List Value} {A : Nat → Prop} {pc : Nat} {ls : Array Slot} {S : Type} {wf : S → va_W}
abbrev cFix (p : Program) (s : State) (m : MethodId) (args : Array Value) (c : Code) (cc : ByteArray) (nL : Nat) (own : String) (D : va_G) (cI : ClassId) (H0 : Heap) (A : Nat → Prop) : Prop :=
  p.tables.exec = Jvm.exec ∧ c.code = cc ∧ c.maxLocals = nL ∧ s.vm.findClass own = some m.cls ∧ (∀ w ∈ wsG, w.before args s = true) ∧ va_K D vwCl [(cI, .int)] s ∧ cN s ∧ (∀ q : Nat, H0.size ≤ q → A q)
abbrev cWV (R : Room) (own C : String) (index : Nat) (y : MethodName) (bytes : ByteArray) (maxL : Nat) (ret : Option FieldType) (rm : Room) (n : Nat) : Prop :=
  Cond.methodLink own index y ∈ wsG ∧ Cond.instanceMethod y ∈ wsG ∧ Cond.selects C y y ∈ wsG ∧ Cond.initialized C ∈ wsG ∧ Cond.code y bytes maxL ret ∈ wsG ∧ (y.cls = C ∧ y.cls ≠ "java/lang/invoke/MethodHandle" ∧ y.cls ≠ "java/lang/invoke/VarHandle" ∧ (parseMethodDescriptor y.desc).map (fun d => d.parameters.length) = some n) ∧ rm.cells = 0 ∧ rm.slots = 0 ∧ (rm.frames + 1 ≤ R.frames ∧ 8 + (maxL + 11) + rm.locals ≤ R.locals)
abbrev cWS (R : Room) (own : String) (index : Nat) (y : MethodName) (bytes : ByteArray) (maxL : Nat) (ret : Option FieldType) (rm : Room) (n : Nat) : Prop :=
  Cond.methodLink own index y ∈ wsG ∧ Cond.static y ∈ wsG ∧ Cond.initialized y.cls ∈ wsG ∧ Cond.code y bytes maxL ret ∈ wsG ∧ (y.cls ≠ "java/lang/invoke/MethodHandle" ∧ y.cls ≠ "java/lang/invoke/VarHandle" ∧ (parseMethodDescriptor y.desc).map (fun d => d.parameters.length) = some n) ∧ rm.cells = 0 ∧ rm.slots = 0 ∧ (rm.frames + 1 ≤ R.frames ∧ 8 + (maxL + 11) + rm.locals ≤ R.locals)
theorem cw_V {n : Nat} (hts : ∀ w ∈ wsG, w.before args s = true) (h : cWV R own C index y bytes maxL ret rm n) : CallW R s args own C index y bytes maxL ret (wsU y bytes maxL ret) rm 0 0 n := by
  obtain ⟨h1, h2, h3, h4, h5, h6, h7, h8, h9⟩ := h
  exact cwV (Ts := wsG) n hts (by unfold wsV; exact good_c (fun _ h => h) h1 (good_c (fun _ h => h) h2 (good_c (fun _ h => h) h3 (good_c (fun _ h => h) h4 (goodU (fun _ h => h) h5))))) rfl h7 h8 h6 h9
theorem cw_S {n : Nat} (hts : ∀ w ∈ wsG, w.before args s = true) (h : cWS R own index y bytes maxL ret rm n) : CallB R s args own index y bytes maxL ret (wsU y bytes maxL ret) rm 0 0 n ∧ (Cond.static y).before args s = true := by
  obtain ⟨h1, h2, h4, h5, h6, h7, h8, h9⟩ := h
  exact va_cwS (Ts := wsG) n hts (by unfold va_wsS; exact good_c (fun _ h => h) h1 (good_c (fun _ h => h) h2 (good_c (fun _ h => h) h4 (goodU (fun _ h => h) h5)))) rfl h7 h8 h6 h9
theorem call_Vi (n : Nat) {post : Int32 → S → Prop} (hM : MetI l y (wsU y bytes maxL ret) rm D cI (.ref b :: As) w wf post) (F : cFix p s m args c cc nL own D cI H0 A) (cw : cWV R own C index y bytes maxL ret rm n) (hn : As.length = n) (hrec : ∃ cell : Cell, H[b]? = some cell ∧ cell.vm.isStatics = false ∧ s.vm.findClass C = some cell.cls)
    (hP : va_P D vwCl w H) (hD : va_D A w) (hS : va_S A H0 H locs) (hsize : ls.size = nL) (hst : st = As.reverse ++ .ref b :: rest) (hW : (rest.map fun v => v.category).sum ≤ 8) (hdg : decode cc pc = .ok (.invokevirtual index, 3)) (hf : cells ≤ R.cells ∧ slots ≤ R.slots)
    (kk : ∀ (r : Int32) (u : S) (H1 : Heap) (locs1 : List Loc), post r u → va_P D vwCl (wf u) H1 → va_D A (wf u) → va_S A H0 H1 locs1 → W p l e R s m args below meth c H1 locs1 cells slots Q (F0 m (pc + 3) ls (.int r :: rest))) : W p l e R s m args below meth c H locs cells slots Q (F0 m pc ls st) := by
  obtain ⟨hx, hb, hml, hown, hts, hK, hN, hA⟩ := F
  have hFc := free_A hD hS hA
  refine va_calli (va_runV (As := As) (rest := rest) ⟨hx, hb, hml, hown, hts⟩ (hM H.size) (cw_V hts cw) ⟨cP_blind, hrec, cP_pre hP hD hK hN⟩ rfl hn hsize hst (lv_room hW) hdg hf) hS (fun q _ h => hFc q h) hFc (fun r u t H1 locs ht hvm hw hB hz1 hk1 hS => ?_)
  obtain ⟨hP1, hK1, hD1⟩ := hB
  rw [ht] at hP1
  exact kk r u H1 locs hw hP1 (hD1.weaken (fun _ _ _ h => hFc _ h)) hS
theorem call_Vl (n : Nat) {post : Int64 → S → Prop} (hM : MetL l y (wsU y bytes maxL ret) rm D cI (.ref b :: As) w wf post) (F : cFix p s m args c cc nL own D cI H0 A) (cw : cWV R own C index y bytes maxL ret rm n) (hn : As.length = n) (hrec : ∃ cell : Cell, H[b]? = some cell ∧ cell.vm.isStatics = false ∧ s.vm.findClass C = some cell.cls)
    (hP : va_P D vwCl w H) (hD : va_D A w) (hS : va_S A H0 H locs) (hsize : ls.size = nL) (hst : st = As.reverse ++ .ref b :: rest) (hW : (rest.map fun v => v.category).sum ≤ 8) (hdg : decode cc pc = .ok (.invokevirtual index, 3)) (hf : cells ≤ R.cells ∧ slots ≤ R.slots)
    (kk : ∀ (r : Int64) (u : S) (H1 : Heap) (locs1 : List Loc), post r u → va_P D vwCl (wf u) H1 → va_D A (wf u) → va_S A H0 H1 locs1 → W p l e R s m args below meth c H1 locs1 cells slots Q (F0 m (pc + 3) ls (.long r :: rest))) : W p l e R s m args below meth c H locs cells slots Q (F0 m pc ls st) := by
  obtain ⟨hx, hb, hml, hown, hts, hK, hN, hA⟩ := F
  have hFc := free_A hD hS hA
  refine va_calll (va_runV (As := As) (rest := rest) ⟨hx, hb, hml, hown, hts⟩ (hM H.size) (cw_V hts cw) ⟨cP_blind, hrec, cP_pre hP hD hK hN⟩ rfl hn hsize hst (lv_room hW) hdg hf) hS (fun q _ h => hFc q h) hFc (fun r u t H1 locs ht hvm hw hB hz1 hk1 hS => ?_)
  obtain ⟨hP1, hK1, hD1⟩ := hB
  rw [ht] at hP1
  exact kk r u H1 locs hw hP1 (hD1.weaken (fun _ _ _ h => hFc _ h)) hS
theorem call_Vv (n : Nat) {post : S → Prop} (hM : MetV l y (wsU y bytes maxL ret) rm D cI (.ref b :: As) w wf post) (F : cFix p s m args c cc nL own D cI H0 A) (cw : cWV R own C index y bytes maxL ret rm n) (hn : As.length = n) (hrec : ∃ cell : Cell, H[b]? = some cell ∧ cell.vm.isStatics = false ∧ s.vm.findClass C = some cell.cls)
    (hP : va_P D vwCl w H) (hD : va_D A w) (hS : va_S A H0 H locs) (hsize : ls.size = nL) (hst : st = As.reverse ++ .ref b :: rest) (hW : (rest.map fun v => v.category).sum ≤ 8) (hdg : decode cc pc = .ok (.invokevirtual index, 3)) (hf : cells ≤ R.cells ∧ slots ≤ R.slots)
    (kk : ∀ (u : S) (H1 : Heap) (locs1 : List Loc), post u → va_P D vwCl (wf u) H1 → va_D A (wf u) → va_S A H0 H1 locs1 → W p l e R s m args below meth c H1 locs1 cells slots Q (F0 m (pc + 3) ls rest)) : W p l e R s m args below meth c H locs cells slots Q (F0 m pc ls st) := by
  obtain ⟨hx, hb, hml, hown, hts, hK, hN, hA⟩ := F
  have hFc := free_A hD hS hA
  refine va_callv (va_runV (As := As) (rest := rest) ⟨hx, hb, hml, hown, hts⟩ (hM H.size) (cw_V hts cw) ⟨cP_blind, hrec, cP_pre hP hD hK hN⟩ rfl hn hsize hst (lv_room hW) hdg hf) hS (fun q _ h => hFc q h) hFc (fun u t H1 locs ht hvm hw hB hz1 hk1 hS => ?_)
  obtain ⟨hP1, hK1, hD1⟩ := hB
  rw [ht] at hP1
  exact kk u H1 locs hw hP1 (hD1.weaken (fun _ _ _ h => hFc _ h)) hS
theorem call_Si (n : Nat) {post : Int32 → S → Prop} (hM : MetI l y (wsU y bytes maxL ret) rm D cI As w wf post) (F : cFix p s m args c cc nL own D cI H0 A) (cw : cWS R own index y bytes maxL ret rm n) (hn : As.length = n)
    (hP : va_P D vwCl w H) (hD : va_D A w) (hS : va_S A H0 H locs) (hsize : ls.size = nL) (hst : st = As.reverse ++ rest) (hW : (rest.map fun v => v.category).sum ≤ 8) (hdg : decode cc pc = .ok (.invokestatic index, 3)) (hf : cells ≤ R.cells ∧ slots ≤ R.slots)
    (kk : ∀ (r : Int32) (u : S) (H1 : Heap) (locs1 : List Loc), post r u → va_P D vwCl (wf u) H1 → va_D A (wf u) → va_S A H0 H1 locs1 → W p l e R s m args below meth c H1 locs1 cells slots Q (F0 m (pc + 3) ls (.int r :: rest))) : W p l e R s m args below meth c H locs cells slots Q (F0 m pc ls st) := by
  obtain ⟨hx, hb, hml, hown, hts, hK, hN, hA⟩ := F
  have hFc := free_A hD hS hA
  refine va_calli (va_runS (As := As) (rest := rest) ⟨hx, hb, hml, hown, hts⟩ (hM H.size) (cw_S hts cw) ⟨cP_blind, cP_pre hP hD hK hN⟩ rfl hn hsize hst (lv_room hW) hdg hf) hS (fun q _ h => hFc q h) hFc (fun r u t H1 locs ht hvm hw hB hz1 hk1 hS => ?_)
  obtain ⟨hP1, hK1, hD1⟩ := hB
  rw [ht] at hP1
  exact kk r u H1 locs hw hP1 (hD1.weaken (fun _ _ _ h => hFc _ h)) hS
theorem call_Sl (n : Nat) {post : Int64 → S → Prop} (hM : MetL l y (wsU y bytes maxL ret) rm D cI As w wf post) (F : cFix p s m args c cc nL own D cI H0 A) (cw : cWS R own index y bytes maxL ret rm n) (hn : As.length = n)
    (hP : va_P D vwCl w H) (hD : va_D A w) (hS : va_S A H0 H locs) (hsize : ls.size = nL) (hst : st = As.reverse ++ rest) (hW : (rest.map fun v => v.category).sum ≤ 8) (hdg : decode cc pc = .ok (.invokestatic index, 3)) (hf : cells ≤ R.cells ∧ slots ≤ R.slots)
    (kk : ∀ (r : Int64) (u : S) (H1 : Heap) (locs1 : List Loc), post r u → va_P D vwCl (wf u) H1 → va_D A (wf u) → va_S A H0 H1 locs1 → W p l e R s m args below meth c H1 locs1 cells slots Q (F0 m (pc + 3) ls (.long r :: rest))) : W p l e R s m args below meth c H locs cells slots Q (F0 m pc ls st) := by
  obtain ⟨hx, hb, hml, hown, hts, hK, hN, hA⟩ := F
  have hFc := free_A hD hS hA
  refine va_calll (va_runS (As := As) (rest := rest) ⟨hx, hb, hml, hown, hts⟩ (hM H.size) (cw_S hts cw) ⟨cP_blind, cP_pre hP hD hK hN⟩ rfl hn hsize hst (lv_room hW) hdg hf) hS (fun q _ h => hFc q h) hFc (fun r u t H1 locs ht hvm hw hB hz1 hk1 hS => ?_)
  obtain ⟨hP1, hK1, hD1⟩ := hB
  rw [ht] at hP1
  exact kk r u H1 locs hw hP1 (hD1.weaken (fun _ _ _ h => hFc _ h)) hS
end CALLS
end
section
/-! the state of the machine, the same for the class and for the reference -/
abbrev St : Type := (Int32 × Int32 × Int32 × Int32 × Int32) × (Int32 × Int32 × Int32 × Int32 × Int32) × ((Nat → Int32) × (Nat → Int32) × (Nat → Int32) × (Nat → Int32) × (Nat → Int32)) × (Int32 × Int32 × Int32 × Int32 × Int32) × (Int32 × Int32 × Int32 × Int32 × Int32 × Int32 × Int32 × Int32) × (Int32)
def g_ac (σ : St) : Int32 := σ.1.1
def s_ac (σ : St) (v : Int32) : St := ((v, σ.1.2.1, σ.1.2.2.1, σ.1.2.2.2.1, σ.1.2.2.2.2), σ.2.1, σ.2.2.1, σ.2.2.2.1, σ.2.2.2.2.1, σ.2.2.2.2.2)
def g_io (σ : St) : Int32 := σ.1.2.1
def s_io (σ : St) (v : Int32) : St := ((σ.1.1, v, σ.1.2.2.1, σ.1.2.2.2.1, σ.1.2.2.2.2), σ.2.1, σ.2.2.1, σ.2.2.2.1, σ.2.2.2.2.1, σ.2.2.2.2.2)
def g_pc (σ : St) : Int32 := σ.1.2.2.1
def s_pc (σ : St) (v : Int32) : St := ((σ.1.1, σ.1.2.1, v, σ.1.2.2.2.1, σ.1.2.2.2.2), σ.2.1, σ.2.2.1, σ.2.2.2.1, σ.2.2.2.2.1, σ.2.2.2.2.2)
def g_ov (σ : St) : Int32 := σ.1.2.2.2.1
def s_ov (σ : St) (v : Int32) : St := ((σ.1.1, σ.1.2.1, σ.1.2.2.1, v, σ.1.2.2.2.2), σ.2.1, σ.2.2.1, σ.2.2.2.1, σ.2.2.2.2.1, σ.2.2.2.2.2)
def g_flags (σ : St) : Int32 := σ.1.2.2.2.2
def s_flags (σ : St) (v : Int32) : St := ((σ.1.1, σ.1.2.1, σ.1.2.2.1, σ.1.2.2.2.1, v), σ.2.1, σ.2.2.1, σ.2.2.2.1, σ.2.2.2.2.1, σ.2.2.2.2.2)
def g_on (σ : St) : Int32 := σ.2.1.1
def s_on (σ : St) (v : Int32) : St := (σ.1, (v, σ.2.1.2.1, σ.2.1.2.2.1, σ.2.1.2.2.2.1, σ.2.1.2.2.2.2), σ.2.2.1, σ.2.2.2.1, σ.2.2.2.2.1, σ.2.2.2.2.2)
def g_asked (σ : St) : Int32 := σ.2.1.2.1
def s_asked (σ : St) (v : Int32) : St := (σ.1, (σ.2.1.1, v, σ.2.1.2.2.1, σ.2.1.2.2.2.1, σ.2.1.2.2.2.2), σ.2.2.1, σ.2.2.2.1, σ.2.2.2.2.1, σ.2.2.2.2.2)
def g_under (σ : St) : Int32 := σ.2.1.2.2.1
def s_under (σ : St) (v : Int32) : St := (σ.1, (σ.2.1.1, σ.2.1.2.1, v, σ.2.1.2.2.2.1, σ.2.1.2.2.2.2), σ.2.2.1, σ.2.2.2.1, σ.2.2.2.2.1, σ.2.2.2.2.2)
def g_sw (σ : St) : Int32 := σ.2.1.2.2.2.1
def s_sw (σ : St) (v : Int32) : St := (σ.1, (σ.2.1.1, σ.2.1.2.1, σ.2.1.2.2.1, v, σ.2.1.2.2.2.2), σ.2.2.1, σ.2.2.2.1, σ.2.2.2.2.1, σ.2.2.2.2.2)
def g_test (σ : St) : Int32 := σ.2.1.2.2.2.2
def s_test (σ : St) (v : Int32) : St := (σ.1, (σ.2.1.1, σ.2.1.2.1, σ.2.1.2.2.1, σ.2.1.2.2.2.1, v), σ.2.2.1, σ.2.2.2.1, σ.2.2.2.2.1, σ.2.2.2.2.2)
def g_cells (σ : St) : (Nat → Int32) := σ.2.2.1.1
def s_cells (σ : St) (v : (Nat → Int32)) : St := (σ.1, σ.2.1, (v, σ.2.2.1.2.1, σ.2.2.1.2.2.1, σ.2.2.1.2.2.2.1, σ.2.2.1.2.2.2.2), σ.2.2.2.1, σ.2.2.2.2.1, σ.2.2.2.2.2)
def g_row (σ : St) : (Nat → Int32) := σ.2.2.1.2.1
def s_row (σ : St) (v : (Nat → Int32)) : St := (σ.1, σ.2.1, (σ.2.2.1.1, v, σ.2.2.1.2.2.1, σ.2.2.1.2.2.2.1, σ.2.2.1.2.2.2.2), σ.2.2.2.1, σ.2.2.2.2.1, σ.2.2.2.2.2)
def g_out (σ : St) : (Nat → Int32) := σ.2.2.1.2.2.1
def s_out (σ : St) (v : (Nat → Int32)) : St := (σ.1, σ.2.1, (σ.2.2.1.1, σ.2.2.1.2.1, v, σ.2.2.1.2.2.2.1, σ.2.2.1.2.2.2.2), σ.2.2.2.1, σ.2.2.2.2.1, σ.2.2.2.2.2)
def g_px (σ : St) : (Nat → Int32) := σ.2.2.1.2.2.2.1
def s_px (σ : St) (v : (Nat → Int32)) : St := (σ.1, σ.2.1, (σ.2.2.1.1, σ.2.2.1.2.1, σ.2.2.1.2.2.1, v, σ.2.2.1.2.2.2.2), σ.2.2.2.1, σ.2.2.2.2.1, σ.2.2.2.2.2)
def g_py (σ : St) : (Nat → Int32) := σ.2.2.1.2.2.2.2
def s_py (σ : St) (v : (Nat → Int32)) : St := (σ.1, σ.2.1, (σ.2.2.1.1, σ.2.2.1.2.1, σ.2.2.1.2.2.1, σ.2.2.1.2.2.2.1, v), σ.2.2.2.1, σ.2.2.2.2.1, σ.2.2.2.2.2)
def g_cnt (σ : St) : Int32 := σ.2.2.2.1.1
def s_cnt (σ : St) (v : Int32) : St := (σ.1, σ.2.1, σ.2.2.1, (v, σ.2.2.2.1.2.1, σ.2.2.2.1.2.2.1, σ.2.2.2.1.2.2.2.1, σ.2.2.2.1.2.2.2.2), σ.2.2.2.2.1, σ.2.2.2.2.2)
def g_taken (σ : St) : Int32 := σ.2.2.2.1.2.1
def s_taken (σ : St) (v : Int32) : St := (σ.1, σ.2.1, σ.2.2.1, (σ.2.2.2.1.1, v, σ.2.2.2.1.2.2.1, σ.2.2.2.1.2.2.2.1, σ.2.2.2.1.2.2.2.2), σ.2.2.2.2.1, σ.2.2.2.2.2)
def g_outs (σ : St) : Int32 := σ.2.2.2.1.2.2.1
def s_outs (σ : St) (v : Int32) : St := (σ.1, σ.2.1, σ.2.2.1, (σ.2.2.2.1.1, σ.2.2.2.1.2.1, v, σ.2.2.2.1.2.2.2.1, σ.2.2.2.1.2.2.2.2), σ.2.2.2.2.1, σ.2.2.2.2.2)
def g_lost (σ : St) : Int32 := σ.2.2.2.1.2.2.2.1
def s_lost (σ : St) (v : Int32) : St := (σ.1, σ.2.1, σ.2.2.1, (σ.2.2.2.1.1, σ.2.2.2.1.2.1, σ.2.2.2.1.2.2.1, v, σ.2.2.2.1.2.2.2.2), σ.2.2.2.2.1, σ.2.2.2.2.2)
def g_pts (σ : St) : Int32 := σ.2.2.2.1.2.2.2.2
def s_pts (σ : St) (v : Int32) : St := (σ.1, σ.2.1, σ.2.2.1, (σ.2.2.2.1.1, σ.2.2.2.1.2.1, σ.2.2.2.1.2.2.1, σ.2.2.2.1.2.2.2.1, v), σ.2.2.2.2.1, σ.2.2.2.2.2)
def g_t0 (σ : St) : Int32 := σ.2.2.2.2.1.1
def s_t0 (σ : St) (v : Int32) : St := (σ.1, σ.2.1, σ.2.2.1, σ.2.2.2.1, (v, σ.2.2.2.2.1.2.1, σ.2.2.2.2.1.2.2.1, σ.2.2.2.2.1.2.2.2.1, σ.2.2.2.2.1.2.2.2.2.1, σ.2.2.2.2.1.2.2.2.2.2.1, σ.2.2.2.2.1.2.2.2.2.2.2.1, σ.2.2.2.2.1.2.2.2.2.2.2.2), σ.2.2.2.2.2)
def g_t1 (σ : St) : Int32 := σ.2.2.2.2.1.2.1
def s_t1 (σ : St) (v : Int32) : St := (σ.1, σ.2.1, σ.2.2.1, σ.2.2.2.1, (σ.2.2.2.2.1.1, v, σ.2.2.2.2.1.2.2.1, σ.2.2.2.2.1.2.2.2.1, σ.2.2.2.2.1.2.2.2.2.1, σ.2.2.2.2.1.2.2.2.2.2.1, σ.2.2.2.2.1.2.2.2.2.2.2.1, σ.2.2.2.2.1.2.2.2.2.2.2.2), σ.2.2.2.2.2)
def g_t2 (σ : St) : Int32 := σ.2.2.2.2.1.2.2.1
def s_t2 (σ : St) (v : Int32) : St := (σ.1, σ.2.1, σ.2.2.1, σ.2.2.2.1, (σ.2.2.2.2.1.1, σ.2.2.2.2.1.2.1, v, σ.2.2.2.2.1.2.2.2.1, σ.2.2.2.2.1.2.2.2.2.1, σ.2.2.2.2.1.2.2.2.2.2.1, σ.2.2.2.2.1.2.2.2.2.2.2.1, σ.2.2.2.2.1.2.2.2.2.2.2.2), σ.2.2.2.2.2)
def g_t3 (σ : St) : Int32 := σ.2.2.2.2.1.2.2.2.1
def s_t3 (σ : St) (v : Int32) : St := (σ.1, σ.2.1, σ.2.2.1, σ.2.2.2.1, (σ.2.2.2.2.1.1, σ.2.2.2.2.1.2.1, σ.2.2.2.2.1.2.2.1, v, σ.2.2.2.2.1.2.2.2.2.1, σ.2.2.2.2.1.2.2.2.2.2.1, σ.2.2.2.2.1.2.2.2.2.2.2.1, σ.2.2.2.2.1.2.2.2.2.2.2.2), σ.2.2.2.2.2)
def g_t4 (σ : St) : Int32 := σ.2.2.2.2.1.2.2.2.2.1
def s_t4 (σ : St) (v : Int32) : St := (σ.1, σ.2.1, σ.2.2.1, σ.2.2.2.1, (σ.2.2.2.2.1.1, σ.2.2.2.2.1.2.1, σ.2.2.2.2.1.2.2.1, σ.2.2.2.2.1.2.2.2.1, v, σ.2.2.2.2.1.2.2.2.2.2.1, σ.2.2.2.2.1.2.2.2.2.2.2.1, σ.2.2.2.2.1.2.2.2.2.2.2.2), σ.2.2.2.2.2)
def g_t5 (σ : St) : Int32 := σ.2.2.2.2.1.2.2.2.2.2.1
def s_t5 (σ : St) (v : Int32) : St := (σ.1, σ.2.1, σ.2.2.1, σ.2.2.2.1, (σ.2.2.2.2.1.1, σ.2.2.2.2.1.2.1, σ.2.2.2.2.1.2.2.1, σ.2.2.2.2.1.2.2.2.1, σ.2.2.2.2.1.2.2.2.2.1, v, σ.2.2.2.2.1.2.2.2.2.2.2.1, σ.2.2.2.2.1.2.2.2.2.2.2.2), σ.2.2.2.2.2)
def g_t6 (σ : St) : Int32 := σ.2.2.2.2.1.2.2.2.2.2.2.1
def s_t6 (σ : St) (v : Int32) : St := (σ.1, σ.2.1, σ.2.2.1, σ.2.2.2.1, (σ.2.2.2.2.1.1, σ.2.2.2.2.1.2.1, σ.2.2.2.2.1.2.2.1, σ.2.2.2.2.1.2.2.2.1, σ.2.2.2.2.1.2.2.2.2.1, σ.2.2.2.2.1.2.2.2.2.2.1, v, σ.2.2.2.2.1.2.2.2.2.2.2.2), σ.2.2.2.2.2)
def g_t7 (σ : St) : Int32 := σ.2.2.2.2.1.2.2.2.2.2.2.2
def s_t7 (σ : St) (v : Int32) : St := (σ.1, σ.2.1, σ.2.2.1, σ.2.2.2.1, (σ.2.2.2.2.1.1, σ.2.2.2.2.1.2.1, σ.2.2.2.2.1.2.2.1, σ.2.2.2.2.1.2.2.2.1, σ.2.2.2.2.1.2.2.2.2.1, σ.2.2.2.2.1.2.2.2.2.2.1, σ.2.2.2.2.1.2.2.2.2.2.2.1, v), σ.2.2.2.2.2)
def g_ended (σ : St) : Int32 := σ.2.2.2.2.2
def s_ended (σ : St) (v : Int32) : St := (σ.1, σ.2.1, σ.2.2.1, σ.2.2.2.1, σ.2.2.2.2.1, v)
/-- the eight counts as a row -/
def ranf (σ : St) : Nat → Int32 := fun j => if j = 0 then g_t0 σ else if j = 1 then g_t1 σ else if j = 2 then g_t2 σ else if j = 3 then g_t3 σ else if j = 4 then g_t4 σ else if j = 5 then g_t5 σ else if j = 6 then g_t6 σ else if j = 7 then g_t7 σ else 0
theorem ranE_0 (σ : St) (v : Int32) : upd (ranf σ) 0 v = ranf (s_t0 σ v) := by
  funext j
  by_cases h : j = 0
  · subst h; rfl
  · simp only [upd, if_neg h, ranf]
    simp only [if_neg h, g_t0, g_t1, g_t2, g_t3, g_t4, g_t5, g_t6, g_t7, s_t0]
theorem ranE_1 (σ : St) (v : Int32) : upd (ranf σ) 1 v = ranf (s_t1 σ v) := by
  funext j
  by_cases h : j = 1
  · subst h; rfl
  · simp only [upd, if_neg h, ranf]
    simp only [if_neg h, g_t0, g_t1, g_t2, g_t3, g_t4, g_t5, g_t6, g_t7, s_t1]
theorem ranE_2 (σ : St) (v : Int32) : upd (ranf σ) 2 v = ranf (s_t2 σ v) := by
  funext j
  by_cases h : j = 2
  · subst h; rfl
  · simp only [upd, if_neg h, ranf]
    simp only [if_neg h, g_t0, g_t1, g_t2, g_t3, g_t4, g_t5, g_t6, g_t7, s_t2]
theorem ranE_3 (σ : St) (v : Int32) : upd (ranf σ) 3 v = ranf (s_t3 σ v) := by
  funext j
  by_cases h : j = 3
  · subst h; rfl
  · simp only [upd, if_neg h, ranf]
    simp only [if_neg h, g_t0, g_t1, g_t2, g_t3, g_t4, g_t5, g_t6, g_t7, s_t3]
theorem ranE_4 (σ : St) (v : Int32) : upd (ranf σ) 4 v = ranf (s_t4 σ v) := by
  funext j
  by_cases h : j = 4
  · subst h; rfl
  · simp only [upd, if_neg h, ranf]
    simp only [if_neg h, g_t0, g_t1, g_t2, g_t3, g_t4, g_t5, g_t6, g_t7, s_t4]
theorem ranE_5 (σ : St) (v : Int32) : upd (ranf σ) 5 v = ranf (s_t5 σ v) := by
  funext j
  by_cases h : j = 5
  · subst h; rfl
  · simp only [upd, if_neg h, ranf]
    simp only [if_neg h, g_t0, g_t1, g_t2, g_t3, g_t4, g_t5, g_t6, g_t7, s_t5]
theorem ranE_6 (σ : St) (v : Int32) : upd (ranf σ) 6 v = ranf (s_t6 σ v) := by
  funext j
  by_cases h : j = 6
  · subst h; rfl
  · simp only [upd, if_neg h, ranf]
    simp only [if_neg h, g_t0, g_t1, g_t2, g_t3, g_t4, g_t5, g_t6, g_t7, s_t6]
theorem ranE_7 (σ : St) (v : Int32) : upd (ranf σ) 7 v = ranf (s_t7 σ v) := by
  funext j
  by_cases h : j = 7
  · subst h; rfl
  · simp only [upd, if_neg h, ranf]
    simp only [if_neg h, g_t0, g_t1, g_t2, g_t3, g_t4, g_t5, g_t6, g_t7, s_t7]
def wX (h : Nat → Nat) (cI : ClassId) (σ : St) : va_W := [(h 0, .inr (4, [.ref (h 1), .int (g_ac σ), .int (g_io σ), .int (g_pc σ), .int (g_ov σ), .int (g_flags σ), .int (g_on σ), .int (g_asked σ), .int (g_under σ), .int (g_sw σ), .int (g_test σ), .ref (h 2), .ref (h 4), .ref (h 6), .ref (h 9)])), (h 1, .inl (cI, 4096, .inl (g_cells σ))), (h 2, .inr (3, [.ref (h 3), .int (g_cnt σ), .int (g_taken σ)])), (h 3, .inl (cI, 100, .inl (g_row σ))), (h 4, .inr (1, [.ref (h 5), .int (g_outs σ), .int (g_lost σ)])), (h 5, .inl (cI, 64, .inl (g_out σ))), (h 6, .inr (0, [.ref (h 7), .ref (h 8), .int (g_pts σ)])), (h 7, .inl (cI, 64, .inl (g_px σ))), (h 8, .inl (cI, 64, .inl (g_py σ))), (h 9, .inr (2, [.int (g_t0 σ), .int (g_t1 σ), .int (g_t2 σ), .int (g_t3 σ), .int (g_t4 σ), .int (g_t5 σ), .int (g_t6 σ), .int (g_t7 σ)]))]
def wM (h : Nat → Nat) (cI : ClassId) (σ : St) : va_W := [(h 0, .inr (5, [.ref (h 1), .int (g_ac σ), .int (g_io σ), .int (g_pc σ), .int (g_ov σ), .int (g_flags σ), .int (g_on σ), .int (g_asked σ), .int (g_under σ), .int (g_sw σ), .int (g_test σ), .ref (h 2), .int (g_cnt σ), .int (g_taken σ), .ref (h 3), .int (g_outs σ), .int (g_lost σ), .ref (h 4), .ref (h 5), .int (g_pts σ), .ref (h 6), .int (g_ended σ)])), (h 1, .inl (cI, 4096, .inl (g_cells σ))), (h 2, .inl (cI, 100, .inl (g_row σ))), (h 3, .inl (cI, 64, .inl (g_out σ))), (h 4, .inl (cI, 64, .inl (g_px σ))), (h 5, .inl (cI, 64, .inl (g_py σ))), (h 6, .inl (cI, 8, .inl (ranf σ)))]
theorem inX0 : ∀ w ∈ wsX00, w ∈ wsG := by
  show ∀ w ∈ [u_lay RX0 TX0 0, u_lay RX0 TX0 1, u_lay RX0 TX0 2], w ∈ wsG
  exact List.forall_mem_cons.mpr ⟨kw_61, List.forall_mem_cons.mpr ⟨kw_63, List.forall_mem_cons.mpr ⟨kw_65,  fun _ h => absurd h List.not_mem_nil⟩⟩⟩
theorem inX1 : ∀ w ∈ wsX10, w ∈ wsG := by
  show ∀ w ∈ [u_lay RX1 TX1 0, u_lay RX1 TX1 1, u_lay RX1 TX1 2], w ∈ wsG
  exact List.forall_mem_cons.mpr ⟨kw_44, List.forall_mem_cons.mpr ⟨kw_46, List.forall_mem_cons.mpr ⟨kw_48,  fun _ h => absurd h List.not_mem_nil⟩⟩⟩
theorem inX2 : ∀ w ∈ wsX20, w ∈ wsG := by
  show ∀ w ∈ [u_lay RX2 TX2 0, u_lay RX2 TX2 1, u_lay RX2 TX2 2, u_lay RX2 TX2 3, u_lay RX2 TX2 4, u_lay RX2 TX2 5, u_lay RX2 TX2 6, u_lay RX2 TX2 7], w ∈ wsG
  exact List.forall_mem_cons.mpr ⟨kw_90, List.forall_mem_cons.mpr ⟨kw_92, List.forall_mem_cons.mpr ⟨kw_94, List.forall_mem_cons.mpr ⟨kw_96, List.forall_mem_cons.mpr ⟨kw_98, List.forall_mem_cons.mpr ⟨kw_100, List.forall_mem_cons.mpr ⟨kw_102, List.forall_mem_cons.mpr ⟨kw_104,  fun _ h => absurd h List.not_mem_nil⟩⟩⟩⟩⟩⟩⟩⟩
theorem inX3 : ∀ w ∈ wsX30, w ∈ wsG := by
  show ∀ w ∈ [u_lay RX3 TX3 0, u_lay RX3 TX3 1, u_lay RX3 TX3 2], w ∈ wsG
  exact List.forall_mem_cons.mpr ⟨kw_25, List.forall_mem_cons.mpr ⟨kw_27, List.forall_mem_cons.mpr ⟨kw_29,  fun _ h => absurd h List.not_mem_nil⟩⟩⟩
theorem inX4 : ∀ w ∈ wsX40, w ∈ wsG := by
  show ∀ w ∈ [u_lay RX4 TX4 0, u_lay RX4 TX4 1, u_lay RX4 TX4 2, u_lay RX4 TX4 3, u_lay RX4 TX4 4, u_lay RX4 TX4 5, u_lay RX4 TX4 6, u_lay RX4 TX4 7, u_lay RX4 TX4 8, u_lay RX4 TX4 9, u_lay RX4 TX4 10, u_lay RX4 TX4 11, u_lay RX4 TX4 12, u_lay RX4 TX4 13, u_lay RX4 TX4 14], w ∈ wsG
  exact List.forall_mem_cons.mpr ⟨kw_122, List.forall_mem_cons.mpr ⟨kw_124, List.forall_mem_cons.mpr ⟨kw_126, List.forall_mem_cons.mpr ⟨kw_128, List.forall_mem_cons.mpr ⟨kw_130, List.forall_mem_cons.mpr ⟨kw_132, List.forall_mem_cons.mpr ⟨kw_134, List.forall_mem_cons.mpr ⟨kw_136, List.forall_mem_cons.mpr ⟨kw_138, List.forall_mem_cons.mpr ⟨kw_140, List.forall_mem_cons.mpr ⟨kw_142, List.forall_mem_cons.mpr ⟨kw_144, List.forall_mem_cons.mpr ⟨kw_146, List.forall_mem_cons.mpr ⟨kw_148, List.forall_mem_cons.mpr ⟨kw_150,  fun _ h => absurd h List.not_mem_nil⟩⟩⟩⟩⟩⟩⟩⟩⟩⟩⟩⟩⟩⟩⟩
theorem inX5 : ∀ w ∈ wsX50, w ∈ wsG := by
  show ∀ w ∈ [u_lay RX5 TX5 0, u_lay RX5 TX5 1, u_lay RX5 TX5 2, u_lay RX5 TX5 3, u_lay RX5 TX5 4, u_lay RX5 TX5 5, u_lay RX5 TX5 6, u_lay RX5 TX5 7, u_lay RX5 TX5 8, u_lay RX5 TX5 9, u_lay RX5 TX5 10, u_lay RX5 TX5 11, u_lay RX5 TX5 12, u_lay RX5 TX5 13, u_lay RX5 TX5 14, u_lay RX5 TX5 15, u_lay RX5 TX5 16, u_lay RX5 TX5 17, u_lay RX5 TX5 18, u_lay RX5 TX5 19, u_lay RX5 TX5 20, u_lay RX5 TX5 21], w ∈ wsG
  exact List.forall_mem_cons.mpr ⟨kw_473, List.forall_mem_cons.mpr ⟨kw_475, List.forall_mem_cons.mpr ⟨kw_477, List.forall_mem_cons.mpr ⟨kw_479, List.forall_mem_cons.mpr ⟨kw_481, List.forall_mem_cons.mpr ⟨kw_483, List.forall_mem_cons.mpr ⟨kw_485, List.forall_mem_cons.mpr ⟨kw_487, List.forall_mem_cons.mpr ⟨kw_489, List.forall_mem_cons.mpr ⟨kw_491, List.forall_mem_cons.mpr ⟨kw_493, List.forall_mem_cons.mpr ⟨kw_495, List.forall_mem_cons.mpr ⟨kw_497, List.forall_mem_cons.mpr ⟨kw_499, List.forall_mem_cons.mpr ⟨kw_501, List.forall_mem_cons.mpr ⟨kw_503, List.forall_mem_cons.mpr ⟨kw_505, List.forall_mem_cons.mpr ⟨kw_507, List.forall_mem_cons.mpr ⟨kw_509, List.forall_mem_cons.mpr ⟨kw_511, List.forall_mem_cons.mpr ⟨kw_513, List.forall_mem_cons.mpr ⟨kw_515,  fun _ h => absurd h List.not_mem_nil⟩⟩⟩⟩⟩⟩⟩⟩⟩⟩⟩⟩⟩⟩⟩⟩⟩⟩⟩⟩⟩⟩
section FIELDS
variable {p : Program} {l : Launch} {e : Env} {R : Room} {s : State} {m : MethodId} {args : Array Value} {below : List Frame} {meth : Method} {c : Code} {H H0 : Heap} {locs : List Loc} {cells slots : Nat} {Q : State → Prop} {cc : ByteArray} {pc : Nat} {ls : Array Slot} {rest : List Value} {D : va_G} {cI : ClassId} {A : Nat → Prop} {h : Nat → Nat} {σ : St} {own : String} {index : Nat}
theorem gX_ref1 (hx : p.tables.exec = Jvm.exec) (hb : c.code = cc) (hts : ∀ w ∈ wsG, w.before args s = true) (hown : s.vm.findClass own = some m.cls) (hK : va_K D vwCl [(cI, .int)] s) (hP : va_P D vwCl (wX h cI σ) H) (hlink : Cond.fieldLink own index "SignedCore" "cells" "[I" ∈ wsG) (hdg : decode cc pc = .ok (.getfield index, 3)) (kk : W p l e R s m args below meth c H locs cells slots Q (F0 m (pc + 3) ls ((.ref (h 1)) :: rest))) : W p l e R s m args below meth c H locs cells slots Q (F0 m pc ls (.ref (h 0) :: rest)) := by
  exact va_get (D := D) (ci := 4) (C := RX4) (T := TX4) (N := 15) hx hb hts inX4 hown hK hP 0 rfl rfl 0 (by decide) (hts _ hlink) (fun _ h9 => h9) rfl hdg kk
theorem gX_ac (hx : p.tables.exec = Jvm.exec) (hb : c.code = cc) (hts : ∀ w ∈ wsG, w.before args s = true) (hown : s.vm.findClass own = some m.cls) (hK : va_K D vwCl [(cI, .int)] s) (hP : va_P D vwCl (wX h cI σ) H) (hlink : Cond.fieldLink own index "SignedCore" "ac" "I" ∈ wsG) {v : Int32} (hv : g_ac σ = v) (hdg : decode cc pc = .ok (.getfield index, 3)) (kk : W p l e R s m args below meth c H locs cells slots Q (F0 m (pc + 3) ls ((.int v) :: rest))) : W p l e R s m args below meth c H locs cells slots Q (F0 m pc ls (.ref (h 0) :: rest)) := by
  subst hv
  exact va_get (D := D) (ci := 4) (C := RX4) (T := TX4) (N := 15) hx hb hts inX4 hown hK hP 0 rfl rfl 1 (by decide) (hts _ hlink) (fun _ h9 => h9) rfl hdg kk
theorem pX_ac {v : Int32} (hx : p.tables.exec = Jvm.exec) (hb : c.code = cc) (hts : ∀ w ∈ wsG, w.before args s = true) (hown : s.vm.findClass own = some m.cls) (hK : va_K D vwCl [(cI, .int)] s) (hP : va_P D vwCl (wX h cI σ) H) (hD : va_D A (wX h cI σ)) (hS : va_S A H0 H locs) (hlink : Cond.fieldLink own index "SignedCore" "ac" "I" ∈ wsG) (hdg : decode cc pc = .ok (.putfield index, 3)) (kk : ∀ (H1 : Heap) (locs1 : List Loc), va_P D vwCl (wX h cI (s_ac σ v)) H1 → va_D A (wX h cI (s_ac σ v)) → va_S A H0 H1 locs1 → W p l e R s m args below meth c H1 locs1 cells slots Q (F0 m (pc + 3) ls rest)) : W p l e R s m args below meth c H locs cells slots Q (F0 m pc ls (.int v :: .ref (h 0) :: rest)) :=
  va_put (D := D) (ci := 4) (v := .int v) (ty := .int) (C := RX4) (T := TX4) (N := 15) hx hb hts inX4 tyX4 tyX4_ok nmX4 hown hK hP hD hS 0 rfl rfl 1 (by decide) (hts _ hlink) (fun _ h9 => h9) rfl (tyX4_ok 1 (by decide)) rfl rfl (Nat.le_of_ble_eq_true rfl) hdg kk
theorem gX_io (hx : p.tables.exec = Jvm.exec) (hb : c.code = cc) (hts : ∀ w ∈ wsG, w.before args s = true) (hown : s.vm.findClass own = some m.cls) (hK : va_K D vwCl [(cI, .int)] s) (hP : va_P D vwCl (wX h cI σ) H) (hlink : Cond.fieldLink own index "SignedCore" "io" "I" ∈ wsG) {v : Int32} (hv : g_io σ = v) (hdg : decode cc pc = .ok (.getfield index, 3)) (kk : W p l e R s m args below meth c H locs cells slots Q (F0 m (pc + 3) ls ((.int v) :: rest))) : W p l e R s m args below meth c H locs cells slots Q (F0 m pc ls (.ref (h 0) :: rest)) := by
  subst hv
  exact va_get (D := D) (ci := 4) (C := RX4) (T := TX4) (N := 15) hx hb hts inX4 hown hK hP 0 rfl rfl 2 (by decide) (hts _ hlink) (fun _ h9 => h9) rfl hdg kk
theorem pX_io {v : Int32} (hx : p.tables.exec = Jvm.exec) (hb : c.code = cc) (hts : ∀ w ∈ wsG, w.before args s = true) (hown : s.vm.findClass own = some m.cls) (hK : va_K D vwCl [(cI, .int)] s) (hP : va_P D vwCl (wX h cI σ) H) (hD : va_D A (wX h cI σ)) (hS : va_S A H0 H locs) (hlink : Cond.fieldLink own index "SignedCore" "io" "I" ∈ wsG) (hdg : decode cc pc = .ok (.putfield index, 3)) (kk : ∀ (H1 : Heap) (locs1 : List Loc), va_P D vwCl (wX h cI (s_io σ v)) H1 → va_D A (wX h cI (s_io σ v)) → va_S A H0 H1 locs1 → W p l e R s m args below meth c H1 locs1 cells slots Q (F0 m (pc + 3) ls rest)) : W p l e R s m args below meth c H locs cells slots Q (F0 m pc ls (.int v :: .ref (h 0) :: rest)) :=
  va_put (D := D) (ci := 4) (v := .int v) (ty := .int) (C := RX4) (T := TX4) (N := 15) hx hb hts inX4 tyX4 tyX4_ok nmX4 hown hK hP hD hS 0 rfl rfl 2 (by decide) (hts _ hlink) (fun _ h9 => h9) rfl (tyX4_ok 2 (by decide)) rfl rfl (Nat.le_of_ble_eq_true rfl) hdg kk
theorem gX_pc (hx : p.tables.exec = Jvm.exec) (hb : c.code = cc) (hts : ∀ w ∈ wsG, w.before args s = true) (hown : s.vm.findClass own = some m.cls) (hK : va_K D vwCl [(cI, .int)] s) (hP : va_P D vwCl (wX h cI σ) H) (hlink : Cond.fieldLink own index "SignedCore" "pc" "I" ∈ wsG) {v : Int32} (hv : g_pc σ = v) (hdg : decode cc pc = .ok (.getfield index, 3)) (kk : W p l e R s m args below meth c H locs cells slots Q (F0 m (pc + 3) ls ((.int v) :: rest))) : W p l e R s m args below meth c H locs cells slots Q (F0 m pc ls (.ref (h 0) :: rest)) := by
  subst hv
  exact va_get (D := D) (ci := 4) (C := RX4) (T := TX4) (N := 15) hx hb hts inX4 hown hK hP 0 rfl rfl 3 (by decide) (hts _ hlink) (fun _ h9 => h9) rfl hdg kk
theorem pX_pc {v : Int32} (hx : p.tables.exec = Jvm.exec) (hb : c.code = cc) (hts : ∀ w ∈ wsG, w.before args s = true) (hown : s.vm.findClass own = some m.cls) (hK : va_K D vwCl [(cI, .int)] s) (hP : va_P D vwCl (wX h cI σ) H) (hD : va_D A (wX h cI σ)) (hS : va_S A H0 H locs) (hlink : Cond.fieldLink own index "SignedCore" "pc" "I" ∈ wsG) (hdg : decode cc pc = .ok (.putfield index, 3)) (kk : ∀ (H1 : Heap) (locs1 : List Loc), va_P D vwCl (wX h cI (s_pc σ v)) H1 → va_D A (wX h cI (s_pc σ v)) → va_S A H0 H1 locs1 → W p l e R s m args below meth c H1 locs1 cells slots Q (F0 m (pc + 3) ls rest)) : W p l e R s m args below meth c H locs cells slots Q (F0 m pc ls (.int v :: .ref (h 0) :: rest)) :=
  va_put (D := D) (ci := 4) (v := .int v) (ty := .int) (C := RX4) (T := TX4) (N := 15) hx hb hts inX4 tyX4 tyX4_ok nmX4 hown hK hP hD hS 0 rfl rfl 3 (by decide) (hts _ hlink) (fun _ h9 => h9) rfl (tyX4_ok 3 (by decide)) rfl rfl (Nat.le_of_ble_eq_true rfl) hdg kk
theorem gX_ov (hx : p.tables.exec = Jvm.exec) (hb : c.code = cc) (hts : ∀ w ∈ wsG, w.before args s = true) (hown : s.vm.findClass own = some m.cls) (hK : va_K D vwCl [(cI, .int)] s) (hP : va_P D vwCl (wX h cI σ) H) (hlink : Cond.fieldLink own index "SignedCore" "ov" "I" ∈ wsG) {v : Int32} (hv : g_ov σ = v) (hdg : decode cc pc = .ok (.getfield index, 3)) (kk : W p l e R s m args below meth c H locs cells slots Q (F0 m (pc + 3) ls ((.int v) :: rest))) : W p l e R s m args below meth c H locs cells slots Q (F0 m pc ls (.ref (h 0) :: rest)) := by
  subst hv
  exact va_get (D := D) (ci := 4) (C := RX4) (T := TX4) (N := 15) hx hb hts inX4 hown hK hP 0 rfl rfl 4 (by decide) (hts _ hlink) (fun _ h9 => h9) rfl hdg kk
theorem pX_ov {v : Int32} (hx : p.tables.exec = Jvm.exec) (hb : c.code = cc) (hts : ∀ w ∈ wsG, w.before args s = true) (hown : s.vm.findClass own = some m.cls) (hK : va_K D vwCl [(cI, .int)] s) (hP : va_P D vwCl (wX h cI σ) H) (hD : va_D A (wX h cI σ)) (hS : va_S A H0 H locs) (hlink : Cond.fieldLink own index "SignedCore" "ov" "I" ∈ wsG) (hdg : decode cc pc = .ok (.putfield index, 3)) (kk : ∀ (H1 : Heap) (locs1 : List Loc), va_P D vwCl (wX h cI (s_ov σ v)) H1 → va_D A (wX h cI (s_ov σ v)) → va_S A H0 H1 locs1 → W p l e R s m args below meth c H1 locs1 cells slots Q (F0 m (pc + 3) ls rest)) : W p l e R s m args below meth c H locs cells slots Q (F0 m pc ls (.int v :: .ref (h 0) :: rest)) :=
  va_put (D := D) (ci := 4) (v := .int v) (ty := .int) (C := RX4) (T := TX4) (N := 15) hx hb hts inX4 tyX4 tyX4_ok nmX4 hown hK hP hD hS 0 rfl rfl 4 (by decide) (hts _ hlink) (fun _ h9 => h9) rfl (tyX4_ok 4 (by decide)) rfl rfl (Nat.le_of_ble_eq_true rfl) hdg kk
theorem gX_flags (hx : p.tables.exec = Jvm.exec) (hb : c.code = cc) (hts : ∀ w ∈ wsG, w.before args s = true) (hown : s.vm.findClass own = some m.cls) (hK : va_K D vwCl [(cI, .int)] s) (hP : va_P D vwCl (wX h cI σ) H) (hlink : Cond.fieldLink own index "SignedCore" "flags" "I" ∈ wsG) {v : Int32} (hv : g_flags σ = v) (hdg : decode cc pc = .ok (.getfield index, 3)) (kk : W p l e R s m args below meth c H locs cells slots Q (F0 m (pc + 3) ls ((.int v) :: rest))) : W p l e R s m args below meth c H locs cells slots Q (F0 m pc ls (.ref (h 0) :: rest)) := by
  subst hv
  exact va_get (D := D) (ci := 4) (C := RX4) (T := TX4) (N := 15) hx hb hts inX4 hown hK hP 0 rfl rfl 5 (by decide) (hts _ hlink) (fun _ h9 => h9) rfl hdg kk
theorem pX_flags {v : Int32} (hx : p.tables.exec = Jvm.exec) (hb : c.code = cc) (hts : ∀ w ∈ wsG, w.before args s = true) (hown : s.vm.findClass own = some m.cls) (hK : va_K D vwCl [(cI, .int)] s) (hP : va_P D vwCl (wX h cI σ) H) (hD : va_D A (wX h cI σ)) (hS : va_S A H0 H locs) (hlink : Cond.fieldLink own index "SignedCore" "flags" "I" ∈ wsG) (hdg : decode cc pc = .ok (.putfield index, 3)) (kk : ∀ (H1 : Heap) (locs1 : List Loc), va_P D vwCl (wX h cI (s_flags σ v)) H1 → va_D A (wX h cI (s_flags σ v)) → va_S A H0 H1 locs1 → W p l e R s m args below meth c H1 locs1 cells slots Q (F0 m (pc + 3) ls rest)) : W p l e R s m args below meth c H locs cells slots Q (F0 m pc ls (.int v :: .ref (h 0) :: rest)) :=
  va_put (D := D) (ci := 4) (v := .int v) (ty := .int) (C := RX4) (T := TX4) (N := 15) hx hb hts inX4 tyX4 tyX4_ok nmX4 hown hK hP hD hS 0 rfl rfl 5 (by decide) (hts _ hlink) (fun _ h9 => h9) rfl (tyX4_ok 5 (by decide)) rfl rfl (Nat.le_of_ble_eq_true rfl) hdg kk
theorem gX_on (hx : p.tables.exec = Jvm.exec) (hb : c.code = cc) (hts : ∀ w ∈ wsG, w.before args s = true) (hown : s.vm.findClass own = some m.cls) (hK : va_K D vwCl [(cI, .int)] s) (hP : va_P D vwCl (wX h cI σ) H) (hlink : Cond.fieldLink own index "SignedCore" "breakOn" "I" ∈ wsG) {v : Int32} (hv : g_on σ = v) (hdg : decode cc pc = .ok (.getfield index, 3)) (kk : W p l e R s m args below meth c H locs cells slots Q (F0 m (pc + 3) ls ((.int v) :: rest))) : W p l e R s m args below meth c H locs cells slots Q (F0 m pc ls (.ref (h 0) :: rest)) := by
  subst hv
  exact va_get (D := D) (ci := 4) (C := RX4) (T := TX4) (N := 15) hx hb hts inX4 hown hK hP 0 rfl rfl 6 (by decide) (hts _ hlink) (fun _ h9 => h9) rfl hdg kk
theorem pX_on {v : Int32} (hx : p.tables.exec = Jvm.exec) (hb : c.code = cc) (hts : ∀ w ∈ wsG, w.before args s = true) (hown : s.vm.findClass own = some m.cls) (hK : va_K D vwCl [(cI, .int)] s) (hP : va_P D vwCl (wX h cI σ) H) (hD : va_D A (wX h cI σ)) (hS : va_S A H0 H locs) (hlink : Cond.fieldLink own index "SignedCore" "breakOn" "I" ∈ wsG) (hdg : decode cc pc = .ok (.putfield index, 3)) (kk : ∀ (H1 : Heap) (locs1 : List Loc), va_P D vwCl (wX h cI (s_on σ v)) H1 → va_D A (wX h cI (s_on σ v)) → va_S A H0 H1 locs1 → W p l e R s m args below meth c H1 locs1 cells slots Q (F0 m (pc + 3) ls rest)) : W p l e R s m args below meth c H locs cells slots Q (F0 m pc ls (.int v :: .ref (h 0) :: rest)) :=
  va_put (D := D) (ci := 4) (v := .int v) (ty := .int) (C := RX4) (T := TX4) (N := 15) hx hb hts inX4 tyX4 tyX4_ok nmX4 hown hK hP hD hS 0 rfl rfl 6 (by decide) (hts _ hlink) (fun _ h9 => h9) rfl (tyX4_ok 6 (by decide)) rfl rfl (Nat.le_of_ble_eq_true rfl) hdg kk
theorem gX_asked (hx : p.tables.exec = Jvm.exec) (hb : c.code = cc) (hts : ∀ w ∈ wsG, w.before args s = true) (hown : s.vm.findClass own = some m.cls) (hK : va_K D vwCl [(cI, .int)] s) (hP : va_P D vwCl (wX h cI σ) H) (hlink : Cond.fieldLink own index "SignedCore" "breakAsked" "I" ∈ wsG) {v : Int32} (hv : g_asked σ = v) (hdg : decode cc pc = .ok (.getfield index, 3)) (kk : W p l e R s m args below meth c H locs cells slots Q (F0 m (pc + 3) ls ((.int v) :: rest))) : W p l e R s m args below meth c H locs cells slots Q (F0 m pc ls (.ref (h 0) :: rest)) := by
  subst hv
  exact va_get (D := D) (ci := 4) (C := RX4) (T := TX4) (N := 15) hx hb hts inX4 hown hK hP 0 rfl rfl 7 (by decide) (hts _ hlink) (fun _ h9 => h9) rfl hdg kk
theorem pX_asked {v : Int32} (hx : p.tables.exec = Jvm.exec) (hb : c.code = cc) (hts : ∀ w ∈ wsG, w.before args s = true) (hown : s.vm.findClass own = some m.cls) (hK : va_K D vwCl [(cI, .int)] s) (hP : va_P D vwCl (wX h cI σ) H) (hD : va_D A (wX h cI σ)) (hS : va_S A H0 H locs) (hlink : Cond.fieldLink own index "SignedCore" "breakAsked" "I" ∈ wsG) (hdg : decode cc pc = .ok (.putfield index, 3)) (kk : ∀ (H1 : Heap) (locs1 : List Loc), va_P D vwCl (wX h cI (s_asked σ v)) H1 → va_D A (wX h cI (s_asked σ v)) → va_S A H0 H1 locs1 → W p l e R s m args below meth c H1 locs1 cells slots Q (F0 m (pc + 3) ls rest)) : W p l e R s m args below meth c H locs cells slots Q (F0 m pc ls (.int v :: .ref (h 0) :: rest)) :=
  va_put (D := D) (ci := 4) (v := .int v) (ty := .int) (C := RX4) (T := TX4) (N := 15) hx hb hts inX4 tyX4 tyX4_ok nmX4 hown hK hP hD hS 0 rfl rfl 7 (by decide) (hts _ hlink) (fun _ h9 => h9) rfl (tyX4_ok 7 (by decide)) rfl rfl (Nat.le_of_ble_eq_true rfl) hdg kk
theorem gX_under (hx : p.tables.exec = Jvm.exec) (hb : c.code = cc) (hts : ∀ w ∈ wsG, w.before args s = true) (hown : s.vm.findClass own = some m.cls) (hK : va_K D vwCl [(cI, .int)] s) (hP : va_P D vwCl (wX h cI σ) H) (hlink : Cond.fieldLink own index "SignedCore" "breakUnderWay" "I" ∈ wsG) {v : Int32} (hv : g_under σ = v) (hdg : decode cc pc = .ok (.getfield index, 3)) (kk : W p l e R s m args below meth c H locs cells slots Q (F0 m (pc + 3) ls ((.int v) :: rest))) : W p l e R s m args below meth c H locs cells slots Q (F0 m pc ls (.ref (h 0) :: rest)) := by
  subst hv
  exact va_get (D := D) (ci := 4) (C := RX4) (T := TX4) (N := 15) hx hb hts inX4 hown hK hP 0 rfl rfl 8 (by decide) (hts _ hlink) (fun _ h9 => h9) rfl hdg kk
theorem pX_under {v : Int32} (hx : p.tables.exec = Jvm.exec) (hb : c.code = cc) (hts : ∀ w ∈ wsG, w.before args s = true) (hown : s.vm.findClass own = some m.cls) (hK : va_K D vwCl [(cI, .int)] s) (hP : va_P D vwCl (wX h cI σ) H) (hD : va_D A (wX h cI σ)) (hS : va_S A H0 H locs) (hlink : Cond.fieldLink own index "SignedCore" "breakUnderWay" "I" ∈ wsG) (hdg : decode cc pc = .ok (.putfield index, 3)) (kk : ∀ (H1 : Heap) (locs1 : List Loc), va_P D vwCl (wX h cI (s_under σ v)) H1 → va_D A (wX h cI (s_under σ v)) → va_S A H0 H1 locs1 → W p l e R s m args below meth c H1 locs1 cells slots Q (F0 m (pc + 3) ls rest)) : W p l e R s m args below meth c H locs cells slots Q (F0 m pc ls (.int v :: .ref (h 0) :: rest)) :=
  va_put (D := D) (ci := 4) (v := .int v) (ty := .int) (C := RX4) (T := TX4) (N := 15) hx hb hts inX4 tyX4 tyX4_ok nmX4 hown hK hP hD hS 0 rfl rfl 8 (by decide) (hts _ hlink) (fun _ h9 => h9) rfl (tyX4_ok 8 (by decide)) rfl rfl (Nat.le_of_ble_eq_true rfl) hdg kk
theorem gX_sw (hx : p.tables.exec = Jvm.exec) (hb : c.code = cc) (hts : ∀ w ∈ wsG, w.before args s = true) (hown : s.vm.findClass own = some m.cls) (hK : va_K D vwCl [(cI, .int)] s) (hP : va_P D vwCl (wX h cI σ) H) (hlink : Cond.fieldLink own index "SignedCore" "switchBits" "I" ∈ wsG) {v : Int32} (hv : g_sw σ = v) (hdg : decode cc pc = .ok (.getfield index, 3)) (kk : W p l e R s m args below meth c H locs cells slots Q (F0 m (pc + 3) ls ((.int v) :: rest))) : W p l e R s m args below meth c H locs cells slots Q (F0 m pc ls (.ref (h 0) :: rest)) := by
  subst hv
  exact va_get (D := D) (ci := 4) (C := RX4) (T := TX4) (N := 15) hx hb hts inX4 hown hK hP 0 rfl rfl 9 (by decide) (hts _ hlink) (fun _ h9 => h9) rfl hdg kk
theorem pX_sw {v : Int32} (hx : p.tables.exec = Jvm.exec) (hb : c.code = cc) (hts : ∀ w ∈ wsG, w.before args s = true) (hown : s.vm.findClass own = some m.cls) (hK : va_K D vwCl [(cI, .int)] s) (hP : va_P D vwCl (wX h cI σ) H) (hD : va_D A (wX h cI σ)) (hS : va_S A H0 H locs) (hlink : Cond.fieldLink own index "SignedCore" "switchBits" "I" ∈ wsG) (hdg : decode cc pc = .ok (.putfield index, 3)) (kk : ∀ (H1 : Heap) (locs1 : List Loc), va_P D vwCl (wX h cI (s_sw σ v)) H1 → va_D A (wX h cI (s_sw σ v)) → va_S A H0 H1 locs1 → W p l e R s m args below meth c H1 locs1 cells slots Q (F0 m (pc + 3) ls rest)) : W p l e R s m args below meth c H locs cells slots Q (F0 m pc ls (.int v :: .ref (h 0) :: rest)) :=
  va_put (D := D) (ci := 4) (v := .int v) (ty := .int) (C := RX4) (T := TX4) (N := 15) hx hb hts inX4 tyX4 tyX4_ok nmX4 hown hK hP hD hS 0 rfl rfl 9 (by decide) (hts _ hlink) (fun _ h9 => h9) rfl (tyX4_ok 9 (by decide)) rfl rfl (Nat.le_of_ble_eq_true rfl) hdg kk
theorem gX_test (hx : p.tables.exec = Jvm.exec) (hb : c.code = cc) (hts : ∀ w ∈ wsG, w.before args s = true) (hown : s.vm.findClass own = some m.cls) (hK : va_K D vwCl [(cI, .int)] s) (hP : va_P D vwCl (wX h cI σ) H) (hlink : Cond.fieldLink own index "SignedCore" "testWord" "I" ∈ wsG) {v : Int32} (hv : g_test σ = v) (hdg : decode cc pc = .ok (.getfield index, 3)) (kk : W p l e R s m args below meth c H locs cells slots Q (F0 m (pc + 3) ls ((.int v) :: rest))) : W p l e R s m args below meth c H locs cells slots Q (F0 m pc ls (.ref (h 0) :: rest)) := by
  subst hv
  exact va_get (D := D) (ci := 4) (C := RX4) (T := TX4) (N := 15) hx hb hts inX4 hown hK hP 0 rfl rfl 10 (by decide) (hts _ hlink) (fun _ h9 => h9) rfl hdg kk
theorem pX_test {v : Int32} (hx : p.tables.exec = Jvm.exec) (hb : c.code = cc) (hts : ∀ w ∈ wsG, w.before args s = true) (hown : s.vm.findClass own = some m.cls) (hK : va_K D vwCl [(cI, .int)] s) (hP : va_P D vwCl (wX h cI σ) H) (hD : va_D A (wX h cI σ)) (hS : va_S A H0 H locs) (hlink : Cond.fieldLink own index "SignedCore" "testWord" "I" ∈ wsG) (hdg : decode cc pc = .ok (.putfield index, 3)) (kk : ∀ (H1 : Heap) (locs1 : List Loc), va_P D vwCl (wX h cI (s_test σ v)) H1 → va_D A (wX h cI (s_test σ v)) → va_S A H0 H1 locs1 → W p l e R s m args below meth c H1 locs1 cells slots Q (F0 m (pc + 3) ls rest)) : W p l e R s m args below meth c H locs cells slots Q (F0 m pc ls (.int v :: .ref (h 0) :: rest)) :=
  va_put (D := D) (ci := 4) (v := .int v) (ty := .int) (C := RX4) (T := TX4) (N := 15) hx hb hts inX4 tyX4 tyX4_ok nmX4 hown hK hP hD hS 0 rfl rfl 10 (by decide) (hts _ hlink) (fun _ h9 => h9) rfl (tyX4_ok 10 (by decide)) rfl rfl (Nat.le_of_ble_eq_true rfl) hdg kk
theorem gX_ref2 (hx : p.tables.exec = Jvm.exec) (hb : c.code = cc) (hts : ∀ w ∈ wsG, w.before args s = true) (hown : s.vm.findClass own = some m.cls) (hK : va_K D vwCl [(cI, .int)] s) (hP : va_P D vwCl (wX h cI σ) H) (hlink : Cond.fieldLink own index "SignedCore" "typedRow" "LSignedCore$TypedRow;" ∈ wsG) (hdg : decode cc pc = .ok (.getfield index, 3)) (kk : W p l e R s m args below meth c H locs cells slots Q (F0 m (pc + 3) ls ((.ref (h 2)) :: rest))) : W p l e R s m args below meth c H locs cells slots Q (F0 m pc ls (.ref (h 0) :: rest)) := by
  exact va_get (D := D) (ci := 4) (C := RX4) (T := TX4) (N := 15) hx hb hts inX4 hown hK hP 0 rfl rfl 11 (by decide) (hts _ hlink) (fun _ h9 => h9) rfl hdg kk
theorem gX_ref4 (hx : p.tables.exec = Jvm.exec) (hb : c.code = cc) (hts : ∀ w ∈ wsG, w.before args s = true) (hown : s.vm.findClass own = some m.cls) (hK : va_K D vwCl [(cI, .int)] s) (hP : va_P D vwCl (wX h cI σ) H) (hlink : Cond.fieldLink own index "SignedCore" "sentRow" "LSignedCore$SentRow;" ∈ wsG) (hdg : decode cc pc = .ok (.getfield index, 3)) (kk : W p l e R s m args below meth c H locs cells slots Q (F0 m (pc + 3) ls ((.ref (h 4)) :: rest))) : W p l e R s m args below meth c H locs cells slots Q (F0 m pc ls (.ref (h 0) :: rest)) := by
  exact va_get (D := D) (ci := 4) (C := RX4) (T := TX4) (N := 15) hx hb hts inX4 hown hK hP 0 rfl rfl 12 (by decide) (hts _ hlink) (fun _ h9 => h9) rfl hdg kk
theorem gX_ref6 (hx : p.tables.exec = Jvm.exec) (hb : c.code = cc) (hts : ∀ w ∈ wsG, w.before args s = true) (hown : s.vm.findClass own = some m.cls) (hK : va_K D vwCl [(cI, .int)] s) (hP : va_P D vwCl (wX h cI σ) H) (hlink : Cond.fieldLink own index "SignedCore" "display" "LSignedCore$Display;" ∈ wsG) (hdg : decode cc pc = .ok (.getfield index, 3)) (kk : W p l e R s m args below meth c H locs cells slots Q (F0 m (pc + 3) ls ((.ref (h 6)) :: rest))) : W p l e R s m args below meth c H locs cells slots Q (F0 m pc ls (.ref (h 0) :: rest)) := by
  exact va_get (D := D) (ci := 4) (C := RX4) (T := TX4) (N := 15) hx hb hts inX4 hown hK hP 0 rfl rfl 13 (by decide) (hts _ hlink) (fun _ h9 => h9) rfl hdg kk
theorem gX_ref9 (hx : p.tables.exec = Jvm.exec) (hb : c.code = cc) (hts : ∀ w ∈ wsG, w.before args s = true) (hown : s.vm.findClass own = some m.cls) (hK : va_K D vwCl [(cI, .int)] s) (hP : va_P D vwCl (wX h cI σ) H) (hlink : Cond.fieldLink own index "SignedCore" "tally" "LSignedCore$Tally;" ∈ wsG) (hdg : decode cc pc = .ok (.getfield index, 3)) (kk : W p l e R s m args below meth c H locs cells slots Q (F0 m (pc + 3) ls ((.ref (h 9)) :: rest))) : W p l e R s m args below meth c H locs cells slots Q (F0 m pc ls (.ref (h 0) :: rest)) := by
  exact va_get (D := D) (ci := 4) (C := RX4) (T := TX4) (N := 15) hx hb hts inX4 hown hK hP 0 rfl rfl 14 (by decide) (hts _ hlink) (fun _ h9 => h9) rfl hdg kk
theorem aX_cells {i : Int32} (hx : p.tables.exec = Jvm.exec) (hb : c.code = cc) (hK : va_K D vwCl [(cI, .int)] s) (hP : va_P D vwCl (wX h cI σ) H) (hin : vp_in i 4096) {v : Int32} (hv : (g_cells σ) i.toNatClampNeg = v) (hdg : decode cc pc = .ok (.iaload, 1)) (kk : W p l e R s m args below meth c H locs cells slots Q (F0 m (pc + 1) ls (.int v :: rest))) : W p l e R s m args below meth c H locs cells slots Q (F0 m pc ls (.int i :: .ref (h 1) :: rest)) := by
  subst hv
  exact va_iald (D := D) hx hb hK hP 1 0 rfl rfl hin hdg kk
theorem bX_cells {i x : Int32} (hx : p.tables.exec = Jvm.exec) (hb : c.code = cc) (hK : va_K D vwCl [(cI, .int)] s) (hP : va_P D vwCl (wX h cI σ) H) (hD : va_D A (wX h cI σ)) (hS : va_S A H0 H locs) (hin : vp_in i 4096) {f : Nat → Int32} (hv : g_cells σ = f) (hdg : decode cc pc = .ok (.iastore, 1)) (kk : ∀ (H1 : Heap) (locs1 : List Loc), va_P D vwCl (wX h cI (s_cells σ (upd f i.toNatClampNeg x))) H1 → va_D A (wX h cI (s_cells σ (upd f i.toNatClampNeg x))) → va_S A H0 H1 locs1 → W p l e R s m args below meth c H1 locs1 cells slots Q (F0 m (pc + 1) ls rest)) : W p l e R s m args below meth c H locs cells slots Q (F0 m pc ls (.int x :: .int i :: .ref (h 1) :: rest)) := by
  subst hv
  exact va_iast (D := D) hx hb hK hP hD hS 1 0 rfl rfl hin hdg kk
theorem gX_ref3 (hx : p.tables.exec = Jvm.exec) (hb : c.code = cc) (hts : ∀ w ∈ wsG, w.before args s = true) (hown : s.vm.findClass own = some m.cls) (hK : va_K D vwCl [(cI, .int)] s) (hP : va_P D vwCl (wX h cI σ) H) (hlink : Cond.fieldLink own index "SignedCore$TypedRow" "signs" "[I" ∈ wsG) (hdg : decode cc pc = .ok (.getfield index, 3)) (kk : W p l e R s m args below meth c H locs cells slots Q (F0 m (pc + 3) ls ((.ref (h 3)) :: rest))) : W p l e R s m args below meth c H locs cells slots Q (F0 m pc ls (.ref (h 2) :: rest)) := by
  exact va_get (D := D) (ci := 3) (C := RX3) (T := TX3) (N := 3) hx hb hts inX3 hown hK hP 2 rfl rfl 0 (by decide) (hts _ hlink) (fun _ h9 => h9) rfl hdg kk
theorem gX_cnt (hx : p.tables.exec = Jvm.exec) (hb : c.code = cc) (hts : ∀ w ∈ wsG, w.before args s = true) (hown : s.vm.findClass own = some m.cls) (hK : va_K D vwCl [(cI, .int)] s) (hP : va_P D vwCl (wX h cI σ) H) (hlink : Cond.fieldLink own index "SignedCore$TypedRow" "count" "I" ∈ wsG) {v : Int32} (hv : g_cnt σ = v) (hdg : decode cc pc = .ok (.getfield index, 3)) (kk : W p l e R s m args below meth c H locs cells slots Q (F0 m (pc + 3) ls ((.int v) :: rest))) : W p l e R s m args below meth c H locs cells slots Q (F0 m pc ls (.ref (h 2) :: rest)) := by
  subst hv
  exact va_get (D := D) (ci := 3) (C := RX3) (T := TX3) (N := 3) hx hb hts inX3 hown hK hP 2 rfl rfl 1 (by decide) (hts _ hlink) (fun _ h9 => h9) rfl hdg kk
theorem pX_cnt {v : Int32} (hx : p.tables.exec = Jvm.exec) (hb : c.code = cc) (hts : ∀ w ∈ wsG, w.before args s = true) (hown : s.vm.findClass own = some m.cls) (hK : va_K D vwCl [(cI, .int)] s) (hP : va_P D vwCl (wX h cI σ) H) (hD : va_D A (wX h cI σ)) (hS : va_S A H0 H locs) (hlink : Cond.fieldLink own index "SignedCore$TypedRow" "count" "I" ∈ wsG) (hdg : decode cc pc = .ok (.putfield index, 3)) (kk : ∀ (H1 : Heap) (locs1 : List Loc), va_P D vwCl (wX h cI (s_cnt σ v)) H1 → va_D A (wX h cI (s_cnt σ v)) → va_S A H0 H1 locs1 → W p l e R s m args below meth c H1 locs1 cells slots Q (F0 m (pc + 3) ls rest)) : W p l e R s m args below meth c H locs cells slots Q (F0 m pc ls (.int v :: .ref (h 2) :: rest)) :=
  va_put (D := D) (ci := 3) (v := .int v) (ty := .int) (C := RX3) (T := TX3) (N := 3) hx hb hts inX3 tyX3 tyX3_ok nmX3 hown hK hP hD hS 2 rfl rfl 1 (by decide) (hts _ hlink) (fun _ h9 => h9) rfl (tyX3_ok 1 (by decide)) rfl rfl (Nat.le_of_ble_eq_true rfl) hdg kk
theorem gX_taken (hx : p.tables.exec = Jvm.exec) (hb : c.code = cc) (hts : ∀ w ∈ wsG, w.before args s = true) (hown : s.vm.findClass own = some m.cls) (hK : va_K D vwCl [(cI, .int)] s) (hP : va_P D vwCl (wX h cI σ) H) (hlink : Cond.fieldLink own index "SignedCore$TypedRow" "taken" "I" ∈ wsG) {v : Int32} (hv : g_taken σ = v) (hdg : decode cc pc = .ok (.getfield index, 3)) (kk : W p l e R s m args below meth c H locs cells slots Q (F0 m (pc + 3) ls ((.int v) :: rest))) : W p l e R s m args below meth c H locs cells slots Q (F0 m pc ls (.ref (h 2) :: rest)) := by
  subst hv
  exact va_get (D := D) (ci := 3) (C := RX3) (T := TX3) (N := 3) hx hb hts inX3 hown hK hP 2 rfl rfl 2 (by decide) (hts _ hlink) (fun _ h9 => h9) rfl hdg kk
theorem pX_taken {v : Int32} (hx : p.tables.exec = Jvm.exec) (hb : c.code = cc) (hts : ∀ w ∈ wsG, w.before args s = true) (hown : s.vm.findClass own = some m.cls) (hK : va_K D vwCl [(cI, .int)] s) (hP : va_P D vwCl (wX h cI σ) H) (hD : va_D A (wX h cI σ)) (hS : va_S A H0 H locs) (hlink : Cond.fieldLink own index "SignedCore$TypedRow" "taken" "I" ∈ wsG) (hdg : decode cc pc = .ok (.putfield index, 3)) (kk : ∀ (H1 : Heap) (locs1 : List Loc), va_P D vwCl (wX h cI (s_taken σ v)) H1 → va_D A (wX h cI (s_taken σ v)) → va_S A H0 H1 locs1 → W p l e R s m args below meth c H1 locs1 cells slots Q (F0 m (pc + 3) ls rest)) : W p l e R s m args below meth c H locs cells slots Q (F0 m pc ls (.int v :: .ref (h 2) :: rest)) :=
  va_put (D := D) (ci := 3) (v := .int v) (ty := .int) (C := RX3) (T := TX3) (N := 3) hx hb hts inX3 tyX3 tyX3_ok nmX3 hown hK hP hD hS 2 rfl rfl 2 (by decide) (hts _ hlink) (fun _ h9 => h9) rfl (tyX3_ok 2 (by decide)) rfl rfl (Nat.le_of_ble_eq_true rfl) hdg kk
theorem aX_row {i : Int32} (hx : p.tables.exec = Jvm.exec) (hb : c.code = cc) (hK : va_K D vwCl [(cI, .int)] s) (hP : va_P D vwCl (wX h cI σ) H) (hin : vp_in i 100) {v : Int32} (hv : (g_row σ) i.toNatClampNeg = v) (hdg : decode cc pc = .ok (.iaload, 1)) (kk : W p l e R s m args below meth c H locs cells slots Q (F0 m (pc + 1) ls (.int v :: rest))) : W p l e R s m args below meth c H locs cells slots Q (F0 m pc ls (.int i :: .ref (h 3) :: rest)) := by
  subst hv
  exact va_iald (D := D) hx hb hK hP 3 0 rfl rfl hin hdg kk
theorem bX_row {i x : Int32} (hx : p.tables.exec = Jvm.exec) (hb : c.code = cc) (hK : va_K D vwCl [(cI, .int)] s) (hP : va_P D vwCl (wX h cI σ) H) (hD : va_D A (wX h cI σ)) (hS : va_S A H0 H locs) (hin : vp_in i 100) {f : Nat → Int32} (hv : g_row σ = f) (hdg : decode cc pc = .ok (.iastore, 1)) (kk : ∀ (H1 : Heap) (locs1 : List Loc), va_P D vwCl (wX h cI (s_row σ (upd f i.toNatClampNeg x))) H1 → va_D A (wX h cI (s_row σ (upd f i.toNatClampNeg x))) → va_S A H0 H1 locs1 → W p l e R s m args below meth c H1 locs1 cells slots Q (F0 m (pc + 1) ls rest)) : W p l e R s m args below meth c H locs cells slots Q (F0 m pc ls (.int x :: .int i :: .ref (h 3) :: rest)) := by
  subst hv
  exact va_iast (D := D) hx hb hK hP hD hS 3 0 rfl rfl hin hdg kk
theorem gX_ref5 (hx : p.tables.exec = Jvm.exec) (hb : c.code = cc) (hts : ∀ w ∈ wsG, w.before args s = true) (hown : s.vm.findClass own = some m.cls) (hK : va_K D vwCl [(cI, .int)] s) (hP : va_P D vwCl (wX h cI σ) H) (hlink : Cond.fieldLink own index "SignedCore$SentRow" "signs" "[I" ∈ wsG) (hdg : decode cc pc = .ok (.getfield index, 3)) (kk : W p l e R s m args below meth c H locs cells slots Q (F0 m (pc + 3) ls ((.ref (h 5)) :: rest))) : W p l e R s m args below meth c H locs cells slots Q (F0 m pc ls (.ref (h 4) :: rest)) := by
  exact va_get (D := D) (ci := 1) (C := RX1) (T := TX1) (N := 3) hx hb hts inX1 hown hK hP 4 rfl rfl 0 (by decide) (hts _ hlink) (fun _ h9 => h9) rfl hdg kk
theorem gX_outs (hx : p.tables.exec = Jvm.exec) (hb : c.code = cc) (hts : ∀ w ∈ wsG, w.before args s = true) (hown : s.vm.findClass own = some m.cls) (hK : va_K D vwCl [(cI, .int)] s) (hP : va_P D vwCl (wX h cI σ) H) (hlink : Cond.fieldLink own index "SignedCore$SentRow" "count" "I" ∈ wsG) {v : Int32} (hv : g_outs σ = v) (hdg : decode cc pc = .ok (.getfield index, 3)) (kk : W p l e R s m args below meth c H locs cells slots Q (F0 m (pc + 3) ls ((.int v) :: rest))) : W p l e R s m args below meth c H locs cells slots Q (F0 m pc ls (.ref (h 4) :: rest)) := by
  subst hv
  exact va_get (D := D) (ci := 1) (C := RX1) (T := TX1) (N := 3) hx hb hts inX1 hown hK hP 4 rfl rfl 1 (by decide) (hts _ hlink) (fun _ h9 => h9) rfl hdg kk
theorem pX_outs {v : Int32} (hx : p.tables.exec = Jvm.exec) (hb : c.code = cc) (hts : ∀ w ∈ wsG, w.before args s = true) (hown : s.vm.findClass own = some m.cls) (hK : va_K D vwCl [(cI, .int)] s) (hP : va_P D vwCl (wX h cI σ) H) (hD : va_D A (wX h cI σ)) (hS : va_S A H0 H locs) (hlink : Cond.fieldLink own index "SignedCore$SentRow" "count" "I" ∈ wsG) (hdg : decode cc pc = .ok (.putfield index, 3)) (kk : ∀ (H1 : Heap) (locs1 : List Loc), va_P D vwCl (wX h cI (s_outs σ v)) H1 → va_D A (wX h cI (s_outs σ v)) → va_S A H0 H1 locs1 → W p l e R s m args below meth c H1 locs1 cells slots Q (F0 m (pc + 3) ls rest)) : W p l e R s m args below meth c H locs cells slots Q (F0 m pc ls (.int v :: .ref (h 4) :: rest)) :=
  va_put (D := D) (ci := 1) (v := .int v) (ty := .int) (C := RX1) (T := TX1) (N := 3) hx hb hts inX1 tyX1 tyX1_ok nmX1 hown hK hP hD hS 4 rfl rfl 1 (by decide) (hts _ hlink) (fun _ h9 => h9) rfl (tyX1_ok 1 (by decide)) rfl rfl (Nat.le_of_ble_eq_true rfl) hdg kk
theorem gXN_outs (hx : p.tables.exec = Jvm.exec) (hb : c.code = cc) (hts : ∀ w ∈ wsG, w.before args s = true) (hown : s.vm.findClass own = some m.cls) (hK : va_K D vwCl [(cI, .int)] s) (hP : va_P D vwCl (wX h cI σ) H) (hlink : (Cond.fieldLinkNest own index "SignedCore$SentRow" "count" "I" "SignedCore").before args s = true) {v : Int32} (hv : g_outs σ = v) (hdg : decode cc pc = .ok (.getfield index, 3)) (kk : W p l e R s m args below meth c H locs cells slots Q (F0 m (pc + 3) ls ((.int v) :: rest))) : W p l e R s m args below meth c H locs cells slots Q (F0 m pc ls (.ref (h 4) :: rest)) := by
  subst hv
  exact va_getN (D := D) (ci := 1) (C := RX1) (T := TX1) (N := 3) hx hb hts inX1 hown hK hP 4 rfl rfl 1 (by decide) (hlink) (fun _ h9 => h9) rfl hdg kk
theorem pXN_outs {v : Int32} (hx : p.tables.exec = Jvm.exec) (hb : c.code = cc) (hts : ∀ w ∈ wsG, w.before args s = true) (hown : s.vm.findClass own = some m.cls) (hK : va_K D vwCl [(cI, .int)] s) (hP : va_P D vwCl (wX h cI σ) H) (hD : va_D A (wX h cI σ)) (hS : va_S A H0 H locs) (hlink : (Cond.fieldLinkNest own index "SignedCore$SentRow" "count" "I" "SignedCore").before args s = true) (hdg : decode cc pc = .ok (.putfield index, 3)) (kk : ∀ (H1 : Heap) (locs1 : List Loc), va_P D vwCl (wX h cI (s_outs σ v)) H1 → va_D A (wX h cI (s_outs σ v)) → va_S A H0 H1 locs1 → W p l e R s m args below meth c H1 locs1 cells slots Q (F0 m (pc + 3) ls rest)) : W p l e R s m args below meth c H locs cells slots Q (F0 m pc ls (.int v :: .ref (h 4) :: rest)) :=
  va_putN (D := D) (ci := 1) (v := .int v) (ty := .int) (C := RX1) (T := TX1) (N := 3) hx hb hts inX1 tyX1 tyX1_ok nmX1 hown hK hP hD hS 4 rfl rfl 1 (by decide) (hlink) (fun _ h9 => h9) rfl (tyX1_ok 1 (by decide)) rfl rfl (Nat.le_of_ble_eq_true rfl) hdg kk
theorem gX_lost (hx : p.tables.exec = Jvm.exec) (hb : c.code = cc) (hts : ∀ w ∈ wsG, w.before args s = true) (hown : s.vm.findClass own = some m.cls) (hK : va_K D vwCl [(cI, .int)] s) (hP : va_P D vwCl (wX h cI σ) H) (hlink : Cond.fieldLink own index "SignedCore$SentRow" "lost" "I" ∈ wsG) {v : Int32} (hv : g_lost σ = v) (hdg : decode cc pc = .ok (.getfield index, 3)) (kk : W p l e R s m args below meth c H locs cells slots Q (F0 m (pc + 3) ls ((.int v) :: rest))) : W p l e R s m args below meth c H locs cells slots Q (F0 m pc ls (.ref (h 4) :: rest)) := by
  subst hv
  exact va_get (D := D) (ci := 1) (C := RX1) (T := TX1) (N := 3) hx hb hts inX1 hown hK hP 4 rfl rfl 2 (by decide) (hts _ hlink) (fun _ h9 => h9) rfl hdg kk
theorem pX_lost {v : Int32} (hx : p.tables.exec = Jvm.exec) (hb : c.code = cc) (hts : ∀ w ∈ wsG, w.before args s = true) (hown : s.vm.findClass own = some m.cls) (hK : va_K D vwCl [(cI, .int)] s) (hP : va_P D vwCl (wX h cI σ) H) (hD : va_D A (wX h cI σ)) (hS : va_S A H0 H locs) (hlink : Cond.fieldLink own index "SignedCore$SentRow" "lost" "I" ∈ wsG) (hdg : decode cc pc = .ok (.putfield index, 3)) (kk : ∀ (H1 : Heap) (locs1 : List Loc), va_P D vwCl (wX h cI (s_lost σ v)) H1 → va_D A (wX h cI (s_lost σ v)) → va_S A H0 H1 locs1 → W p l e R s m args below meth c H1 locs1 cells slots Q (F0 m (pc + 3) ls rest)) : W p l e R s m args below meth c H locs cells slots Q (F0 m pc ls (.int v :: .ref (h 4) :: rest)) :=
  va_put (D := D) (ci := 1) (v := .int v) (ty := .int) (C := RX1) (T := TX1) (N := 3) hx hb hts inX1 tyX1 tyX1_ok nmX1 hown hK hP hD hS 4 rfl rfl 2 (by decide) (hts _ hlink) (fun _ h9 => h9) rfl (tyX1_ok 2 (by decide)) rfl rfl (Nat.le_of_ble_eq_true rfl) hdg kk
theorem gXN_lost (hx : p.tables.exec = Jvm.exec) (hb : c.code = cc) (hts : ∀ w ∈ wsG, w.before args s = true) (hown : s.vm.findClass own = some m.cls) (hK : va_K D vwCl [(cI, .int)] s) (hP : va_P D vwCl (wX h cI σ) H) (hlink : (Cond.fieldLinkNest own index "SignedCore$SentRow" "lost" "I" "SignedCore").before args s = true) {v : Int32} (hv : g_lost σ = v) (hdg : decode cc pc = .ok (.getfield index, 3)) (kk : W p l e R s m args below meth c H locs cells slots Q (F0 m (pc + 3) ls ((.int v) :: rest))) : W p l e R s m args below meth c H locs cells slots Q (F0 m pc ls (.ref (h 4) :: rest)) := by
  subst hv
  exact va_getN (D := D) (ci := 1) (C := RX1) (T := TX1) (N := 3) hx hb hts inX1 hown hK hP 4 rfl rfl 2 (by decide) (hlink) (fun _ h9 => h9) rfl hdg kk
theorem pXN_lost {v : Int32} (hx : p.tables.exec = Jvm.exec) (hb : c.code = cc) (hts : ∀ w ∈ wsG, w.before args s = true) (hown : s.vm.findClass own = some m.cls) (hK : va_K D vwCl [(cI, .int)] s) (hP : va_P D vwCl (wX h cI σ) H) (hD : va_D A (wX h cI σ)) (hS : va_S A H0 H locs) (hlink : (Cond.fieldLinkNest own index "SignedCore$SentRow" "lost" "I" "SignedCore").before args s = true) (hdg : decode cc pc = .ok (.putfield index, 3)) (kk : ∀ (H1 : Heap) (locs1 : List Loc), va_P D vwCl (wX h cI (s_lost σ v)) H1 → va_D A (wX h cI (s_lost σ v)) → va_S A H0 H1 locs1 → W p l e R s m args below meth c H1 locs1 cells slots Q (F0 m (pc + 3) ls rest)) : W p l e R s m args below meth c H locs cells slots Q (F0 m pc ls (.int v :: .ref (h 4) :: rest)) :=
  va_putN (D := D) (ci := 1) (v := .int v) (ty := .int) (C := RX1) (T := TX1) (N := 3) hx hb hts inX1 tyX1 tyX1_ok nmX1 hown hK hP hD hS 4 rfl rfl 2 (by decide) (hlink) (fun _ h9 => h9) rfl (tyX1_ok 2 (by decide)) rfl rfl (Nat.le_of_ble_eq_true rfl) hdg kk
theorem aX_out {i : Int32} (hx : p.tables.exec = Jvm.exec) (hb : c.code = cc) (hK : va_K D vwCl [(cI, .int)] s) (hP : va_P D vwCl (wX h cI σ) H) (hin : vp_in i 64) {v : Int32} (hv : (g_out σ) i.toNatClampNeg = v) (hdg : decode cc pc = .ok (.iaload, 1)) (kk : W p l e R s m args below meth c H locs cells slots Q (F0 m (pc + 1) ls (.int v :: rest))) : W p l e R s m args below meth c H locs cells slots Q (F0 m pc ls (.int i :: .ref (h 5) :: rest)) := by
  subst hv
  exact va_iald (D := D) hx hb hK hP 5 0 rfl rfl hin hdg kk
theorem bX_out {i x : Int32} (hx : p.tables.exec = Jvm.exec) (hb : c.code = cc) (hK : va_K D vwCl [(cI, .int)] s) (hP : va_P D vwCl (wX h cI σ) H) (hD : va_D A (wX h cI σ)) (hS : va_S A H0 H locs) (hin : vp_in i 64) {f : Nat → Int32} (hv : g_out σ = f) (hdg : decode cc pc = .ok (.iastore, 1)) (kk : ∀ (H1 : Heap) (locs1 : List Loc), va_P D vwCl (wX h cI (s_out σ (upd f i.toNatClampNeg x))) H1 → va_D A (wX h cI (s_out σ (upd f i.toNatClampNeg x))) → va_S A H0 H1 locs1 → W p l e R s m args below meth c H1 locs1 cells slots Q (F0 m (pc + 1) ls rest)) : W p l e R s m args below meth c H locs cells slots Q (F0 m pc ls (.int x :: .int i :: .ref (h 5) :: rest)) := by
  subst hv
  exact va_iast (D := D) hx hb hK hP hD hS 5 0 rfl rfl hin hdg kk
theorem gX_ref7 (hx : p.tables.exec = Jvm.exec) (hb : c.code = cc) (hts : ∀ w ∈ wsG, w.before args s = true) (hown : s.vm.findClass own = some m.cls) (hK : va_K D vwCl [(cI, .int)] s) (hP : va_P D vwCl (wX h cI σ) H) (hlink : Cond.fieldLink own index "SignedCore$Display" "xs" "[I" ∈ wsG) (hdg : decode cc pc = .ok (.getfield index, 3)) (kk : W p l e R s m args below meth c H locs cells slots Q (F0 m (pc + 3) ls ((.ref (h 7)) :: rest))) : W p l e R s m args below meth c H locs cells slots Q (F0 m pc ls (.ref (h 6) :: rest)) := by
  exact va_get (D := D) (ci := 0) (C := RX0) (T := TX0) (N := 3) hx hb hts inX0 hown hK hP 6 rfl rfl 0 (by decide) (hts _ hlink) (fun _ h9 => h9) rfl hdg kk
theorem gX_ref8 (hx : p.tables.exec = Jvm.exec) (hb : c.code = cc) (hts : ∀ w ∈ wsG, w.before args s = true) (hown : s.vm.findClass own = some m.cls) (hK : va_K D vwCl [(cI, .int)] s) (hP : va_P D vwCl (wX h cI σ) H) (hlink : Cond.fieldLink own index "SignedCore$Display" "ys" "[I" ∈ wsG) (hdg : decode cc pc = .ok (.getfield index, 3)) (kk : W p l e R s m args below meth c H locs cells slots Q (F0 m (pc + 3) ls ((.ref (h 8)) :: rest))) : W p l e R s m args below meth c H locs cells slots Q (F0 m pc ls (.ref (h 6) :: rest)) := by
  exact va_get (D := D) (ci := 0) (C := RX0) (T := TX0) (N := 3) hx hb hts inX0 hown hK hP 6 rfl rfl 1 (by decide) (hts _ hlink) (fun _ h9 => h9) rfl hdg kk
theorem gX_pts (hx : p.tables.exec = Jvm.exec) (hb : c.code = cc) (hts : ∀ w ∈ wsG, w.before args s = true) (hown : s.vm.findClass own = some m.cls) (hK : va_K D vwCl [(cI, .int)] s) (hP : va_P D vwCl (wX h cI σ) H) (hlink : Cond.fieldLink own index "SignedCore$Display" "total" "I" ∈ wsG) {v : Int32} (hv : g_pts σ = v) (hdg : decode cc pc = .ok (.getfield index, 3)) (kk : W p l e R s m args below meth c H locs cells slots Q (F0 m (pc + 3) ls ((.int v) :: rest))) : W p l e R s m args below meth c H locs cells slots Q (F0 m pc ls (.ref (h 6) :: rest)) := by
  subst hv
  exact va_get (D := D) (ci := 0) (C := RX0) (T := TX0) (N := 3) hx hb hts inX0 hown hK hP 6 rfl rfl 2 (by decide) (hts _ hlink) (fun _ h9 => h9) rfl hdg kk
theorem pX_pts {v : Int32} (hx : p.tables.exec = Jvm.exec) (hb : c.code = cc) (hts : ∀ w ∈ wsG, w.before args s = true) (hown : s.vm.findClass own = some m.cls) (hK : va_K D vwCl [(cI, .int)] s) (hP : va_P D vwCl (wX h cI σ) H) (hD : va_D A (wX h cI σ)) (hS : va_S A H0 H locs) (hlink : Cond.fieldLink own index "SignedCore$Display" "total" "I" ∈ wsG) (hdg : decode cc pc = .ok (.putfield index, 3)) (kk : ∀ (H1 : Heap) (locs1 : List Loc), va_P D vwCl (wX h cI (s_pts σ v)) H1 → va_D A (wX h cI (s_pts σ v)) → va_S A H0 H1 locs1 → W p l e R s m args below meth c H1 locs1 cells slots Q (F0 m (pc + 3) ls rest)) : W p l e R s m args below meth c H locs cells slots Q (F0 m pc ls (.int v :: .ref (h 6) :: rest)) :=
  va_put (D := D) (ci := 0) (v := .int v) (ty := .int) (C := RX0) (T := TX0) (N := 3) hx hb hts inX0 tyX0 tyX0_ok nmX0 hown hK hP hD hS 6 rfl rfl 2 (by decide) (hts _ hlink) (fun _ h9 => h9) rfl (tyX0_ok 2 (by decide)) rfl rfl (Nat.le_of_ble_eq_true rfl) hdg kk
theorem gXN_pts (hx : p.tables.exec = Jvm.exec) (hb : c.code = cc) (hts : ∀ w ∈ wsG, w.before args s = true) (hown : s.vm.findClass own = some m.cls) (hK : va_K D vwCl [(cI, .int)] s) (hP : va_P D vwCl (wX h cI σ) H) (hlink : (Cond.fieldLinkNest own index "SignedCore$Display" "total" "I" "SignedCore").before args s = true) {v : Int32} (hv : g_pts σ = v) (hdg : decode cc pc = .ok (.getfield index, 3)) (kk : W p l e R s m args below meth c H locs cells slots Q (F0 m (pc + 3) ls ((.int v) :: rest))) : W p l e R s m args below meth c H locs cells slots Q (F0 m pc ls (.ref (h 6) :: rest)) := by
  subst hv
  exact va_getN (D := D) (ci := 0) (C := RX0) (T := TX0) (N := 3) hx hb hts inX0 hown hK hP 6 rfl rfl 2 (by decide) (hlink) (fun _ h9 => h9) rfl hdg kk
theorem pXN_pts {v : Int32} (hx : p.tables.exec = Jvm.exec) (hb : c.code = cc) (hts : ∀ w ∈ wsG, w.before args s = true) (hown : s.vm.findClass own = some m.cls) (hK : va_K D vwCl [(cI, .int)] s) (hP : va_P D vwCl (wX h cI σ) H) (hD : va_D A (wX h cI σ)) (hS : va_S A H0 H locs) (hlink : (Cond.fieldLinkNest own index "SignedCore$Display" "total" "I" "SignedCore").before args s = true) (hdg : decode cc pc = .ok (.putfield index, 3)) (kk : ∀ (H1 : Heap) (locs1 : List Loc), va_P D vwCl (wX h cI (s_pts σ v)) H1 → va_D A (wX h cI (s_pts σ v)) → va_S A H0 H1 locs1 → W p l e R s m args below meth c H1 locs1 cells slots Q (F0 m (pc + 3) ls rest)) : W p l e R s m args below meth c H locs cells slots Q (F0 m pc ls (.int v :: .ref (h 6) :: rest)) :=
  va_putN (D := D) (ci := 0) (v := .int v) (ty := .int) (C := RX0) (T := TX0) (N := 3) hx hb hts inX0 tyX0 tyX0_ok nmX0 hown hK hP hD hS 6 rfl rfl 2 (by decide) (hlink) (fun _ h9 => h9) rfl (tyX0_ok 2 (by decide)) rfl rfl (Nat.le_of_ble_eq_true rfl) hdg kk
theorem aX_px {i : Int32} (hx : p.tables.exec = Jvm.exec) (hb : c.code = cc) (hK : va_K D vwCl [(cI, .int)] s) (hP : va_P D vwCl (wX h cI σ) H) (hin : vp_in i 64) {v : Int32} (hv : (g_px σ) i.toNatClampNeg = v) (hdg : decode cc pc = .ok (.iaload, 1)) (kk : W p l e R s m args below meth c H locs cells slots Q (F0 m (pc + 1) ls (.int v :: rest))) : W p l e R s m args below meth c H locs cells slots Q (F0 m pc ls (.int i :: .ref (h 7) :: rest)) := by
  subst hv
  exact va_iald (D := D) hx hb hK hP 7 0 rfl rfl hin hdg kk
theorem bX_px {i x : Int32} (hx : p.tables.exec = Jvm.exec) (hb : c.code = cc) (hK : va_K D vwCl [(cI, .int)] s) (hP : va_P D vwCl (wX h cI σ) H) (hD : va_D A (wX h cI σ)) (hS : va_S A H0 H locs) (hin : vp_in i 64) {f : Nat → Int32} (hv : g_px σ = f) (hdg : decode cc pc = .ok (.iastore, 1)) (kk : ∀ (H1 : Heap) (locs1 : List Loc), va_P D vwCl (wX h cI (s_px σ (upd f i.toNatClampNeg x))) H1 → va_D A (wX h cI (s_px σ (upd f i.toNatClampNeg x))) → va_S A H0 H1 locs1 → W p l e R s m args below meth c H1 locs1 cells slots Q (F0 m (pc + 1) ls rest)) : W p l e R s m args below meth c H locs cells slots Q (F0 m pc ls (.int x :: .int i :: .ref (h 7) :: rest)) := by
  subst hv
  exact va_iast (D := D) hx hb hK hP hD hS 7 0 rfl rfl hin hdg kk
theorem aX_py {i : Int32} (hx : p.tables.exec = Jvm.exec) (hb : c.code = cc) (hK : va_K D vwCl [(cI, .int)] s) (hP : va_P D vwCl (wX h cI σ) H) (hin : vp_in i 64) {v : Int32} (hv : (g_py σ) i.toNatClampNeg = v) (hdg : decode cc pc = .ok (.iaload, 1)) (kk : W p l e R s m args below meth c H locs cells slots Q (F0 m (pc + 1) ls (.int v :: rest))) : W p l e R s m args below meth c H locs cells slots Q (F0 m pc ls (.int i :: .ref (h 8) :: rest)) := by
  subst hv
  exact va_iald (D := D) hx hb hK hP 8 0 rfl rfl hin hdg kk
theorem bX_py {i x : Int32} (hx : p.tables.exec = Jvm.exec) (hb : c.code = cc) (hK : va_K D vwCl [(cI, .int)] s) (hP : va_P D vwCl (wX h cI σ) H) (hD : va_D A (wX h cI σ)) (hS : va_S A H0 H locs) (hin : vp_in i 64) {f : Nat → Int32} (hv : g_py σ = f) (hdg : decode cc pc = .ok (.iastore, 1)) (kk : ∀ (H1 : Heap) (locs1 : List Loc), va_P D vwCl (wX h cI (s_py σ (upd f i.toNatClampNeg x))) H1 → va_D A (wX h cI (s_py σ (upd f i.toNatClampNeg x))) → va_S A H0 H1 locs1 → W p l e R s m args below meth c H1 locs1 cells slots Q (F0 m (pc + 1) ls rest)) : W p l e R s m args below meth c H locs cells slots Q (F0 m pc ls (.int x :: .int i :: .ref (h 8) :: rest)) := by
  subst hv
  exact va_iast (D := D) hx hb hK hP hD hS 8 0 rfl rfl hin hdg kk
theorem gX_t0 (hx : p.tables.exec = Jvm.exec) (hb : c.code = cc) (hts : ∀ w ∈ wsG, w.before args s = true) (hown : s.vm.findClass own = some m.cls) (hK : va_K D vwCl [(cI, .int)] s) (hP : va_P D vwCl (wX h cI σ) H) (hlink : Cond.fieldLink own index "SignedCore$Tally" "steps" "I" ∈ wsG) {v : Int32} (hv : g_t0 σ = v) (hdg : decode cc pc = .ok (.getfield index, 3)) (kk : W p l e R s m args below meth c H locs cells slots Q (F0 m (pc + 3) ls ((.int v) :: rest))) : W p l e R s m args below meth c H locs cells slots Q (F0 m pc ls (.ref (h 9) :: rest)) := by
  subst hv
  exact va_get (D := D) (ci := 2) (C := RX2) (T := TX2) (N := 8) hx hb hts inX2 hown hK hP 9 rfl rfl 0 (by decide) (hts _ hlink) (fun _ h9 => h9) rfl hdg kk
theorem pX_t0 {v : Int32} (hx : p.tables.exec = Jvm.exec) (hb : c.code = cc) (hts : ∀ w ∈ wsG, w.before args s = true) (hown : s.vm.findClass own = some m.cls) (hK : va_K D vwCl [(cI, .int)] s) (hP : va_P D vwCl (wX h cI σ) H) (hD : va_D A (wX h cI σ)) (hS : va_S A H0 H locs) (hlink : Cond.fieldLink own index "SignedCore$Tally" "steps" "I" ∈ wsG) (hdg : decode cc pc = .ok (.putfield index, 3)) (kk : ∀ (H1 : Heap) (locs1 : List Loc), va_P D vwCl (wX h cI (s_t0 σ v)) H1 → va_D A (wX h cI (s_t0 σ v)) → va_S A H0 H1 locs1 → W p l e R s m args below meth c H1 locs1 cells slots Q (F0 m (pc + 3) ls rest)) : W p l e R s m args below meth c H locs cells slots Q (F0 m pc ls (.int v :: .ref (h 9) :: rest)) :=
  va_put (D := D) (ci := 2) (v := .int v) (ty := .int) (C := RX2) (T := TX2) (N := 8) hx hb hts inX2 tyX2 tyX2_ok nmX2 hown hK hP hD hS 9 rfl rfl 0 (by decide) (hts _ hlink) (fun _ h9 => h9) rfl (tyX2_ok 0 (by decide)) rfl rfl (Nat.le_of_ble_eq_true rfl) hdg kk
theorem gXN_t0 (hx : p.tables.exec = Jvm.exec) (hb : c.code = cc) (hts : ∀ w ∈ wsG, w.before args s = true) (hown : s.vm.findClass own = some m.cls) (hK : va_K D vwCl [(cI, .int)] s) (hP : va_P D vwCl (wX h cI σ) H) (hlink : (Cond.fieldLinkNest own index "SignedCore$Tally" "steps" "I" "SignedCore").before args s = true) {v : Int32} (hv : g_t0 σ = v) (hdg : decode cc pc = .ok (.getfield index, 3)) (kk : W p l e R s m args below meth c H locs cells slots Q (F0 m (pc + 3) ls ((.int v) :: rest))) : W p l e R s m args below meth c H locs cells slots Q (F0 m pc ls (.ref (h 9) :: rest)) := by
  subst hv
  exact va_getN (D := D) (ci := 2) (C := RX2) (T := TX2) (N := 8) hx hb hts inX2 hown hK hP 9 rfl rfl 0 (by decide) (hlink) (fun _ h9 => h9) rfl hdg kk
theorem pXN_t0 {v : Int32} (hx : p.tables.exec = Jvm.exec) (hb : c.code = cc) (hts : ∀ w ∈ wsG, w.before args s = true) (hown : s.vm.findClass own = some m.cls) (hK : va_K D vwCl [(cI, .int)] s) (hP : va_P D vwCl (wX h cI σ) H) (hD : va_D A (wX h cI σ)) (hS : va_S A H0 H locs) (hlink : (Cond.fieldLinkNest own index "SignedCore$Tally" "steps" "I" "SignedCore").before args s = true) (hdg : decode cc pc = .ok (.putfield index, 3)) (kk : ∀ (H1 : Heap) (locs1 : List Loc), va_P D vwCl (wX h cI (s_t0 σ v)) H1 → va_D A (wX h cI (s_t0 σ v)) → va_S A H0 H1 locs1 → W p l e R s m args below meth c H1 locs1 cells slots Q (F0 m (pc + 3) ls rest)) : W p l e R s m args below meth c H locs cells slots Q (F0 m pc ls (.int v :: .ref (h 9) :: rest)) :=
  va_putN (D := D) (ci := 2) (v := .int v) (ty := .int) (C := RX2) (T := TX2) (N := 8) hx hb hts inX2 tyX2 tyX2_ok nmX2 hown hK hP hD hS 9 rfl rfl 0 (by decide) (hlink) (fun _ h9 => h9) rfl (tyX2_ok 0 (by decide)) rfl rfl (Nat.le_of_ble_eq_true rfl) hdg kk
theorem gX_t1 (hx : p.tables.exec = Jvm.exec) (hb : c.code = cc) (hts : ∀ w ∈ wsG, w.before args s = true) (hown : s.vm.findClass own = some m.cls) (hK : va_K D vwCl [(cI, .int)] s) (hP : va_P D vwCl (wX h cI σ) H) (hlink : Cond.fieldLink own index "SignedCore$Tally" "breaks" "I" ∈ wsG) {v : Int32} (hv : g_t1 σ = v) (hdg : decode cc pc = .ok (.getfield index, 3)) (kk : W p l e R s m args below meth c H locs cells slots Q (F0 m (pc + 3) ls ((.int v) :: rest))) : W p l e R s m args below meth c H locs cells slots Q (F0 m pc ls (.ref (h 9) :: rest)) := by
  subst hv
  exact va_get (D := D) (ci := 2) (C := RX2) (T := TX2) (N := 8) hx hb hts inX2 hown hK hP 9 rfl rfl 1 (by decide) (hts _ hlink) (fun _ h9 => h9) rfl hdg kk
theorem pX_t1 {v : Int32} (hx : p.tables.exec = Jvm.exec) (hb : c.code = cc) (hts : ∀ w ∈ wsG, w.before args s = true) (hown : s.vm.findClass own = some m.cls) (hK : va_K D vwCl [(cI, .int)] s) (hP : va_P D vwCl (wX h cI σ) H) (hD : va_D A (wX h cI σ)) (hS : va_S A H0 H locs) (hlink : Cond.fieldLink own index "SignedCore$Tally" "breaks" "I" ∈ wsG) (hdg : decode cc pc = .ok (.putfield index, 3)) (kk : ∀ (H1 : Heap) (locs1 : List Loc), va_P D vwCl (wX h cI (s_t1 σ v)) H1 → va_D A (wX h cI (s_t1 σ v)) → va_S A H0 H1 locs1 → W p l e R s m args below meth c H1 locs1 cells slots Q (F0 m (pc + 3) ls rest)) : W p l e R s m args below meth c H locs cells slots Q (F0 m pc ls (.int v :: .ref (h 9) :: rest)) :=
  va_put (D := D) (ci := 2) (v := .int v) (ty := .int) (C := RX2) (T := TX2) (N := 8) hx hb hts inX2 tyX2 tyX2_ok nmX2 hown hK hP hD hS 9 rfl rfl 1 (by decide) (hts _ hlink) (fun _ h9 => h9) rfl (tyX2_ok 1 (by decide)) rfl rfl (Nat.le_of_ble_eq_true rfl) hdg kk
theorem gXN_t1 (hx : p.tables.exec = Jvm.exec) (hb : c.code = cc) (hts : ∀ w ∈ wsG, w.before args s = true) (hown : s.vm.findClass own = some m.cls) (hK : va_K D vwCl [(cI, .int)] s) (hP : va_P D vwCl (wX h cI σ) H) (hlink : (Cond.fieldLinkNest own index "SignedCore$Tally" "breaks" "I" "SignedCore").before args s = true) {v : Int32} (hv : g_t1 σ = v) (hdg : decode cc pc = .ok (.getfield index, 3)) (kk : W p l e R s m args below meth c H locs cells slots Q (F0 m (pc + 3) ls ((.int v) :: rest))) : W p l e R s m args below meth c H locs cells slots Q (F0 m pc ls (.ref (h 9) :: rest)) := by
  subst hv
  exact va_getN (D := D) (ci := 2) (C := RX2) (T := TX2) (N := 8) hx hb hts inX2 hown hK hP 9 rfl rfl 1 (by decide) (hlink) (fun _ h9 => h9) rfl hdg kk
theorem pXN_t1 {v : Int32} (hx : p.tables.exec = Jvm.exec) (hb : c.code = cc) (hts : ∀ w ∈ wsG, w.before args s = true) (hown : s.vm.findClass own = some m.cls) (hK : va_K D vwCl [(cI, .int)] s) (hP : va_P D vwCl (wX h cI σ) H) (hD : va_D A (wX h cI σ)) (hS : va_S A H0 H locs) (hlink : (Cond.fieldLinkNest own index "SignedCore$Tally" "breaks" "I" "SignedCore").before args s = true) (hdg : decode cc pc = .ok (.putfield index, 3)) (kk : ∀ (H1 : Heap) (locs1 : List Loc), va_P D vwCl (wX h cI (s_t1 σ v)) H1 → va_D A (wX h cI (s_t1 σ v)) → va_S A H0 H1 locs1 → W p l e R s m args below meth c H1 locs1 cells slots Q (F0 m (pc + 3) ls rest)) : W p l e R s m args below meth c H locs cells slots Q (F0 m pc ls (.int v :: .ref (h 9) :: rest)) :=
  va_putN (D := D) (ci := 2) (v := .int v) (ty := .int) (C := RX2) (T := TX2) (N := 8) hx hb hts inX2 tyX2 tyX2_ok nmX2 hown hK hP hD hS 9 rfl rfl 1 (by decide) (hlink) (fun _ h9 => h9) rfl (tyX2_ok 1 (by decide)) rfl rfl (Nat.le_of_ble_eq_true rfl) hdg kk
theorem gX_t2 (hx : p.tables.exec = Jvm.exec) (hb : c.code = cc) (hts : ∀ w ∈ wsG, w.before args s = true) (hown : s.vm.findClass own = some m.cls) (hK : va_K D vwCl [(cI, .int)] s) (hP : va_P D vwCl (wX h cI σ) H) (hlink : Cond.fieldLink own index "SignedCore$Tally" "chainWords" "I" ∈ wsG) {v : Int32} (hv : g_t2 σ = v) (hdg : decode cc pc = .ok (.getfield index, 3)) (kk : W p l e R s m args below meth c H locs cells slots Q (F0 m (pc + 3) ls ((.int v) :: rest))) : W p l e R s m args below meth c H locs cells slots Q (F0 m pc ls (.ref (h 9) :: rest)) := by
  subst hv
  exact va_get (D := D) (ci := 2) (C := RX2) (T := TX2) (N := 8) hx hb hts inX2 hown hK hP 9 rfl rfl 2 (by decide) (hts _ hlink) (fun _ h9 => h9) rfl hdg kk
theorem pX_t2 {v : Int32} (hx : p.tables.exec = Jvm.exec) (hb : c.code = cc) (hts : ∀ w ∈ wsG, w.before args s = true) (hown : s.vm.findClass own = some m.cls) (hK : va_K D vwCl [(cI, .int)] s) (hP : va_P D vwCl (wX h cI σ) H) (hD : va_D A (wX h cI σ)) (hS : va_S A H0 H locs) (hlink : Cond.fieldLink own index "SignedCore$Tally" "chainWords" "I" ∈ wsG) (hdg : decode cc pc = .ok (.putfield index, 3)) (kk : ∀ (H1 : Heap) (locs1 : List Loc), va_P D vwCl (wX h cI (s_t2 σ v)) H1 → va_D A (wX h cI (s_t2 σ v)) → va_S A H0 H1 locs1 → W p l e R s m args below meth c H1 locs1 cells slots Q (F0 m (pc + 3) ls rest)) : W p l e R s m args below meth c H locs cells slots Q (F0 m pc ls (.int v :: .ref (h 9) :: rest)) :=
  va_put (D := D) (ci := 2) (v := .int v) (ty := .int) (C := RX2) (T := TX2) (N := 8) hx hb hts inX2 tyX2 tyX2_ok nmX2 hown hK hP hD hS 9 rfl rfl 2 (by decide) (hts _ hlink) (fun _ h9 => h9) rfl (tyX2_ok 2 (by decide)) rfl rfl (Nat.le_of_ble_eq_true rfl) hdg kk
theorem gXN_t2 (hx : p.tables.exec = Jvm.exec) (hb : c.code = cc) (hts : ∀ w ∈ wsG, w.before args s = true) (hown : s.vm.findClass own = some m.cls) (hK : va_K D vwCl [(cI, .int)] s) (hP : va_P D vwCl (wX h cI σ) H) (hlink : (Cond.fieldLinkNest own index "SignedCore$Tally" "chainWords" "I" "SignedCore").before args s = true) {v : Int32} (hv : g_t2 σ = v) (hdg : decode cc pc = .ok (.getfield index, 3)) (kk : W p l e R s m args below meth c H locs cells slots Q (F0 m (pc + 3) ls ((.int v) :: rest))) : W p l e R s m args below meth c H locs cells slots Q (F0 m pc ls (.ref (h 9) :: rest)) := by
  subst hv
  exact va_getN (D := D) (ci := 2) (C := RX2) (T := TX2) (N := 8) hx hb hts inX2 hown hK hP 9 rfl rfl 2 (by decide) (hlink) (fun _ h9 => h9) rfl hdg kk
theorem pXN_t2 {v : Int32} (hx : p.tables.exec = Jvm.exec) (hb : c.code = cc) (hts : ∀ w ∈ wsG, w.before args s = true) (hown : s.vm.findClass own = some m.cls) (hK : va_K D vwCl [(cI, .int)] s) (hP : va_P D vwCl (wX h cI σ) H) (hD : va_D A (wX h cI σ)) (hS : va_S A H0 H locs) (hlink : (Cond.fieldLinkNest own index "SignedCore$Tally" "chainWords" "I" "SignedCore").before args s = true) (hdg : decode cc pc = .ok (.putfield index, 3)) (kk : ∀ (H1 : Heap) (locs1 : List Loc), va_P D vwCl (wX h cI (s_t2 σ v)) H1 → va_D A (wX h cI (s_t2 σ v)) → va_S A H0 H1 locs1 → W p l e R s m args below meth c H1 locs1 cells slots Q (F0 m (pc + 3) ls rest)) : W p l e R s m args below meth c H locs cells slots Q (F0 m pc ls (.int v :: .ref (h 9) :: rest)) :=
  va_putN (D := D) (ci := 2) (v := .int v) (ty := .int) (C := RX2) (T := TX2) (N := 8) hx hb hts inX2 tyX2 tyX2_ok nmX2 hown hK hP hD hS 9 rfl rfl 2 (by decide) (hlink) (fun _ h9 => h9) rfl (tyX2_ok 2 (by decide)) rfl rfl (Nat.le_of_ble_eq_true rfl) hdg kk
theorem gX_t3 (hx : p.tables.exec = Jvm.exec) (hb : c.code = cc) (hts : ∀ w ∈ wsG, w.before args s = true) (hown : s.vm.findClass own = some m.cls) (hK : va_K D vwCl [(cI, .int)] s) (hP : va_P D vwCl (wX h cI σ) H) (hlink : Cond.fieldLink own index "SignedCore$Tally" "pointsPut" "I" ∈ wsG) {v : Int32} (hv : g_t3 σ = v) (hdg : decode cc pc = .ok (.getfield index, 3)) (kk : W p l e R s m args below meth c H locs cells slots Q (F0 m (pc + 3) ls ((.int v) :: rest))) : W p l e R s m args below meth c H locs cells slots Q (F0 m pc ls (.ref (h 9) :: rest)) := by
  subst hv
  exact va_get (D := D) (ci := 2) (C := RX2) (T := TX2) (N := 8) hx hb hts inX2 hown hK hP 9 rfl rfl 3 (by decide) (hts _ hlink) (fun _ h9 => h9) rfl hdg kk
theorem pX_t3 {v : Int32} (hx : p.tables.exec = Jvm.exec) (hb : c.code = cc) (hts : ∀ w ∈ wsG, w.before args s = true) (hown : s.vm.findClass own = some m.cls) (hK : va_K D vwCl [(cI, .int)] s) (hP : va_P D vwCl (wX h cI σ) H) (hD : va_D A (wX h cI σ)) (hS : va_S A H0 H locs) (hlink : Cond.fieldLink own index "SignedCore$Tally" "pointsPut" "I" ∈ wsG) (hdg : decode cc pc = .ok (.putfield index, 3)) (kk : ∀ (H1 : Heap) (locs1 : List Loc), va_P D vwCl (wX h cI (s_t3 σ v)) H1 → va_D A (wX h cI (s_t3 σ v)) → va_S A H0 H1 locs1 → W p l e R s m args below meth c H1 locs1 cells slots Q (F0 m (pc + 3) ls rest)) : W p l e R s m args below meth c H locs cells slots Q (F0 m pc ls (.int v :: .ref (h 9) :: rest)) :=
  va_put (D := D) (ci := 2) (v := .int v) (ty := .int) (C := RX2) (T := TX2) (N := 8) hx hb hts inX2 tyX2 tyX2_ok nmX2 hown hK hP hD hS 9 rfl rfl 3 (by decide) (hts _ hlink) (fun _ h9 => h9) rfl (tyX2_ok 3 (by decide)) rfl rfl (Nat.le_of_ble_eq_true rfl) hdg kk
theorem gXN_t3 (hx : p.tables.exec = Jvm.exec) (hb : c.code = cc) (hts : ∀ w ∈ wsG, w.before args s = true) (hown : s.vm.findClass own = some m.cls) (hK : va_K D vwCl [(cI, .int)] s) (hP : va_P D vwCl (wX h cI σ) H) (hlink : (Cond.fieldLinkNest own index "SignedCore$Tally" "pointsPut" "I" "SignedCore").before args s = true) {v : Int32} (hv : g_t3 σ = v) (hdg : decode cc pc = .ok (.getfield index, 3)) (kk : W p l e R s m args below meth c H locs cells slots Q (F0 m (pc + 3) ls ((.int v) :: rest))) : W p l e R s m args below meth c H locs cells slots Q (F0 m pc ls (.ref (h 9) :: rest)) := by
  subst hv
  exact va_getN (D := D) (ci := 2) (C := RX2) (T := TX2) (N := 8) hx hb hts inX2 hown hK hP 9 rfl rfl 3 (by decide) (hlink) (fun _ h9 => h9) rfl hdg kk
theorem pXN_t3 {v : Int32} (hx : p.tables.exec = Jvm.exec) (hb : c.code = cc) (hts : ∀ w ∈ wsG, w.before args s = true) (hown : s.vm.findClass own = some m.cls) (hK : va_K D vwCl [(cI, .int)] s) (hP : va_P D vwCl (wX h cI σ) H) (hD : va_D A (wX h cI σ)) (hS : va_S A H0 H locs) (hlink : (Cond.fieldLinkNest own index "SignedCore$Tally" "pointsPut" "I" "SignedCore").before args s = true) (hdg : decode cc pc = .ok (.putfield index, 3)) (kk : ∀ (H1 : Heap) (locs1 : List Loc), va_P D vwCl (wX h cI (s_t3 σ v)) H1 → va_D A (wX h cI (s_t3 σ v)) → va_S A H0 H1 locs1 → W p l e R s m args below meth c H1 locs1 cells slots Q (F0 m (pc + 3) ls rest)) : W p l e R s m args below meth c H locs cells slots Q (F0 m pc ls (.int v :: .ref (h 9) :: rest)) :=
  va_putN (D := D) (ci := 2) (v := .int v) (ty := .int) (C := RX2) (T := TX2) (N := 8) hx hb hts inX2 tyX2 tyX2_ok nmX2 hown hK hP hD hS 9 rfl rfl 3 (by decide) (hlink) (fun _ h9 => h9) rfl (tyX2_ok 3 (by decide)) rfl rfl (Nat.le_of_ble_eq_true rfl) hdg kk
theorem gX_t4 (hx : p.tables.exec = Jvm.exec) (hb : c.code = cc) (hts : ∀ w ∈ wsG, w.before args s = true) (hown : s.vm.findClass own = some m.cls) (hK : va_K D vwCl [(cI, .int)] s) (hP : va_P D vwCl (wX h cI σ) H) (hlink : Cond.fieldLink own index "SignedCore$Tally" "skips" "I" ∈ wsG) {v : Int32} (hv : g_t4 σ = v) (hdg : decode cc pc = .ok (.getfield index, 3)) (kk : W p l e R s m args below meth c H locs cells slots Q (F0 m (pc + 3) ls ((.int v) :: rest))) : W p l e R s m args below meth c H locs cells slots Q (F0 m pc ls (.ref (h 9) :: rest)) := by
  subst hv
  exact va_get (D := D) (ci := 2) (C := RX2) (T := TX2) (N := 8) hx hb hts inX2 hown hK hP 9 rfl rfl 4 (by decide) (hts _ hlink) (fun _ h9 => h9) rfl hdg kk
theorem pX_t4 {v : Int32} (hx : p.tables.exec = Jvm.exec) (hb : c.code = cc) (hts : ∀ w ∈ wsG, w.before args s = true) (hown : s.vm.findClass own = some m.cls) (hK : va_K D vwCl [(cI, .int)] s) (hP : va_P D vwCl (wX h cI σ) H) (hD : va_D A (wX h cI σ)) (hS : va_S A H0 H locs) (hlink : Cond.fieldLink own index "SignedCore$Tally" "skips" "I" ∈ wsG) (hdg : decode cc pc = .ok (.putfield index, 3)) (kk : ∀ (H1 : Heap) (locs1 : List Loc), va_P D vwCl (wX h cI (s_t4 σ v)) H1 → va_D A (wX h cI (s_t4 σ v)) → va_S A H0 H1 locs1 → W p l e R s m args below meth c H1 locs1 cells slots Q (F0 m (pc + 3) ls rest)) : W p l e R s m args below meth c H locs cells slots Q (F0 m pc ls (.int v :: .ref (h 9) :: rest)) :=
  va_put (D := D) (ci := 2) (v := .int v) (ty := .int) (C := RX2) (T := TX2) (N := 8) hx hb hts inX2 tyX2 tyX2_ok nmX2 hown hK hP hD hS 9 rfl rfl 4 (by decide) (hts _ hlink) (fun _ h9 => h9) rfl (tyX2_ok 4 (by decide)) rfl rfl (Nat.le_of_ble_eq_true rfl) hdg kk
theorem gXN_t4 (hx : p.tables.exec = Jvm.exec) (hb : c.code = cc) (hts : ∀ w ∈ wsG, w.before args s = true) (hown : s.vm.findClass own = some m.cls) (hK : va_K D vwCl [(cI, .int)] s) (hP : va_P D vwCl (wX h cI σ) H) (hlink : (Cond.fieldLinkNest own index "SignedCore$Tally" "skips" "I" "SignedCore").before args s = true) {v : Int32} (hv : g_t4 σ = v) (hdg : decode cc pc = .ok (.getfield index, 3)) (kk : W p l e R s m args below meth c H locs cells slots Q (F0 m (pc + 3) ls ((.int v) :: rest))) : W p l e R s m args below meth c H locs cells slots Q (F0 m pc ls (.ref (h 9) :: rest)) := by
  subst hv
  exact va_getN (D := D) (ci := 2) (C := RX2) (T := TX2) (N := 8) hx hb hts inX2 hown hK hP 9 rfl rfl 4 (by decide) (hlink) (fun _ h9 => h9) rfl hdg kk
theorem pXN_t4 {v : Int32} (hx : p.tables.exec = Jvm.exec) (hb : c.code = cc) (hts : ∀ w ∈ wsG, w.before args s = true) (hown : s.vm.findClass own = some m.cls) (hK : va_K D vwCl [(cI, .int)] s) (hP : va_P D vwCl (wX h cI σ) H) (hD : va_D A (wX h cI σ)) (hS : va_S A H0 H locs) (hlink : (Cond.fieldLinkNest own index "SignedCore$Tally" "skips" "I" "SignedCore").before args s = true) (hdg : decode cc pc = .ok (.putfield index, 3)) (kk : ∀ (H1 : Heap) (locs1 : List Loc), va_P D vwCl (wX h cI (s_t4 σ v)) H1 → va_D A (wX h cI (s_t4 σ v)) → va_S A H0 H1 locs1 → W p l e R s m args below meth c H1 locs1 cells slots Q (F0 m (pc + 3) ls rest)) : W p l e R s m args below meth c H locs cells slots Q (F0 m pc ls (.int v :: .ref (h 9) :: rest)) :=
  va_putN (D := D) (ci := 2) (v := .int v) (ty := .int) (C := RX2) (T := TX2) (N := 8) hx hb hts inX2 tyX2 tyX2_ok nmX2 hown hK hP hD hS 9 rfl rfl 4 (by decide) (hlink) (fun _ h9 => h9) rfl (tyX2_ok 4 (by decide)) rfl rfl (Nat.le_of_ble_eq_true rfl) hdg kk
theorem gX_t5 (hx : p.tables.exec = Jvm.exec) (hb : c.code = cc) (hts : ∀ w ∈ wsG, w.before args s = true) (hown : s.vm.findClass own = some m.cls) (hK : va_K D vwCl [(cI, .int)] s) (hP : va_P D vwCl (wX h cI σ) H) (hlink : Cond.fieldLink own index "SignedCore$Tally" "overflows" "I" ∈ wsG) {v : Int32} (hv : g_t5 σ = v) (hdg : decode cc pc = .ok (.getfield index, 3)) (kk : W p l e R s m args below meth c H locs cells slots Q (F0 m (pc + 3) ls ((.int v) :: rest))) : W p l e R s m args below meth c H locs cells slots Q (F0 m pc ls (.ref (h 9) :: rest)) := by
  subst hv
  exact va_get (D := D) (ci := 2) (C := RX2) (T := TX2) (N := 8) hx hb hts inX2 hown hK hP 9 rfl rfl 5 (by decide) (hts _ hlink) (fun _ h9 => h9) rfl hdg kk
theorem pX_t5 {v : Int32} (hx : p.tables.exec = Jvm.exec) (hb : c.code = cc) (hts : ∀ w ∈ wsG, w.before args s = true) (hown : s.vm.findClass own = some m.cls) (hK : va_K D vwCl [(cI, .int)] s) (hP : va_P D vwCl (wX h cI σ) H) (hD : va_D A (wX h cI σ)) (hS : va_S A H0 H locs) (hlink : Cond.fieldLink own index "SignedCore$Tally" "overflows" "I" ∈ wsG) (hdg : decode cc pc = .ok (.putfield index, 3)) (kk : ∀ (H1 : Heap) (locs1 : List Loc), va_P D vwCl (wX h cI (s_t5 σ v)) H1 → va_D A (wX h cI (s_t5 σ v)) → va_S A H0 H1 locs1 → W p l e R s m args below meth c H1 locs1 cells slots Q (F0 m (pc + 3) ls rest)) : W p l e R s m args below meth c H locs cells slots Q (F0 m pc ls (.int v :: .ref (h 9) :: rest)) :=
  va_put (D := D) (ci := 2) (v := .int v) (ty := .int) (C := RX2) (T := TX2) (N := 8) hx hb hts inX2 tyX2 tyX2_ok nmX2 hown hK hP hD hS 9 rfl rfl 5 (by decide) (hts _ hlink) (fun _ h9 => h9) rfl (tyX2_ok 5 (by decide)) rfl rfl (Nat.le_of_ble_eq_true rfl) hdg kk
theorem gXN_t5 (hx : p.tables.exec = Jvm.exec) (hb : c.code = cc) (hts : ∀ w ∈ wsG, w.before args s = true) (hown : s.vm.findClass own = some m.cls) (hK : va_K D vwCl [(cI, .int)] s) (hP : va_P D vwCl (wX h cI σ) H) (hlink : (Cond.fieldLinkNest own index "SignedCore$Tally" "overflows" "I" "SignedCore").before args s = true) {v : Int32} (hv : g_t5 σ = v) (hdg : decode cc pc = .ok (.getfield index, 3)) (kk : W p l e R s m args below meth c H locs cells slots Q (F0 m (pc + 3) ls ((.int v) :: rest))) : W p l e R s m args below meth c H locs cells slots Q (F0 m pc ls (.ref (h 9) :: rest)) := by
  subst hv
  exact va_getN (D := D) (ci := 2) (C := RX2) (T := TX2) (N := 8) hx hb hts inX2 hown hK hP 9 rfl rfl 5 (by decide) (hlink) (fun _ h9 => h9) rfl hdg kk
theorem pXN_t5 {v : Int32} (hx : p.tables.exec = Jvm.exec) (hb : c.code = cc) (hts : ∀ w ∈ wsG, w.before args s = true) (hown : s.vm.findClass own = some m.cls) (hK : va_K D vwCl [(cI, .int)] s) (hP : va_P D vwCl (wX h cI σ) H) (hD : va_D A (wX h cI σ)) (hS : va_S A H0 H locs) (hlink : (Cond.fieldLinkNest own index "SignedCore$Tally" "overflows" "I" "SignedCore").before args s = true) (hdg : decode cc pc = .ok (.putfield index, 3)) (kk : ∀ (H1 : Heap) (locs1 : List Loc), va_P D vwCl (wX h cI (s_t5 σ v)) H1 → va_D A (wX h cI (s_t5 σ v)) → va_S A H0 H1 locs1 → W p l e R s m args below meth c H1 locs1 cells slots Q (F0 m (pc + 3) ls rest)) : W p l e R s m args below meth c H locs cells slots Q (F0 m pc ls (.int v :: .ref (h 9) :: rest)) :=
  va_putN (D := D) (ci := 2) (v := .int v) (ty := .int) (C := RX2) (T := TX2) (N := 8) hx hb hts inX2 tyX2 tyX2_ok nmX2 hown hK hP hD hS 9 rfl rfl 5 (by decide) (hlink) (fun _ h9 => h9) rfl (tyX2_ok 5 (by decide)) rfl rfl (Nat.le_of_ble_eq_true rfl) hdg kk
theorem gX_t6 (hx : p.tables.exec = Jvm.exec) (hb : c.code = cc) (hts : ∀ w ∈ wsG, w.before args s = true) (hown : s.vm.findClass own = some m.cls) (hK : va_K D vwCl [(cI, .int)] s) (hP : va_P D vwCl (wX h cI σ) H) (hlink : Cond.fieldLink own index "SignedCore$Tally" "haltedAt" "I" ∈ wsG) {v : Int32} (hv : g_t6 σ = v) (hdg : decode cc pc = .ok (.getfield index, 3)) (kk : W p l e R s m args below meth c H locs cells slots Q (F0 m (pc + 3) ls ((.int v) :: rest))) : W p l e R s m args below meth c H locs cells slots Q (F0 m pc ls (.ref (h 9) :: rest)) := by
  subst hv
  exact va_get (D := D) (ci := 2) (C := RX2) (T := TX2) (N := 8) hx hb hts inX2 hown hK hP 9 rfl rfl 6 (by decide) (hts _ hlink) (fun _ h9 => h9) rfl hdg kk
theorem pX_t6 {v : Int32} (hx : p.tables.exec = Jvm.exec) (hb : c.code = cc) (hts : ∀ w ∈ wsG, w.before args s = true) (hown : s.vm.findClass own = some m.cls) (hK : va_K D vwCl [(cI, .int)] s) (hP : va_P D vwCl (wX h cI σ) H) (hD : va_D A (wX h cI σ)) (hS : va_S A H0 H locs) (hlink : Cond.fieldLink own index "SignedCore$Tally" "haltedAt" "I" ∈ wsG) (hdg : decode cc pc = .ok (.putfield index, 3)) (kk : ∀ (H1 : Heap) (locs1 : List Loc), va_P D vwCl (wX h cI (s_t6 σ v)) H1 → va_D A (wX h cI (s_t6 σ v)) → va_S A H0 H1 locs1 → W p l e R s m args below meth c H1 locs1 cells slots Q (F0 m (pc + 3) ls rest)) : W p l e R s m args below meth c H locs cells slots Q (F0 m pc ls (.int v :: .ref (h 9) :: rest)) :=
  va_put (D := D) (ci := 2) (v := .int v) (ty := .int) (C := RX2) (T := TX2) (N := 8) hx hb hts inX2 tyX2 tyX2_ok nmX2 hown hK hP hD hS 9 rfl rfl 6 (by decide) (hts _ hlink) (fun _ h9 => h9) rfl (tyX2_ok 6 (by decide)) rfl rfl (Nat.le_of_ble_eq_true rfl) hdg kk
theorem gXN_t6 (hx : p.tables.exec = Jvm.exec) (hb : c.code = cc) (hts : ∀ w ∈ wsG, w.before args s = true) (hown : s.vm.findClass own = some m.cls) (hK : va_K D vwCl [(cI, .int)] s) (hP : va_P D vwCl (wX h cI σ) H) (hlink : (Cond.fieldLinkNest own index "SignedCore$Tally" "haltedAt" "I" "SignedCore").before args s = true) {v : Int32} (hv : g_t6 σ = v) (hdg : decode cc pc = .ok (.getfield index, 3)) (kk : W p l e R s m args below meth c H locs cells slots Q (F0 m (pc + 3) ls ((.int v) :: rest))) : W p l e R s m args below meth c H locs cells slots Q (F0 m pc ls (.ref (h 9) :: rest)) := by
  subst hv
  exact va_getN (D := D) (ci := 2) (C := RX2) (T := TX2) (N := 8) hx hb hts inX2 hown hK hP 9 rfl rfl 6 (by decide) (hlink) (fun _ h9 => h9) rfl hdg kk
theorem pXN_t6 {v : Int32} (hx : p.tables.exec = Jvm.exec) (hb : c.code = cc) (hts : ∀ w ∈ wsG, w.before args s = true) (hown : s.vm.findClass own = some m.cls) (hK : va_K D vwCl [(cI, .int)] s) (hP : va_P D vwCl (wX h cI σ) H) (hD : va_D A (wX h cI σ)) (hS : va_S A H0 H locs) (hlink : (Cond.fieldLinkNest own index "SignedCore$Tally" "haltedAt" "I" "SignedCore").before args s = true) (hdg : decode cc pc = .ok (.putfield index, 3)) (kk : ∀ (H1 : Heap) (locs1 : List Loc), va_P D vwCl (wX h cI (s_t6 σ v)) H1 → va_D A (wX h cI (s_t6 σ v)) → va_S A H0 H1 locs1 → W p l e R s m args below meth c H1 locs1 cells slots Q (F0 m (pc + 3) ls rest)) : W p l e R s m args below meth c H locs cells slots Q (F0 m pc ls (.int v :: .ref (h 9) :: rest)) :=
  va_putN (D := D) (ci := 2) (v := .int v) (ty := .int) (C := RX2) (T := TX2) (N := 8) hx hb hts inX2 tyX2 tyX2_ok nmX2 hown hK hP hD hS 9 rfl rfl 6 (by decide) (hlink) (fun _ h9 => h9) rfl (tyX2_ok 6 (by decide)) rfl rfl (Nat.le_of_ble_eq_true rfl) hdg kk
theorem gX_t7 (hx : p.tables.exec = Jvm.exec) (hb : c.code = cc) (hts : ∀ w ∈ wsG, w.before args s = true) (hown : s.vm.findClass own = some m.cls) (hK : va_K D vwCl [(cI, .int)] s) (hP : va_P D vwCl (wX h cI σ) H) (hlink : Cond.fieldLink own index "SignedCore$Tally" "allSteps" "I" ∈ wsG) {v : Int32} (hv : g_t7 σ = v) (hdg : decode cc pc = .ok (.getfield index, 3)) (kk : W p l e R s m args below meth c H locs cells slots Q (F0 m (pc + 3) ls ((.int v) :: rest))) : W p l e R s m args below meth c H locs cells slots Q (F0 m pc ls (.ref (h 9) :: rest)) := by
  subst hv
  exact va_get (D := D) (ci := 2) (C := RX2) (T := TX2) (N := 8) hx hb hts inX2 hown hK hP 9 rfl rfl 7 (by decide) (hts _ hlink) (fun _ h9 => h9) rfl hdg kk
theorem pX_t7 {v : Int32} (hx : p.tables.exec = Jvm.exec) (hb : c.code = cc) (hts : ∀ w ∈ wsG, w.before args s = true) (hown : s.vm.findClass own = some m.cls) (hK : va_K D vwCl [(cI, .int)] s) (hP : va_P D vwCl (wX h cI σ) H) (hD : va_D A (wX h cI σ)) (hS : va_S A H0 H locs) (hlink : Cond.fieldLink own index "SignedCore$Tally" "allSteps" "I" ∈ wsG) (hdg : decode cc pc = .ok (.putfield index, 3)) (kk : ∀ (H1 : Heap) (locs1 : List Loc), va_P D vwCl (wX h cI (s_t7 σ v)) H1 → va_D A (wX h cI (s_t7 σ v)) → va_S A H0 H1 locs1 → W p l e R s m args below meth c H1 locs1 cells slots Q (F0 m (pc + 3) ls rest)) : W p l e R s m args below meth c H locs cells slots Q (F0 m pc ls (.int v :: .ref (h 9) :: rest)) :=
  va_put (D := D) (ci := 2) (v := .int v) (ty := .int) (C := RX2) (T := TX2) (N := 8) hx hb hts inX2 tyX2 tyX2_ok nmX2 hown hK hP hD hS 9 rfl rfl 7 (by decide) (hts _ hlink) (fun _ h9 => h9) rfl (tyX2_ok 7 (by decide)) rfl rfl (Nat.le_of_ble_eq_true rfl) hdg kk
theorem gXN_t7 (hx : p.tables.exec = Jvm.exec) (hb : c.code = cc) (hts : ∀ w ∈ wsG, w.before args s = true) (hown : s.vm.findClass own = some m.cls) (hK : va_K D vwCl [(cI, .int)] s) (hP : va_P D vwCl (wX h cI σ) H) (hlink : (Cond.fieldLinkNest own index "SignedCore$Tally" "allSteps" "I" "SignedCore").before args s = true) {v : Int32} (hv : g_t7 σ = v) (hdg : decode cc pc = .ok (.getfield index, 3)) (kk : W p l e R s m args below meth c H locs cells slots Q (F0 m (pc + 3) ls ((.int v) :: rest))) : W p l e R s m args below meth c H locs cells slots Q (F0 m pc ls (.ref (h 9) :: rest)) := by
  subst hv
  exact va_getN (D := D) (ci := 2) (C := RX2) (T := TX2) (N := 8) hx hb hts inX2 hown hK hP 9 rfl rfl 7 (by decide) (hlink) (fun _ h9 => h9) rfl hdg kk
theorem pXN_t7 {v : Int32} (hx : p.tables.exec = Jvm.exec) (hb : c.code = cc) (hts : ∀ w ∈ wsG, w.before args s = true) (hown : s.vm.findClass own = some m.cls) (hK : va_K D vwCl [(cI, .int)] s) (hP : va_P D vwCl (wX h cI σ) H) (hD : va_D A (wX h cI σ)) (hS : va_S A H0 H locs) (hlink : (Cond.fieldLinkNest own index "SignedCore$Tally" "allSteps" "I" "SignedCore").before args s = true) (hdg : decode cc pc = .ok (.putfield index, 3)) (kk : ∀ (H1 : Heap) (locs1 : List Loc), va_P D vwCl (wX h cI (s_t7 σ v)) H1 → va_D A (wX h cI (s_t7 σ v)) → va_S A H0 H1 locs1 → W p l e R s m args below meth c H1 locs1 cells slots Q (F0 m (pc + 3) ls rest)) : W p l e R s m args below meth c H locs cells slots Q (F0 m pc ls (.int v :: .ref (h 9) :: rest)) :=
  va_putN (D := D) (ci := 2) (v := .int v) (ty := .int) (C := RX2) (T := TX2) (N := 8) hx hb hts inX2 tyX2 tyX2_ok nmX2 hown hK hP hD hS 9 rfl rfl 7 (by decide) (hlink) (fun _ h9 => h9) rfl (tyX2_ok 7 (by decide)) rfl rfl (Nat.le_of_ble_eq_true rfl) hdg kk
theorem gM_ref1 (hx : p.tables.exec = Jvm.exec) (hb : c.code = cc) (hts : ∀ w ∈ wsG, w.before args s = true) (hown : s.vm.findClass own = some m.cls) (hK : va_K D vwCl [(cI, .int)] s) (hP : va_P D vwCl (wM h cI σ) H) (hlink : Cond.fieldLink own index "SignedCoreModel" "core" "[I" ∈ wsG) (hdg : decode cc pc = .ok (.getfield index, 3)) (kk : W p l e R s m args below meth c H locs cells slots Q (F0 m (pc + 3) ls ((.ref (h 1)) :: rest))) : W p l e R s m args below meth c H locs cells slots Q (F0 m pc ls (.ref (h 0) :: rest)) := by
  exact va_get (D := D) (ci := 5) (C := RX5) (T := TX5) (N := 22) hx hb hts inX5 hown hK hP 0 rfl rfl 0 (by decide) (hts _ hlink) (fun _ h9 => h9) rfl hdg kk
theorem gM_ac (hx : p.tables.exec = Jvm.exec) (hb : c.code = cc) (hts : ∀ w ∈ wsG, w.before args s = true) (hown : s.vm.findClass own = some m.cls) (hK : va_K D vwCl [(cI, .int)] s) (hP : va_P D vwCl (wM h cI σ) H) (hlink : Cond.fieldLink own index "SignedCoreModel" "ac" "I" ∈ wsG) {v : Int32} (hv : g_ac σ = v) (hdg : decode cc pc = .ok (.getfield index, 3)) (kk : W p l e R s m args below meth c H locs cells slots Q (F0 m (pc + 3) ls ((.int v) :: rest))) : W p l e R s m args below meth c H locs cells slots Q (F0 m pc ls (.ref (h 0) :: rest)) := by
  subst hv
  exact va_get (D := D) (ci := 5) (C := RX5) (T := TX5) (N := 22) hx hb hts inX5 hown hK hP 0 rfl rfl 1 (by decide) (hts _ hlink) (fun _ h9 => h9) rfl hdg kk
theorem pM_ac {v : Int32} (hx : p.tables.exec = Jvm.exec) (hb : c.code = cc) (hts : ∀ w ∈ wsG, w.before args s = true) (hown : s.vm.findClass own = some m.cls) (hK : va_K D vwCl [(cI, .int)] s) (hP : va_P D vwCl (wM h cI σ) H) (hD : va_D A (wM h cI σ)) (hS : va_S A H0 H locs) (hlink : Cond.fieldLink own index "SignedCoreModel" "ac" "I" ∈ wsG) (hdg : decode cc pc = .ok (.putfield index, 3)) (kk : ∀ (H1 : Heap) (locs1 : List Loc), va_P D vwCl (wM h cI (s_ac σ v)) H1 → va_D A (wM h cI (s_ac σ v)) → va_S A H0 H1 locs1 → W p l e R s m args below meth c H1 locs1 cells slots Q (F0 m (pc + 3) ls rest)) : W p l e R s m args below meth c H locs cells slots Q (F0 m pc ls (.int v :: .ref (h 0) :: rest)) :=
  va_put (D := D) (ci := 5) (v := .int v) (ty := .int) (C := RX5) (T := TX5) (N := 22) hx hb hts inX5 tyX5 tyX5_ok nmX5 hown hK hP hD hS 0 rfl rfl 1 (by decide) (hts _ hlink) (fun _ h9 => h9) rfl (tyX5_ok 1 (by decide)) rfl rfl (Nat.le_of_ble_eq_true rfl) hdg kk
theorem gM_io (hx : p.tables.exec = Jvm.exec) (hb : c.code = cc) (hts : ∀ w ∈ wsG, w.before args s = true) (hown : s.vm.findClass own = some m.cls) (hK : va_K D vwCl [(cI, .int)] s) (hP : va_P D vwCl (wM h cI σ) H) (hlink : Cond.fieldLink own index "SignedCoreModel" "io" "I" ∈ wsG) {v : Int32} (hv : g_io σ = v) (hdg : decode cc pc = .ok (.getfield index, 3)) (kk : W p l e R s m args below meth c H locs cells slots Q (F0 m (pc + 3) ls ((.int v) :: rest))) : W p l e R s m args below meth c H locs cells slots Q (F0 m pc ls (.ref (h 0) :: rest)) := by
  subst hv
  exact va_get (D := D) (ci := 5) (C := RX5) (T := TX5) (N := 22) hx hb hts inX5 hown hK hP 0 rfl rfl 2 (by decide) (hts _ hlink) (fun _ h9 => h9) rfl hdg kk
theorem pM_io {v : Int32} (hx : p.tables.exec = Jvm.exec) (hb : c.code = cc) (hts : ∀ w ∈ wsG, w.before args s = true) (hown : s.vm.findClass own = some m.cls) (hK : va_K D vwCl [(cI, .int)] s) (hP : va_P D vwCl (wM h cI σ) H) (hD : va_D A (wM h cI σ)) (hS : va_S A H0 H locs) (hlink : Cond.fieldLink own index "SignedCoreModel" "io" "I" ∈ wsG) (hdg : decode cc pc = .ok (.putfield index, 3)) (kk : ∀ (H1 : Heap) (locs1 : List Loc), va_P D vwCl (wM h cI (s_io σ v)) H1 → va_D A (wM h cI (s_io σ v)) → va_S A H0 H1 locs1 → W p l e R s m args below meth c H1 locs1 cells slots Q (F0 m (pc + 3) ls rest)) : W p l e R s m args below meth c H locs cells slots Q (F0 m pc ls (.int v :: .ref (h 0) :: rest)) :=
  va_put (D := D) (ci := 5) (v := .int v) (ty := .int) (C := RX5) (T := TX5) (N := 22) hx hb hts inX5 tyX5 tyX5_ok nmX5 hown hK hP hD hS 0 rfl rfl 2 (by decide) (hts _ hlink) (fun _ h9 => h9) rfl (tyX5_ok 2 (by decide)) rfl rfl (Nat.le_of_ble_eq_true rfl) hdg kk
theorem gM_pc (hx : p.tables.exec = Jvm.exec) (hb : c.code = cc) (hts : ∀ w ∈ wsG, w.before args s = true) (hown : s.vm.findClass own = some m.cls) (hK : va_K D vwCl [(cI, .int)] s) (hP : va_P D vwCl (wM h cI σ) H) (hlink : Cond.fieldLink own index "SignedCoreModel" "pc" "I" ∈ wsG) {v : Int32} (hv : g_pc σ = v) (hdg : decode cc pc = .ok (.getfield index, 3)) (kk : W p l e R s m args below meth c H locs cells slots Q (F0 m (pc + 3) ls ((.int v) :: rest))) : W p l e R s m args below meth c H locs cells slots Q (F0 m pc ls (.ref (h 0) :: rest)) := by
  subst hv
  exact va_get (D := D) (ci := 5) (C := RX5) (T := TX5) (N := 22) hx hb hts inX5 hown hK hP 0 rfl rfl 3 (by decide) (hts _ hlink) (fun _ h9 => h9) rfl hdg kk
theorem pM_pc {v : Int32} (hx : p.tables.exec = Jvm.exec) (hb : c.code = cc) (hts : ∀ w ∈ wsG, w.before args s = true) (hown : s.vm.findClass own = some m.cls) (hK : va_K D vwCl [(cI, .int)] s) (hP : va_P D vwCl (wM h cI σ) H) (hD : va_D A (wM h cI σ)) (hS : va_S A H0 H locs) (hlink : Cond.fieldLink own index "SignedCoreModel" "pc" "I" ∈ wsG) (hdg : decode cc pc = .ok (.putfield index, 3)) (kk : ∀ (H1 : Heap) (locs1 : List Loc), va_P D vwCl (wM h cI (s_pc σ v)) H1 → va_D A (wM h cI (s_pc σ v)) → va_S A H0 H1 locs1 → W p l e R s m args below meth c H1 locs1 cells slots Q (F0 m (pc + 3) ls rest)) : W p l e R s m args below meth c H locs cells slots Q (F0 m pc ls (.int v :: .ref (h 0) :: rest)) :=
  va_put (D := D) (ci := 5) (v := .int v) (ty := .int) (C := RX5) (T := TX5) (N := 22) hx hb hts inX5 tyX5 tyX5_ok nmX5 hown hK hP hD hS 0 rfl rfl 3 (by decide) (hts _ hlink) (fun _ h9 => h9) rfl (tyX5_ok 3 (by decide)) rfl rfl (Nat.le_of_ble_eq_true rfl) hdg kk
theorem gM_ov (hx : p.tables.exec = Jvm.exec) (hb : c.code = cc) (hts : ∀ w ∈ wsG, w.before args s = true) (hown : s.vm.findClass own = some m.cls) (hK : va_K D vwCl [(cI, .int)] s) (hP : va_P D vwCl (wM h cI σ) H) (hlink : Cond.fieldLink own index "SignedCoreModel" "ov" "I" ∈ wsG) {v : Int32} (hv : g_ov σ = v) (hdg : decode cc pc = .ok (.getfield index, 3)) (kk : W p l e R s m args below meth c H locs cells slots Q (F0 m (pc + 3) ls ((.int v) :: rest))) : W p l e R s m args below meth c H locs cells slots Q (F0 m pc ls (.ref (h 0) :: rest)) := by
  subst hv
  exact va_get (D := D) (ci := 5) (C := RX5) (T := TX5) (N := 22) hx hb hts inX5 hown hK hP 0 rfl rfl 4 (by decide) (hts _ hlink) (fun _ h9 => h9) rfl hdg kk
theorem pM_ov {v : Int32} (hx : p.tables.exec = Jvm.exec) (hb : c.code = cc) (hts : ∀ w ∈ wsG, w.before args s = true) (hown : s.vm.findClass own = some m.cls) (hK : va_K D vwCl [(cI, .int)] s) (hP : va_P D vwCl (wM h cI σ) H) (hD : va_D A (wM h cI σ)) (hS : va_S A H0 H locs) (hlink : Cond.fieldLink own index "SignedCoreModel" "ov" "I" ∈ wsG) (hdg : decode cc pc = .ok (.putfield index, 3)) (kk : ∀ (H1 : Heap) (locs1 : List Loc), va_P D vwCl (wM h cI (s_ov σ v)) H1 → va_D A (wM h cI (s_ov σ v)) → va_S A H0 H1 locs1 → W p l e R s m args below meth c H1 locs1 cells slots Q (F0 m (pc + 3) ls rest)) : W p l e R s m args below meth c H locs cells slots Q (F0 m pc ls (.int v :: .ref (h 0) :: rest)) :=
  va_put (D := D) (ci := 5) (v := .int v) (ty := .int) (C := RX5) (T := TX5) (N := 22) hx hb hts inX5 tyX5 tyX5_ok nmX5 hown hK hP hD hS 0 rfl rfl 4 (by decide) (hts _ hlink) (fun _ h9 => h9) rfl (tyX5_ok 4 (by decide)) rfl rfl (Nat.le_of_ble_eq_true rfl) hdg kk
theorem gM_flags (hx : p.tables.exec = Jvm.exec) (hb : c.code = cc) (hts : ∀ w ∈ wsG, w.before args s = true) (hown : s.vm.findClass own = some m.cls) (hK : va_K D vwCl [(cI, .int)] s) (hP : va_P D vwCl (wM h cI σ) H) (hlink : Cond.fieldLink own index "SignedCoreModel" "flags" "I" ∈ wsG) {v : Int32} (hv : g_flags σ = v) (hdg : decode cc pc = .ok (.getfield index, 3)) (kk : W p l e R s m args below meth c H locs cells slots Q (F0 m (pc + 3) ls ((.int v) :: rest))) : W p l e R s m args below meth c H locs cells slots Q (F0 m pc ls (.ref (h 0) :: rest)) := by
  subst hv
  exact va_get (D := D) (ci := 5) (C := RX5) (T := TX5) (N := 22) hx hb hts inX5 hown hK hP 0 rfl rfl 5 (by decide) (hts _ hlink) (fun _ h9 => h9) rfl hdg kk
theorem pM_flags {v : Int32} (hx : p.tables.exec = Jvm.exec) (hb : c.code = cc) (hts : ∀ w ∈ wsG, w.before args s = true) (hown : s.vm.findClass own = some m.cls) (hK : va_K D vwCl [(cI, .int)] s) (hP : va_P D vwCl (wM h cI σ) H) (hD : va_D A (wM h cI σ)) (hS : va_S A H0 H locs) (hlink : Cond.fieldLink own index "SignedCoreModel" "flags" "I" ∈ wsG) (hdg : decode cc pc = .ok (.putfield index, 3)) (kk : ∀ (H1 : Heap) (locs1 : List Loc), va_P D vwCl (wM h cI (s_flags σ v)) H1 → va_D A (wM h cI (s_flags σ v)) → va_S A H0 H1 locs1 → W p l e R s m args below meth c H1 locs1 cells slots Q (F0 m (pc + 3) ls rest)) : W p l e R s m args below meth c H locs cells slots Q (F0 m pc ls (.int v :: .ref (h 0) :: rest)) :=
  va_put (D := D) (ci := 5) (v := .int v) (ty := .int) (C := RX5) (T := TX5) (N := 22) hx hb hts inX5 tyX5 tyX5_ok nmX5 hown hK hP hD hS 0 rfl rfl 5 (by decide) (hts _ hlink) (fun _ h9 => h9) rfl (tyX5_ok 5 (by decide)) rfl rfl (Nat.le_of_ble_eq_true rfl) hdg kk
theorem gM_on (hx : p.tables.exec = Jvm.exec) (hb : c.code = cc) (hts : ∀ w ∈ wsG, w.before args s = true) (hown : s.vm.findClass own = some m.cls) (hK : va_K D vwCl [(cI, .int)] s) (hP : va_P D vwCl (wM h cI σ) H) (hlink : Cond.fieldLink own index "SignedCoreModel" "isOn" "Z" ∈ wsG) {v : Int32} (hv : g_on σ = v) (hdg : decode cc pc = .ok (.getfield index, 3)) (kk : W p l e R s m args below meth c H locs cells slots Q (F0 m (pc + 3) ls ((.int v) :: rest))) : W p l e R s m args below meth c H locs cells slots Q (F0 m pc ls (.ref (h 0) :: rest)) := by
  subst hv
  exact va_get (D := D) (ci := 5) (C := RX5) (T := TX5) (N := 22) hx hb hts inX5 hown hK hP 0 rfl rfl 6 (by decide) (hts _ hlink) (fun _ h9 => h9) rfl hdg kk
theorem pM_on {v : Int32} (hx : p.tables.exec = Jvm.exec) (hb : c.code = cc) (hts : ∀ w ∈ wsG, w.before args s = true) (hown : s.vm.findClass own = some m.cls) (hK : va_K D vwCl [(cI, .int)] s) (hP : va_P D vwCl (wM h cI σ) H) (hD : va_D A (wM h cI σ)) (hS : va_S A H0 H locs) (hlink : Cond.fieldLink own index "SignedCoreModel" "isOn" "Z" ∈ wsG) (hz : narrow .boolean (.int v) = .int v ∧ fits .boolean (.int v) = true) (hdg : decode cc pc = .ok (.putfield index, 3)) (kk : ∀ (H1 : Heap) (locs1 : List Loc), va_P D vwCl (wM h cI (s_on σ v)) H1 → va_D A (wM h cI (s_on σ v)) → va_S A H0 H1 locs1 → W p l e R s m args below meth c H1 locs1 cells slots Q (F0 m (pc + 3) ls rest)) : W p l e R s m args below meth c H locs cells slots Q (F0 m pc ls (.int v :: .ref (h 0) :: rest)) :=
  va_put (D := D) (ci := 5) (v := .int v) (ty := .boolean) (C := RX5) (T := TX5) (N := 22) hx hb hts inX5 tyX5 tyX5_ok nmX5 hown hK hP hD hS 0 rfl rfl 6 (by decide) (hts _ hlink) (fun _ h9 => h9) rfl (tyX5_ok 6 (by decide)) hz.1 hz.2 (Nat.le_of_ble_eq_true rfl) hdg kk
theorem gM_asked (hx : p.tables.exec = Jvm.exec) (hb : c.code = cc) (hts : ∀ w ∈ wsG, w.before args s = true) (hown : s.vm.findClass own = some m.cls) (hK : va_K D vwCl [(cI, .int)] s) (hP : va_P D vwCl (wM h cI σ) H) (hlink : Cond.fieldLink own index "SignedCoreModel" "isAsked" "Z" ∈ wsG) {v : Int32} (hv : g_asked σ = v) (hdg : decode cc pc = .ok (.getfield index, 3)) (kk : W p l e R s m args below meth c H locs cells slots Q (F0 m (pc + 3) ls ((.int v) :: rest))) : W p l e R s m args below meth c H locs cells slots Q (F0 m pc ls (.ref (h 0) :: rest)) := by
  subst hv
  exact va_get (D := D) (ci := 5) (C := RX5) (T := TX5) (N := 22) hx hb hts inX5 hown hK hP 0 rfl rfl 7 (by decide) (hts _ hlink) (fun _ h9 => h9) rfl hdg kk
theorem pM_asked {v : Int32} (hx : p.tables.exec = Jvm.exec) (hb : c.code = cc) (hts : ∀ w ∈ wsG, w.before args s = true) (hown : s.vm.findClass own = some m.cls) (hK : va_K D vwCl [(cI, .int)] s) (hP : va_P D vwCl (wM h cI σ) H) (hD : va_D A (wM h cI σ)) (hS : va_S A H0 H locs) (hlink : Cond.fieldLink own index "SignedCoreModel" "isAsked" "Z" ∈ wsG) (hz : narrow .boolean (.int v) = .int v ∧ fits .boolean (.int v) = true) (hdg : decode cc pc = .ok (.putfield index, 3)) (kk : ∀ (H1 : Heap) (locs1 : List Loc), va_P D vwCl (wM h cI (s_asked σ v)) H1 → va_D A (wM h cI (s_asked σ v)) → va_S A H0 H1 locs1 → W p l e R s m args below meth c H1 locs1 cells slots Q (F0 m (pc + 3) ls rest)) : W p l e R s m args below meth c H locs cells slots Q (F0 m pc ls (.int v :: .ref (h 0) :: rest)) :=
  va_put (D := D) (ci := 5) (v := .int v) (ty := .boolean) (C := RX5) (T := TX5) (N := 22) hx hb hts inX5 tyX5 tyX5_ok nmX5 hown hK hP hD hS 0 rfl rfl 7 (by decide) (hts _ hlink) (fun _ h9 => h9) rfl (tyX5_ok 7 (by decide)) hz.1 hz.2 (Nat.le_of_ble_eq_true rfl) hdg kk
theorem gM_under (hx : p.tables.exec = Jvm.exec) (hb : c.code = cc) (hts : ∀ w ∈ wsG, w.before args s = true) (hown : s.vm.findClass own = some m.cls) (hK : va_K D vwCl [(cI, .int)] s) (hP : va_P D vwCl (wM h cI σ) H) (hlink : Cond.fieldLink own index "SignedCoreModel" "isUnderWay" "Z" ∈ wsG) {v : Int32} (hv : g_under σ = v) (hdg : decode cc pc = .ok (.getfield index, 3)) (kk : W p l e R s m args below meth c H locs cells slots Q (F0 m (pc + 3) ls ((.int v) :: rest))) : W p l e R s m args below meth c H locs cells slots Q (F0 m pc ls (.ref (h 0) :: rest)) := by
  subst hv
  exact va_get (D := D) (ci := 5) (C := RX5) (T := TX5) (N := 22) hx hb hts inX5 hown hK hP 0 rfl rfl 8 (by decide) (hts _ hlink) (fun _ h9 => h9) rfl hdg kk
theorem pM_under {v : Int32} (hx : p.tables.exec = Jvm.exec) (hb : c.code = cc) (hts : ∀ w ∈ wsG, w.before args s = true) (hown : s.vm.findClass own = some m.cls) (hK : va_K D vwCl [(cI, .int)] s) (hP : va_P D vwCl (wM h cI σ) H) (hD : va_D A (wM h cI σ)) (hS : va_S A H0 H locs) (hlink : Cond.fieldLink own index "SignedCoreModel" "isUnderWay" "Z" ∈ wsG) (hz : narrow .boolean (.int v) = .int v ∧ fits .boolean (.int v) = true) (hdg : decode cc pc = .ok (.putfield index, 3)) (kk : ∀ (H1 : Heap) (locs1 : List Loc), va_P D vwCl (wM h cI (s_under σ v)) H1 → va_D A (wM h cI (s_under σ v)) → va_S A H0 H1 locs1 → W p l e R s m args below meth c H1 locs1 cells slots Q (F0 m (pc + 3) ls rest)) : W p l e R s m args below meth c H locs cells slots Q (F0 m pc ls (.int v :: .ref (h 0) :: rest)) :=
  va_put (D := D) (ci := 5) (v := .int v) (ty := .boolean) (C := RX5) (T := TX5) (N := 22) hx hb hts inX5 tyX5 tyX5_ok nmX5 hown hK hP hD hS 0 rfl rfl 8 (by decide) (hts _ hlink) (fun _ h9 => h9) rfl (tyX5_ok 8 (by decide)) hz.1 hz.2 (Nat.le_of_ble_eq_true rfl) hdg kk
theorem gM_sw (hx : p.tables.exec = Jvm.exec) (hb : c.code = cc) (hts : ∀ w ∈ wsG, w.before args s = true) (hown : s.vm.findClass own = some m.cls) (hK : va_K D vwCl [(cI, .int)] s) (hP : va_P D vwCl (wM h cI σ) H) (hlink : Cond.fieldLink own index "SignedCoreModel" "switchBits" "I" ∈ wsG) {v : Int32} (hv : g_sw σ = v) (hdg : decode cc pc = .ok (.getfield index, 3)) (kk : W p l e R s m args below meth c H locs cells slots Q (F0 m (pc + 3) ls ((.int v) :: rest))) : W p l e R s m args below meth c H locs cells slots Q (F0 m pc ls (.ref (h 0) :: rest)) := by
  subst hv
  exact va_get (D := D) (ci := 5) (C := RX5) (T := TX5) (N := 22) hx hb hts inX5 hown hK hP 0 rfl rfl 9 (by decide) (hts _ hlink) (fun _ h9 => h9) rfl hdg kk
theorem pM_sw {v : Int32} (hx : p.tables.exec = Jvm.exec) (hb : c.code = cc) (hts : ∀ w ∈ wsG, w.before args s = true) (hown : s.vm.findClass own = some m.cls) (hK : va_K D vwCl [(cI, .int)] s) (hP : va_P D vwCl (wM h cI σ) H) (hD : va_D A (wM h cI σ)) (hS : va_S A H0 H locs) (hlink : Cond.fieldLink own index "SignedCoreModel" "switchBits" "I" ∈ wsG) (hdg : decode cc pc = .ok (.putfield index, 3)) (kk : ∀ (H1 : Heap) (locs1 : List Loc), va_P D vwCl (wM h cI (s_sw σ v)) H1 → va_D A (wM h cI (s_sw σ v)) → va_S A H0 H1 locs1 → W p l e R s m args below meth c H1 locs1 cells slots Q (F0 m (pc + 3) ls rest)) : W p l e R s m args below meth c H locs cells slots Q (F0 m pc ls (.int v :: .ref (h 0) :: rest)) :=
  va_put (D := D) (ci := 5) (v := .int v) (ty := .int) (C := RX5) (T := TX5) (N := 22) hx hb hts inX5 tyX5 tyX5_ok nmX5 hown hK hP hD hS 0 rfl rfl 9 (by decide) (hts _ hlink) (fun _ h9 => h9) rfl (tyX5_ok 9 (by decide)) rfl rfl (Nat.le_of_ble_eq_true rfl) hdg kk
theorem gM_test (hx : p.tables.exec = Jvm.exec) (hb : c.code = cc) (hts : ∀ w ∈ wsG, w.before args s = true) (hown : s.vm.findClass own = some m.cls) (hK : va_K D vwCl [(cI, .int)] s) (hP : va_P D vwCl (wM h cI σ) H) (hlink : Cond.fieldLink own index "SignedCoreModel" "test" "I" ∈ wsG) {v : Int32} (hv : g_test σ = v) (hdg : decode cc pc = .ok (.getfield index, 3)) (kk : W p l e R s m args below meth c H locs cells slots Q (F0 m (pc + 3) ls ((.int v) :: rest))) : W p l e R s m args below meth c H locs cells slots Q (F0 m pc ls (.ref (h 0) :: rest)) := by
  subst hv
  exact va_get (D := D) (ci := 5) (C := RX5) (T := TX5) (N := 22) hx hb hts inX5 hown hK hP 0 rfl rfl 10 (by decide) (hts _ hlink) (fun _ h9 => h9) rfl hdg kk
theorem pM_test {v : Int32} (hx : p.tables.exec = Jvm.exec) (hb : c.code = cc) (hts : ∀ w ∈ wsG, w.before args s = true) (hown : s.vm.findClass own = some m.cls) (hK : va_K D vwCl [(cI, .int)] s) (hP : va_P D vwCl (wM h cI σ) H) (hD : va_D A (wM h cI σ)) (hS : va_S A H0 H locs) (hlink : Cond.fieldLink own index "SignedCoreModel" "test" "I" ∈ wsG) (hdg : decode cc pc = .ok (.putfield index, 3)) (kk : ∀ (H1 : Heap) (locs1 : List Loc), va_P D vwCl (wM h cI (s_test σ v)) H1 → va_D A (wM h cI (s_test σ v)) → va_S A H0 H1 locs1 → W p l e R s m args below meth c H1 locs1 cells slots Q (F0 m (pc + 3) ls rest)) : W p l e R s m args below meth c H locs cells slots Q (F0 m pc ls (.int v :: .ref (h 0) :: rest)) :=
  va_put (D := D) (ci := 5) (v := .int v) (ty := .int) (C := RX5) (T := TX5) (N := 22) hx hb hts inX5 tyX5 tyX5_ok nmX5 hown hK hP hD hS 0 rfl rfl 10 (by decide) (hts _ hlink) (fun _ h9 => h9) rfl (tyX5_ok 10 (by decide)) rfl rfl (Nat.le_of_ble_eq_true rfl) hdg kk
theorem gM_ref2 (hx : p.tables.exec = Jvm.exec) (hb : c.code = cc) (hts : ∀ w ∈ wsG, w.before args s = true) (hown : s.vm.findClass own = some m.cls) (hK : va_K D vwCl [(cI, .int)] s) (hP : va_P D vwCl (wM h cI σ) H) (hlink : Cond.fieldLink own index "SignedCoreModel" "row" "[I" ∈ wsG) (hdg : decode cc pc = .ok (.getfield index, 3)) (kk : W p l e R s m args below meth c H locs cells slots Q (F0 m (pc + 3) ls ((.ref (h 2)) :: rest))) : W p l e R s m args below meth c H locs cells slots Q (F0 m pc ls (.ref (h 0) :: rest)) := by
  exact va_get (D := D) (ci := 5) (C := RX5) (T := TX5) (N := 22) hx hb hts inX5 hown hK hP 0 rfl rfl 11 (by decide) (hts _ hlink) (fun _ h9 => h9) rfl hdg kk
theorem gM_cnt (hx : p.tables.exec = Jvm.exec) (hb : c.code = cc) (hts : ∀ w ∈ wsG, w.before args s = true) (hown : s.vm.findClass own = some m.cls) (hK : va_K D vwCl [(cI, .int)] s) (hP : va_P D vwCl (wM h cI σ) H) (hlink : Cond.fieldLink own index "SignedCoreModel" "typed" "I" ∈ wsG) {v : Int32} (hv : g_cnt σ = v) (hdg : decode cc pc = .ok (.getfield index, 3)) (kk : W p l e R s m args below meth c H locs cells slots Q (F0 m (pc + 3) ls ((.int v) :: rest))) : W p l e R s m args below meth c H locs cells slots Q (F0 m pc ls (.ref (h 0) :: rest)) := by
  subst hv
  exact va_get (D := D) (ci := 5) (C := RX5) (T := TX5) (N := 22) hx hb hts inX5 hown hK hP 0 rfl rfl 12 (by decide) (hts _ hlink) (fun _ h9 => h9) rfl hdg kk
theorem pM_cnt {v : Int32} (hx : p.tables.exec = Jvm.exec) (hb : c.code = cc) (hts : ∀ w ∈ wsG, w.before args s = true) (hown : s.vm.findClass own = some m.cls) (hK : va_K D vwCl [(cI, .int)] s) (hP : va_P D vwCl (wM h cI σ) H) (hD : va_D A (wM h cI σ)) (hS : va_S A H0 H locs) (hlink : Cond.fieldLink own index "SignedCoreModel" "typed" "I" ∈ wsG) (hdg : decode cc pc = .ok (.putfield index, 3)) (kk : ∀ (H1 : Heap) (locs1 : List Loc), va_P D vwCl (wM h cI (s_cnt σ v)) H1 → va_D A (wM h cI (s_cnt σ v)) → va_S A H0 H1 locs1 → W p l e R s m args below meth c H1 locs1 cells slots Q (F0 m (pc + 3) ls rest)) : W p l e R s m args below meth c H locs cells slots Q (F0 m pc ls (.int v :: .ref (h 0) :: rest)) :=
  va_put (D := D) (ci := 5) (v := .int v) (ty := .int) (C := RX5) (T := TX5) (N := 22) hx hb hts inX5 tyX5 tyX5_ok nmX5 hown hK hP hD hS 0 rfl rfl 12 (by decide) (hts _ hlink) (fun _ h9 => h9) rfl (tyX5_ok 12 (by decide)) rfl rfl (Nat.le_of_ble_eq_true rfl) hdg kk
theorem gM_taken (hx : p.tables.exec = Jvm.exec) (hb : c.code = cc) (hts : ∀ w ∈ wsG, w.before args s = true) (hown : s.vm.findClass own = some m.cls) (hK : va_K D vwCl [(cI, .int)] s) (hP : va_P D vwCl (wM h cI σ) H) (hlink : Cond.fieldLink own index "SignedCoreModel" "taken" "I" ∈ wsG) {v : Int32} (hv : g_taken σ = v) (hdg : decode cc pc = .ok (.getfield index, 3)) (kk : W p l e R s m args below meth c H locs cells slots Q (F0 m (pc + 3) ls ((.int v) :: rest))) : W p l e R s m args below meth c H locs cells slots Q (F0 m pc ls (.ref (h 0) :: rest)) := by
  subst hv
  exact va_get (D := D) (ci := 5) (C := RX5) (T := TX5) (N := 22) hx hb hts inX5 hown hK hP 0 rfl rfl 13 (by decide) (hts _ hlink) (fun _ h9 => h9) rfl hdg kk
theorem pM_taken {v : Int32} (hx : p.tables.exec = Jvm.exec) (hb : c.code = cc) (hts : ∀ w ∈ wsG, w.before args s = true) (hown : s.vm.findClass own = some m.cls) (hK : va_K D vwCl [(cI, .int)] s) (hP : va_P D vwCl (wM h cI σ) H) (hD : va_D A (wM h cI σ)) (hS : va_S A H0 H locs) (hlink : Cond.fieldLink own index "SignedCoreModel" "taken" "I" ∈ wsG) (hdg : decode cc pc = .ok (.putfield index, 3)) (kk : ∀ (H1 : Heap) (locs1 : List Loc), va_P D vwCl (wM h cI (s_taken σ v)) H1 → va_D A (wM h cI (s_taken σ v)) → va_S A H0 H1 locs1 → W p l e R s m args below meth c H1 locs1 cells slots Q (F0 m (pc + 3) ls rest)) : W p l e R s m args below meth c H locs cells slots Q (F0 m pc ls (.int v :: .ref (h 0) :: rest)) :=
  va_put (D := D) (ci := 5) (v := .int v) (ty := .int) (C := RX5) (T := TX5) (N := 22) hx hb hts inX5 tyX5 tyX5_ok nmX5 hown hK hP hD hS 0 rfl rfl 13 (by decide) (hts _ hlink) (fun _ h9 => h9) rfl (tyX5_ok 13 (by decide)) rfl rfl (Nat.le_of_ble_eq_true rfl) hdg kk
theorem gM_ref3 (hx : p.tables.exec = Jvm.exec) (hb : c.code = cc) (hts : ∀ w ∈ wsG, w.before args s = true) (hown : s.vm.findClass own = some m.cls) (hK : va_K D vwCl [(cI, .int)] s) (hP : va_P D vwCl (wM h cI σ) H) (hlink : Cond.fieldLink own index "SignedCoreModel" "out" "[I" ∈ wsG) (hdg : decode cc pc = .ok (.getfield index, 3)) (kk : W p l e R s m args below meth c H locs cells slots Q (F0 m (pc + 3) ls ((.ref (h 3)) :: rest))) : W p l e R s m args below meth c H locs cells slots Q (F0 m pc ls (.ref (h 0) :: rest)) := by
  exact va_get (D := D) (ci := 5) (C := RX5) (T := TX5) (N := 22) hx hb hts inX5 hown hK hP 0 rfl rfl 14 (by decide) (hts _ hlink) (fun _ h9 => h9) rfl hdg kk
theorem gM_outs (hx : p.tables.exec = Jvm.exec) (hb : c.code = cc) (hts : ∀ w ∈ wsG, w.before args s = true) (hown : s.vm.findClass own = some m.cls) (hK : va_K D vwCl [(cI, .int)] s) (hP : va_P D vwCl (wM h cI σ) H) (hlink : Cond.fieldLink own index "SignedCoreModel" "outs" "I" ∈ wsG) {v : Int32} (hv : g_outs σ = v) (hdg : decode cc pc = .ok (.getfield index, 3)) (kk : W p l e R s m args below meth c H locs cells slots Q (F0 m (pc + 3) ls ((.int v) :: rest))) : W p l e R s m args below meth c H locs cells slots Q (F0 m pc ls (.ref (h 0) :: rest)) := by
  subst hv
  exact va_get (D := D) (ci := 5) (C := RX5) (T := TX5) (N := 22) hx hb hts inX5 hown hK hP 0 rfl rfl 15 (by decide) (hts _ hlink) (fun _ h9 => h9) rfl hdg kk
theorem pM_outs {v : Int32} (hx : p.tables.exec = Jvm.exec) (hb : c.code = cc) (hts : ∀ w ∈ wsG, w.before args s = true) (hown : s.vm.findClass own = some m.cls) (hK : va_K D vwCl [(cI, .int)] s) (hP : va_P D vwCl (wM h cI σ) H) (hD : va_D A (wM h cI σ)) (hS : va_S A H0 H locs) (hlink : Cond.fieldLink own index "SignedCoreModel" "outs" "I" ∈ wsG) (hdg : decode cc pc = .ok (.putfield index, 3)) (kk : ∀ (H1 : Heap) (locs1 : List Loc), va_P D vwCl (wM h cI (s_outs σ v)) H1 → va_D A (wM h cI (s_outs σ v)) → va_S A H0 H1 locs1 → W p l e R s m args below meth c H1 locs1 cells slots Q (F0 m (pc + 3) ls rest)) : W p l e R s m args below meth c H locs cells slots Q (F0 m pc ls (.int v :: .ref (h 0) :: rest)) :=
  va_put (D := D) (ci := 5) (v := .int v) (ty := .int) (C := RX5) (T := TX5) (N := 22) hx hb hts inX5 tyX5 tyX5_ok nmX5 hown hK hP hD hS 0 rfl rfl 15 (by decide) (hts _ hlink) (fun _ h9 => h9) rfl (tyX5_ok 15 (by decide)) rfl rfl (Nat.le_of_ble_eq_true rfl) hdg kk
theorem gM_lost (hx : p.tables.exec = Jvm.exec) (hb : c.code = cc) (hts : ∀ w ∈ wsG, w.before args s = true) (hown : s.vm.findClass own = some m.cls) (hK : va_K D vwCl [(cI, .int)] s) (hP : va_P D vwCl (wM h cI σ) H) (hlink : Cond.fieldLink own index "SignedCoreModel" "lost" "I" ∈ wsG) {v : Int32} (hv : g_lost σ = v) (hdg : decode cc pc = .ok (.getfield index, 3)) (kk : W p l e R s m args below meth c H locs cells slots Q (F0 m (pc + 3) ls ((.int v) :: rest))) : W p l e R s m args below meth c H locs cells slots Q (F0 m pc ls (.ref (h 0) :: rest)) := by
  subst hv
  exact va_get (D := D) (ci := 5) (C := RX5) (T := TX5) (N := 22) hx hb hts inX5 hown hK hP 0 rfl rfl 16 (by decide) (hts _ hlink) (fun _ h9 => h9) rfl hdg kk
theorem pM_lost {v : Int32} (hx : p.tables.exec = Jvm.exec) (hb : c.code = cc) (hts : ∀ w ∈ wsG, w.before args s = true) (hown : s.vm.findClass own = some m.cls) (hK : va_K D vwCl [(cI, .int)] s) (hP : va_P D vwCl (wM h cI σ) H) (hD : va_D A (wM h cI σ)) (hS : va_S A H0 H locs) (hlink : Cond.fieldLink own index "SignedCoreModel" "lost" "I" ∈ wsG) (hdg : decode cc pc = .ok (.putfield index, 3)) (kk : ∀ (H1 : Heap) (locs1 : List Loc), va_P D vwCl (wM h cI (s_lost σ v)) H1 → va_D A (wM h cI (s_lost σ v)) → va_S A H0 H1 locs1 → W p l e R s m args below meth c H1 locs1 cells slots Q (F0 m (pc + 3) ls rest)) : W p l e R s m args below meth c H locs cells slots Q (F0 m pc ls (.int v :: .ref (h 0) :: rest)) :=
  va_put (D := D) (ci := 5) (v := .int v) (ty := .int) (C := RX5) (T := TX5) (N := 22) hx hb hts inX5 tyX5 tyX5_ok nmX5 hown hK hP hD hS 0 rfl rfl 16 (by decide) (hts _ hlink) (fun _ h9 => h9) rfl (tyX5_ok 16 (by decide)) rfl rfl (Nat.le_of_ble_eq_true rfl) hdg kk
theorem gM_ref4 (hx : p.tables.exec = Jvm.exec) (hb : c.code = cc) (hts : ∀ w ∈ wsG, w.before args s = true) (hown : s.vm.findClass own = some m.cls) (hK : va_K D vwCl [(cI, .int)] s) (hP : va_P D vwCl (wM h cI σ) H) (hlink : Cond.fieldLink own index "SignedCoreModel" "pointX" "[I" ∈ wsG) (hdg : decode cc pc = .ok (.getfield index, 3)) (kk : W p l e R s m args below meth c H locs cells slots Q (F0 m (pc + 3) ls ((.ref (h 4)) :: rest))) : W p l e R s m args below meth c H locs cells slots Q (F0 m pc ls (.ref (h 0) :: rest)) := by
  exact va_get (D := D) (ci := 5) (C := RX5) (T := TX5) (N := 22) hx hb hts inX5 hown hK hP 0 rfl rfl 17 (by decide) (hts _ hlink) (fun _ h9 => h9) rfl hdg kk
theorem gM_ref5 (hx : p.tables.exec = Jvm.exec) (hb : c.code = cc) (hts : ∀ w ∈ wsG, w.before args s = true) (hown : s.vm.findClass own = some m.cls) (hK : va_K D vwCl [(cI, .int)] s) (hP : va_P D vwCl (wM h cI σ) H) (hlink : Cond.fieldLink own index "SignedCoreModel" "pointY" "[I" ∈ wsG) (hdg : decode cc pc = .ok (.getfield index, 3)) (kk : W p l e R s m args below meth c H locs cells slots Q (F0 m (pc + 3) ls ((.ref (h 5)) :: rest))) : W p l e R s m args below meth c H locs cells slots Q (F0 m pc ls (.ref (h 0) :: rest)) := by
  exact va_get (D := D) (ci := 5) (C := RX5) (T := TX5) (N := 22) hx hb hts inX5 hown hK hP 0 rfl rfl 18 (by decide) (hts _ hlink) (fun _ h9 => h9) rfl hdg kk
theorem gM_pts (hx : p.tables.exec = Jvm.exec) (hb : c.code = cc) (hts : ∀ w ∈ wsG, w.before args s = true) (hown : s.vm.findClass own = some m.cls) (hK : va_K D vwCl [(cI, .int)] s) (hP : va_P D vwCl (wM h cI σ) H) (hlink : Cond.fieldLink own index "SignedCoreModel" "points" "I" ∈ wsG) {v : Int32} (hv : g_pts σ = v) (hdg : decode cc pc = .ok (.getfield index, 3)) (kk : W p l e R s m args below meth c H locs cells slots Q (F0 m (pc + 3) ls ((.int v) :: rest))) : W p l e R s m args below meth c H locs cells slots Q (F0 m pc ls (.ref (h 0) :: rest)) := by
  subst hv
  exact va_get (D := D) (ci := 5) (C := RX5) (T := TX5) (N := 22) hx hb hts inX5 hown hK hP 0 rfl rfl 19 (by decide) (hts _ hlink) (fun _ h9 => h9) rfl hdg kk
theorem pM_pts {v : Int32} (hx : p.tables.exec = Jvm.exec) (hb : c.code = cc) (hts : ∀ w ∈ wsG, w.before args s = true) (hown : s.vm.findClass own = some m.cls) (hK : va_K D vwCl [(cI, .int)] s) (hP : va_P D vwCl (wM h cI σ) H) (hD : va_D A (wM h cI σ)) (hS : va_S A H0 H locs) (hlink : Cond.fieldLink own index "SignedCoreModel" "points" "I" ∈ wsG) (hdg : decode cc pc = .ok (.putfield index, 3)) (kk : ∀ (H1 : Heap) (locs1 : List Loc), va_P D vwCl (wM h cI (s_pts σ v)) H1 → va_D A (wM h cI (s_pts σ v)) → va_S A H0 H1 locs1 → W p l e R s m args below meth c H1 locs1 cells slots Q (F0 m (pc + 3) ls rest)) : W p l e R s m args below meth c H locs cells slots Q (F0 m pc ls (.int v :: .ref (h 0) :: rest)) :=
  va_put (D := D) (ci := 5) (v := .int v) (ty := .int) (C := RX5) (T := TX5) (N := 22) hx hb hts inX5 tyX5 tyX5_ok nmX5 hown hK hP hD hS 0 rfl rfl 19 (by decide) (hts _ hlink) (fun _ h9 => h9) rfl (tyX5_ok 19 (by decide)) rfl rfl (Nat.le_of_ble_eq_true rfl) hdg kk
theorem gM_ref6 (hx : p.tables.exec = Jvm.exec) (hb : c.code = cc) (hts : ∀ w ∈ wsG, w.before args s = true) (hown : s.vm.findClass own = some m.cls) (hK : va_K D vwCl [(cI, .int)] s) (hP : va_P D vwCl (wM h cI σ) H) (hlink : Cond.fieldLink own index "SignedCoreModel" "ran" "[I" ∈ wsG) (hdg : decode cc pc = .ok (.getfield index, 3)) (kk : W p l e R s m args below meth c H locs cells slots Q (F0 m (pc + 3) ls ((.ref (h 6)) :: rest))) : W p l e R s m args below meth c H locs cells slots Q (F0 m pc ls (.ref (h 0) :: rest)) := by
  exact va_get (D := D) (ci := 5) (C := RX5) (T := TX5) (N := 22) hx hb hts inX5 hown hK hP 0 rfl rfl 20 (by decide) (hts _ hlink) (fun _ h9 => h9) rfl hdg kk
theorem gM_ended (hx : p.tables.exec = Jvm.exec) (hb : c.code = cc) (hts : ∀ w ∈ wsG, w.before args s = true) (hown : s.vm.findClass own = some m.cls) (hK : va_K D vwCl [(cI, .int)] s) (hP : va_P D vwCl (wM h cI σ) H) (hlink : Cond.fieldLink own index "SignedCoreModel" "ended" "I" ∈ wsG) {v : Int32} (hv : g_ended σ = v) (hdg : decode cc pc = .ok (.getfield index, 3)) (kk : W p l e R s m args below meth c H locs cells slots Q (F0 m (pc + 3) ls ((.int v) :: rest))) : W p l e R s m args below meth c H locs cells slots Q (F0 m pc ls (.ref (h 0) :: rest)) := by
  subst hv
  exact va_get (D := D) (ci := 5) (C := RX5) (T := TX5) (N := 22) hx hb hts inX5 hown hK hP 0 rfl rfl 21 (by decide) (hts _ hlink) (fun _ h9 => h9) rfl hdg kk
theorem pM_ended {v : Int32} (hx : p.tables.exec = Jvm.exec) (hb : c.code = cc) (hts : ∀ w ∈ wsG, w.before args s = true) (hown : s.vm.findClass own = some m.cls) (hK : va_K D vwCl [(cI, .int)] s) (hP : va_P D vwCl (wM h cI σ) H) (hD : va_D A (wM h cI σ)) (hS : va_S A H0 H locs) (hlink : Cond.fieldLink own index "SignedCoreModel" "ended" "I" ∈ wsG) (hdg : decode cc pc = .ok (.putfield index, 3)) (kk : ∀ (H1 : Heap) (locs1 : List Loc), va_P D vwCl (wM h cI (s_ended σ v)) H1 → va_D A (wM h cI (s_ended σ v)) → va_S A H0 H1 locs1 → W p l e R s m args below meth c H1 locs1 cells slots Q (F0 m (pc + 3) ls rest)) : W p l e R s m args below meth c H locs cells slots Q (F0 m pc ls (.int v :: .ref (h 0) :: rest)) :=
  va_put (D := D) (ci := 5) (v := .int v) (ty := .int) (C := RX5) (T := TX5) (N := 22) hx hb hts inX5 tyX5 tyX5_ok nmX5 hown hK hP hD hS 0 rfl rfl 21 (by decide) (hts _ hlink) (fun _ h9 => h9) rfl (tyX5_ok 21 (by decide)) rfl rfl (Nat.le_of_ble_eq_true rfl) hdg kk
theorem aM_cells {i : Int32} (hx : p.tables.exec = Jvm.exec) (hb : c.code = cc) (hK : va_K D vwCl [(cI, .int)] s) (hP : va_P D vwCl (wM h cI σ) H) (hin : vp_in i 4096) {v : Int32} (hv : (g_cells σ) i.toNatClampNeg = v) (hdg : decode cc pc = .ok (.iaload, 1)) (kk : W p l e R s m args below meth c H locs cells slots Q (F0 m (pc + 1) ls (.int v :: rest))) : W p l e R s m args below meth c H locs cells slots Q (F0 m pc ls (.int i :: .ref (h 1) :: rest)) := by
  subst hv
  exact va_iald (D := D) hx hb hK hP 1 0 rfl rfl hin hdg kk
theorem bM_cells {i x : Int32} (hx : p.tables.exec = Jvm.exec) (hb : c.code = cc) (hK : va_K D vwCl [(cI, .int)] s) (hP : va_P D vwCl (wM h cI σ) H) (hD : va_D A (wM h cI σ)) (hS : va_S A H0 H locs) (hin : vp_in i 4096) {f : Nat → Int32} (hv : g_cells σ = f) (hdg : decode cc pc = .ok (.iastore, 1)) (kk : ∀ (H1 : Heap) (locs1 : List Loc), va_P D vwCl (wM h cI (s_cells σ (upd f i.toNatClampNeg x))) H1 → va_D A (wM h cI (s_cells σ (upd f i.toNatClampNeg x))) → va_S A H0 H1 locs1 → W p l e R s m args below meth c H1 locs1 cells slots Q (F0 m (pc + 1) ls rest)) : W p l e R s m args below meth c H locs cells slots Q (F0 m pc ls (.int x :: .int i :: .ref (h 1) :: rest)) := by
  subst hv
  exact va_iast (D := D) hx hb hK hP hD hS 1 0 rfl rfl hin hdg kk
theorem aM_row {i : Int32} (hx : p.tables.exec = Jvm.exec) (hb : c.code = cc) (hK : va_K D vwCl [(cI, .int)] s) (hP : va_P D vwCl (wM h cI σ) H) (hin : vp_in i 100) {v : Int32} (hv : (g_row σ) i.toNatClampNeg = v) (hdg : decode cc pc = .ok (.iaload, 1)) (kk : W p l e R s m args below meth c H locs cells slots Q (F0 m (pc + 1) ls (.int v :: rest))) : W p l e R s m args below meth c H locs cells slots Q (F0 m pc ls (.int i :: .ref (h 2) :: rest)) := by
  subst hv
  exact va_iald (D := D) hx hb hK hP 2 0 rfl rfl hin hdg kk
theorem bM_row {i x : Int32} (hx : p.tables.exec = Jvm.exec) (hb : c.code = cc) (hK : va_K D vwCl [(cI, .int)] s) (hP : va_P D vwCl (wM h cI σ) H) (hD : va_D A (wM h cI σ)) (hS : va_S A H0 H locs) (hin : vp_in i 100) {f : Nat → Int32} (hv : g_row σ = f) (hdg : decode cc pc = .ok (.iastore, 1)) (kk : ∀ (H1 : Heap) (locs1 : List Loc), va_P D vwCl (wM h cI (s_row σ (upd f i.toNatClampNeg x))) H1 → va_D A (wM h cI (s_row σ (upd f i.toNatClampNeg x))) → va_S A H0 H1 locs1 → W p l e R s m args below meth c H1 locs1 cells slots Q (F0 m (pc + 1) ls rest)) : W p l e R s m args below meth c H locs cells slots Q (F0 m pc ls (.int x :: .int i :: .ref (h 2) :: rest)) := by
  subst hv
  exact va_iast (D := D) hx hb hK hP hD hS 2 0 rfl rfl hin hdg kk
theorem aM_out {i : Int32} (hx : p.tables.exec = Jvm.exec) (hb : c.code = cc) (hK : va_K D vwCl [(cI, .int)] s) (hP : va_P D vwCl (wM h cI σ) H) (hin : vp_in i 64) {v : Int32} (hv : (g_out σ) i.toNatClampNeg = v) (hdg : decode cc pc = .ok (.iaload, 1)) (kk : W p l e R s m args below meth c H locs cells slots Q (F0 m (pc + 1) ls (.int v :: rest))) : W p l e R s m args below meth c H locs cells slots Q (F0 m pc ls (.int i :: .ref (h 3) :: rest)) := by
  subst hv
  exact va_iald (D := D) hx hb hK hP 3 0 rfl rfl hin hdg kk
theorem bM_out {i x : Int32} (hx : p.tables.exec = Jvm.exec) (hb : c.code = cc) (hK : va_K D vwCl [(cI, .int)] s) (hP : va_P D vwCl (wM h cI σ) H) (hD : va_D A (wM h cI σ)) (hS : va_S A H0 H locs) (hin : vp_in i 64) {f : Nat → Int32} (hv : g_out σ = f) (hdg : decode cc pc = .ok (.iastore, 1)) (kk : ∀ (H1 : Heap) (locs1 : List Loc), va_P D vwCl (wM h cI (s_out σ (upd f i.toNatClampNeg x))) H1 → va_D A (wM h cI (s_out σ (upd f i.toNatClampNeg x))) → va_S A H0 H1 locs1 → W p l e R s m args below meth c H1 locs1 cells slots Q (F0 m (pc + 1) ls rest)) : W p l e R s m args below meth c H locs cells slots Q (F0 m pc ls (.int x :: .int i :: .ref (h 3) :: rest)) := by
  subst hv
  exact va_iast (D := D) hx hb hK hP hD hS 3 0 rfl rfl hin hdg kk
theorem aM_px {i : Int32} (hx : p.tables.exec = Jvm.exec) (hb : c.code = cc) (hK : va_K D vwCl [(cI, .int)] s) (hP : va_P D vwCl (wM h cI σ) H) (hin : vp_in i 64) {v : Int32} (hv : (g_px σ) i.toNatClampNeg = v) (hdg : decode cc pc = .ok (.iaload, 1)) (kk : W p l e R s m args below meth c H locs cells slots Q (F0 m (pc + 1) ls (.int v :: rest))) : W p l e R s m args below meth c H locs cells slots Q (F0 m pc ls (.int i :: .ref (h 4) :: rest)) := by
  subst hv
  exact va_iald (D := D) hx hb hK hP 4 0 rfl rfl hin hdg kk
theorem bM_px {i x : Int32} (hx : p.tables.exec = Jvm.exec) (hb : c.code = cc) (hK : va_K D vwCl [(cI, .int)] s) (hP : va_P D vwCl (wM h cI σ) H) (hD : va_D A (wM h cI σ)) (hS : va_S A H0 H locs) (hin : vp_in i 64) {f : Nat → Int32} (hv : g_px σ = f) (hdg : decode cc pc = .ok (.iastore, 1)) (kk : ∀ (H1 : Heap) (locs1 : List Loc), va_P D vwCl (wM h cI (s_px σ (upd f i.toNatClampNeg x))) H1 → va_D A (wM h cI (s_px σ (upd f i.toNatClampNeg x))) → va_S A H0 H1 locs1 → W p l e R s m args below meth c H1 locs1 cells slots Q (F0 m (pc + 1) ls rest)) : W p l e R s m args below meth c H locs cells slots Q (F0 m pc ls (.int x :: .int i :: .ref (h 4) :: rest)) := by
  subst hv
  exact va_iast (D := D) hx hb hK hP hD hS 4 0 rfl rfl hin hdg kk
theorem aM_py {i : Int32} (hx : p.tables.exec = Jvm.exec) (hb : c.code = cc) (hK : va_K D vwCl [(cI, .int)] s) (hP : va_P D vwCl (wM h cI σ) H) (hin : vp_in i 64) {v : Int32} (hv : (g_py σ) i.toNatClampNeg = v) (hdg : decode cc pc = .ok (.iaload, 1)) (kk : W p l e R s m args below meth c H locs cells slots Q (F0 m (pc + 1) ls (.int v :: rest))) : W p l e R s m args below meth c H locs cells slots Q (F0 m pc ls (.int i :: .ref (h 5) :: rest)) := by
  subst hv
  exact va_iald (D := D) hx hb hK hP 5 0 rfl rfl hin hdg kk
theorem bM_py {i x : Int32} (hx : p.tables.exec = Jvm.exec) (hb : c.code = cc) (hK : va_K D vwCl [(cI, .int)] s) (hP : va_P D vwCl (wM h cI σ) H) (hD : va_D A (wM h cI σ)) (hS : va_S A H0 H locs) (hin : vp_in i 64) {f : Nat → Int32} (hv : g_py σ = f) (hdg : decode cc pc = .ok (.iastore, 1)) (kk : ∀ (H1 : Heap) (locs1 : List Loc), va_P D vwCl (wM h cI (s_py σ (upd f i.toNatClampNeg x))) H1 → va_D A (wM h cI (s_py σ (upd f i.toNatClampNeg x))) → va_S A H0 H1 locs1 → W p l e R s m args below meth c H1 locs1 cells slots Q (F0 m (pc + 1) ls rest)) : W p l e R s m args below meth c H locs cells slots Q (F0 m pc ls (.int x :: .int i :: .ref (h 5) :: rest)) := by
  subst hv
  exact va_iast (D := D) hx hb hK hP hD hS 5 0 rfl rfl hin hdg kk
theorem aM_RAN {i : Int32} (hx : p.tables.exec = Jvm.exec) (hb : c.code = cc) (hK : va_K D vwCl [(cI, .int)] s) (hP : va_P D vwCl (wM h cI σ) H) (hin : vp_in i 8) {v : Int32} (hv : (ranf σ) i.toNatClampNeg = v) (hdg : decode cc pc = .ok (.iaload, 1)) (kk : W p l e R s m args below meth c H locs cells slots Q (F0 m (pc + 1) ls (.int v :: rest))) : W p l e R s m args below meth c H locs cells slots Q (F0 m pc ls (.int i :: .ref (h 6) :: rest)) := by
  subst hv
  exact va_iald (D := D) hx hb hK hP 6 0 rfl rfl hin hdg kk
theorem aM_ran0 (hx : p.tables.exec = Jvm.exec) (hb : c.code = cc) (hK : va_K D vwCl [(cI, .int)] s) (hP : va_P D vwCl (wM h cI σ) H) {v : Int32} (hv : g_t0 σ = v) (hdg : decode cc pc = .ok (.iaload, 1)) (kk : W p l e R s m args below meth c H locs cells slots Q (F0 m (pc + 1) ls (.int v :: rest))) : W p l e R s m args below meth c H locs cells slots Q (F0 m pc ls (.int 0 :: .ref (h 6) :: rest)) :=
  aM_RAN hx hb hK hP (by unfold vp_in; decide) hv hdg kk
theorem bM_ran0 {x : Int32} (hx : p.tables.exec = Jvm.exec) (hb : c.code = cc) (hK : va_K D vwCl [(cI, .int)] s) (hP : va_P D vwCl (wM h cI σ) H) (hD : va_D A (wM h cI σ)) (hS : va_S A H0 H locs) (hdg : decode cc pc = .ok (.iastore, 1)) (kk : ∀ (H1 : Heap) (locs1 : List Loc), va_P D vwCl (wM h cI (s_t0 σ x)) H1 → va_D A (wM h cI (s_t0 σ x)) → va_S A H0 H1 locs1 → W p l e R s m args below meth c H1 locs1 cells slots Q (F0 m (pc + 1) ls rest)) : W p l e R s m args below meth c H locs cells slots Q (F0 m pc ls (.int x :: .int 0 :: .ref (h 6) :: rest)) := by
  refine va_iast (D := D) hx hb hK hP hD hS 6 0 rfl rfl (by unfold vp_in; decide) hdg (fun H1 locs1 a1 a2 a3 => ?_)
  rw [show (0 : Int32).toNatClampNeg = 0 from by decide, ranE_0] at a1 a2
  exact kk H1 locs1 a1 a2 a3
theorem aM_ran1 (hx : p.tables.exec = Jvm.exec) (hb : c.code = cc) (hK : va_K D vwCl [(cI, .int)] s) (hP : va_P D vwCl (wM h cI σ) H) {v : Int32} (hv : g_t1 σ = v) (hdg : decode cc pc = .ok (.iaload, 1)) (kk : W p l e R s m args below meth c H locs cells slots Q (F0 m (pc + 1) ls (.int v :: rest))) : W p l e R s m args below meth c H locs cells slots Q (F0 m pc ls (.int 1 :: .ref (h 6) :: rest)) :=
  aM_RAN hx hb hK hP (by unfold vp_in; decide) hv hdg kk
theorem bM_ran1 {x : Int32} (hx : p.tables.exec = Jvm.exec) (hb : c.code = cc) (hK : va_K D vwCl [(cI, .int)] s) (hP : va_P D vwCl (wM h cI σ) H) (hD : va_D A (wM h cI σ)) (hS : va_S A H0 H locs) (hdg : decode cc pc = .ok (.iastore, 1)) (kk : ∀ (H1 : Heap) (locs1 : List Loc), va_P D vwCl (wM h cI (s_t1 σ x)) H1 → va_D A (wM h cI (s_t1 σ x)) → va_S A H0 H1 locs1 → W p l e R s m args below meth c H1 locs1 cells slots Q (F0 m (pc + 1) ls rest)) : W p l e R s m args below meth c H locs cells slots Q (F0 m pc ls (.int x :: .int 1 :: .ref (h 6) :: rest)) := by
  refine va_iast (D := D) hx hb hK hP hD hS 6 0 rfl rfl (by unfold vp_in; decide) hdg (fun H1 locs1 a1 a2 a3 => ?_)
  rw [show (1 : Int32).toNatClampNeg = 1 from by decide, ranE_1] at a1 a2
  exact kk H1 locs1 a1 a2 a3
theorem aM_ran2 (hx : p.tables.exec = Jvm.exec) (hb : c.code = cc) (hK : va_K D vwCl [(cI, .int)] s) (hP : va_P D vwCl (wM h cI σ) H) {v : Int32} (hv : g_t2 σ = v) (hdg : decode cc pc = .ok (.iaload, 1)) (kk : W p l e R s m args below meth c H locs cells slots Q (F0 m (pc + 1) ls (.int v :: rest))) : W p l e R s m args below meth c H locs cells slots Q (F0 m pc ls (.int 2 :: .ref (h 6) :: rest)) :=
  aM_RAN hx hb hK hP (by unfold vp_in; decide) hv hdg kk
theorem bM_ran2 {x : Int32} (hx : p.tables.exec = Jvm.exec) (hb : c.code = cc) (hK : va_K D vwCl [(cI, .int)] s) (hP : va_P D vwCl (wM h cI σ) H) (hD : va_D A (wM h cI σ)) (hS : va_S A H0 H locs) (hdg : decode cc pc = .ok (.iastore, 1)) (kk : ∀ (H1 : Heap) (locs1 : List Loc), va_P D vwCl (wM h cI (s_t2 σ x)) H1 → va_D A (wM h cI (s_t2 σ x)) → va_S A H0 H1 locs1 → W p l e R s m args below meth c H1 locs1 cells slots Q (F0 m (pc + 1) ls rest)) : W p l e R s m args below meth c H locs cells slots Q (F0 m pc ls (.int x :: .int 2 :: .ref (h 6) :: rest)) := by
  refine va_iast (D := D) hx hb hK hP hD hS 6 0 rfl rfl (by unfold vp_in; decide) hdg (fun H1 locs1 a1 a2 a3 => ?_)
  rw [show (2 : Int32).toNatClampNeg = 2 from by decide, ranE_2] at a1 a2
  exact kk H1 locs1 a1 a2 a3
theorem aM_ran3 (hx : p.tables.exec = Jvm.exec) (hb : c.code = cc) (hK : va_K D vwCl [(cI, .int)] s) (hP : va_P D vwCl (wM h cI σ) H) {v : Int32} (hv : g_t3 σ = v) (hdg : decode cc pc = .ok (.iaload, 1)) (kk : W p l e R s m args below meth c H locs cells slots Q (F0 m (pc + 1) ls (.int v :: rest))) : W p l e R s m args below meth c H locs cells slots Q (F0 m pc ls (.int 3 :: .ref (h 6) :: rest)) :=
  aM_RAN hx hb hK hP (by unfold vp_in; decide) hv hdg kk
theorem bM_ran3 {x : Int32} (hx : p.tables.exec = Jvm.exec) (hb : c.code = cc) (hK : va_K D vwCl [(cI, .int)] s) (hP : va_P D vwCl (wM h cI σ) H) (hD : va_D A (wM h cI σ)) (hS : va_S A H0 H locs) (hdg : decode cc pc = .ok (.iastore, 1)) (kk : ∀ (H1 : Heap) (locs1 : List Loc), va_P D vwCl (wM h cI (s_t3 σ x)) H1 → va_D A (wM h cI (s_t3 σ x)) → va_S A H0 H1 locs1 → W p l e R s m args below meth c H1 locs1 cells slots Q (F0 m (pc + 1) ls rest)) : W p l e R s m args below meth c H locs cells slots Q (F0 m pc ls (.int x :: .int 3 :: .ref (h 6) :: rest)) := by
  refine va_iast (D := D) hx hb hK hP hD hS 6 0 rfl rfl (by unfold vp_in; decide) hdg (fun H1 locs1 a1 a2 a3 => ?_)
  rw [show (3 : Int32).toNatClampNeg = 3 from by decide, ranE_3] at a1 a2
  exact kk H1 locs1 a1 a2 a3
theorem aM_ran4 (hx : p.tables.exec = Jvm.exec) (hb : c.code = cc) (hK : va_K D vwCl [(cI, .int)] s) (hP : va_P D vwCl (wM h cI σ) H) {v : Int32} (hv : g_t4 σ = v) (hdg : decode cc pc = .ok (.iaload, 1)) (kk : W p l e R s m args below meth c H locs cells slots Q (F0 m (pc + 1) ls (.int v :: rest))) : W p l e R s m args below meth c H locs cells slots Q (F0 m pc ls (.int 4 :: .ref (h 6) :: rest)) :=
  aM_RAN hx hb hK hP (by unfold vp_in; decide) hv hdg kk
theorem bM_ran4 {x : Int32} (hx : p.tables.exec = Jvm.exec) (hb : c.code = cc) (hK : va_K D vwCl [(cI, .int)] s) (hP : va_P D vwCl (wM h cI σ) H) (hD : va_D A (wM h cI σ)) (hS : va_S A H0 H locs) (hdg : decode cc pc = .ok (.iastore, 1)) (kk : ∀ (H1 : Heap) (locs1 : List Loc), va_P D vwCl (wM h cI (s_t4 σ x)) H1 → va_D A (wM h cI (s_t4 σ x)) → va_S A H0 H1 locs1 → W p l e R s m args below meth c H1 locs1 cells slots Q (F0 m (pc + 1) ls rest)) : W p l e R s m args below meth c H locs cells slots Q (F0 m pc ls (.int x :: .int 4 :: .ref (h 6) :: rest)) := by
  refine va_iast (D := D) hx hb hK hP hD hS 6 0 rfl rfl (by unfold vp_in; decide) hdg (fun H1 locs1 a1 a2 a3 => ?_)
  rw [show (4 : Int32).toNatClampNeg = 4 from by decide, ranE_4] at a1 a2
  exact kk H1 locs1 a1 a2 a3
theorem aM_ran5 (hx : p.tables.exec = Jvm.exec) (hb : c.code = cc) (hK : va_K D vwCl [(cI, .int)] s) (hP : va_P D vwCl (wM h cI σ) H) {v : Int32} (hv : g_t5 σ = v) (hdg : decode cc pc = .ok (.iaload, 1)) (kk : W p l e R s m args below meth c H locs cells slots Q (F0 m (pc + 1) ls (.int v :: rest))) : W p l e R s m args below meth c H locs cells slots Q (F0 m pc ls (.int 5 :: .ref (h 6) :: rest)) :=
  aM_RAN hx hb hK hP (by unfold vp_in; decide) hv hdg kk
theorem bM_ran5 {x : Int32} (hx : p.tables.exec = Jvm.exec) (hb : c.code = cc) (hK : va_K D vwCl [(cI, .int)] s) (hP : va_P D vwCl (wM h cI σ) H) (hD : va_D A (wM h cI σ)) (hS : va_S A H0 H locs) (hdg : decode cc pc = .ok (.iastore, 1)) (kk : ∀ (H1 : Heap) (locs1 : List Loc), va_P D vwCl (wM h cI (s_t5 σ x)) H1 → va_D A (wM h cI (s_t5 σ x)) → va_S A H0 H1 locs1 → W p l e R s m args below meth c H1 locs1 cells slots Q (F0 m (pc + 1) ls rest)) : W p l e R s m args below meth c H locs cells slots Q (F0 m pc ls (.int x :: .int 5 :: .ref (h 6) :: rest)) := by
  refine va_iast (D := D) hx hb hK hP hD hS 6 0 rfl rfl (by unfold vp_in; decide) hdg (fun H1 locs1 a1 a2 a3 => ?_)
  rw [show (5 : Int32).toNatClampNeg = 5 from by decide, ranE_5] at a1 a2
  exact kk H1 locs1 a1 a2 a3
theorem aM_ran6 (hx : p.tables.exec = Jvm.exec) (hb : c.code = cc) (hK : va_K D vwCl [(cI, .int)] s) (hP : va_P D vwCl (wM h cI σ) H) {v : Int32} (hv : g_t6 σ = v) (hdg : decode cc pc = .ok (.iaload, 1)) (kk : W p l e R s m args below meth c H locs cells slots Q (F0 m (pc + 1) ls (.int v :: rest))) : W p l e R s m args below meth c H locs cells slots Q (F0 m pc ls (.int 6 :: .ref (h 6) :: rest)) :=
  aM_RAN hx hb hK hP (by unfold vp_in; decide) hv hdg kk
theorem bM_ran6 {x : Int32} (hx : p.tables.exec = Jvm.exec) (hb : c.code = cc) (hK : va_K D vwCl [(cI, .int)] s) (hP : va_P D vwCl (wM h cI σ) H) (hD : va_D A (wM h cI σ)) (hS : va_S A H0 H locs) (hdg : decode cc pc = .ok (.iastore, 1)) (kk : ∀ (H1 : Heap) (locs1 : List Loc), va_P D vwCl (wM h cI (s_t6 σ x)) H1 → va_D A (wM h cI (s_t6 σ x)) → va_S A H0 H1 locs1 → W p l e R s m args below meth c H1 locs1 cells slots Q (F0 m (pc + 1) ls rest)) : W p l e R s m args below meth c H locs cells slots Q (F0 m pc ls (.int x :: .int 6 :: .ref (h 6) :: rest)) := by
  refine va_iast (D := D) hx hb hK hP hD hS 6 0 rfl rfl (by unfold vp_in; decide) hdg (fun H1 locs1 a1 a2 a3 => ?_)
  rw [show (6 : Int32).toNatClampNeg = 6 from by decide, ranE_6] at a1 a2
  exact kk H1 locs1 a1 a2 a3
theorem aM_ran7 (hx : p.tables.exec = Jvm.exec) (hb : c.code = cc) (hK : va_K D vwCl [(cI, .int)] s) (hP : va_P D vwCl (wM h cI σ) H) {v : Int32} (hv : g_t7 σ = v) (hdg : decode cc pc = .ok (.iaload, 1)) (kk : W p l e R s m args below meth c H locs cells slots Q (F0 m (pc + 1) ls (.int v :: rest))) : W p l e R s m args below meth c H locs cells slots Q (F0 m pc ls (.int 7 :: .ref (h 6) :: rest)) :=
  aM_RAN hx hb hK hP (by unfold vp_in; decide) hv hdg kk
theorem bM_ran7 {x : Int32} (hx : p.tables.exec = Jvm.exec) (hb : c.code = cc) (hK : va_K D vwCl [(cI, .int)] s) (hP : va_P D vwCl (wM h cI σ) H) (hD : va_D A (wM h cI σ)) (hS : va_S A H0 H locs) (hdg : decode cc pc = .ok (.iastore, 1)) (kk : ∀ (H1 : Heap) (locs1 : List Loc), va_P D vwCl (wM h cI (s_t7 σ x)) H1 → va_D A (wM h cI (s_t7 σ x)) → va_S A H0 H1 locs1 → W p l e R s m args below meth c H1 locs1 cells slots Q (F0 m (pc + 1) ls rest)) : W p l e R s m args below meth c H locs cells slots Q (F0 m pc ls (.int x :: .int 7 :: .ref (h 6) :: rest)) := by
  refine va_iast (D := D) hx hb hK hP hD hS 6 0 rfl rfl (by unfold vp_in; decide) hdg (fun H1 locs1 a1 a2 a3 => ?_)
  rw [show (7 : Int32).toNatClampNeg = 7 from by decide, ranE_7] at a1 a2
  exact kk H1 locs1 a1 a2 a3
end FIELDS
end
section
def j_lushr (x : Int64) (y : Int32) : Int64 := (x.toUInt64 >>> (y.toInt64.toUInt64 &&& Int64.toUInt64 63)).toInt64
def j_iushr (x y : Int32) : Int32 := (x.toUInt32 >>> (y.toUInt32 &&& Int32.toUInt32 31)).toInt32
theorem vp_l {i K : Int32} {N : Nat} (h0 : ¬ i < 0) (h1 : i < K) (hK : K.toInt = (N : Int)) : vp_in i N := by
  rw [vp_in_iff]
  have a := Int32.lt_iff_toInt_lt.mp h1
  have b : ¬ i.toInt < (0 : Int32).toInt := fun q => h0 (Int32.lt_iff_toInt_lt.mpr q)
  have c : (0 : Int32).toInt = 0 := by decide
  omega
theorem vp_g {i K : Int32} {N : Nat} (h0 : ¬ i < 0) (h1 : ¬ K ≤ i) (hK : K.toInt = (N : Int)) : vp_in i N := by
  rw [vp_in_iff]
  have a : ¬ K.toInt ≤ i.toInt := fun q => h1 (Int32.le_iff_toInt_le.mpr q)
  have b : ¬ i.toInt < (0 : Int32).toInt := fun q => h0 (Int32.lt_iff_toInt_lt.mpr q)
  have c : (0 : Int32).toInt = 0 := by decide
  omega
theorem cl_lt (b : Int32) : b.toNatClampNeg < 2 ^ 31 := by
  have h1 : b.toInt < 2 ^ 31 := Int32.toInt_lt b
  have h2 : (b.toNatClampNeg : Int) = max b.toInt 0 := by
    show ((b.toInt.toNat : Nat) : Int) = _
    omega
  omega
theorem cl_int (b : Int32) : (b.toNatClampNeg : Int) = max b.toInt 0 := by
  show ((b.toInt.toNat : Nat) : Int) = _
  omega
theorem lp_ge {a b : Int32} {k : Nat} (h : ¬ b ≤ a) (ha : a = nI k) (hk : k ≤ b.toNatClampNeg) : k + 1 ≤ b.toNatClampNeg := by
  have h1 : ¬ b.toInt ≤ a.toInt := fun q => h (Int32.le_iff_toInt_le.mpr q)
  have h2 := cl_lt b
  have h3 := cl_int b
  rw [ha, nI_toInt (by omega)] at h1
  omega
theorem lp_lt {a b : Int32} {k : Nat} (h : a < b) (ha : a = nI k) (hk : k ≤ b.toNatClampNeg) : k + 1 ≤ b.toNatClampNeg := by
  have h1 : a.toInt < b.toInt := Int32.lt_iff_toInt_lt.mp h
  have h2 := cl_lt b
  have h3 := cl_int b
  rw [ha, nI_toInt (by omega)] at h1
  omega
theorem lp_c {a K : Int32} {N k : Nat} (hK : K.toInt = (N : Int)) (h : ¬ K ≤ a) (ha : a = nI k) (hk : k ≤ N) : k + 1 ≤ N := by
  have h1 : ¬ K.toInt ≤ a.toInt := fun q => h (Int32.le_iff_toInt_le.mpr q)
  have h2 : K.toInt < 2 ^ 31 := Int32.toInt_lt K
  rw [ha, nI_toInt (by omega)] at h1
  omega
theorem lp_c2 {a K : Int32} {N k : Nat} (hK : K.toInt = (N : Int)) (h : ¬ K < a) (ha : a = nI k) (hk : k ≤ N + 1) (hN : N < 2147483646) : k + 1 ≤ N + 1 := by
  have h1 : ¬ K.toInt < a.toInt := fun q => h (Int32.lt_iff_toInt_lt.mpr q)
  rw [ha, nI_toInt (by omega)] at h1
  omega
theorem lp_ne {a K : Int32} {N k : Nat} (hK : K = nI N) (h : ¬ a = K) (ha : a = nI k) (hk : k ≤ N) : k + 1 ≤ N := by
  have h1 : k ≠ N := fun q => h (by rw [ha, hK, q])
  omega
theorem vp_ne {i K : Int32} {N : Nat} (h : vp_in i (N + 1)) (hne : ¬ i = K) (hK : K.toInt = (N : Int)) : vp_in i N := by
  rw [vp_in_iff] at h ⊢
  have h1 : i.toInt ≠ K.toInt := fun q => hne (Int32.toInt_inj.mp q)
  omega
theorem vp_rem {x : Int32} (h : vp_in x 2147483647) : vp_in (x - x / 64 * 64) 64 := by
  obtain ⟨j, hj, rfl⟩ := vp_in_of h (by decide)
  rw [show (64 : Int32) = nI 64 from rfl, pk_rem (by omega) (by decide) (by decide)]
  exact vp_in_nI (Nat.mod_lt _ (by decide)) (by decide)
theorem vp_k {k N : Nat} {i : Int32} (hi : i = nI k) (h : k + 1 ≤ N) (hN : N < 2 ^ 31) : vp_in i N := by
  rw [hi]; exact vp_in_nI (by omega) hN
theorem vp_below {i K : Int32} {N M : Nat} (h0 : vp_in i M) (hK : vp_in K (N + 1)) (h : i < K) : vp_in i N := by
  rw [vp_in_iff] at h0 hK ⊢
  have h1 : i.toInt < K.toInt := Int32.lt_iff_toInt_lt.mp h
  omega
theorem vp_below0 {i K : Int32} {N : Nat} (h0 : ¬ i < 0) (hK : vp_in K (N + 1)) (h : ¬ K ≤ i) : vp_in i N := by
  rw [vp_in_iff] at hK ⊢
  have h1 : ¬ K.toInt ≤ i.toInt := fun q => h (Int32.le_iff_toInt_le.mpr q)
  have b : ¬ i.toInt < (0 : Int32).toInt := fun q => h0 (Int32.lt_iff_toInt_lt.mpr q)
  have c : (0 : Int32).toInt = 0 := by decide
  omega
/-- what the reference's rows need of a state: its marks lie in their rows -/
def MI (σ : St) : Prop := vp_in (g_cnt σ) 101 ∧ vp_in (g_taken σ) 101 ∧ vp_in (g_outs σ) 65 ∧ vp_in (g_pts σ) 2147483647
theorem vp_belowN {i K : Int32} {N M : Nat} (h0 : vp_in i M) (hK : vp_in K (N + 1)) (h : ¬ K ≤ i) : vp_in i N := by
  rw [vp_in_iff] at h0 hK ⊢
  have h1 : ¬ K.toInt ≤ i.toInt := fun q => h (Int32.le_iff_toInt_le.mpr q)
  omega
theorem vp_below1 {i K : Int32} {N : Nat} (h0 : (0 : Int32) ≤ i) (hK : vp_in K (N + 1)) (h : ¬ K ≤ i) : vp_in i N := by
  rw [vp_in_iff] at hK ⊢
  have h1 : ¬ K.toInt ≤ i.toInt := fun q => h (Int32.le_iff_toInt_le.mpr q)
  have b := Int32.le_iff_toInt_le.mp h0
  have c : (0 : Int32).toInt = 0 := by decide
  omega
theorem lp_dn {x : Int32} {n : Nat} (h : ¬ x ≤ (0 : Int32)) (hn : x.toNatClampNeg < n + 1) : (x + (-1 : Int32)).toNatClampNeg < n := by
  have h1 : ¬ x < 0 := fun q => h (Int32.le_of_lt q)
  obtain ⟨j, hj, rfl⟩ := nI_of h1
  cases j with
  | zero => exact absurd (by decide) h
  | succ j =>
    rw [pk_m1, nI_clamp (by omega)]
    rw [nI_clamp (by omega)] at hn
    omega
end
section
def x0_show (σ : St) (a1 : Int32) (a2 : Int32) : St := (s_pts (s_py (s_px σ (upd (g_px σ) (Int32.toNatClampNeg ((g_pts σ) &&& (63 : Int32))) a1)) (upd (g_py σ) (Int32.toNatClampNeg ((g_pts σ) &&& (63 : Int32))) a2)) ((g_pts σ) + (1 : Int32)))
set_option maxRecDepth 100000 in
set_option maxHeartbeats 8000000 in
theorem kX0_show (l : Launch) (D : va_G) (cI : ClassId) (h : Nat → Nat) (σ : St) (a1 : Int32) (a2 : Int32) : MetV l yX0_show (wsU yX0_show cX0_show 4 none) { frames := 0, cells := 0, slots := 0, locals := 0 } D cI [.ref (h 6), .int a1, .int a2] (wX h cI σ) (fun u : St => wX h cI u) (fun u => u = (x0_show σ a1 a2)) := by
  refine MetV.of (by decide) (Nat.le_of_ble_eq_true rfl) ?_
  intro p e s m below meth c A Q ls hx hb hml hown hts hK hN hA hret hP hD hS hl
  have hown : s.vm.findClass RX0 = some m.cls := hown
  have hl : lv_has ls 4 [(0, .ref (h 6)), (1, .int a1), (2, .int a2)] := hl
  refine lv_aload_n hx hb dX0_show_0 rfl (lv_at hl 0 rfl) ?_
  refine gX_pts (v := (g_pts σ)) hx hb hts hown hK hP kw_59 rfl dX0_show_1 ?_
  refine lv_bipush (v := (63 : Int32)) hx hb dX0_show_4 (by decide) ?_
  refine lv_iand hx hb dX0_show_6 ?_
  refine lv_istore_n (lv' := [(3, .int ((g_pts σ) &&& (63 : Int32))), (0, .ref (h 6)), (1, .int a1), (2, .int a2)]) hx hb dX0_show_7 rfl hl (by decide) rfl (fun ls hl => ?_)
  refine lv_aload_n hx hb dX0_show_8 rfl (lv_at hl 1 rfl) ?_
  refine gX_ref7 hx hb hts hown hK hP kw_57 dX0_show_9 ?_
  refine lv_iload_n hx hb dX0_show_12 rfl (lv_at hl 0 rfl) ?_
  refine lv_iload_n hx hb dX0_show_13 rfl (lv_at hl 2 rfl) ?_
  refine bX_px (f := (g_px σ)) hx hb hK hP hD hS (by first | exact vp_l (K := 64) (by assumption) (by assumption) (by decide) | exact vp_g (K := 64) (by assumption) (by assumption) (by decide) | exact pk_andIn _ 6 (by decide) (by decide)) rfl dX0_show_14 (fun H locs hP hD hS => ?_)
  refine lv_aload_n hx hb dX0_show_15 rfl (lv_at hl 1 rfl) ?_
  refine gX_ref8 hx hb hts hown hK hP kw_58 dX0_show_16 ?_
  refine lv_iload_n hx hb dX0_show_19 rfl (lv_at hl 0 rfl) ?_
  refine lv_iload_n hx hb dX0_show_20 rfl (lv_at hl 3 rfl) ?_
  refine bX_py (f := (g_py σ)) hx hb hK hP hD hS (by first | exact vp_l (K := 64) (by assumption) (by assumption) (by decide) | exact vp_g (K := 64) (by assumption) (by assumption) (by decide) | exact pk_andIn _ 6 (by decide) (by decide)) rfl dX0_show_21 (fun H locs hP hD hS => ?_)
  refine lv_aload_n hx hb dX0_show_22 rfl (lv_at hl 1 rfl) ?_
  refine lv_dup hx hb dX0_show_23 rfl ?_
  refine gX_pts (v := (g_pts σ)) hx hb hts hown hK hP kw_59 rfl dX0_show_24 ?_
  refine lv_iconst (v := (1 : Int32)) hx hb dX0_show_27 (by decide) ?_
  refine lv_iadd hx hb dX0_show_28 ?_
  refine pX_pts hx hb hts hown hK hP hD hS kw_59 dX0_show_29 (fun H locs hP hD hS => ?_)
  have hE : x0_show σ a1 a2 = (s_pts (s_py (s_px σ (upd (g_px σ) (Int32.toNatClampNeg ((g_pts σ) &&& (63 : Int32))) a1)) (upd (g_py σ) (Int32.toNatClampNeg ((g_pts σ) &&& (63 : Int32))) a2)) ((g_pts σ) + (1 : Int32))) := (by unfold x0_show; rfl)
  exact hret (s_pts (s_py (s_px σ (upd (g_px σ) (Int32.toNatClampNeg ((g_pts σ) &&& (63 : Int32))) a1)) (upd (g_py σ) (Int32.toNatClampNeg ((g_pts σ) &&& (63 : Int32))) a2)) ((g_pts σ) + (1 : Int32))) _ _ _ _ hE.symm hP hD hS dX0_show_32
def x0_keeps (σ : St) (a1 : Int32) : Int32 := (if a1 < (0 : Int32) then (0 : Int32) else (if (64 : Int32) ≤ a1 then (0 : Int32) else (if (g_pts σ) ≤ a1 then (0 : Int32) else (1 : Int32))))
set_option maxRecDepth 100000 in
set_option maxHeartbeats 8000000 in
theorem kX0_keeps (l : Launch) (D : va_G) (cI : ClassId) (h : Nat → Nat) (σ : St) (a1 : Int32) : MetI l yX0_keeps (wsU yX0_keeps cX0_keeps 2 (some .boolean)) { frames := 0, cells := 0, slots := 0, locals := 0 } D cI [.ref (h 6), .int a1] (wX h cI σ) (fun _ : Unit => wX h cI σ) (fun r _ => r = (x0_keeps σ a1)) := by
  refine MetI.of (by decide) (Nat.le_of_ble_eq_true rfl) ?_
  intro p e s m below meth c A Q ls hx hb hml hown hts hK hN hA hret hP hD hS hl
  have hown : s.vm.findClass RX0 = some m.cls := hown
  have hl : lv_has ls 2 [(0, .ref (h 6)), (1, .int a1)] := hl
  refine lv_iload_n hx hb dX0_keeps_0 rfl (lv_at hl 1 rfl) ?_
  refine lv_if_lt (tgt := 22) hx hb dX0_keeps_1 (by decide) (fun c_1_1 => ?_) (fun c_1_1 => ?_)
  · have c_1_1 : a1 < (0 : Int32) := c_1_1
    refine lv_iconst (v := (0 : Int32)) hx hb dX0_keeps_22 (by decide) ?_
    have hE : x0_keeps σ a1 = (0 : Int32) := (by unfold x0_keeps; rw [if_pos c_1_1])
    exact hret (0 : Int32) () _ _ _ _ rfl hE.symm hP hD hS dX0_keeps_23
  · have c_1_1 : ¬ (a1 < (0 : Int32)) := c_1_1
    refine lv_iload_n hx hb dX0_keeps_4 rfl (lv_at hl 1 rfl) ?_
    refine lv_bipush (v := (64 : Int32)) hx hb dX0_keeps_5 (by decide) ?_
    refine lv_icmp_ge (tgt := 22) hx hb dX0_keeps_7 (by decide) (fun c_7_2 => ?_) (fun c_7_2 => ?_)
    · have c_7_2 : (64 : Int32) ≤ a1 := c_7_2
      refine lv_iconst (v := (0 : Int32)) hx hb dX0_keeps_22 (by decide) ?_
      have hE : x0_keeps σ a1 = (0 : Int32) := (by unfold x0_keeps; rw [if_neg c_1_1, if_pos c_7_2])
      exact hret (0 : Int32) () _ _ _ _ rfl hE.symm hP hD hS dX0_keeps_23
    · have c_7_2 : ¬ ((64 : Int32) ≤ a1) := c_7_2
      refine lv_iload_n hx hb dX0_keeps_10 rfl (lv_at hl 1 rfl) ?_
      refine lv_aload_n hx hb dX0_keeps_11 rfl (lv_at hl 0 rfl) ?_
      refine gX_pts (v := (g_pts σ)) hx hb hts hown hK hP kw_59 rfl dX0_keeps_12 ?_
      refine lv_icmp_ge (tgt := 22) hx hb dX0_keeps_15 (by decide) (fun c_15_3 => ?_) (fun c_15_3 => ?_)
      · have c_15_3 : (g_pts σ) ≤ a1 := c_15_3
        refine lv_iconst (v := (0 : Int32)) hx hb dX0_keeps_22 (by decide) ?_
        have hE : x0_keeps σ a1 = (0 : Int32) := (by unfold x0_keeps; rw [if_neg c_1_1, if_neg c_7_2, if_pos c_15_3])
        exact hret (0 : Int32) () _ _ _ _ rfl hE.symm hP hD hS dX0_keeps_23
      · have c_15_3 : ¬ ((g_pts σ) ≤ a1) := c_15_3
        refine lv_iconst (v := (1 : Int32)) hx hb dX0_keeps_18 (by decide) ?_
        refine lv_goto (tgt := 23) hx hb dX0_keeps_19 (by decide) ?_
        have hE : x0_keeps σ a1 = (1 : Int32) := (by unfold x0_keeps; rw [if_neg c_1_1, if_neg c_7_2, if_neg c_15_3])
        exact hret (1 : Int32) () _ _ _ _ rfl hE.symm hP hD hS dX0_keeps_23
def x0_slotOf (σ : St) (a1 : Int32) : Int32 := ((((g_pts σ) - (1 : Int32)) - a1) &&& (63 : Int32))
set_option maxRecDepth 100000 in
set_option maxHeartbeats 8000000 in
theorem kX0_slotOf (l : Launch) (D : va_G) (cI : ClassId) (h : Nat → Nat) (σ : St) (a1 : Int32) : MetI l yX0_slotOf (wsU yX0_slotOf cX0_slotOf 2 (some .int)) { frames := 0, cells := 0, slots := 0, locals := 0 } D cI [.ref (h 6), .int a1] (wX h cI σ) (fun _ : Unit => wX h cI σ) (fun r _ => r = (x0_slotOf σ a1)) := by
  refine MetI.of (by decide) (Nat.le_of_ble_eq_true rfl) ?_
  intro p e s m below meth c A Q ls hx hb hml hown hts hK hN hA hret hP hD hS hl
  have hown : s.vm.findClass RX0 = some m.cls := hown
  have hl : lv_has ls 2 [(0, .ref (h 6)), (1, .int a1)] := hl
  refine lv_aload_n hx hb dX0_slotOf_0 rfl (lv_at hl 0 rfl) ?_
  refine gX_pts (v := (g_pts σ)) hx hb hts hown hK hP kw_59 rfl dX0_slotOf_1 ?_
  refine lv_iconst (v := (1 : Int32)) hx hb dX0_slotOf_4 (by decide) ?_
  refine lv_isub hx hb dX0_slotOf_5 ?_
  refine lv_iload_n hx hb dX0_slotOf_6 rfl (lv_at hl 1 rfl) ?_
  refine lv_isub hx hb dX0_slotOf_7 ?_
  refine lv_bipush (v := (63 : Int32)) hx hb dX0_slotOf_8 (by decide) ?_
  refine lv_iand hx hb dX0_slotOf_10 ?_
  have hE : x0_slotOf σ a1 = ((((g_pts σ) - (1 : Int32)) - a1) &&& (63 : Int32)) := (by unfold x0_slotOf; rfl)
  exact hret ((((g_pts σ) - (1 : Int32)) - a1) &&& (63 : Int32)) () _ _ _ _ rfl hE.symm hP hD hS dX0_slotOf_11
def x0_xOf (σ : St) (a1 : Int32) : Int32 := ((g_px σ) (Int32.toNatClampNeg (x0_slotOf σ a1)))
set_option maxRecDepth 100000 in
set_option maxHeartbeats 8000000 in
theorem kX0_xOf (l : Launch) (D : va_G) (cI : ClassId) (h : Nat → Nat) (σ : St) (a1 : Int32) : MetI l yX0_xOf (wsU yX0_xOf cX0_xOf 2 (some .int)) { frames := 1, cells := 0, slots := 0, locals := 21 } D cI [.ref (h 6), .int a1] (wX h cI σ) (fun _ : Unit => wX h cI σ) (fun r _ => r = (x0_xOf σ a1)) := by
  refine MetI.of (by decide) (Nat.le_of_ble_eq_true rfl) ?_
  intro p e s m below meth c A Q ls hx hb hml hown hts hK hN hA hret hP hD hS hl
  have hown : s.vm.findClass RX0 = some m.cls := hown
  have hl : lv_has ls 2 [(0, .ref (h 6)), (1, .int a1)] := hl
  refine lv_aload_n hx hb dX0_xOf_0 rfl (lv_at hl 0 rfl) ?_
  refine gX_ref7 hx hb hts hown hK hP kw_57 dX0_xOf_1 ?_
  refine lv_aload_n hx hb dX0_xOf_4 rfl (lv_at hl 0 rfl) ?_
  refine lv_iload_n hx hb dX0_xOf_5 rfl (lv_at hl 1 rfl) ?_
  refine call_Vi 1 (kX0_slotOf l D cI h _ a1) ⟨hx, hb, hml, hown, hts, hK, hN, hA⟩ ⟨kw_406, kw_408, ks_yX0_slotOf, kw_4, kw_409, by decide +kernel, rfl, rfl, Nat.le_of_ble_eq_true rfl, Nat.le_of_ble_eq_true rfl⟩ rfl (va_recv hK hP (ci := 0) (q0 := 6) rfl rfl) hP hD hS hl.1 rfl (Nat.le_of_ble_eq_true rfl) dX0_xOf_6 ⟨Nat.zero_le _, Nat.zero_le _⟩ (fun r6 u H locs hw hP hD hS => ?_)
  obtain rfl : r6 = (x0_slotOf σ a1) := hw
  refine aX_px (v := ((g_px σ) (Int32.toNatClampNeg (x0_slotOf σ a1)))) hx hb hK hP (by first | exact vp_l (K := 64) (by assumption) (by assumption) (by decide) | exact vp_g (K := 64) (by assumption) (by assumption) (by decide) | exact pk_andIn _ 6 (by decide) (by decide)) rfl dX0_xOf_9 ?_
  have hE : x0_xOf σ a1 = ((g_px σ) (Int32.toNatClampNeg (x0_slotOf σ a1))) := (by unfold x0_xOf; rfl)
  exact hret ((g_px σ) (Int32.toNatClampNeg (x0_slotOf σ a1))) () _ _ _ _ rfl hE.symm hP hD hS dX0_xOf_10
def x0_yOf (σ : St) (a1 : Int32) : Int32 := ((g_py σ) (Int32.toNatClampNeg (x0_slotOf σ a1)))
set_option maxRecDepth 100000 in
set_option maxHeartbeats 8000000 in
theorem kX0_yOf (l : Launch) (D : va_G) (cI : ClassId) (h : Nat → Nat) (σ : St) (a1 : Int32) : MetI l yX0_yOf (wsU yX0_yOf cX0_yOf 2 (some .int)) { frames := 1, cells := 0, slots := 0, locals := 21 } D cI [.ref (h 6), .int a1] (wX h cI σ) (fun _ : Unit => wX h cI σ) (fun r _ => r = (x0_yOf σ a1)) := by
  refine MetI.of (by decide) (Nat.le_of_ble_eq_true rfl) ?_
  intro p e s m below meth c A Q ls hx hb hml hown hts hK hN hA hret hP hD hS hl
  have hown : s.vm.findClass RX0 = some m.cls := hown
  have hl : lv_has ls 2 [(0, .ref (h 6)), (1, .int a1)] := hl
  refine lv_aload_n hx hb dX0_yOf_0 rfl (lv_at hl 0 rfl) ?_
  refine gX_ref8 hx hb hts hown hK hP kw_58 dX0_yOf_1 ?_
  refine lv_aload_n hx hb dX0_yOf_4 rfl (lv_at hl 0 rfl) ?_
  refine lv_iload_n hx hb dX0_yOf_5 rfl (lv_at hl 1 rfl) ?_
  refine call_Vi 1 (kX0_slotOf l D cI h _ a1) ⟨hx, hb, hml, hown, hts, hK, hN, hA⟩ ⟨kw_406, kw_408, ks_yX0_slotOf, kw_4, kw_409, by decide +kernel, rfl, rfl, Nat.le_of_ble_eq_true rfl, Nat.le_of_ble_eq_true rfl⟩ rfl (va_recv hK hP (ci := 0) (q0 := 6) rfl rfl) hP hD hS hl.1 rfl (Nat.le_of_ble_eq_true rfl) dX0_yOf_6 ⟨Nat.zero_le _, Nat.zero_le _⟩ (fun r6 u H locs hw hP hD hS => ?_)
  obtain rfl : r6 = (x0_slotOf σ a1) := hw
  refine aX_py (v := ((g_py σ) (Int32.toNatClampNeg (x0_slotOf σ a1)))) hx hb hK hP (by first | exact vp_l (K := 64) (by assumption) (by assumption) (by decide) | exact vp_g (K := 64) (by assumption) (by assumption) (by decide) | exact pk_andIn _ 6 (by decide) (by decide)) rfl dX0_yOf_9 ?_
  have hE : x0_yOf σ a1 = ((g_py σ) (Int32.toNatClampNeg (x0_slotOf σ a1))) := (by unfold x0_yOf; rfl)
  exact hret ((g_py σ) (Int32.toNatClampNeg (x0_slotOf σ a1))) () _ _ _ _ rfl hE.symm hP hD hS dX0_yOf_10
def x1_append_16 (σ : St)  : St := (s_lost σ ((g_lost σ) + (1 : Int32)))
def x1_append (σ : St) (a1 : Int32) : St := (if (g_outs σ) < (0 : Int32) then x1_append_16 σ else (if (g_outs σ) < (64 : Int32) then (s_outs (s_out σ (upd (g_out σ) (Int32.toNatClampNeg (g_outs σ)) a1)) ((g_outs σ) + (1 : Int32))) else x1_append_16 σ))
set_option maxRecDepth 100000 in
set_option maxHeartbeats 8000000 in
theorem kX1_append (l : Launch) (D : va_G) (cI : ClassId) (h : Nat → Nat) (σ : St) (a1 : Int32) : MetV l yX1_append (wsU yX1_append cX1_append 2 none) { frames := 0, cells := 0, slots := 0, locals := 0 } D cI [.ref (h 4), .int a1] (wX h cI σ) (fun u : St => wX h cI u) (fun u => u = (x1_append σ a1)) := by
  refine MetV.of (by decide) (Nat.le_of_ble_eq_true rfl) ?_
  intro p e s m below meth c A Q ls hx hb hml hown hts hK hN hA hret hP hD hS hl
  have hown : s.vm.findClass RX1 = some m.cls := hown
  have hl : lv_has ls 2 [(0, .ref (h 4)), (1, .int a1)] := hl
  have J_16 : ∀ (σ' : St) (H : Heap) (locs : List Loc) (ls : Array Slot), x1_append σ a1 = x1_append_16 σ' → lv_has ls 2 [(0, .ref (h 4))] → va_P D vwCl (wX h cI σ') H → va_D A (wX h cI σ') → va_S A s.heap H locs → W p l e ({ frames := 0, cells := 0, slots := 0, locals := 0 } : Room) s m (([.ref (h 4), .int a1] : List Value).toArray) below meth c H locs 0 0 Q (F0 m 16 ls []) := by
    intro σ'  H locs ls E hl hP hD hS
    refine lv_aload_n hx hb dX1_append_16 rfl (lv_at hl 0 rfl) ?_
    refine lv_dup hx hb dX1_append_17 rfl ?_
    refine gX_lost (v := (g_lost σ')) hx hb hts hown hK hP kw_42 rfl dX1_append_18 ?_
    refine lv_iconst (v := (1 : Int32)) hx hb dX1_append_21 (by decide) ?_
    refine lv_iadd hx hb dX1_append_22 ?_
    refine pX_lost hx hb hts hown hK hP hD hS kw_42 dX1_append_23 (fun H locs hP hD hS => ?_)
    have hE : x1_append σ a1 = (s_lost σ' ((g_lost σ') + (1 : Int32))) := (E.trans (by unfold x1_append_16; rfl))
    exact hret (s_lost σ' ((g_lost σ') + (1 : Int32))) _ _ _ _ hE.symm hP hD hS dX1_append_26
  refine lv_aload_n hx hb dX1_append_0 rfl (lv_at hl 0 rfl) ?_
  refine gX_outs (v := (g_outs σ)) hx hb hts hown hK hP kw_40 rfl dX1_append_1 ?_
  refine lv_if_lt (tgt := 16) hx hb dX1_append_4 (by decide) (fun c_4_1 => ?_) (fun c_4_1 => ?_)
  · have c_4_1 : (g_outs σ) < (0 : Int32) := c_4_1
    exact J_16 σ _ _ _ (by unfold x1_append; rw [if_pos c_4_1]) (lv_sub hl [0] rfl) hP hD hS
  · have c_4_1 : ¬ ((g_outs σ) < (0 : Int32)) := c_4_1
    refine lv_aload_n hx hb dX1_append_7 rfl (lv_at hl 0 rfl) ?_
    refine gX_outs (v := (g_outs σ)) hx hb hts hown hK hP kw_40 rfl dX1_append_8 ?_
    refine lv_bipush (v := (64 : Int32)) hx hb dX1_append_11 (by decide) ?_
    refine lv_icmp_lt (tgt := 27) hx hb dX1_append_13 (by decide) (fun c_13_2 => ?_) (fun c_13_2 => ?_)
    · have c_13_2 : (g_outs σ) < (64 : Int32) := c_13_2
      refine lv_aload_n hx hb dX1_append_27 rfl (lv_at hl 0 rfl) ?_
      refine gX_ref5 hx hb hts hown hK hP kw_39 dX1_append_28 ?_
      refine lv_aload_n hx hb dX1_append_31 rfl (lv_at hl 0 rfl) ?_
      refine gX_outs (v := (g_outs σ)) hx hb hts hown hK hP kw_40 rfl dX1_append_32 ?_
      refine lv_iload_n hx hb dX1_append_35 rfl (lv_at hl 1 rfl) ?_
      refine bX_out (f := (g_out σ)) hx hb hK hP hD hS (by first | exact vp_l (K := 64) (by assumption) (by assumption) (by decide) | exact vp_g (K := 64) (by assumption) (by assumption) (by decide) | exact pk_andIn _ 6 (by decide) (by decide)) rfl dX1_append_36 (fun H locs hP hD hS => ?_)
      refine lv_aload_n hx hb dX1_append_37 rfl (lv_at hl 0 rfl) ?_
      refine lv_dup hx hb dX1_append_38 rfl ?_
      refine gX_outs (v := (g_outs σ)) hx hb hts hown hK hP kw_40 rfl dX1_append_39 ?_
      refine lv_iconst (v := (1 : Int32)) hx hb dX1_append_42 (by decide) ?_
      refine lv_iadd hx hb dX1_append_43 ?_
      refine pX_outs hx hb hts hown hK hP hD hS kw_40 dX1_append_44 (fun H locs hP hD hS => ?_)
      have hE : x1_append σ a1 = (s_outs (s_out σ (upd (g_out σ) (Int32.toNatClampNeg (g_outs σ)) a1)) ((g_outs σ) + (1 : Int32))) := (by unfold x1_append; rw [if_neg c_4_1, if_pos c_13_2])
      exact hret (s_outs (s_out σ (upd (g_out σ) (Int32.toNatClampNeg (g_outs σ)) a1)) ((g_outs σ) + (1 : Int32))) _ _ _ _ hE.symm hP hD hS dX1_append_47
    · have c_13_2 : ¬ ((g_outs σ) < (64 : Int32)) := c_13_2
      exact J_16 σ _ _ _ (by unfold x1_append; rw [if_neg c_4_1, if_neg c_13_2]) (lv_sub hl [0] rfl) hP hD hS
def x1_signAt (σ : St) (a1 : Int32) : Int32 := (if a1 < (0 : Int32) then (-9 : Int32) else (if (g_outs σ) ≤ a1 then (-9 : Int32) else (if a1 < (64 : Int32) then ((g_out σ) (Int32.toNatClampNeg a1)) else (-9 : Int32))))
set_option maxRecDepth 100000 in
set_option maxHeartbeats 8000000 in
theorem kX1_signAt (l : Launch) (D : va_G) (cI : ClassId) (h : Nat → Nat) (σ : St) (a1 : Int32) : MetI l yX1_signAt (wsU yX1_signAt cX1_signAt 2 (some .int)) { frames := 0, cells := 0, slots := 0, locals := 0 } D cI [.ref (h 4), .int a1] (wX h cI σ) (fun _ : Unit => wX h cI σ) (fun r _ => r = (x1_signAt σ a1)) := by
  refine MetI.of (by decide) (Nat.le_of_ble_eq_true rfl) ?_
  intro p e s m below meth c A Q ls hx hb hml hown hts hK hN hA hret hP hD hS hl
  have hown : s.vm.findClass RX1 = some m.cls := hown
  have hl : lv_has ls 2 [(0, .ref (h 4)), (1, .int a1)] := hl
  refine lv_iload_n hx hb dX1_signAt_0 rfl (lv_at hl 1 rfl) ?_
  refine lv_if_lt (tgt := 18) hx hb dX1_signAt_1 (by decide) (fun c_1_1 => ?_) (fun c_1_1 => ?_)
  · have c_1_1 : a1 < (0 : Int32) := c_1_1
    refine lv_bipush (v := (-9 : Int32)) hx hb dX1_signAt_18 (by decide) ?_
    refine lv_goto (tgt := 29) hx hb dX1_signAt_20 (by decide) ?_
    have hE : x1_signAt σ a1 = (-9 : Int32) := (by unfold x1_signAt; rw [if_pos c_1_1])
    exact hret (-9 : Int32) () _ _ _ _ rfl hE.symm hP hD hS dX1_signAt_29
  · have c_1_1 : ¬ (a1 < (0 : Int32)) := c_1_1
    refine lv_iload_n hx hb dX1_signAt_4 rfl (lv_at hl 1 rfl) ?_
    refine lv_aload_n hx hb dX1_signAt_5 rfl (lv_at hl 0 rfl) ?_
    refine gX_outs (v := (g_outs σ)) hx hb hts hown hK hP kw_40 rfl dX1_signAt_6 ?_
    refine lv_icmp_ge (tgt := 18) hx hb dX1_signAt_9 (by decide) (fun c_9_2 => ?_) (fun c_9_2 => ?_)
    · have c_9_2 : (g_outs σ) ≤ a1 := c_9_2
      refine lv_bipush (v := (-9 : Int32)) hx hb dX1_signAt_18 (by decide) ?_
      refine lv_goto (tgt := 29) hx hb dX1_signAt_20 (by decide) ?_
      have hE : x1_signAt σ a1 = (-9 : Int32) := (by unfold x1_signAt; rw [if_neg c_1_1, if_pos c_9_2])
      exact hret (-9 : Int32) () _ _ _ _ rfl hE.symm hP hD hS dX1_signAt_29
    · have c_9_2 : ¬ ((g_outs σ) ≤ a1) := c_9_2
      refine lv_iload_n hx hb dX1_signAt_12 rfl (lv_at hl 1 rfl) ?_
      refine lv_bipush (v := (64 : Int32)) hx hb dX1_signAt_13 (by decide) ?_
      refine lv_icmp_lt (tgt := 23) hx hb dX1_signAt_15 (by decide) (fun c_15_3 => ?_) (fun c_15_3 => ?_)
      · have c_15_3 : a1 < (64 : Int32) := c_15_3
        refine lv_aload_n hx hb dX1_signAt_23 rfl (lv_at hl 0 rfl) ?_
        refine gX_ref5 hx hb hts hown hK hP kw_39 dX1_signAt_24 ?_
        refine lv_iload_n hx hb dX1_signAt_27 rfl (lv_at hl 1 rfl) ?_
        refine aX_out (v := ((g_out σ) (Int32.toNatClampNeg a1))) hx hb hK hP (by first | exact vp_l (K := 64) (by assumption) (by assumption) (by decide) | exact vp_g (K := 64) (by assumption) (by assumption) (by decide) | exact pk_andIn _ 6 (by decide) (by decide)) rfl dX1_signAt_28 ?_
        have hE : x1_signAt σ a1 = ((g_out σ) (Int32.toNatClampNeg a1)) := (by unfold x1_signAt; rw [if_neg c_1_1, if_neg c_9_2, if_pos c_15_3])
        exact hret ((g_out σ) (Int32.toNatClampNeg a1)) () _ _ _ _ rfl hE.symm hP hD hS dX1_signAt_29
      · have c_15_3 : ¬ (a1 < (64 : Int32)) := c_15_3
        refine lv_bipush (v := (-9 : Int32)) hx hb dX1_signAt_18 (by decide) ?_
        refine lv_goto (tgt := 29) hx hb dX1_signAt_20 (by decide) ?_
        have hE : x1_signAt σ a1 = (-9 : Int32) := (by unfold x1_signAt; rw [if_neg c_1_1, if_neg c_9_2, if_neg c_15_3])
        exact hret (-9 : Int32) () _ _ _ _ rfl hE.symm hP hD hS dX1_signAt_29
end
