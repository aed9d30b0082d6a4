section
-- ===== PART A: goes FIRST, ahead of the names: the tables' words, and 'selects' of the private methods out of them =====
/-- a private method of a class that the tables say can be made, by its rows of tables_1 -/
def lw_okq (q : MethodName × Nat) : Prop := (q.1.cls ≠ "java/lang/invoke/MethodHandle" ∧ q.1.cls ≠ "java/lang/invoke/VarHandle") ∧ Cond.instantiable q.1.cls q.2 ∈ tables_1 ∧ Cond.privateMethod q.1 ∈ tables_1 ∧ Cond.instanceMethod q.1 ∈ tables_1
theorem lw_p0 : lw_okq (⟨"TickLines", "controllerOf", "(I)LTickLines$Controller;"⟩, 3) := ⟨⟨by decide +kernel, by decide +kernel⟩, List.mem_of_getElem? (i := 11) (by decide +kernel), List.mem_of_getElem? (i := 151) (by decide +kernel), List.mem_of_getElem? (i := 152) (by decide +kernel)⟩
theorem lw_p1 : lw_okq (⟨"TickLines", "followLines", "()V"⟩, 3) := ⟨⟨by decide +kernel, by decide +kernel⟩, List.mem_of_getElem? (i := 11) (by decide +kernel), List.mem_of_getElem? (i := 159) (by decide +kernel), List.mem_of_getElem? (i := 160) (by decide +kernel)⟩
theorem lw_p2 : lw_okq (⟨"TickLines$Controller", "requests", "()I"⟩, 18) := ⟨⟨by decide +kernel, by decide +kernel⟩, List.mem_of_getElem? (i := 19) (by decide +kernel), List.mem_of_getElem? (i := 167) (by decide +kernel), List.mem_of_getElem? (i := 168) (by decide +kernel)⟩
theorem lw_p3 : lw_okq (⟨"TickLines$Controller", "holdingLevels", "()I"⟩, 18) := ⟨⟨by decide +kernel, by decide +kernel⟩, List.mem_of_getElem? (i := 19) (by decide +kernel), List.mem_of_getElem? (i := 171) (by decide +kernel), List.mem_of_getElem? (i := 172) (by decide +kernel)⟩
theorem lw_p4 : lw_okq (⟨"TickLines$Controller", "mayNest", "(I)Z"⟩, 18) := ⟨⟨by decide +kernel, by decide +kernel⟩, List.mem_of_getElem? (i := 19) (by decide +kernel), List.mem_of_getElem? (i := 178) (by decide +kernel), List.mem_of_getElem? (i := 179) (by decide +kernel)⟩
theorem lw_p5 : lw_okq (⟨"TickLines$Counter", "isEmpty", "()Z"⟩, 14) := ⟨⟨by decide +kernel, by decide +kernel⟩, List.mem_of_getElem? (i := 84) (by decide +kernel), List.mem_of_getElem? (i := 193) (by decide +kernel), List.mem_of_getElem? (i := 194) (by decide +kernel)⟩
theorem lw_p6 : lw_okq (⟨"TickLines$Counter", "gateLoads", "()Z"⟩, 14) := ⟨⟨by decide +kernel, by decide +kernel⟩, List.mem_of_getElem? (i := 84) (by decide +kernel), List.mem_of_getElem? (i := 197) (by decide +kernel), List.mem_of_getElem? (i := 198) (by decide +kernel)⟩
theorem lw_p7 : lw_okq (⟨"TickLines$Counter", "isPeriodic", "()Z"⟩, 14) := ⟨⟨by decide +kernel, by decide +kernel⟩, List.mem_of_getElem? (i := 84) (by decide +kernel), List.mem_of_getElem? (i := 201) (by decide +kernel), List.mem_of_getElem? (i := 202) (by decide +kernel)⟩
theorem lw_p8 : lw_okq (⟨"java/lang/Throwable", "fillInStackTrace", "(I)Ljava/lang/Throwable;"⟩, 6) := ⟨⟨by decide +kernel, by decide +kernel⟩, List.mem_of_getElem? (i := 278) (by decide +kernel), List.mem_of_getElem? (i := 276) (by decide +kernel), List.mem_of_getElem? (i := 277) (by decide +kernel)⟩
theorem lw_p9 : lw_okq (⟨"TickLines", "counterWithMode", "(I)LTickLines$Counter;"⟩, 3) := ⟨⟨by decide +kernel, by decide +kernel⟩, List.mem_of_getElem? (i := 11) (by decide +kernel), List.mem_of_getElem? (i := 306) (by decide +kernel), List.mem_of_getElem? (i := 307) (by decide +kernel)⟩
theorem lw_p10 : lw_okq (⟨"TickLines$Counter", "takeReload", "(I)V"⟩, 14) := ⟨⟨by decide +kernel, by decide +kernel⟩, List.mem_of_getElem? (i := 84) (by decide +kernel), List.mem_of_getElem? (i := 333) (by decide +kernel), List.mem_of_getElem? (i := 334) (by decide +kernel)⟩
theorem lw_p11 : lw_okq (⟨"TickLines", "takeControl", "(I)V"⟩, 3) := ⟨⟨by decide +kernel, by decide +kernel⟩, List.mem_of_getElem? (i := 11) (by decide +kernel), List.mem_of_getElem? (i := 338) (by decide +kernel), List.mem_of_getElem? (i := 339) (by decide +kernel)⟩
theorem lw_p12 : lw_okq (⟨"TickLines", "latchMany", "(I)V"⟩, 3) := ⟨⟨by decide +kernel, by decide +kernel⟩, List.mem_of_getElem? (i := 11) (by decide +kernel), List.mem_of_getElem? (i := 342) (by decide +kernel), List.mem_of_getElem? (i := 343) (by decide +kernel)⟩
theorem lw_p13 : lw_okq (⟨"TickLines$Controller", "beginSettingUp", "(I)V"⟩, 18) := ⟨⟨by decide +kernel, by decide +kernel⟩, List.mem_of_getElem? (i := 19) (by decide +kernel), List.mem_of_getElem? (i := 364) (by decide +kernel), List.mem_of_getElem? (i := 365) (by decide +kernel)⟩
theorem lw_p14 : lw_okq (⟨"TickLines$Controller", "takeReadingCommand", "(I)V"⟩, 18) := ⟨⟨by decide +kernel, by decide +kernel⟩, List.mem_of_getElem? (i := 19) (by decide +kernel), List.mem_of_getElem? (i := 368) (by decide +kernel), List.mem_of_getElem? (i := 369) (by decide +kernel)⟩
theorem lw_p15 : lw_okq (⟨"TickLines$Controller", "takeServiceCommand", "(II)V"⟩, 18) := ⟨⟨by decide +kernel, by decide +kernel⟩, List.mem_of_getElem? (i := 19) (by decide +kernel), List.mem_of_getElem? (i := 372) (by decide +kernel), List.mem_of_getElem? (i := 373) (by decide +kernel)⟩
def lw_privs_1 : List (MethodName × Nat) := [(⟨"TickLines", "controllerOf", "(I)LTickLines$Controller;"⟩, 3), (⟨"TickLines", "followLines", "()V"⟩, 3), (⟨"TickLines$Controller", "requests", "()I"⟩, 18), (⟨"TickLines$Controller", "holdingLevels", "()I"⟩, 18), (⟨"TickLines$Controller", "mayNest", "(I)Z"⟩, 18), (⟨"TickLines$Counter", "isEmpty", "()Z"⟩, 14), (⟨"TickLines$Counter", "gateLoads", "()Z"⟩, 14), (⟨"TickLines$Counter", "isPeriodic", "()Z"⟩, 14), (⟨"java/lang/Throwable", "fillInStackTrace", "(I)Ljava/lang/Throwable;"⟩, 6), (⟨"TickLines", "counterWithMode", "(I)LTickLines$Counter;"⟩, 3), (⟨"TickLines$Counter", "takeReload", "(I)V"⟩, 14), (⟨"TickLines", "takeControl", "(I)V"⟩, 3), (⟨"TickLines", "latchMany", "(I)V"⟩, 3), (⟨"TickLines$Controller", "beginSettingUp", "(I)V"⟩, 18), (⟨"TickLines$Controller", "takeReadingCommand", "(I)V"⟩, 18), (⟨"TickLines$Controller", "takeServiceCommand", "(II)V"⟩, 18)]
theorem lw_r1 : ∀ q ∈ lw_privs_1, lw_okq q := List.forall_mem_cons.mpr ⟨lw_p0, List.forall_mem_cons.mpr ⟨lw_p1, List.forall_mem_cons.mpr ⟨lw_p2, List.forall_mem_cons.mpr ⟨lw_p3, List.forall_mem_cons.mpr ⟨lw_p4, List.forall_mem_cons.mpr ⟨lw_p5, List.forall_mem_cons.mpr ⟨lw_p6, List.forall_mem_cons.mpr ⟨lw_p7, List.forall_mem_cons.mpr ⟨lw_p8, List.forall_mem_cons.mpr ⟨lw_p9, List.forall_mem_cons.mpr ⟨lw_p10, List.forall_mem_cons.mpr ⟨lw_p11, List.forall_mem_cons.mpr ⟨lw_p12, List.forall_mem_cons.mpr ⟨lw_p13, List.forall_mem_cons.mpr ⟨lw_p14, List.forall_mem_cons.mpr ⟨lw_p15, fun _ h => absurd h List.not_mem_nil⟩⟩⟩⟩⟩⟩⟩⟩⟩⟩⟩⟩⟩⟩⟩⟩
theorem lw_p16 : lw_okq (⟨"TickLines$Controller", "firstHolding", "()I"⟩, 18) := ⟨⟨by decide +kernel, by decide +kernel⟩, List.mem_of_getElem? (i := 19) (by decide +kernel), List.mem_of_getElem? (i := 376) (by decide +kernel), List.mem_of_getElem? (i := 377) (by decide +kernel)⟩
theorem lw_p17 : lw_okq (⟨"TickLines$Controller", "endService", "(I)V"⟩, 18) := ⟨⟨by decide +kernel, by decide +kernel⟩, List.mem_of_getElem? (i := 19) (by decide +kernel), List.mem_of_getElem? (i := 380) (by decide +kernel), List.mem_of_getElem? (i := 381) (by decide +kernel)⟩
theorem lw_p18 : lw_okq (⟨"TickLines$Controller", "endServiceAndTurn", "(I)V"⟩, 18) := ⟨⟨by decide +kernel, by decide +kernel⟩, List.mem_of_getElem? (i := 19) (by decide +kernel), List.mem_of_getElem? (i := 384) (by decide +kernel), List.mem_of_getElem? (i := 385) (by decide +kernel)⟩
theorem lw_p19 : lw_okq (⟨"TickLines$Controller", "awaitFrom", "(I)V"⟩, 18) := ⟨⟨by decide +kernel, by decide +kernel⟩, List.mem_of_getElem? (i := 19) (by decide +kernel), List.mem_of_getElem? (i := 392) (by decide +kernel), List.mem_of_getElem? (i := 393) (by decide +kernel)⟩
theorem lw_p20 : lw_okq (⟨"TickLines$Controller", "becomeReady", "()V"⟩, 18) := ⟨⟨by decide +kernel, by decide +kernel⟩, List.mem_of_getElem? (i := 19) (by decide +kernel), List.mem_of_getElem? (i := 396) (by decide +kernel), List.mem_of_getElem? (i := 397) (by decide +kernel)⟩
theorem lw_p21 : lw_okq (⟨"TickLines$Controller", "serve", "(I)V"⟩, 18) := ⟨⟨by decide +kernel, by decide +kernel⟩, List.mem_of_getElem? (i := 19) (by decide +kernel), List.mem_of_getElem? (i := 420) (by decide +kernel), List.mem_of_getElem? (i := 421) (by decide +kernel)⟩
theorem lw_p22 : lw_okq (⟨"TickLines$Counter", "standsBetweenBytes", "()Z"⟩, 14) := ⟨⟨by decide +kernel, by decide +kernel⟩, List.mem_of_getElem? (i := 84) (by decide +kernel), List.mem_of_getElem? (i := 435) (by decide +kernel), List.mem_of_getElem? (i := 436) (by decide +kernel)⟩
theorem lw_p23 : lw_okq (⟨"TickLines$Counter", "load", "()V"⟩, 14) := ⟨⟨by decide +kernel, by decide +kernel⟩, List.mem_of_getElem? (i := 84) (by decide +kernel), List.mem_of_getElem? (i := 439) (by decide +kernel), List.mem_of_getElem? (i := 440) (by decide +kernel)⟩
theorem lw_p24 : lw_okq (⟨"TickLines$Counter", "partTicks", "()I"⟩, 14) := ⟨⟨by decide +kernel, by decide +kernel⟩, List.mem_of_getElem? (i := 84) (by decide +kernel), List.mem_of_getElem? (i := 443) (by decide +kernel), List.mem_of_getElem? (i := 444) (by decide +kernel)⟩
theorem lw_p25 : lw_okq (⟨"TickLines$Counter", "setCount", "(I)V"⟩, 14) := ⟨⟨by decide +kernel, by decide +kernel⟩, List.mem_of_getElem? (i := 84) (by decide +kernel), List.mem_of_getElem? (i := 447) (by decide +kernel), List.mem_of_getElem? (i := 448) (by decide +kernel)⟩
theorem lw_p26 : lw_okq (⟨"TickLines$Counter", "gateHoldsBack", "()Z"⟩, 14) := ⟨⟨by decide +kernel, by decide +kernel⟩, List.mem_of_getElem? (i := 84) (by decide +kernel), List.mem_of_getElem? (i := 452) (by decide +kernel), List.mem_of_getElem? (i := 453) (by decide +kernel)⟩
theorem lw_p27 : lw_okq (⟨"TickLines$Counter", "countDown", "()V"⟩, 14) := ⟨⟨by decide +kernel, by decide +kernel⟩, List.mem_of_getElem? (i := 84) (by decide +kernel), List.mem_of_getElem? (i := 456) (by decide +kernel), List.mem_of_getElem? (i := 457) (by decide +kernel)⟩
theorem lw_p28 : lw_okq (⟨"TickLines$Counter", "stepRate", "()V"⟩, 14) := ⟨⟨by decide +kernel, by decide +kernel⟩, List.mem_of_getElem? (i := 84) (by decide +kernel), List.mem_of_getElem? (i := 460) (by decide +kernel), List.mem_of_getElem? (i := 461) (by decide +kernel)⟩
theorem lw_p29 : lw_okq (⟨"TickLines$Counter", "lessen", "(I)V"⟩, 14) := ⟨⟨by decide +kernel, by decide +kernel⟩, List.mem_of_getElem? (i := 84) (by decide +kernel), List.mem_of_getElem? (i := 464) (by decide +kernel), List.mem_of_getElem? (i := 465) (by decide +kernel)⟩
theorem lw_p30 : lw_okq (⟨"TickLines$Counter", "stepSquare", "()V"⟩, 14) := ⟨⟨by decide +kernel, by decide +kernel⟩, List.mem_of_getElem? (i := 84) (by decide +kernel), List.mem_of_getElem? (i := 468) (by decide +kernel), List.mem_of_getElem? (i := 469) (by decide +kernel)⟩
theorem lw_p31 : lw_okq (⟨"TickLines$Counter", "stepStrobe", "()V"⟩, 14) := ⟨⟨by decide +kernel, by decide +kernel⟩, List.mem_of_getElem? (i := 84) (by decide +kernel), List.mem_of_getElem? (i := 472) (by decide +kernel), List.mem_of_getElem? (i := 473) (by decide +kernel)⟩
def lw_privs_2 : List (MethodName × Nat) := [(⟨"TickLines$Controller", "firstHolding", "()I"⟩, 18), (⟨"TickLines$Controller", "endService", "(I)V"⟩, 18), (⟨"TickLines$Controller", "endServiceAndTurn", "(I)V"⟩, 18), (⟨"TickLines$Controller", "awaitFrom", "(I)V"⟩, 18), (⟨"TickLines$Controller", "becomeReady", "()V"⟩, 18), (⟨"TickLines$Controller", "serve", "(I)V"⟩, 18), (⟨"TickLines$Counter", "standsBetweenBytes", "()Z"⟩, 14), (⟨"TickLines$Counter", "load", "()V"⟩, 14), (⟨"TickLines$Counter", "partTicks", "()I"⟩, 14), (⟨"TickLines$Counter", "setCount", "(I)V"⟩, 14), (⟨"TickLines$Counter", "gateHoldsBack", "()Z"⟩, 14), (⟨"TickLines$Counter", "countDown", "()V"⟩, 14), (⟨"TickLines$Counter", "stepRate", "()V"⟩, 14), (⟨"TickLines$Counter", "lessen", "(I)V"⟩, 14), (⟨"TickLines$Counter", "stepSquare", "()V"⟩, 14), (⟨"TickLines$Counter", "stepStrobe", "()V"⟩, 14)]
theorem lw_r2 : ∀ q ∈ lw_privs_2, lw_okq q := List.forall_mem_cons.mpr ⟨lw_p16, List.forall_mem_cons.mpr ⟨lw_p17, List.forall_mem_cons.mpr ⟨lw_p18, List.forall_mem_cons.mpr ⟨lw_p19, List.forall_mem_cons.mpr ⟨lw_p20, List.forall_mem_cons.mpr ⟨lw_p21, List.forall_mem_cons.mpr ⟨lw_p22, List.forall_mem_cons.mpr ⟨lw_p23, List.forall_mem_cons.mpr ⟨lw_p24, List.forall_mem_cons.mpr ⟨lw_p25, List.forall_mem_cons.mpr ⟨lw_p26, List.forall_mem_cons.mpr ⟨lw_p27, List.forall_mem_cons.mpr ⟨lw_p28, List.forall_mem_cons.mpr ⟨lw_p29, List.forall_mem_cons.mpr ⟨lw_p30, List.forall_mem_cons.mpr ⟨lw_p31, fun _ h => absurd h List.not_mem_nil⟩⟩⟩⟩⟩⟩⟩⟩⟩⟩⟩⟩⟩⟩⟩⟩
theorem lw_p32 : lw_okq (⟨"TickLines$Counter", "stepOnce", "()V"⟩, 14) := ⟨⟨by decide +kernel, by decide +kernel⟩, List.mem_of_getElem? (i := 84) (by decide +kernel), List.mem_of_getElem? (i := 476) (by decide +kernel), List.mem_of_getElem? (i := 477) (by decide +kernel)⟩
theorem lw_p33 : lw_okq (⟨"TickLinesModel", "control", "(I)V"⟩, 33) := ⟨⟨by decide +kernel, by decide +kernel⟩, List.mem_of_getElem? (i := 492) (by decide +kernel), List.mem_of_getElem? (i := 608) (by decide +kernel), List.mem_of_getElem? (i := 609) (by decide +kernel)⟩
theorem lw_p34 : lw_okq (⟨"TickLinesModel", "latch", "(I)V"⟩, 33) := ⟨⟨by decide +kernel, by decide +kernel⟩, List.mem_of_getElem? (i := 492) (by decide +kernel), List.mem_of_getElem? (i := 612) (by decide +kernel), List.mem_of_getElem? (i := 613) (by decide +kernel)⟩
theorem lw_p35 : lw_okq (⟨"TickLinesModel", "latchStatus", "(I)V"⟩, 33) := ⟨⟨by decide +kernel, by decide +kernel⟩, List.mem_of_getElem? (i := 492) (by decide +kernel), List.mem_of_getElem? (i := 616) (by decide +kernel), List.mem_of_getElem? (i := 617) (by decide +kernel)⟩
theorem lw_p36 : lw_okq (⟨"TickLinesModel", "writeCounter", "(II)V"⟩, 33) := ⟨⟨by decide +kernel, by decide +kernel⟩, List.mem_of_getElem? (i := 492) (by decide +kernel), List.mem_of_getElem? (i := 620) (by decide +kernel), List.mem_of_getElem? (i := 621) (by decide +kernel)⟩
theorem lw_p37 : lw_okq (⟨"TickLinesModel", "writeFirst", "(II)V"⟩, 33) := ⟨⟨by decide +kernel, by decide +kernel⟩, List.mem_of_getElem? (i := 492) (by decide +kernel), List.mem_of_getElem? (i := 625) (by decide +kernel), List.mem_of_getElem? (i := 626) (by decide +kernel)⟩
theorem lw_p38 : lw_okq (⟨"TickLinesModel", "begin", "(II)V"⟩, 33) := ⟨⟨by decide +kernel, by decide +kernel⟩, List.mem_of_getElem? (i := 492) (by decide +kernel), List.mem_of_getElem? (i := 629) (by decide +kernel), List.mem_of_getElem? (i := 630) (by decide +kernel)⟩
theorem lw_p39 : lw_okq (⟨"TickLinesModel", "rule", "(II)V"⟩, 33) := ⟨⟨by decide +kernel, by decide +kernel⟩, List.mem_of_getElem? (i := 492) (by decide +kernel), List.mem_of_getElem? (i := 633) (by decide +kernel), List.mem_of_getElem? (i := 634) (by decide +kernel)⟩
theorem lw_p40 : lw_okq (⟨"TickLinesModel", "firstHeld", "(I)I"⟩, 33) := ⟨⟨by decide +kernel, by decide +kernel⟩, List.mem_of_getElem? (i := 492) (by decide +kernel), List.mem_of_getElem? (i := 637) (by decide +kernel), List.mem_of_getElem? (i := 638) (by decide +kernel)⟩
theorem lw_p41 : lw_okq (⟨"TickLinesModel", "holds", "(II)Z"⟩, 33) := ⟨⟨by decide +kernel, by decide +kernel⟩, List.mem_of_getElem? (i := 492) (by decide +kernel), List.mem_of_getElem? (i := 641) (by decide +kernel), List.mem_of_getElem? (i := 642) (by decide +kernel)⟩
theorem lw_p42 : lw_okq (⟨"TickLinesModel", "writeSecond", "(II)V"⟩, 33) := ⟨⟨by decide +kernel, by decide +kernel⟩, List.mem_of_getElem? (i := 492) (by decide +kernel), List.mem_of_getElem? (i := 645) (by decide +kernel), List.mem_of_getElem? (i := 646) (by decide +kernel)⟩
theorem lw_p43 : lw_okq (⟨"TickLinesModel", "follow", "()V"⟩, 33) := ⟨⟨by decide +kernel, by decide +kernel⟩, List.mem_of_getElem? (i := 492) (by decide +kernel), List.mem_of_getElem? (i := 649) (by decide +kernel), List.mem_of_getElem? (i := 650) (by decide +kernel)⟩
theorem lw_p44 : lw_okq (⟨"TickLinesModel", "set", "(IIZ)V"⟩, 33) := ⟨⟨by decide +kernel, by decide +kernel⟩, List.mem_of_getElem? (i := 492) (by decide +kernel), List.mem_of_getElem? (i := 653) (by decide +kernel), List.mem_of_getElem? (i := 654) (by decide +kernel)⟩
theorem lw_p45 : lw_okq (⟨"TickLinesModel", "choice", "(I)I"⟩, 33) := ⟨⟨by decide +kernel, by decide +kernel⟩, List.mem_of_getElem? (i := 492) (by decide +kernel), List.mem_of_getElem? (i := 657) (by decide +kernel), List.mem_of_getElem? (i := 658) (by decide +kernel)⟩
theorem lw_p46 : lw_okq (⟨"TickLinesModel", "requests", "(I)I"⟩, 33) := ⟨⟨by decide +kernel, by decide +kernel⟩, List.mem_of_getElem? (i := 492) (by decide +kernel), List.mem_of_getElem? (i := 661) (by decide +kernel), List.mem_of_getElem? (i := 662) (by decide +kernel)⟩
theorem lw_p47 : lw_okq (⟨"TickLinesModel", "readCounter", "(I)I"⟩, 33) := ⟨⟨by decide +kernel, by decide +kernel⟩, List.mem_of_getElem? (i := 492) (by decide +kernel), List.mem_of_getElem? (i := 669) (by decide +kernel), List.mem_of_getElem? (i := 670) (by decide +kernel)⟩
def lw_privs_3 : List (MethodName × Nat) := [(⟨"TickLines$Counter", "stepOnce", "()V"⟩, 14), (⟨"TickLinesModel", "control", "(I)V"⟩, 33), (⟨"TickLinesModel", "latch", "(I)V"⟩, 33), (⟨"TickLinesModel", "latchStatus", "(I)V"⟩, 33), (⟨"TickLinesModel", "writeCounter", "(II)V"⟩, 33), (⟨"TickLinesModel", "writeFirst", "(II)V"⟩, 33), (⟨"TickLinesModel", "begin", "(II)V"⟩, 33), (⟨"TickLinesModel", "rule", "(II)V"⟩, 33), (⟨"TickLinesModel", "firstHeld", "(I)I"⟩, 33), (⟨"TickLinesModel", "holds", "(II)Z"⟩, 33), (⟨"TickLinesModel", "writeSecond", "(II)V"⟩, 33), (⟨"TickLinesModel", "follow", "()V"⟩, 33), (⟨"TickLinesModel", "set", "(IIZ)V"⟩, 33), (⟨"TickLinesModel", "choice", "(I)I"⟩, 33), (⟨"TickLinesModel", "requests", "(I)I"⟩, 33), (⟨"TickLinesModel", "readCounter", "(I)I"⟩, 33)]
theorem lw_r3 : ∀ q ∈ lw_privs_3, lw_okq q := List.forall_mem_cons.mpr ⟨lw_p32, List.forall_mem_cons.mpr ⟨lw_p33, List.forall_mem_cons.mpr ⟨lw_p34, List.forall_mem_cons.mpr ⟨lw_p35, List.forall_mem_cons.mpr ⟨lw_p36, List.forall_mem_cons.mpr ⟨lw_p37, List.forall_mem_cons.mpr ⟨lw_p38, List.forall_mem_cons.mpr ⟨lw_p39, List.forall_mem_cons.mpr ⟨lw_p40, List.forall_mem_cons.mpr ⟨lw_p41, List.forall_mem_cons.mpr ⟨lw_p42, List.forall_mem_cons.mpr ⟨lw_p43, List.forall_mem_cons.mpr ⟨lw_p44, List.forall_mem_cons.mpr ⟨lw_p45, List.forall_mem_cons.mpr ⟨lw_p46, List.forall_mem_cons.mpr ⟨lw_p47, fun _ h => absurd h List.not_mem_nil⟩⟩⟩⟩⟩⟩⟩⟩⟩⟩⟩⟩⟩⟩⟩⟩
theorem lw_p48 : lw_okq (⟨"TickLinesModel", "readFirst", "(I)I"⟩, 33) := ⟨⟨by decide +kernel, by decide +kernel⟩, List.mem_of_getElem? (i := 492) (by decide +kernel), List.mem_of_getElem? (i := 673) (by decide +kernel), List.mem_of_getElem? (i := 674) (by decide +kernel)⟩
theorem lw_p49 : lw_okq (⟨"TickLinesModel", "serve", "(II)V"⟩, 33) := ⟨⟨by decide +kernel, by decide +kernel⟩, List.mem_of_getElem? (i := 492) (by decide +kernel), List.mem_of_getElem? (i := 677) (by decide +kernel), List.mem_of_getElem? (i := 678) (by decide +kernel)⟩
theorem lw_p50 : lw_okq (⟨"TickLinesModel", "tickOne", "(I)V"⟩, 33) := ⟨⟨by decide +kernel, by decide +kernel⟩, List.mem_of_getElem? (i := 492) (by decide +kernel), List.mem_of_getElem? (i := 693) (by decide +kernel), List.mem_of_getElem? (i := 694) (by decide +kernel)⟩
theorem lw_p51 : lw_okq (⟨"TickLinesModel", "put", "(II)V"⟩, 33) := ⟨⟨by decide +kernel, by decide +kernel⟩, List.mem_of_getElem? (i := 492) (by decide +kernel), List.mem_of_getElem? (i := 697) (by decide +kernel), List.mem_of_getElem? (i := 698) (by decide +kernel)⟩
theorem lw_p52 : lw_okq (⟨"TickLinesModel", "step", "(I)V"⟩, 33) := ⟨⟨by decide +kernel, by decide +kernel⟩, List.mem_of_getElem? (i := 492) (by decide +kernel), List.mem_of_getElem? (i := 702) (by decide +kernel), List.mem_of_getElem? (i := 703) (by decide +kernel)⟩
theorem lw_p53 : lw_okq (⟨"TickLinesModel", "turn", "(I)V"⟩, 33) := ⟨⟨by decide +kernel, by decide +kernel⟩, List.mem_of_getElem? (i := 492) (by decide +kernel), List.mem_of_getElem? (i := 706) (by decide +kernel), List.mem_of_getElem? (i := 707) (by decide +kernel)⟩
def lw_privs_4 : List (MethodName × Nat) := [(⟨"TickLinesModel", "readFirst", "(I)I"⟩, 33), (⟨"TickLinesModel", "serve", "(II)V"⟩, 33), (⟨"TickLinesModel", "tickOne", "(I)V"⟩, 33), (⟨"TickLinesModel", "put", "(II)V"⟩, 33), (⟨"TickLinesModel", "step", "(I)V"⟩, 33), (⟨"TickLinesModel", "turn", "(I)V"⟩, 33)]
theorem lw_r4 : ∀ q ∈ lw_privs_4, lw_okq q := List.forall_mem_cons.mpr ⟨lw_p48, List.forall_mem_cons.mpr ⟨lw_p49, List.forall_mem_cons.mpr ⟨lw_p50, List.forall_mem_cons.mpr ⟨lw_p51, List.forall_mem_cons.mpr ⟨lw_p52, List.forall_mem_cons.mpr ⟨lw_p53, fun _ h => absurd h List.not_mem_nil⟩⟩⟩⟩⟩⟩
def lw_privs : List (MethodName × Nat) := lw_privs_1 ++ (lw_privs_2 ++ (lw_privs_3 ++ (lw_privs_4)))
def lw_tbl : List Cond := k2_sels lw_privs ++ tables_1
theorem lw_privs_ok : ∀ q ∈ lw_privs, lw_okq q := by
  show ∀ q ∈ lw_privs_1 ++ (lw_privs_2 ++ (lw_privs_3 ++ (lw_privs_4))), lw_okq q
  exact List.forall_mem_append.mpr ⟨lw_r1, List.forall_mem_append.mpr ⟨lw_r2, List.forall_mem_append.mpr ⟨lw_r3, lw_r4⟩⟩⟩
end
section
/-! ===== BEGIN words of one list among another's, by their places ===== -/
theorem goodIn_r {big : List Cond} (ws : List Cond) (ps : List Nat) (hp : ws = ps.filterMap (fun i => big[i]?)) (h : ws.all goodWord = true) : GoodIn big ws := by
  intro w hw
  have h1 := List.all_eq_true.mp h w hw
  rw [hp] at hw
  obtain ⟨i, -, hi⟩ := List.mem_filterMap.mp hw
  have hm : w ∈ big := by first | exact List.mem_of_getElem? hi | exact List.getElem?_mem hi
  exact ⟨hm, good_of_word h1⟩
theorem goodIn_app {big a b : List Cond} (ha : GoodIn big a) (hb : GoodIn big b) : GoodIn big (a ++ b) := fun w h => (List.mem_append.mp h).elim (ha w) (hb w)
theorem goodIn_ca {big a b : List Cond} {c : Cond} (ha : GoodIn big (c :: a)) (hb : GoodIn big b) : GoodIn big (c :: (a ++ b)) := fun w h => (List.mem_cons.mp h).elim (fun e => ha w (List.mem_cons.mpr (Or.inl e))) (fun h => (List.mem_append.mp h).elim (fun h => ha w (List.mem_cons.mpr (Or.inr h))) (hb w))
theorem goodIn_sub {big ws : List Cond} (hm : ∀ w ∈ ws, w ∈ big) (h : ws.all goodWord = true) : GoodIn big ws := fun w hw => ⟨hm w hw, good_of_word (List.all_eq_true.mp h w hw)⟩
/-! ===== END ===== -/

/-! ===== BEGIN exceptions that leave a method, and their catching by the caller (launches without stack traces) ===== -/
section VXA
/-! The laws vx_back, vx_callV, vx_callS, vx_callSW, vx_throw0, vx_throwS follow proofs of the library, with one case more: JvmDerived/Free/Laws.lean (Back.of_free), Shelf42/LK1.lean (callV, callS), Shelf/KitTraced.lean (throwNew0V, throwNewS). -/
/-- where a method has thrown q: the class by its name, the cell, what was written, the world -/
def vx_T (XC : String → State → State → Prop) (st : State) (q : Addr) (t : State) (mc ms : Nat) (free : Addr → Prop) : Prop :=
  ∃ (E : String) (ce : Cell) (L : List Loc), XC E st t ∧ t.heap[q]? = some ce ∧ ce.vm = .none ∧ st.vm.findClass E = some ce.cls ∧ st.WarmedH t.vm ∧ st.sameButNew ({ t with vm := st.vm } : State) L mc ms ∧ ∀ z ∈ L, free z.base
def vx_Q (Qc : Array Value → State → Outcome → State → Prop) (XC : String → State → State → Prop) (mc ms : Nat) (free : Addr → Prop) : Array Value → State → Outcome → State → Prop := fun a st o t =>
  (Qc a st o t ∧ ∃ L, FrameEnd st o t L mc ms ∧ ∀ q ∈ L, free q.base) ∨ ∃ q, o = .threw q ∧ vx_T XC st q t mc ms free
/-- a callee that returns or throws -/
def vx_Met (l : Launch) (y : MethodName) (ws : List Cond) (rm : Room) (Pc : Array Value → State → Prop) (Qc : Array Value → State → Outcome → State → Prop) (XC : String → State → State → Prop) (mc ms : Nat) (free : Addr → Prop) : Prop :=
  MetFree l y (headSpec ws rm) Pc (fun _ _ _ _ _ => True) (vx_Q Qc XC mc ms free)
def vx_Post (XC : String → State → State → Prop) (mc ms : Nat) (free : Addr → Prop) : Pt → Array Value → Addr → Pt → Prop := fun A a q B =>
  ∃ (g : JFrame) (mk : MethodId) (t : State) (L : List Loc) (E : String) (ce : Cell), B.U.heap = t.heap ∧ B.U.vm = t.vm ∧ XC E (A.U.calling g mk a) t ∧ t.heap[q]? = some ce ∧ ce.vm = .none ∧ A.U.vm.findClass E = some ce.cls ∧ B.locs = A.locs ++ L ∧ (∀ z ∈ L, free z.base) ∧ B.cells = A.cells + mc ∧ B.slots = A.slots + ms
def vx_Back (l : Launch) (R : Room) (p : Program) (e : Env) (below : List Frame) (s : State) (sargs : Array Value) (y : MethodName) (len W9 : Nat)
    (Pre : Pt → Array Value → Prop) (Post : Pt → Array Value → Option Value → Pt → Prop) (PostX : Pt → Array Value → Addr → Pt → Prop) : Prop :=
  ∀ (m : MethodId) (meth : Method) (c : Code) (A : Pt) (g : JFrame) (ig : Instr) (mk : MethodId) (a : Array Value),
    Stand p l e R s m sargs below meth c A.U A.locs A.cells A.slots → g.method = m → g.locals.size = c.maxLocals → decode c.code g.pc = .ok (ig, len) →
    2 * g.monitorRoom + (g.stack.map fun v => v.category).sum ≤ W9 → A.U.methodNamed? y = some mk → Pre A a →
    (∃ (v : Option Value) (B : Pt), Stand p l e R s m sargs below meth c B.U B.locs B.cells B.slots ∧ Post A a v B ∧
      Steps p.tables e below (doInvoke e (A.U.setTop g) [] mk a).1 (B.U.setTop { g with pc := g.pc + len, stack := v.toList ++ g.stack })) ∨
    (∃ (q : Addr) (B : Pt), Stand p l e R s m sargs below meth c B.U B.locs B.cells B.slots ∧ PostX A a q B ∧
      Steps p.tables e below (doInvoke e (A.U.setTop g) [] mk a).1 ((B.U.setTop g).pushFrame (.throwing q)))
section Payer
variable {l : Launch} {R : Room} {p : Program} {e : Env} {below : List Frame} {s : State} {sargs : Array Value} {y : MethodName} {len W9 : Nat}
theorem vx_back {ws : List Cond} {rm : Room} {Pc : Array Value → State → Prop} {Qc : Array Value → State → Outcome → State → Prop} {XC : String → State → State → Prop} {mc ms : Nat} {free : Addr → Prop} {bytes : ByteArray} {maxL : Nat} {ret : Option FieldType}
    (hM : vx_Met l y ws rm Pc Qc XC mc ms free) (hblind : FrameBlind Pc) (hrc : rm.cells = mc) (hrs : rm.slots = ms)
    (hframes : rm.frames + 1 ≤ R.frames) (hlocals : W9 + (maxL + 11) + rm.locals ≤ R.locals)
    (hws : ∀ w ∈ ws, ∀ a' U, s.WarmedH U.vm → w.before a' U = true) (hcode : Cond.code y bytes maxL ret ∈ ws) (hinit : ∀ a' U, s.WarmedH U.vm → (Cond.initialized y.cls).before a' U = true) :
    vx_Back l R p e below s sargs y len W9 (PreOf R mc ms Pc) (PostOf Qc mc ms free) (vx_Post XC mc ms free) := by
  intro m meth c A g ig mk a X hg hsize hdg hW hn hp
  have h1 : (headSpec ws rm).pre.before a A.U = true := atoms_intro fun w hw => hws w hw _ _ X.warmed
  have h2 : (Cond.code y bytes maxL ret).before a A.U = true := hws _ hcode _ _ X.warmed
  have h3 : (Cond.initialized y.cls).before a A.U = true := hinit _ _ X.warmed
  have h4 : A.cells + (headSpec ws rm).room.cells ≤ R.cells := by rw [show (headSpec ws rm).room.cells = mc from hrc]; exact hp.1
  have h5 : A.slots + (headSpec ws rm).room.slots ≤ R.slots := by rw [show (headSpec ws rm).room.slots = ms from hrs]; exact hp.2.1
  have hPc : Pc a (A.U.calling g mk a) := hblind _ _ _ _ hp.2.2
  obtain ⟨U, Ls, c0, s0⟩ := A
  dsimp only [Pt.U, Pt.locs, Pt.cells, Pt.slots] at h1 h2 h3 h4 h5 X hn hPc ⊢
  obtain ⟨methY, cY, hmY, hcY, -, hlY, -, -, -, -⟩ := Cond.code_spec hn h2
  obtain ⟨kY, hkY, -⟩ := className_of_methodNamed hn
  have hinitY : kY.init = .initialized := Cond.initialized_spec (findClass_of_methodNamed hn) hkY h3
  have h : At U g.method c below := by rw [hg]; exact X.here
  have hlocals9 : W9 + (maxL + 11) + (headSpec ws rm).room.locals ≤ R.locals := hlocals
  have happ : (headSpec ws rm).appliesLoose y e.platform (U.calling g mk a) = true :=
    Spec.appliesLoose_calling (g := g) h hdg hn hkY hinitY
      (X.room_calling (g := g) (R' := (headSpec ws rm).room) hsize hmY hcY hframes (by rw [hlY]; omega) h4 h5) h1
  obtain ⟨mid, hmid⟩ := h.above
  have hfr : (U.setTop g).frames = (.java g :: mid) ++ below := by rw [State.frames_setTop' g h.top, hmid]; rfl
  obtain ⟨o, s₂, hsteps, -, hend, hq⟩ := Steps.callFree hM p X.admits X.cas X.clock (acts := []) hfr happ hPc trivial
  have hq' : vx_Q Qc XC mc ms free a (U.calling g mk a) o s₂ := hq
  rw [State.frames_setTop' g h.top] at hend
  obtain ⟨g₀, hg0⟩ := Option.isSome_iff_exists.mp h.top
  obtain ⟨r, hr⟩ := State.topJava?_eq_some.mp hg0
  have hr' : (({ U with heap := s₂.heap, slotsUsed := s₂.slotsUsed } : State).setVm s₂.vm).frames = .java g₀ :: r := hr
  rcases hq' with ⟨hqc, L, hfe, hL⟩ | ⟨q, rfl, E, ce, L, hx, hce, hcv, hcl, hW₂, hsm, hL⟩
  · obtain ⟨⟨v, rfl⟩, hW₂, e2, q2, q3, q4, q5, q6⟩ := id hfe
    have e3 : s₂ = ({ (U.calling g mk a).setFrames s₂.frames with heap := s₂.heap, slotsUsed := s₂.slotsUsed } : State).setVm s₂.vm := by
      have : s₂ = ({ s₂ with vm := (U.calling g mk a).vm } : State).setVm s₂.vm := rfl
      rw [e2] at this
      exact this
    obtain ⟨c₂, i₂, len₂, hc₂, hd₂, hf₂⟩ := hend
    have hW' : U.WarmedH s₂.vm := hW₂
    have hcc : c₂ = c := by
      have h1 : s₂.code? g.method = U.code? g.method := by
        rw [State.code?_eq, State.code?_eq, hW'.alike.method?]
      exact Option.some.inj (hc₂.symm.trans (h1.trans h.code))
    subst hcc
    have hlen : len₂ = len := by rw [hdg] at hd₂; cases hd₂; rfl
    subst hlen
    have hs₂ : s₂ = (({ U with heap := s₂.heap, slotsUsed := s₂.slotsUsed } : State).setVm s₂.vm).setTop { g with pc := g.pc + len₂, stack := v.toList ++ g.stack } := by
      refine e3.trans ?_
      rw [hf₂, State.calling_eq h.top, State.setFrames_setFrames, State.setTop_of_frames _ hr', hr]
      rfl
    have hsame : U.sameButNew ({ U with heap := s₂.heap, slotsUsed := s₂.slotsUsed } : State) L mc ms := by
      refine ⟨?_, q2, q3, q4, q5, q6⟩
      obtain ⟨t, ht, -⟩ := State.frames_cons hr
      show ({ U with heap := s₂.heap, slotsUsed := s₂.slotsUsed } : State) = { U.setFrames U.frames with heap := s₂.heap, slotsUsed := s₂.slotsUsed }
      rw [State.setFrames_self ht]
    subst hg
    refine Or.inl ⟨v, ⟨(({ U with heap := s₂.heap, slotsUsed := s₂.slotsUsed } : State).setVm s₂.vm), Ls ++ L, c0 + mc, s0 + ms⟩,
      ⟨X.admits, X.cas, X.clock, X.frames, X.room, X.hears, X.method, X.code, (X.here.setHeapUsed s₂.heap s₂.slotsUsed).setVm hW'.alike, X.tail, State.WarmedH.trans X.warmed hW', X.limits, X.bytes, X.same.trans (hsame.setVm s.vm)⟩,
      ⟨g, mk, s₂, L, rfl, rfl, hqc, rfl, hL, rfl, rfl⟩, ?_⟩
    show Steps p.tables e below _ ((({ U with heap := s₂.heap, slotsUsed := s₂.slotsUsed } : State).setVm s₂.vm).setTop { g with pc := g.pc + len₂, stack := v.toList ++ g.stack })
    rw [← hs₂]
    exact hsteps
  · obtain ⟨e2, q2, q3, q4, q5, q6⟩ := id hsm
    have e3 : s₂ = ({ (U.calling g mk a).setFrames s₂.frames with heap := s₂.heap, slotsUsed := s₂.slotsUsed } : State).setVm s₂.vm := by
      have : s₂ = ({ s₂ with vm := (U.calling g mk a).vm } : State).setVm s₂.vm := rfl
      rw [e2] at this
      exact this
    have hf₂ : s₂.frames = .throwing q :: .java g :: U.frames.tail := hend
    have hW' : U.WarmedH s₂.vm := hW₂
    have hs₂ : s₂ = ((({ U with heap := s₂.heap, slotsUsed := s₂.slotsUsed } : State).setVm s₂.vm).setTop g).pushFrame (.throwing q) := by
      refine e3.trans ?_
      rw [hf₂, State.calling_eq h.top, State.setFrames_setFrames, State.pushFrame, State.frames_setTop _ hr', State.setTop_of_frames _ hr', State.setFrames_setFrames, hr]
      rfl
    have hsame : U.sameButNew ({ U with heap := s₂.heap, slotsUsed := s₂.slotsUsed } : State) L mc ms := by
      refine ⟨?_, q2, q3, q4, q5, q6⟩
      obtain ⟨t, ht, -⟩ := State.frames_cons hr
      show ({ U with heap := s₂.heap, slotsUsed := s₂.slotsUsed } : State) = { U.setFrames U.frames with heap := s₂.heap, slotsUsed := s₂.slotsUsed }
      rw [State.setFrames_self ht]
    subst hg
    refine Or.inr ⟨q, ⟨(({ U with heap := s₂.heap, slotsUsed := s₂.slotsUsed } : State).setVm s₂.vm), Ls ++ L, c0 + mc, s0 + ms⟩,
      ⟨X.admits, X.cas, X.clock, X.frames, X.room, X.hears, X.method, X.code, (X.here.setHeapUsed s₂.heap s₂.slotsUsed).setVm hW'.alike, X.tail, State.WarmedH.trans X.warmed hW', X.limits, X.bytes, X.same.trans (hsame.setVm s.vm)⟩,
      ⟨g, mk, s₂, L, E, ce, rfl, rfl, hx, hce, hcv, hcl, rfl, hL, rfl, rfl⟩, ?_⟩
    show Steps p.tables e below _ (((({ U with heap := s₂.heap, slotsUsed := s₂.slotsUsed } : State).setVm s₂.vm).setTop g).pushFrame (.throwing q))
    rw [← hs₂]
    exact hsteps
end Payer
section Calls
variable {p : Program} {l : Launch} {e : Env} {R : Room} {s : State} {m : MethodId} {args : Array Value} {below : List Frame} {meth : Method} {c : Code} {T : State} {locs : List Loc} {cells slots : Nat}
theorem vx_callV (X : Stand p l e R s m args below meth c T locs cells slots) (hexec : p.tables.exec = Jvm.exec) {own C : String} {index : Nat} {y : MethodName} {bytes : ByteArray} {maxL : Nat} {ret : Option FieldType}
    (hown : s.vm.findClass own = some m.cls) (hlink : (Cond.methodLink own index y).before args s = true) (hinst : (Cond.instanceMethod y).before args s = true) (hsel : (Cond.selects C y y).before args s = true)
    (hcode : (Cond.code y bytes maxL ret).before args s = true) (hy : y.cls ≠ "java/lang/invoke/MethodHandle" ∧ y.cls ≠ "java/lang/invoke/VarHandle")
    {W9 : Nat} {Pre : Pt → Array Value → Prop} {Post : Pt → Array Value → Option Value → Pt → Prop} {PostX : Pt → Array Value → Addr → Pt → Prop} (hK : vx_Back l R p e below s args y 3 W9 Pre Post PostX)
    {b : Addr} {cellB : Cell} (hcell : T.heap[b]? = some cellB) (hobj : cellB.vm.isStatics = false) (hcls : s.vm.findClass C = some cellB.cls)
    {g : JFrame} (hg : g.method = m) (hsize : g.locals.size = c.maxLocals) {argsL rest : List Value} (hlen : ∀ sig, parseMethodDescriptor y.desc = some sig → argsL.length = sig.parameters.length)
    (hstack : g.stack = argsL.reverse ++ .ref b :: rest) (hW : 2 * g.monitorRoom + (rest.map fun v => v.category).sum ≤ W9) (hdg : decode c.code g.pc = .ok (.invokevirtual index, 3))
    (hpre : ∀ vm₁, s.WarmedH vm₁ → Pre ⟨T.setVm vm₁, locs, cells, slots⟩ (Value.ref b :: argsL).toArray) :
    (∃ (v : Option Value) (vm₁ : Vm) (B : Pt), s.WarmedH vm₁ ∧ Stand p l e R s m args below meth c B.U B.locs B.cells B.slots ∧ Post ⟨T.setVm vm₁, locs, cells, slots⟩ (Value.ref b :: argsL).toArray v B ∧
      ∀ target, Steps p.tables e below (B.U.setTop { g with pc := g.pc + 3, stack := v.toList ++ rest }) target → Steps p.tables e below (T.setTop g) target) ∨
    (∃ (q : Addr) (vm₁ : Vm) (B : Pt), s.WarmedH vm₁ ∧ Stand p l e R s m args below meth c B.U B.locs B.cells B.slots ∧ PostX ⟨T.setVm vm₁, locs, cells, slots⟩ (Value.ref b :: argsL).toArray q B ∧
      Steps p.tables e below (T.setTop g) ((B.U.setTop { g with stack := rest }).pushFrame (.throwing q))) := by
  obtain ⟨mk, methM, hnamed, hmethM, hstM, habM⟩ := Cond.instanceMethod_spec hinst
  obtain ⟨methM', cM, hmethM', -, -, -, -, -, -, hsigM⟩ := Cond.code_spec hnamed hcode
  cases hmethM.symm.trans hmethM'
  obtain ⟨c2, r2, m2, q1, q2, q3, q4, kP, hkP, hkPi⟩ := Cond.selects_spec hsel
  cases hcls.symm.trans q1
  cases (State.methodFound?_of_named hnamed hy).symm.trans q2
  cases hnamed.symm.trans q3
  have hselP : selectMethod e.platform s.vm cellB.cls mk = .method mk := by rw [Launch.admits_selectMethod X.admits]; exact q4
  obtain ⟨vm₁, X₁, hstep₁⟩ := X.invokevirtual hexec hown hlink hnamed hmethM hstM hkP hkPi hy (a := b) (cell := cellB) hcell
    (fun z h => by rw [h] at hobj; cases hobj) hselP hmethM habM hkP hkPi (g := g) hg (argsL := argsL) (rest := rest) (hlen _ hsigM) hstack hdg
  rcases hK m meth c ⟨T.setVm vm₁, locs, cells, slots⟩ { g with stack := rest } (.invokevirtual index) mk (Value.ref b :: argsL).toArray X₁ hg hsize hdg hW (X₁.named hnamed) (hpre vm₁ X₁.warmed) with ⟨v, B, X', hpost, hsteps⟩ | ⟨q, B, X', hpost, hsteps⟩
  · exact Or.inl ⟨v, vm₁, B, X₁.warmed, X', hpost, fun target h => hstep₁ _ fun acts => by rw [doInvoke_state]; exact hsteps.trans h⟩
  · exact Or.inr ⟨q, vm₁, B, X₁.warmed, X', hpost, hstep₁ _ fun acts => by rw [doInvoke_state]; exact hsteps⟩
theorem vx_callS (X : Stand p l e R s m args below meth c T locs cells slots) (hexec : p.tables.exec = Jvm.exec) {own : String} {index : Nat} {y : MethodName} {bytes : ByteArray} {maxL : Nat} {ret : Option FieldType}
    (hown : s.vm.findClass own = some m.cls) (hlink : (Cond.methodLink own index y).before args s = true) (hstat : (Cond.static y).before args s = true) (hinit : (Cond.initialized y.cls).before args s = true)
    (hcode : (Cond.code y bytes maxL ret).before args s = true) (hy : y.cls ≠ "java/lang/invoke/MethodHandle" ∧ y.cls ≠ "java/lang/invoke/VarHandle")
    {W9 : Nat} {Pre : Pt → Array Value → Prop} {Post : Pt → Array Value → Option Value → Pt → Prop} {PostX : Pt → Array Value → Addr → Pt → Prop} (hK : vx_Back l R p e below s args y 3 W9 Pre Post PostX)
    {g : JFrame} (hg : g.method = m) (hsize : g.locals.size = c.maxLocals) {argsL rest : List Value} (hlen : ∀ sig, parseMethodDescriptor y.desc = some sig → argsL.length = sig.parameters.length)
    (hstack : g.stack = argsL.reverse ++ rest) (hW : 2 * g.monitorRoom + (rest.map fun v => v.category).sum ≤ W9) (hdg : decode c.code g.pc = .ok (.invokestatic index, 3))
    (hpre : ∀ vm₁, s.WarmedH vm₁ → Pre ⟨T.setVm vm₁, locs, cells, slots⟩ argsL.toArray) :
    (∃ (v : Option Value) (vm₁ : Vm) (B : Pt), s.WarmedH vm₁ ∧ Stand p l e R s m args below meth c B.U B.locs B.cells B.slots ∧ Post ⟨T.setVm vm₁, locs, cells, slots⟩ argsL.toArray v B ∧
      ∀ target, Steps p.tables e below (B.U.setTop { g with pc := g.pc + 3, stack := v.toList ++ rest }) target → Steps p.tables e below (T.setTop g) target) ∨
    (∃ (q : Addr) (vm₁ : Vm) (B : Pt), s.WarmedH vm₁ ∧ Stand p l e R s m args below meth c B.U B.locs B.cells B.slots ∧ PostX ⟨T.setVm vm₁, locs, cells, slots⟩ argsL.toArray q B ∧
      Steps p.tables e below (T.setTop g) ((B.U.setTop { g with stack := rest }).pushFrame (.throwing q))) := by
  obtain ⟨mk, hnamed⟩ := Cond.code_named hcode
  obtain ⟨methM, cM, hmethM, -, -, -, -, -, -, hsigM⟩ := Cond.code_spec hnamed hcode
  have hstatic : methM.isStatic = true := Cond.static_spec hnamed hmethM hstat
  obtain ⟨kP, hkP, -⟩ := className_of_methodNamed hnamed
  have hinitP : kP.init = .initialized := Cond.initialized_spec (findClass_of_methodNamed hnamed) hkP hinit
  obtain ⟨vm₁, X₁, hstep₁⟩ := X.invokestatic hexec hown hlink hnamed hmethM hstatic hkP hinitP hy (g := g) hg (argsL := argsL) (rest := rest) (hlen _ hsigM) hstack hdg
  rcases hK m meth c ⟨T.setVm vm₁, locs, cells, slots⟩ { g with stack := rest } (.invokestatic index) mk argsL.toArray X₁ hg hsize hdg hW (X₁.named hnamed) (hpre vm₁ X₁.warmed) with ⟨v, B, X', hpost, hsteps⟩ | ⟨q, B, X', hpost, hsteps⟩
  · exact Or.inl ⟨v, vm₁, B, X₁.warmed, X', hpost, fun target h => hstep₁ _ fun acts => by rw [doInvoke_state]; exact hsteps.trans h⟩
  · exact Or.inr ⟨q, vm₁, B, X₁.warmed, X', hpost, hstep₁ _ fun acts => by rw [doInvoke_state]; exact hsteps⟩
end Calls
theorem vx_cls {s : State} {T : State} {vm₁ : Vm} {E : String} {k : ClassId} (hW : s.WarmedH vm₁) (h : (T.setVm vm₁).vm.findClass E = some k) : s.vm.findClass E = some k := by
  have h1 : vm₁.findClass E = some k := h
  rw [hW.alike.findClass] at h1
  exact h1
/-- the method's frame g, with q thrown over it -/
def vx_W (p : Program) (l : Launch) (e : Env) (R : Room) (s : State) (m : MethodId) (args : Array Value) (below : List Frame) (meth : Method) (c : Code) (H : Heap) (locs : List Loc) (cells slots : Nat) (Q : State → Prop) (g : JFrame) (q : Addr) : Prop :=
  ∀ T : State, T.heap = H → Stand p l e R s m args below meth c T locs cells slots → ∃ t, Steps p.tables e below ((T.setTop g).pushFrame (.throwing q)) t ∧ Q t
def vx_Run (p : Program) (l : Launch) (e : Env) (R : Room) (s : State) (m : MethodId) (args : Array Value) (below : List Frame) (meth : Method) (c : Code) (H : Heap) (locs : List Loc) (cells slots mc ms : Nat) (g : JFrame) (rest : List Value) (Qa : State → Outcome → State → Prop) (XC : String → State → State → Prop) (free : Addr → Prop) : Prop :=
  ∀ T : State, T.heap = H → Stand p l e R s m args below meth c T locs cells slots →
    (∃ (v : Option Value) (st₀ t T' : State) (L : List Loc), st₀.heap = H ∧ Stand p l e R s m args below meth c T' (locs ++ L) (cells + mc) (slots + ms) ∧ (∀ q ∈ L, free q.base) ∧ T'.heap = t.heap ∧ T'.vm = t.vm ∧ Qa st₀ (.returned v) t ∧
      Goes p e below T g T' { g with pc := g.pc + 3, stack := v.toList ++ rest }) ∨
    (∃ (q : Addr) (st₀ t T' : State) (L : List Loc) (E : String) (ce : Cell), st₀.heap = H ∧ Stand p l e R s m args below meth c T' (locs ++ L) (cells + mc) (slots + ms) ∧ (∀ z ∈ L, free z.base) ∧ T'.heap = t.heap ∧ T'.vm = t.vm ∧ XC E st₀ t ∧ t.heap[q]? = some ce ∧ ce.vm = .none ∧ s.vm.findClass E = some ce.cls ∧
      Steps p.tables e below (T.setTop g) ((T'.setTop { g with stack := rest }).pushFrame (.throwing q)))
def vx_X {S : Type} (px : S → Prop) (B : String → S → State → Prop) (A : Nat → Prop) : String → State → State → Prop := fun E st t => ∃ u : S, px u ∧ B E u t ∧ va_F A st t
section Runs
variable {p : Program} {l : Launch} {e : Env} {R : Room} {s : State} {m : MethodId} {args : Array Value} {below : List Frame} {meth : Method} {c : Code} {H : Heap} {locs : List Loc} {cells slots : Nat}
variable {y : MethodName} {bytes cc : ByteArray} {maxL nL mc ms n index : Nat} {ret : Option FieldType} {ws : List Cond} {rm : Room} {Pc : Array Value → State → Prop} {Qc : Array Value → State → Outcome → State → Prop} {XC : String → State → State → Prop} {free : Addr → Prop} {Ts : List Cond} {own C : String} {b : Addr} {As rest : List Value} {g : JFrame}
theorem vx_callBack (cb : CallB R s args own index y bytes maxL ret ws rm mc ms n) (hM : vx_Met l y ws rm Pc Qc XC mc ms free) (hbl : FrameBlind Pc) : vx_Back l R p e below s args y 3 8 (PreOf R mc ms Pc) (PostOf Qc mc ms free) (vx_Post XC mc ms free) := by
  obtain ⟨hrc, hrs, hfr, hlo, hws, hcw, -, hini, -⟩ := cb
  exact vx_back (bytes := bytes) (maxL := maxL) (ret := ret) hM hbl hrc hrs hfr hlo hws hcw (fun a' U hW => word_at hW (Or.inl (by first | rfl | simp [Cond.onTables, Cond.keeps, Cond.steady])) hini)
theorem vx_runV (S : CallFix p m c cc nL s args Ts own) (hM : vx_Met l y ws rm Pc Qc XC mc ms free) (cw : CallW R s args own C index y bytes maxL ret ws rm mc ms n) (hp : PreV s H C b Pc As)
    (hg : g.method = m) (hn : As.length = n) (hsize : g.locals.size = nL) (hstack : g.stack = As.reverse ++ .ref b :: rest) (hW : 2 * g.monitorRoom + (rest.map fun v => v.category).sum ≤ 8) (hdg : decode cc g.pc = .ok (.invokevirtual index, 3)) (hf : cells + mc ≤ R.cells ∧ slots + ms ≤ R.slots) :
    vx_Run p l e R s m args below meth c H locs cells slots mc ms g rest (Qc (Value.ref b :: As).toArray) XC free := by
  have hK : vx_Back l R p e below s args y 3 8 (PreOf R mc ms Pc) (PostOf Qc mc ms free) (vx_Post XC mc ms free) := vx_callBack cw.1 hM hp.1
  obtain ⟨⟨-, -, -, -, -, -, hcode, -, hy, hlen, hl⟩, hin, hse⟩ := cw
  obtain ⟨hx, hb, hml, ho, -⟩ := S
  obtain ⟨-, ⟨cellB, hcB, hoB, hclB⟩, hPc⟩ := hp
  intro T hT X
  rcases vx_callV X hx (C := C) (bytes := bytes) (maxL := maxL) (ret := ret) ho hl hin hse hcode hy hK (by rw [hT]; exact hcB) hoB hclB hg (hsize.trans hml.symm) (argsL := As) (rest := rest) (fun sig h => hn.trans (hlen sig h)) hstack hW (by rw [hb]; exact hdg)
    (fun vm₁ hW₁ => ⟨hf.1, hf.2, hPc (T.setVm vm₁) hT hW₁⟩) with ⟨v, vm₁, ⟨U', l2, c2, s2⟩, hW₁, X', ⟨g', mk, t, L, e1, e2, hq, h1, hL, h2, h3⟩, st⟩ | ⟨q, vm₁, ⟨U', l2, c2, s2⟩, hW₁, X', ⟨g', mk, t, L, E, ce, e1, e2, hq, hce, hcv, hcl, h1, hL, h2, h3⟩, st⟩
  · dsimp only [Pt.U, Pt.locs, Pt.cells, Pt.slots] at X' e1 e2 h1 h2 h3 st
    subst h1; subst h2; subst h3
    exact Or.inl ⟨v, (T.setVm vm₁).calling g' mk (Value.ref b :: As).toArray, t, U', L, hT, X', hL, e1, e2, hq, st⟩
  · dsimp only [Pt.U, Pt.locs, Pt.cells, Pt.slots] at X' e1 e2 h1 h2 h3 st hcl
    subst h1; subst h2; subst h3
    exact Or.inr ⟨q, (T.setVm vm₁).calling g' mk (Value.ref b :: As).toArray, t, U', L, E, ce, hT, X', hL, e1, e2, hq, hce, hcv, vx_cls hW₁ hcl, st⟩
theorem vx_runS (S : CallFix p m c cc nL s args Ts own) (hM : vx_Met l y ws rm Pc Qc XC mc ms free) (cw : CallB R s args own index y bytes maxL ret ws rm mc ms n ∧ (Cond.static y).before args s = true) (hp : PreS s H Pc As)
    (hg : g.method = m) (hn : As.length = n) (hsize : g.locals.size = nL) (hstack : g.stack = As.reverse ++ rest) (hW : 2 * g.monitorRoom + (rest.map fun v => v.category).sum ≤ 8) (hdg : decode cc g.pc = .ok (.invokestatic index, 3)) (hf : cells + mc ≤ R.cells ∧ slots + ms ≤ R.slots) :
    vx_Run p l e R s m args below meth c H locs cells slots mc ms g rest (Qc As.toArray) XC free := by
  have hK : vx_Back l R p e below s args y 3 8 (PreOf R mc ms Pc) (PostOf Qc mc ms free) (vx_Post XC mc ms free) := vx_callBack cw.1 hM hp.1
  obtain ⟨⟨-, -, -, -, -, -, hcode, hini, hy, hlen, hl⟩, hstt⟩ := cw
  obtain ⟨hx, hb, hml, ho, -⟩ := S
  intro T hT X
  rcases vx_callS X hx (bytes := bytes) (maxL := maxL) (ret := ret) ho hl hstt hini hcode hy hK hg (hsize.trans hml.symm) (argsL := As) (rest := rest) (fun sig h => hn.trans (hlen sig h)) hstack hW (by rw [hb]; exact hdg)
    (fun vm₁ hW₁ => ⟨hf.1, hf.2, hp.2 (T.setVm vm₁) hT hW₁⟩) with ⟨v, vm₁, ⟨U', l2, c2, s2⟩, hW₁, X', ⟨g', mk, t, L, e1, e2, hq, h1, hL, h2, h3⟩, st⟩ | ⟨q, vm₁, ⟨U', l2, c2, s2⟩, hW₁, X', ⟨g', mk, t, L, E, ce, e1, e2, hq, hce, hcv, hcl, h1, hL, h2, h3⟩, st⟩
  · dsimp only [Pt.U, Pt.locs, Pt.cells, Pt.slots] at X' e1 e2 h1 h2 h3 st
    subst h1; subst h2; subst h3
    exact Or.inl ⟨v, (T.setVm vm₁).calling g' mk As.toArray, t, U', L, hT, X', hL, e1, e2, hq, st⟩
  · dsimp only [Pt.U, Pt.locs, Pt.cells, Pt.slots] at X' e1 e2 h1 h2 h3 st hcl
    subst h1; subst h2; subst h3
    exact Or.inr ⟨q, (T.setVm vm₁).calling g' mk As.toArray, t, U', L, E, ce, hT, X', hL, e1, e2, hq, hce, hcv, vx_cls hW₁ hcl, st⟩
end Runs
section Rows
variable {p : Program} {l : Launch} {e : Env} {R : Room} {s : State} {m : MethodId} {args : Array Value} {below : List Frame} {meth : Method} {c : Code} {H : Heap} {locs : List Loc} {cells slots : Nat} {Q : State → Prop}
variable {mc ms : Nat} {free : Addr → Prop} {A0 A1 : Nat → Prop} {H0 : Heap} {a : Array Value} {pc : Nat} {ls : Array Slot} {st0 rest : List Value}
theorem vx_keep {st₀ t T' : State} {L : List Loc} (h0 : st₀.heap = H) (e1 : T'.heap = t.heap) (hS : va_S A0 H0 H locs) (hA : ∀ q, q < H.size → A1 q → A0 q) (hf : ∀ q, free q → A0 q) (hL : ∀ q ∈ L, free q.base) (hF : va_F A1 st₀ t) :
    H.size ≤ T'.heap.size ∧ (∀ q : Nat, q < H.size → ¬ A1 q → T'.heap[q]? = H[q]?) ∧ va_S A0 H0 T'.heap (locs ++ L) := by
  obtain ⟨hz, hk⟩ := hF
  rw [h0] at hz hk
  exact ⟨by rw [e1]; exact hz, fun q h1 h2 => by rw [e1]; exact hk q h1 h2,
    ⟨Nat.le_trans hS.1 (by rw [e1]; exact hz), fun q h1 h2 => by rw [e1, hk q (Nat.lt_of_lt_of_le h1 hS.1) (fun z => h2 (hA q (Nat.lt_of_lt_of_le h1 hS.1) z))]; exact hS.2.1 q h1 h2, fun q hq => by
      rcases List.mem_append.mp hq with h | h
      · exact hS.2.2 q h
      · exact hf _ (hL q h)⟩⟩
theorem vx_calli {S SX : Type} {post : Int32 → S → Prop} {px : SX → Prop} {B : S → State → Prop} {BX : String → SX → State → Prop} {AX : Nat → Prop} (hr : vx_Run p l e R s m args below meth c H locs cells slots mc ms (F0 m pc ls st0) rest (va_Qi post B A1 a) (vx_X px BX AX) free) (hS : va_S A0 H0 H locs) (hA : ∀ q, q < H.size → A1 q → A0 q) (hf : ∀ q, free q → A0 q) (hAX : ∀ q, q < H.size → AX q → A0 q)
    (kx : ∀ (E : String) (ce : Cell) (q9 : Addr) (u : SX) (t : State) (H1 : Heap) (locs1 : List Loc), t.heap = H1 → s.vm.Alike t.vm → px u → BX E u t → H.size ≤ H1.size → (∀ q : Nat, q < H.size → ¬ AX q → H1[q]? = H[q]?) → va_S A0 H0 H1 locs1 → H1[q9]? = some ce → ce.vm = .none → s.vm.findClass E = some ce.cls → vx_W p l e R s m args below meth c H1 locs1 (cells + mc) (slots + ms) Q (F0 m pc ls rest) q9)
    (kk : ∀ (r : Int32) (u : S) (t : State) (H1 : Heap) (locs1 : List Loc), t.heap = H1 → s.vm.Alike t.vm → post r u → B u t → H.size ≤ H1.size → (∀ q : Nat, q < H.size → ¬ A1 q → H1[q]? = H[q]?) → va_S A0 H0 H1 locs1 → W p l e R s m args below meth c H1 locs1 (cells + mc) (slots + ms) Q (F0 m (pc + 3) ls (.int r :: rest))) : W p l e R s m args below meth c H locs cells slots Q (F0 m pc ls st0) := by
  intro T hT X
  rcases hr T hT X with ⟨v, st₀, t, T', L, h0, X', hL, e1, e2, ⟨⟨r, u, hv, hp, hb⟩, hF⟩, st⟩ | ⟨q, st₀, t, T', L, E, ce, h0, X', hL, e1, e2, ⟨u, hp, hb, hF⟩, hce, hcv, hcl, st⟩
  · cases hv
    obtain ⟨k1, k2, k3⟩ := vx_keep h0 e1 hS hA hf hL hF
    obtain ⟨t2, a1, b1⟩ := kk r u t T'.heap (locs ++ L) e1.symm (by rw [← e2]; exact X'.warmed.alike) hp hb k1 k2 k3 T' rfl X'
    exact ⟨t2, st t2 a1, b1⟩
  · obtain ⟨k1, k2, k3⟩ := vx_keep h0 e1 hS hAX hf hL hF
    obtain ⟨t2, a1, b1⟩ := kx E ce q u t T'.heap (locs ++ L) e1.symm (by rw [← e2]; exact X'.warmed.alike) hp hb k1 k2 k3 (by rw [e1]; exact hce) hcv hcl T' rfl X'
    exact ⟨t2, st.trans a1, b1⟩
theorem vx_calll {S SX : Type} {post : Int64 → S → Prop} {px : SX → Prop} {B : S → State → Prop} {BX : String → SX → State → Prop} {AX : Nat → Prop} (hr : vx_Run p l e R s m args below meth c H locs cells slots mc ms (F0 m pc ls st0) rest (va_Ql post B A1 a) (vx_X px BX AX) free) (hS : va_S A0 H0 H locs) (hA : ∀ q, q < H.size → A1 q → A0 q) (hf : ∀ q, free q → A0 q) (hAX : ∀ q, q < H.size → AX q → A0 q)
    (kx : ∀ (E : String) (ce : Cell) (q9 : Addr) (u : SX) (t : State) (H1 : Heap) (locs1 : List Loc), t.heap = H1 → s.vm.Alike t.vm → px u → BX E u t → H.size ≤ H1.size → (∀ q : Nat, q < H.size → ¬ AX q → H1[q]? = H[q]?) → va_S A0 H0 H1 locs1 → H1[q9]? = some ce → ce.vm = .none → s.vm.findClass E = some ce.cls → vx_W p l e R s m args below meth c H1 locs1 (cells + mc) (slots + ms) Q (F0 m pc ls rest) q9)
    (kk : ∀ (r : Int64) (u : S) (t : State) (H1 : Heap) (locs1 : List Loc), t.heap = H1 → s.vm.Alike t.vm → post r u → B u t → H.size ≤ H1.size → (∀ q : Nat, q < H.size → ¬ A1 q → H1[q]? = H[q]?) → va_S A0 H0 H1 locs1 → W p l e R s m args below meth c H1 locs1 (cells + mc) (slots + ms) Q (F0 m (pc + 3) ls (.long r :: rest))) : W p l e R s m args below meth c H locs cells slots Q (F0 m pc ls st0) := by
  intro T hT X
  rcases hr T hT X with ⟨v, st₀, t, T', L, h0, X', hL, e1, e2, ⟨⟨r, u, hv, hp, hb⟩, hF⟩, st⟩ | ⟨q, st₀, t, T', L, E, ce, h0, X', hL, e1, e2, ⟨u, hp, hb, hF⟩, hce, hcv, hcl, st⟩
  · cases hv
    obtain ⟨k1, k2, k3⟩ := vx_keep h0 e1 hS hA hf hL hF
    obtain ⟨t2, a1, b1⟩ := kk r u t T'.heap (locs ++ L) e1.symm (by rw [← e2]; exact X'.warmed.alike) hp hb k1 k2 k3 T' rfl X'
    exact ⟨t2, st t2 a1, b1⟩
  · obtain ⟨k1, k2, k3⟩ := vx_keep h0 e1 hS hAX hf hL hF
    obtain ⟨t2, a1, b1⟩ := kx E ce q u t T'.heap (locs ++ L) e1.symm (by rw [← e2]; exact X'.warmed.alike) hp hb k1 k2 k3 (by rw [e1]; exact hce) hcv hcl T' rfl X'
    exact ⟨t2, st.trans a1, b1⟩
theorem vx_callf {S SX : Type} {post : UInt32 → S → Prop} {px : SX → Prop} {B : S → State → Prop} {BX : String → SX → State → Prop} {AX : Nat → Prop} (hr : vx_Run p l e R s m args below meth c H locs cells slots mc ms (F0 m pc ls st0) rest (va_Qf post B A1 a) (vx_X px BX AX) free) (hS : va_S A0 H0 H locs) (hA : ∀ q, q < H.size → A1 q → A0 q) (hf : ∀ q, free q → A0 q) (hAX : ∀ q, q < H.size → AX q → A0 q)
    (kx : ∀ (E : String) (ce : Cell) (q9 : Addr) (u : SX) (t : State) (H1 : Heap) (locs1 : List Loc), t.heap = H1 → s.vm.Alike t.vm → px u → BX E u t → H.size ≤ H1.size → (∀ q : Nat, q < H.size → ¬ AX q → H1[q]? = H[q]?) → va_S A0 H0 H1 locs1 → H1[q9]? = some ce → ce.vm = .none → s.vm.findClass E = some ce.cls → vx_W p l e R s m args below meth c H1 locs1 (cells + mc) (slots + ms) Q (F0 m pc ls rest) q9)
    (kk : ∀ (r : UInt32) (u : S) (t : State) (H1 : Heap) (locs1 : List Loc), t.heap = H1 → s.vm.Alike t.vm → post r u → B u t → H.size ≤ H1.size → (∀ q : Nat, q < H.size → ¬ A1 q → H1[q]? = H[q]?) → va_S A0 H0 H1 locs1 → W p l e R s m args below meth c H1 locs1 (cells + mc) (slots + ms) Q (F0 m (pc + 3) ls (.float r :: rest))) : W p l e R s m args below meth c H locs cells slots Q (F0 m pc ls st0) := by
  intro T hT X
  rcases hr T hT X with ⟨v, st₀, t, T', L, h0, X', hL, e1, e2, ⟨⟨r, u, hv, hp, hb⟩, hF⟩, st⟩ | ⟨q, st₀, t, T', L, E, ce, h0, X', hL, e1, e2, ⟨u, hp, hb, hF⟩, hce, hcv, hcl, st⟩
  · cases hv
    obtain ⟨k1, k2, k3⟩ := vx_keep h0 e1 hS hA hf hL hF
    obtain ⟨t2, a1, b1⟩ := kk r u t T'.heap (locs ++ L) e1.symm (by rw [← e2]; exact X'.warmed.alike) hp hb k1 k2 k3 T' rfl X'
    exact ⟨t2, st t2 a1, b1⟩
  · obtain ⟨k1, k2, k3⟩ := vx_keep h0 e1 hS hAX hf hL hF
    obtain ⟨t2, a1, b1⟩ := kx E ce q u t T'.heap (locs ++ L) e1.symm (by rw [← e2]; exact X'.warmed.alike) hp hb k1 k2 k3 (by rw [e1]; exact hce) hcv hcl T' rfl X'
    exact ⟨t2, st.trans a1, b1⟩
theorem vx_calld {S SX : Type} {post : UInt64 → S → Prop} {px : SX → Prop} {B : S → State → Prop} {BX : String → SX → State → Prop} {AX : Nat → Prop} (hr : vx_Run p l e R s m args below meth c H locs cells slots mc ms (F0 m pc ls st0) rest (va_Qd post B A1 a) (vx_X px BX AX) free) (hS : va_S A0 H0 H locs) (hA : ∀ q, q < H.size → A1 q → A0 q) (hf : ∀ q, free q → A0 q) (hAX : ∀ q, q < H.size → AX q → A0 q)
    (kx : ∀ (E : String) (ce : Cell) (q9 : Addr) (u : SX) (t : State) (H1 : Heap) (locs1 : List Loc), t.heap = H1 → s.vm.Alike t.vm → px u → BX E u t → H.size ≤ H1.size → (∀ q : Nat, q < H.size → ¬ AX q → H1[q]? = H[q]?) → va_S A0 H0 H1 locs1 → H1[q9]? = some ce → ce.vm = .none → s.vm.findClass E = some ce.cls → vx_W p l e R s m args below meth c H1 locs1 (cells + mc) (slots + ms) Q (F0 m pc ls rest) q9)
    (kk : ∀ (r : UInt64) (u : S) (t : State) (H1 : Heap) (locs1 : List Loc), t.heap = H1 → s.vm.Alike t.vm → post r u → B u t → H.size ≤ H1.size → (∀ q : Nat, q < H.size → ¬ A1 q → H1[q]? = H[q]?) → va_S A0 H0 H1 locs1 → W p l e R s m args below meth c H1 locs1 (cells + mc) (slots + ms) Q (F0 m (pc + 3) ls (.double r :: rest))) : W p l e R s m args below meth c H locs cells slots Q (F0 m pc ls st0) := by
  intro T hT X
  rcases hr T hT X with ⟨v, st₀, t, T', L, h0, X', hL, e1, e2, ⟨⟨r, u, hv, hp, hb⟩, hF⟩, st⟩ | ⟨q, st₀, t, T', L, E, ce, h0, X', hL, e1, e2, ⟨u, hp, hb, hF⟩, hce, hcv, hcl, st⟩
  · cases hv
    obtain ⟨k1, k2, k3⟩ := vx_keep h0 e1 hS hA hf hL hF
    obtain ⟨t2, a1, b1⟩ := kk r u t T'.heap (locs ++ L) e1.symm (by rw [← e2]; exact X'.warmed.alike) hp hb k1 k2 k3 T' rfl X'
    exact ⟨t2, st t2 a1, b1⟩
  · obtain ⟨k1, k2, k3⟩ := vx_keep h0 e1 hS hAX hf hL hF
    obtain ⟨t2, a1, b1⟩ := kx E ce q u t T'.heap (locs ++ L) e1.symm (by rw [← e2]; exact X'.warmed.alike) hp hb k1 k2 k3 (by rw [e1]; exact hce) hcv hcl T' rfl X'
    exact ⟨t2, st.trans a1, b1⟩
theorem vx_callv {S SX : Type} {post : S → Prop} {px : SX → Prop} {B : S → State → Prop} {BX : String → SX → State → Prop} {AX : Nat → Prop} (hr : vx_Run p l e R s m args below meth c H locs cells slots mc ms (F0 m pc ls st0) rest (va_Qv post B A1 a) (vx_X px BX AX) free) (hS : va_S A0 H0 H locs) (hA : ∀ q, q < H.size → A1 q → A0 q) (hf : ∀ q, free q → A0 q) (hAX : ∀ q, q < H.size → AX q → A0 q)
    (kx : ∀ (E : String) (ce : Cell) (q9 : Addr) (u : SX) (t : State) (H1 : Heap) (locs1 : List Loc), t.heap = H1 → s.vm.Alike t.vm → px u → BX E u t → H.size ≤ H1.size → (∀ q : Nat, q < H.size → ¬ AX q → H1[q]? = H[q]?) → va_S A0 H0 H1 locs1 → H1[q9]? = some ce → ce.vm = .none → s.vm.findClass E = some ce.cls → vx_W p l e R s m args below meth c H1 locs1 (cells + mc) (slots + ms) Q (F0 m pc ls rest) q9)
    (kk : ∀ (u : S) (t : State) (H1 : Heap) (locs1 : List Loc), t.heap = H1 → s.vm.Alike t.vm → post u → B u t → H.size ≤ H1.size → (∀ q : Nat, q < H.size → ¬ A1 q → H1[q]? = H[q]?) → va_S A0 H0 H1 locs1 → W p l e R s m args below meth c H1 locs1 (cells + mc) (slots + ms) Q (F0 m (pc + 3) ls (rest))) : W p l e R s m args below meth c H locs cells slots Q (F0 m pc ls st0) := by
  intro T hT X
  rcases hr T hT X with ⟨v, st₀, t, T', L, h0, X', hL, e1, e2, ⟨⟨u, hv, hp, hb⟩, hF⟩, st⟩ | ⟨q, st₀, t, T', L, E, ce, h0, X', hL, e1, e2, ⟨u, hp, hb, hF⟩, hce, hcv, hcl, st⟩
  · cases hv
    obtain ⟨k1, k2, k3⟩ := vx_keep h0 e1 hS hA hf hL hF
    obtain ⟨t2, a1, b1⟩ := kk u t T'.heap (locs ++ L) e1.symm (by rw [← e2]; exact X'.warmed.alike) hp hb k1 k2 k3 T' rfl X'
    exact ⟨t2, st t2 a1, b1⟩
  · obtain ⟨k1, k2, k3⟩ := vx_keep h0 e1 hS hAX hf hL hF
    obtain ⟨t2, a1, b1⟩ := kx E ce q u t T'.heap (locs ++ L) e1.symm (by rw [← e2]; exact X'.warmed.alike) hp hb k1 k2 k3 (by rw [e1]; exact hce) hcv hcl T' rfl X'
    exact ⟨t2, st.trans a1, b1⟩
/-- caught by the row x of this method's table; the rows ahead don't take it -/
theorem vx_catch {own name : String} {E : String} {ce : Cell} {q : Addr} (hown : s.vm.findClass own = some m.cls) (pre : List ExceptionTableEntry) (x : ExceptionTableEntry) (suf : List ExceptionTableEntry) (hsplit : c.exceptionTable.toList = pre ++ x :: suf)
    (hpass : ∀ z ∈ pre, covers z pc = false ∨ (z.catchType ≠ 0 ∧ ∃ nm : String, (Cond.classLink own z.catchType nm).before args s = true ∧ va_Nc E nm s)) (hx : covers x pc = true) (h0 : x.catchType ≠ 0)
    (hlink : (Cond.classLink own x.catchType name).before args s = true) (hcast : (Cond.castable E name).before args s = true) (hcell : H[q]? = some ce) (hv : ce.vm = .none) (hcl : s.vm.findClass E = some ce.cls)
    (kk : W p l e R s m args below meth c H locs cells slots Q (F0 m x.handlerPc ls [.ref q])) : vx_W p l e R s m args below meth c H locs cells slots Q (F0 m pc ls rest) q := by
  intro T hT X
  have hpl : e.platform.magicAccessors = ({} : Platform).magicAccessors := by rw [X.admits.platform]
  obtain ⟨c3, c4, hc3, hc4, hasg⟩ := Cond.castable_spec hcast
  cases Option.some.inj (hc3.symm.trans hcl)
  obtain ⟨c5, hc5, hcl5⟩ := Cond.classLink_spec hown hlink e.platform hpl
  cases Option.some.inj (hc4.symm.trans hc5)
  obtain ⟨vm', X', st⟩ := X.thenCaughtThrough q (g := F0 m pc ls rest) rfl (Steps.refl _) (by rw [hT]; exact hcell) (by rw [hv]; rfl) (by obtain ⟨k9, h9, -⟩ := Vm.findClass_spec hcl; exact ⟨k9, h9⟩) pre x suf hsplit
    (fun z hz => by
      rcases hpass z hz with h | ⟨hz0, nm, hl1, hn1⟩
      · exact Or.inl h
      · obtain ⟨c6, hc6, hcl6⟩ := Cond.classLink_spec hown hl1 e.platform hpl
        obtain ⟨a8, b8, h1, h2, h3⟩ := hn1
        cases Option.some.inj (h1.symm.trans hcl)
        cases Option.some.inj (h2.symm.trans hc6)
        exact Or.inr ⟨hz0, _, hcl6, h3⟩) hx (Or.inr ⟨h0, c4, hcl5, hasg⟩)
  obtain ⟨t, a1, b1⟩ := kk (T.setVm vm') hT X'
  exact ⟨t, st.trans a1, b1⟩
end Rows
section Ends
variable {p : Program} {l : Launch} {e : Env} {R : Room} {s : State} {m : MethodId} {args : Array Value} {below : List Frame} {meth : Method} {c : Code} {H : Heap} {locs : List Loc} {cells slots : Nat} {Q : State → Prop}
variable {mc ms : Nat} {free : Addr → Prop} {A0 A1 : Nat → Prop} {H0 : Heap} {a : Array Value} {ls : Array Slot} {st0 rest : List Value}
variable {Qc : Array Value → State → Outcome → State → Prop} {XC : String → State → State → Prop}
/-- what a body that may throw owes at its end -/
def vx_MQ (below : List Frame) (Qc : Array Value → State → Outcome → State → Prop) (XC : String → State → State → Prop) (a : Array Value) (s : State) (mc ms : Nat) (free : Addr → Prop) : State → Prop := fun t =>
  ∃ o, t.status = .running ∧ Ended t below o ∧ vx_Q Qc XC mc ms free a s o t
theorem vx_ret {g : JFrame} {mc ms : Nat} (k : W p l e R s m args below meth c H locs cells slots (MQ below Qc args s mc ms free) g) : W p l e R s m args below meth c H locs cells slots (vx_MQ below Qc XC args s mc ms free) g := by
  intro T hT X
  obtain ⟨t, a1, o, b1, b2, b3, b4⟩ := k T hT X
  exact ⟨t, a1, o, b1, b2, Or.inl ⟨b3, b4⟩⟩
/-- not caught here: it goes on to the caller -/
theorem vx_widen {g : JFrame} {q : Addr} {k n : Nat} (h1 : cells ≤ k) (h2 : slots ≤ n) (kk : vx_W p l e R s m args below meth c H locs k n Q g q) : vx_W p l e R s m args below meth c H locs cells slots Q g q := fun T hT X => kk T hT (stand_widen X h1 h2)
theorem vx_out {pc : Nat} {E : String} {ce : Cell} {q : Addr} {mc ms : Nat} (hout : ∀ x ∈ c.exceptionTable.toList, covers x pc = false) (hlocks : meth.locks = false) (hcell : H[q]? = some ce) (hv : ce.vm = .none) (hcl : s.vm.findClass E = some ce.cls)
    (hx : ∀ t : State, t.heap = H → s.vm.Alike t.vm → XC E s t) (hf : ∀ z ∈ locs, free z.base) (hc : cells ≤ mc) (hs : slots ≤ ms) :
    vx_W p l e R s m args below meth c H locs cells slots (vx_MQ below Qc XC args s mc ms free) (F0 m pc ls rest) q := by
  intro T hT X
  obtain ⟨st1, hrun, hend, hW, hsm⟩ := X.leaveThrown q (g := F0 m pc ls rest) rfl rfl rfl hout hlocks
  have hcell9 : (T.setFrames (.throwing q :: below)).heap[q]? = some ce := by
    show T.heap[q]? = some ce
    rw [hT]; exact hcell
  exact ⟨_, st1, .threw q, hrun, hend, Or.inr ⟨q, rfl, E, ce, locs, hx _ hT hW.alike, hcell9, hv, hcl, hW, hsm.mono hc hs, hf⟩⟩
theorem vx_frame {U : State} {k n : Nat} (h : s.sameButNew ({ U with vm := s.vm } : State) locs k n) : s.heap.size ≤ U.heap.size ∧ ∀ q : Nat, q < s.heap.size → (∀ z ∈ locs, z.base ≠ q) → U.heap[q]? = s.heap[q]? := by
  obtain ⟨-, h2, -, -, -, h6⟩ := h
  refine ⟨h2, fun q hq hz => ?_⟩
  obtain ⟨c9, e1, e2, e3, e4⟩ := h6 q _ (Array.getElem?_eq_getElem hq)
  have hs : c9.slots = (s.heap[q]).slots := Array.ext_getElem? fun i => e4 i fun hm => hz _ hm rfl
  have h9 : c9 = s.heap[q] := by
    rw [hs] at e2
    exact e2
  have e5 : U.heap[q]? = some c9 := e1
  rw [e5, h9, Array.getElem?_eq_getElem hq]
/-- the words of a throw but the four that speak of the heap -/
def vx_no (w : Cond) : Bool := decide (w ≠ .isRef (.static Bundle.tN "UNASSIGNED_STACK" Bundle.steD)) && decide (w ≠ .isRef (.static Bundle.tN "SUPPRESSED_SENTINEL" Bundle.listD)) && decide (w ≠ .laysStatic Bundle.tN "UNASSIGNED_STACK" Bundle.steD) && decide (w ≠ .laysStatic Bundle.tN "SUPPRESSED_SENTINEL" Bundle.listD)
def vx_at0 (own : String) (ic : Nat) (X : String) (names : List String) : List Cond := (Bundle.ownAtoms0 own ic X names).filter vx_no
def vx_atS (own : String) (ic : Nat) (X : String) (names : List String) : List Cond := (Bundle.ownAtoms own ic X names).filter vx_no
/-- a word that the tables alone decide, or a good one -/
def vx_ot (w : Cond) : Bool := w.onTables || goodWord w
theorem vx_ot_at {args a' : Array Value} {s U : State} {w : Cond} (hW : s.WarmedH U.vm) (hvm : s.vm = U.vm) (hg : vx_ot w = true) (h : w.before args s = true) : w.before a' U = true := by
  simp only [vx_ot, Bool.or_eq_true] at hg
  rcases hg with hg | hg
  · exact va_tabs hg hvm h
  · exact word_at hW (good_of_word hg) h
/-- a list's words: the good ones out of the method's own list, the others by premises of their own -/
theorem vx_hat {args : Array Value} {s : State} {L B : List Cond} (h1 : ∀ w ∈ L.filter goodWord, w.before args s = true) (h2 : ∀ w ∈ L.filter (fun w => !goodWord w), w ∈ B) (h3 : ∀ w ∈ B, w.before args s = true) : ∀ w ∈ L, w.before args s = true := by
  intro w hw
  by_cases g : goodWord w = true
  · exact h1 w (List.mem_filter.mpr ⟨hw, g⟩)
  · refine h3 w (h2 w (List.mem_filter.mpr ⟨hw, ?_⟩))
    show (!goodWord w) = true
    cases hgw : goodWord w
    · rfl
    · exact absurd hgw g
theorem vx_c {args : Array Value} {s : State} {w : Cond} {B : List Cond} (h : w.before args s = true) (t : ∀ w ∈ B, w.before args s = true) : ∀ w' ∈ w :: B, w'.before args s = true := fun w' h' => (List.mem_cons.mp h').elim (fun e => by rw [e]; exact h) (t w')
theorem vx_n {args : Array Value} {s : State} : ∀ w ∈ ([] : List Cond), w.before args s = true := fun _ h => nomatch h
theorem vx_own {args : Array Value} {s : State} {L : List Cond} (h1 : ∀ w ∈ L.filter vx_no, w.before args s = true)
    (hU : (Cond.isRef (.static Bundle.tN "UNASSIGNED_STACK" Bundle.steD)).before args s = true) (hN : (Cond.isRef (.static Bundle.tN "SUPPRESSED_SENTINEL" Bundle.listD)).before args s = true)
    (lU : (Cond.laysStatic Bundle.tN "UNASSIGNED_STACK" Bundle.steD).before args s = true) (lN : (Cond.laysStatic Bundle.tN "SUPPRESSED_SENTINEL" Bundle.listD).before args s = true) : ∀ w ∈ L, w.before args s = true := by
  intro w hw
  by_cases e1 : w = .isRef (.static Bundle.tN "UNASSIGNED_STACK" Bundle.steD)
  · rw [e1]; exact hU
  · by_cases e2 : w = .isRef (.static Bundle.tN "SUPPRESSED_SENTINEL" Bundle.listD)
    · rw [e2]; exact hN
    · by_cases e3 : w = .laysStatic Bundle.tN "UNASSIGNED_STACK" Bundle.steD
      · rw [e3]; exact lU
      · by_cases e4 : w = .laysStatic Bundle.tN "SUPPRESSED_SENTINEL" Bundle.listD
        · rw [e4]; exact lN
        · exact h1 w (List.mem_filter.mpr ⟨hw, by unfold vx_no; rw [decide_eq_true e1, decide_eq_true e2, decide_eq_true e3, decide_eq_true e4]; rfl⟩)
/-- where a static field lies, its class's statics cell in H -/
def vx_L (C n d : String) (A : Nat → Prop) (U : State) (H : Heap) : Prop := ∃ (c : ClassId) (k : Class) (i : Nat) (f : Field) (a : Nat) (cell : Cell), U.vm.findClass C = some c ∧ U.fieldFound? C n d = some (c, k, i, f) ∧ f.isStatic = true ∧ k.statics = some a ∧ H[a]? = some cell ∧ cell.vm.isStatics = true ∧ cell.cls = c ∧ f.slot < cell.slots.size ∧ k.staticTypes[f.slot]? = some f.type ∧ ¬ A a
theorem vx_L.moved {C n d : String} {A : Nat → Prop} {u U : State} {H : Heap} (hvm : u.vm.Alike U.vm) (h : vx_L C n d A u H) : vx_L C n d A U H := by
  obtain ⟨c, k, i, f, a, cell, h1, h2, h3, h4, h5, h6, h7, h8, h9, h10⟩ := h
  obtain ⟨k', hi', he⟩ := State.fieldFound?_setVm hvm h2
  exact ⟨c, k', i, f, a, cell, by rw [hvm.findClass]; exact h1, hi', h3, by rw [he]; exact h4, h5, h6, h7, h8, by rw [he]; exact h9, h10⟩
theorem vx_L.kept {C n d : String} {A : Nat → Prop} {U : State} {H H1 : Heap} (h : vx_L C n d A U H) (hq : ∀ a : Nat, a < H.size → ¬ A a → H1[a]? = H[a]?) : vx_L C n d A U H1 := by
  obtain ⟨c, k, i, f, a, cell, h1, h2, h3, h4, h5, h6, h7, h8, h9, h10⟩ := h
  exact ⟨c, k, i, f, a, cell, h1, h2, h3, h4, by rw [hq a (Array.getElem?_eq_some_iff.mp h5).1 h10]; exact h5, h6, h7, h8, h9, h10⟩
theorem vx_L.narrow {C n d : String} {A B : Nat → Prop} {U : State} {H : Heap} (h : vx_L C n d A U H) (hAB : ∀ q, B q → A q) : vx_L C n d B U H := by
  obtain ⟨c, k, i, f, a, cell, h1, h2, h3, h4, h5, h6, h7, h8, h9, h10⟩ := h
  exact ⟨c, k, i, f, a, cell, h1, h2, h3, h4, h5, h6, h7, h8, h9, fun z => h10 (hAB _ z)⟩
theorem vx_L.word {C n d : String} {A : Nat → Prop} {s : State} {args : Array Value} (h : vx_L C n d A s s.heap) : (Cond.laysStatic C n d).before args s = true := by
  obtain ⟨c, k, i, f, a, cell, h1, h2, h3, h4, h5, h6, h7, h8, h9, -⟩ := h
  show (Cond.laysStatic C n d).holds args s none s [] = true
  exact Cond.laysStatic_of h1 h2 h3 h4 h5 h6 h7 h8 h9
/-- .. and what it holds: null or some reference -/
def vx_Zq (C n d : String) (A : Nat → Prop) (U : State) (H : Heap) : Prop := va_Zq C n d A U H ∧ vx_L C n d A U H
theorem vx_Zq.moved {C n d : String} {A : Nat → Prop} {u U : State} {H : Heap} (hvm : u.vm.Alike U.vm) (h : vx_Zq C n d A u H) : vx_Zq C n d A U H := ⟨va_Zq.moved hvm h.1, vx_L.moved hvm h.2⟩
theorem vx_Zq.kept {C n d : String} {A : Nat → Prop} {U : State} {H H1 : Heap} (h : vx_Zq C n d A U H) (hq : ∀ a : Nat, a < H.size → ¬ A a → H1[a]? = H[a]?) : vx_Zq C n d A U H1 := ⟨va_Zq.kept h.1 hq, vx_L.kept h.2 hq⟩
theorem vx_Zq.narrow {C n d : String} {A B : Nat → Prop} {U : State} {H : Heap} (h : vx_Zq C n d A U H) (hAB : ∀ q, B q → A q) : vx_Zq C n d B U H := ⟨va_Zq.narrow h.1 hAB, vx_L.narrow h.2 hAB⟩
theorem vx_Zqof {args : Array Value} {s : State} {C n d : String} {A : Nat → Prop} (hl : (Cond.laysStatic C n d).before args s = true) (hini : (Cond.initialized C).before args s = true) (h : (Cond.isRef (.static C n d)).before args s = true) (hA : ∀ a : Nat, a < s.heap.size → ¬ A a) : vx_Zq C n d A s s.heap := by
  refine ⟨va_Zqof hl hini h hA, ?_⟩
  obtain ⟨c, k, i, f, a, cell, h1, h2, h3, h4, h5, h6, h7, h8, h9⟩ := Cond.laysStatic_spec hl
  exact ⟨c, k, i, f, a, cell, h1, h2, h3, h4, h5, h6, h7, h8, h9, hA a (Array.getElem?_eq_some_iff.mp h5).1⟩
theorem vx_isRef {C n d : String} {v : Value} {A : Nat → Prop} {s : State} {args : Array Value} (h : va_Z C n d v A s s.heap) (hv : v.isRef = true) : (Cond.isRef (.static C n d)).before args s = true := by
  obtain ⟨cf, kf, fi, f, a, cell, h1, h2, h3, h4, h5, h6, h7, -⟩ := h
  have he : (Term.static C n d).eval args s none [] s = some v := by
    simp [Term.eval, State.fieldNamed?, h1, h2, h4, h5, h6, h7]
  simp only [Cond.before, Cond.holds, Cond.value, he]
  cases v <;> simp_all [Value.isRef]
theorem vx_isRefq {C n d : String} {A : Nat → Prop} {s : State} {args : Array Value} (h : va_Zq C n d A s s.heap) : (Cond.isRef (.static C n d)).before args s = true := by
  rcases h with h | ⟨t, h⟩
  · exact vx_isRef h rfl
  · exact vx_isRef h rfl
/-- the same frame, seen from here: as if the method were called anew in this heap -/
theorem vx_rebase {T : State} (X : Stand p l e R s m args below meth c T locs cells slots) {R' : Room} (hf : R'.frames ≤ R.frames) (hl : R'.locals ≤ R.locals) (hc : cells + R'.cells ≤ R.cells) (hs : slots + R'.slots ≤ R.slots) :
    Stand p l e R' ((T.setVm s.vm).setFrames (.invoking m args :: below)) m args below meth c T [] 0 0 := by
  have htop : (T.setVm s.vm).topJava?.isSome := X.here.top
  have hF : ((T.setVm s.vm).setFrames (.invoking m args :: below)).frames = .invoking m args :: below := State.frames_setFrames _ (State.cur_lt_of_top htop)
  obtain ⟨g₀, hg0⟩ := Option.isSome_iff_exists.mp htop
  obtain ⟨r, hr⟩ := State.topJava?_eq_some.mp hg0
  have hl9 : e.platform.stackLimits (T.setVm s.vm).me = e.platform.stackLimits s.me := X.limits
  have hb9 : (T.setVm s.vm).me.stackBytes = s.me.stackBytes := X.bytes
  refine ⟨X.admits, X.cas, X.clock, hF, ?_, X.hears, X.method, X.code, X.here, X.tail, X.warmed, ?_, ?_, ?_⟩
  · have h := X.room
    have hU : ((T.setVm s.vm).setFrames (.invoking m args :: below)).localsInUse = s.localsInUse := by
      rw [State.localsInUse_invoking hF (meth := meth) (c := c) X.method X.code, State.localsInUse_invoking X.frames X.method X.code]
    simp only [State.hasRoom, Bool.and_eq_true, decide_eq_true_eq] at h ⊢
    obtain ⟨⟨⟨⟨h1, h2, h3, h4, h5, h6⟩, h7⟩, h8⟩, h9⟩ := h
    rw [X.frames, List.length_cons] at h2 h3
    have q1 := X.heapSize
    have q2 := X.used
    simp only [hF, hU, List.length_cons, State.stackLimits_setFrames, State.stackBytes_setFrames, hl9, hb9]
    refine ⟨⟨⟨⟨by omega, by omega, by omega, by omega, by omega, h6⟩, ?_⟩, ?_⟩, X.book⟩
    · show T.heap.size + R'.cells ≤ e.platform.maxCells
      omega
    · show T.slotsUsed + R'.slots ≤ e.platform.maxSlots
      omega
  · rw [State.stackLimits_setFrames]; rfl
  · rw [State.stackBytes_setFrames]; rfl
  · refine ⟨?_, Nat.le_refl _, Nat.le_refl _, ?_, ?_, fun a c9 h9 => ⟨c9, h9, rfl, rfl, fun _ _ => rfl⟩⟩
    · obtain ⟨t, ht, -⟩ := State.frames_cons hr
      show T.setVm s.vm = { ((T.setVm s.vm).setFrames (.invoking m args :: below)).setFrames (T.setVm s.vm).frames with heap := T.heap, slotsUsed := T.slotsUsed }
      rw [State.setFrames_setFrames, State.setFrames_self ht]
      rfl
    · show T.slotsUsed = T.slotsUsed + ((T.heap.toList.drop T.heap.size).map (·.slots.size)).sum
      rw [List.drop_eq_nil_of_le (Nat.le_of_eq Array.length_toList)]
      rfl
    · show ((T.heap.toList.drop T.heap.size).map (·.slots.size)).sum ≤ 0
      rw [List.drop_eq_nil_of_le (Nat.le_of_eq Array.length_toList)]
      exact Nat.le_refl _
/-- 'throw new E()': new; dup; invokespecial; athrow -/
theorem vx_throw0 {cc : ByteArray} {pc : Nat} (hexec : p.tables.exec = Jvm.exec) (hb : c.code = cc) (hl : l.stackTraces = false) {own cls : String} {names : List String} {ik ic mc ms : Nat} {A : Nat → Prop}
    (hown : s.vm.findClass own = some m.cls) (hcls : Bundle.fit cls = true) (hnames : ∀ n ∈ names, Bundle.fit n = true)
    (hk : (Cond.classLink own ik cls).before args s = true) (hini : (Cond.initialized cls).before args s = true) (hat : ∀ w ∈ vx_at0 own ic cls names, w.before args s = true)
    (hgood : ∀ w ∈ Cond.classLink own ik cls :: Cond.initialized cls :: vx_at0 own ic cls names, vx_ot w = true)
    (hU : vx_Zq Bundle.tN "UNASSIGNED_STACK" Bundle.steD A s s.heap) (hN : vx_Zq Bundle.tN "SUPPRESSED_SENTINEL" Bundle.listD A s s.heap) (hS : va_S A s.heap H locs) (hsize : ls.size = c.maxLocals)
    (d0 : decode cc pc = .ok (.new ik, 3)) (d3 : decode cc (pc + 3) = .ok (.dup, 1)) (d4 : decode cc (pc + 4) = .ok (.invokespecial ic, 3)) (d7 : decode cc (pc + 7) = .ok (.athrow, 1))
    (hout : ∀ x ∈ c.exceptionTable.toList, covers x (pc + 7) = false)
    (hRframes : names.length + 3 < R.frames) (hRlocals : (rest.map fun v => v.category).sum + (13 * (names.length + 1) + 42) ≤ R.locals) (hRcells : cells + 1 ≤ R.cells) (hRslots : slots + 6 ≤ R.slots) (hlocks : meth.locks = false)
    (hx : ∀ t : State, s.vm.Alike t.vm → H.size ≤ t.heap.size → (∀ q : Nat, q < H.size → t.heap[q]? = H[q]?) → XC cls s t)
    (hf : ∀ z ∈ locs, free z.base) (hc : cells + 1 ≤ mc) (hs : slots + 6 ≤ ms) :
    W p l e R s m args below meth c H locs cells slots (vx_MQ below Qc XC args s mc ms free) (F0 m pc ls rest) := by
  intro T hT X
  have htr : e.platform.stackTraces = false := (show e.platform.stackTraces = l.stackTraces by rw [X.admits.platform]).trans hl
  have Y := vx_rebase X (R' := { frames := R.frames, locals := R.locals, cells := 1, slots := 6 }) (Nat.le_refl _) (Nat.le_refl _) hRcells hRslots
  obtain ⟨s', hA⟩ : ∃ z, z = (T.setVm s.vm).setFrames (.invoking m args :: below) := ⟨_, rfl⟩
  rw [← hA] at Y
  have hvm : s'.vm = s.vm := by rw [hA]; rfl
  have hhp : s'.heap = H := by rw [hA]; exact hT
  have hW0 : s.WarmedH s'.vm := by rw [hvm]; exact State.WarmedH.refl s
  have hat' : ∀ w ∈ vx_at0 own ic cls names, w.before args s' = true := fun w hw => vx_ot_at hW0 hvm.symm (hgood w (List.mem_cons_of_mem _ (List.mem_cons_of_mem _ hw))) (hat w hw)
  have hk' : (Cond.classLink own ik cls).before args s' = true := vx_ot_at hW0 hvm.symm (hgood _ List.mem_cons_self) hk
  have hini' : (Cond.initialized cls).before args s' = true := vx_ot_at hW0 hvm.symm (hgood _ (List.mem_cons_of_mem _ List.mem_cons_self)) hini
  have hU' : vx_Zq Bundle.tN "UNASSIGNED_STACK" Bundle.steD A s' s'.heap := by rw [hhp]; exact vx_Zq.moved hW0.alike (hU.kept hS.2.1)
  have hN' : vx_Zq Bundle.tN "SUPPRESSED_SENTINEL" Bundle.listD A s' s'.heap := by rw [hhp]; exact vx_Zq.moved hW0.alike (hN.kept hS.2.1)
  have h : ∀ w ∈ Bundle.ownAtoms0 own ic cls names, w.before args s' = true := vx_own hat' (vx_isRefq hU'.1) (vx_isRefq hN'.1) hU'.2.word hN'.2.word
  have hown' : s'.vm.findClass own = some m.cls := by rw [hvm]; exact hown
  have hins : (Cond.instantiable cls 6).before args s' = true := h _ (by simp [Bundle.ownAtoms0])
  obtain ⟨vm₁, cX, kX, hfX, hkX, -, -, X₁, st1⟩ := Y.newCold hexec (own := own) (C := cls) (index := ik) (n := 6) hown' hk' hins hini'
    (g := F0 m pc ls rest) rfl (by rw [hb]; exact d0) (Nat.le_refl _) (Nat.le_refl _)
  generalize hT1 : (T.setVm vm₁).pushCell { cls := cX, slots := kX.instanceTypes.map defaultValue, vm := .none } = T1 at X₁ st1
  have hcat : (Value.ref T.heap.size).category = 1 := rfl
  have hcellA : T1.heap[T.heap.size]? = some (freshCell cX kX) := by rw [← hT1]; exact State.heap_pushCell_size _ _
  have d3' : decode c.code (pc + 3) = .ok (.dup, 1) := by rw [hb]; exact d3
  obtain ⟨U, hsteps, hrun, hend, hW, hsame, ce, hce, hO⟩ := X₁.ctorThrow0 hexec htr (own := own) (cls := cls) (names := names) (ic := ic) hown' hcls hnames h (fun x hx => nomatch hx) hfX hkX hcellA (by rw [hhp, hT]; exact Nat.le_refl _)
    (g := { method := m, pc := pc + 4, locals := ls, stack := .ref T.heap.size :: .ref T.heap.size :: rest, locked := none }) rfl hsize rfl rfl (rest := rest) rfl
    (by rw [hb]; exact d4) (by rw [hb]; exact d7) hout hRframes (by simp only [List.map_cons, List.sum_cons, hcat]; omega) hlocks
  obtain ⟨f1, f2⟩ := vx_frame hsame
  rw [hhp] at f1 f2
  have hWs : s.WarmedH U.vm := State.WarmedH.trans hW0 hW
  have hcl : s.vm.findClass cls = some ce.cls := by
    have h9 := hO.cls
    rw [hvm] at h9
    exact h9
  have hall : s.sameButNew ({ U with vm := s.vm } : State) locs mc ms := by
    subst hA
    obtain ⟨e1, e2⟩ := hsame
    rw [State.setFrames_setFrames] at e1
    have h2 : (T.setVm s.vm).sameButNew ({ U with vm := s.vm } : State) [] (0 + 1) (0 + 6) := ⟨e1, e2⟩
    have h3 := X.same.trans h2
    rw [List.append_nil] at h3
    exact h3.mono hc hs
  refine ⟨U, ?_, .threw T.heap.size, hrun, hend, Or.inr ⟨T.heap.size, rfl, cls, ce, locs, hx U hWs.alike f1 (fun q hq => f2 q hq (fun z hz => nomatch hz)), hce, hO.vm, hcl, hWs, hall, hf⟩⟩
  refine st1 _ ?_
  show Steps p.tables e below (T1.setTop { method := m, pc := pc + 3, locals := ls, stack := .ref T.heap.size :: rest, locked := none }) _
  jvm_step X₁.here [X₁.here.top, hexec, d3', Value.category]
  exact hsteps
/-- 'throw new E("text")': new; dup; ldc; invokespecial; athrow -/
theorem vx_throwS {cc : ByteArray} {pc : Nat} (hexec : p.tables.exec = Jvm.exec) (hb : c.code = cc) (hl : l.stackTraces = false) {own cls text : String} {names : List String} {ik is ic mc ms sa : Nat} {A : Nat → Prop}
    (hown : s.vm.findClass own = some m.cls) (hcls : Bundle.fit cls = true) (hnames : ∀ n ∈ names, Bundle.fit n = true)
    (hk : (Cond.classLink own ik cls).before args s = true) (hini : (Cond.initialized cls).before args s = true) (hstr : vk_R own is text sa s) (hat : ∀ w ∈ vx_atS own ic cls names, w.before args s = true)
    (hgood : ∀ w ∈ Cond.classLink own ik cls :: Cond.initialized cls :: vx_atS own ic cls names, vx_ot w = true)
    (hU : vx_Zq Bundle.tN "UNASSIGNED_STACK" Bundle.steD A s s.heap) (hN : vx_Zq Bundle.tN "SUPPRESSED_SENTINEL" Bundle.listD A s s.heap) (hS : va_S A s.heap H locs) (hsize : ls.size = c.maxLocals)
    (d0 : decode cc pc = .ok (.new ik, 3)) (d3 : decode cc (pc + 3) = .ok (.dup, 1)) (d4 : decode cc (pc + 4) = .ok (.ldc is, 2)) (d6 : decode cc (pc + 6) = .ok (.invokespecial ic, 3)) (d9 : decode cc (pc + 9) = .ok (.athrow, 1))
    (hout : ∀ x ∈ c.exceptionTable.toList, covers x (pc + 9) = false)
    (hRframes : names.length + 3 < R.frames) (hRlocals : (rest.map fun v => v.category).sum + (13 * (names.length + 1) + 43) ≤ R.locals) (hRcells : cells + 1 ≤ R.cells) (hRslots : slots + 6 ≤ R.slots) (hlocks : meth.locks = false)
    (hx : ∀ t : State, s.vm.Alike t.vm → H.size ≤ t.heap.size → (∀ q : Nat, q < H.size → t.heap[q]? = H[q]?) → XC cls s t)
    (hf : ∀ z ∈ locs, free z.base) (hc : cells + 1 ≤ mc) (hs : slots + 6 ≤ ms) :
    W p l e R s m args below meth c H locs cells slots (vx_MQ below Qc XC args s mc ms free) (F0 m pc ls rest) := by
  intro T hT X
  have htr : e.platform.stackTraces = false := (show e.platform.stackTraces = l.stackTraces by rw [X.admits.platform]).trans hl
  have Y := vx_rebase X (R' := { frames := R.frames, locals := R.locals, cells := 1, slots := 6 }) (Nat.le_refl _) (Nat.le_refl _) hRcells hRslots
  obtain ⟨s', hA⟩ : ∃ z, z = (T.setVm s.vm).setFrames (.invoking m args :: below) := ⟨_, rfl⟩
  rw [← hA] at Y
  have hvm : s'.vm = s.vm := by rw [hA]; rfl
  have hhp : s'.heap = H := by rw [hA]; exact hT
  have hW0 : s.WarmedH s'.vm := by rw [hvm]; exact State.WarmedH.refl s
  have hat' : ∀ w ∈ vx_atS own ic cls names, w.before args s' = true := fun w hw => vx_ot_at hW0 hvm.symm (hgood w (List.mem_cons_of_mem _ (List.mem_cons_of_mem _ hw))) (hat w hw)
  have hk' : (Cond.classLink own ik cls).before args s' = true := vx_ot_at hW0 hvm.symm (hgood _ List.mem_cons_self) hk
  have hini' : (Cond.initialized cls).before args s' = true := vx_ot_at hW0 hvm.symm (hgood _ (List.mem_cons_of_mem _ List.mem_cons_self)) hini
  have hU' : vx_Zq Bundle.tN "UNASSIGNED_STACK" Bundle.steD A s' s'.heap := by rw [hhp]; exact vx_Zq.moved hW0.alike (hU.kept hS.2.1)
  have hN' : vx_Zq Bundle.tN "SUPPRESSED_SENTINEL" Bundle.listD A s' s'.heap := by rw [hhp]; exact vx_Zq.moved hW0.alike (hN.kept hS.2.1)
  have h : ∀ w ∈ Bundle.ownAtoms own ic cls names, w.before args s' = true := vx_own hat' (vx_isRefq hU'.1) (vx_isRefq hN'.1) hU'.2.word hN'.2.word
  have hown' : s'.vm.findClass own = some m.cls := by rw [hvm]; exact hown
  have hins : (Cond.instantiable cls 6).before args s' = true := h _ (by simp [Bundle.ownAtoms])
  obtain ⟨vm₁, cX, kX, hfX, hkX, -, -, X₁, st1⟩ := Y.newCold hexec (own := own) (C := cls) (index := ik) (n := 6) hown' hk' hins hini'
    (g := F0 m pc ls rest) rfl (by rw [hb]; exact d0) (Nat.le_refl _) (Nat.le_refl _)
  generalize hT1 : (T.setVm vm₁).pushCell { cls := cX, slots := kX.instanceTypes.map defaultValue, vm := .none } = T1 at X₁ st1
  have hcat : (Value.ref T.heap.size).category = 1 := rfl
  have hcellA : T1.heap[T.heap.size]? = some (freshCell cX kX) := by rw [← hT1]; exact State.heap_pushCell_size _ _
  have d3' : decode c.code (pc + 3) = .ok (.dup, 1) := by rw [hb]; exact d3
  have d4' : decode c.code (pc + 4) = .ok (.ldc is, 2) := by rw [hb]; exact d4
  have hstr' : vk_R own is text sa s' := vk_R.warm hW0 hstr
  obtain ⟨U, hsteps, hrun, hend, hW, hsame, ce, hce, hO⟩ := X₁.ctorThrowS hexec htr (own := own) (cls := cls) (names := names) (ic := ic) hown' hcls hnames h (fun x hx => nomatch hx) hfX hkX hcellA (by rw [hhp, hT]; exact Nat.le_refl _) (msg := .ref sa) rfl
    (g := { method := m, pc := pc + 6, locals := ls, stack := .ref sa :: .ref T.heap.size :: .ref T.heap.size :: rest, locked := none }) rfl hsize rfl rfl (rest := rest) rfl
    (by rw [hb]; exact d6) (by rw [hb]; exact d9) hout hRframes (by simp only [List.map_cons, List.sum_cons, hcat]; omega) hlocks
  obtain ⟨f1, f2⟩ := vx_frame hsame
  rw [hhp] at f1 f2
  have hWs : s.WarmedH U.vm := State.WarmedH.trans hW0 hW
  have hcl : s.vm.findClass cls = some ce.cls := by
    have h9 := hO.cls
    rw [hvm] at h9
    exact h9
  have hall : s.sameButNew ({ U with vm := s.vm } : State) locs mc ms := by
    subst hA
    obtain ⟨e1, e2⟩ := hsame
    rw [State.setFrames_setFrames] at e1
    have h2 : (T.setVm s.vm).sameButNew ({ U with vm := s.vm } : State) [] (0 + 1) (0 + 6) := ⟨e1, e2⟩
    have h3 := X.same.trans h2
    rw [List.append_nil] at h3
    exact h3.mono hc hs
  refine ⟨U, ?_, .threw T.heap.size, hrun, hend, Or.inr ⟨T.heap.size, rfl, cls, ce, locs, hx U hWs.alike f1 (fun q hq => f2 q hq (fun z hz => nomatch hz)), hce, hO.vm, hcl, hWs, hall, hf⟩⟩
  refine st1 _ ?_
  show Steps p.tables e below (T1.setTop { method := m, pc := pc + 3, locals := ls, stack := .ref T.heap.size :: rest, locked := none }) _
  jvm_step X₁.here [X₁.here.top, hexec, d3', Value.category]
  exact X₁.ldcString hexec (own := own) (text := text) (index := is) (a := sa) hown' hstr'.1 hstr'.2
    (g := { method := m, pc := pc + 4, locals := ls, stack := .ref T.heap.size :: .ref T.heap.size :: rest, locked := none }) rfl d4' _ hsteps
/-- 'throw new E("text")', the text by a wide index -/
theorem vx_throwSW {cc : ByteArray} {pc : Nat} (hexec : p.tables.exec = Jvm.exec) (hb : c.code = cc) (hl : l.stackTraces = false) {own cls text : String} {names : List String} {ik is ic mc ms sa : Nat} {A : Nat → Prop}
    (hown : s.vm.findClass own = some m.cls) (hcls : Bundle.fit cls = true) (hnames : ∀ n ∈ names, Bundle.fit n = true)
    (hk : (Cond.classLink own ik cls).before args s = true) (hini : (Cond.initialized cls).before args s = true) (hstr : vk_R own is text sa s) (hat : ∀ w ∈ vx_atS own ic cls names, w.before args s = true)
    (hgood : ∀ w ∈ Cond.classLink own ik cls :: Cond.initialized cls :: vx_atS own ic cls names, vx_ot w = true)
    (hU : vx_Zq Bundle.tN "UNASSIGNED_STACK" Bundle.steD A s s.heap) (hN : vx_Zq Bundle.tN "SUPPRESSED_SENTINEL" Bundle.listD A s s.heap) (hS : va_S A s.heap H locs) (hsize : ls.size = c.maxLocals)
    (d0 : decode cc pc = .ok (.new ik, 3)) (d3 : decode cc (pc + 3) = .ok (.dup, 1)) (d4 : decode cc (pc + 4) = .ok (.ldc_w is, 3)) (d7 : decode cc (pc + 7) = .ok (.invokespecial ic, 3)) (d10 : decode cc (pc + 10) = .ok (.athrow, 1))
    (hout : ∀ x ∈ c.exceptionTable.toList, covers x (pc + 10) = false)
    (hRframes : names.length + 3 < R.frames) (hRlocals : (rest.map fun v => v.category).sum + (13 * (names.length + 1) + 43) ≤ R.locals) (hRcells : cells + 1 ≤ R.cells) (hRslots : slots + 6 ≤ R.slots) (hlocks : meth.locks = false)
    (hx : ∀ t : State, s.vm.Alike t.vm → H.size ≤ t.heap.size → (∀ q : Nat, q < H.size → t.heap[q]? = H[q]?) → XC cls s t)
    (hf : ∀ z ∈ locs, free z.base) (hc : cells + 1 ≤ mc) (hs : slots + 6 ≤ ms) :
    W p l e R s m args below meth c H locs cells slots (vx_MQ below Qc XC args s mc ms free) (F0 m pc ls rest) := by
  intro T hT X
  have htr : e.platform.stackTraces = false := (show e.platform.stackTraces = l.stackTraces by rw [X.admits.platform]).trans hl
  have Y := vx_rebase X (R' := { frames := R.frames, locals := R.locals, cells := 1, slots := 6 }) (Nat.le_refl _) (Nat.le_refl _) hRcells hRslots
  obtain ⟨s', hA⟩ : ∃ z, z = (T.setVm s.vm).setFrames (.invoking m args :: below) := ⟨_, rfl⟩
  rw [← hA] at Y
  have hvm : s'.vm = s.vm := by rw [hA]; rfl
  have hhp : s'.heap = H := by rw [hA]; exact hT
  have hW0 : s.WarmedH s'.vm := by rw [hvm]; exact State.WarmedH.refl s
  have hat' : ∀ w ∈ vx_atS own ic cls names, w.before args s' = true := fun w hw => vx_ot_at hW0 hvm.symm (hgood w (List.mem_cons_of_mem _ (List.mem_cons_of_mem _ hw))) (hat w hw)
  have hk' : (Cond.classLink own ik cls).before args s' = true := vx_ot_at hW0 hvm.symm (hgood _ List.mem_cons_self) hk
  have hini' : (Cond.initialized cls).before args s' = true := vx_ot_at hW0 hvm.symm (hgood _ (List.mem_cons_of_mem _ List.mem_cons_self)) hini
  have hU' : vx_Zq Bundle.tN "UNASSIGNED_STACK" Bundle.steD A s' s'.heap := by rw [hhp]; exact vx_Zq.moved hW0.alike (hU.kept hS.2.1)
  have hN' : vx_Zq Bundle.tN "SUPPRESSED_SENTINEL" Bundle.listD A s' s'.heap := by rw [hhp]; exact vx_Zq.moved hW0.alike (hN.kept hS.2.1)
  have h : ∀ w ∈ Bundle.ownAtoms own ic cls names, w.before args s' = true := vx_own hat' (vx_isRefq hU'.1) (vx_isRefq hN'.1) hU'.2.word hN'.2.word
  have hown' : s'.vm.findClass own = some m.cls := by rw [hvm]; exact hown
  have hins : (Cond.instantiable cls 6).before args s' = true := h _ (by simp [Bundle.ownAtoms])
  obtain ⟨vm₁, cX, kX, hfX, hkX, -, -, X₁, st1⟩ := Y.newCold hexec (own := own) (C := cls) (index := ik) (n := 6) hown' hk' hins hini'
    (g := F0 m pc ls rest) rfl (by rw [hb]; exact d0) (Nat.le_refl _) (Nat.le_refl _)
  generalize hT1 : (T.setVm vm₁).pushCell { cls := cX, slots := kX.instanceTypes.map defaultValue, vm := .none } = T1 at X₁ st1
  have hcat : (Value.ref T.heap.size).category = 1 := rfl
  have hcellA : T1.heap[T.heap.size]? = some (freshCell cX kX) := by rw [← hT1]; exact State.heap_pushCell_size _ _
  have d3' : decode c.code (pc + 3) = .ok (.dup, 1) := by rw [hb]; exact d3
  have d4' : decode c.code (pc + 4) = .ok (.ldc_w is, 3) := by rw [hb]; exact d4
  have hstr' : vk_R own is text sa s' := vk_R.warm hW0 hstr
  obtain ⟨U, hsteps, hrun, hend, hW, hsame, ce, hce, hO⟩ := X₁.ctorThrowS hexec htr (own := own) (cls := cls) (names := names) (ic := ic) hown' hcls hnames h (fun x hx => nomatch hx) hfX hkX hcellA (by rw [hhp, hT]; exact Nat.le_refl _) (msg := .ref sa) rfl
    (g := { method := m, pc := pc + 7, locals := ls, stack := .ref sa :: .ref T.heap.size :: .ref T.heap.size :: rest, locked := none }) rfl hsize rfl rfl (rest := rest) rfl
    (by rw [hb]; exact d7) (by rw [hb]; exact d10) hout hRframes (by simp only [List.map_cons, List.sum_cons, hcat]; omega) hlocks
  obtain ⟨f1, f2⟩ := vx_frame hsame
  rw [hhp] at f1 f2
  have hWs : s.WarmedH U.vm := State.WarmedH.trans hW0 hW
  have hcl : s.vm.findClass cls = some ce.cls := by
    have h9 := hO.cls
    rw [hvm] at h9
    exact h9
  have hall : s.sameButNew ({ U with vm := s.vm } : State) locs mc ms := by
    subst hA
    obtain ⟨e1, e2⟩ := hsame
    rw [State.setFrames_setFrames] at e1
    have h2 : (T.setVm s.vm).sameButNew ({ U with vm := s.vm } : State) [] (0 + 1) (0 + 6) := ⟨e1, e2⟩
    have h3 := X.same.trans h2
    rw [List.append_nil] at h3
    exact h3.mono hc hs
  refine ⟨U, ?_, .threw T.heap.size, hrun, hend, Or.inr ⟨T.heap.size, rfl, cls, ce, locs, hx U hWs.alike f1 (fun q hq => f2 q hq (fun z hz => nomatch hz)), hce, hO.vm, hcl, hWs, hall, hf⟩⟩
  refine st1 _ ?_
  show Steps p.tables e below (T1.setTop { method := m, pc := pc + 3, locals := ls, stack := .ref T.heap.size :: rest, locked := none }) _
  jvm_step X₁.here [X₁.here.top, hexec, d3', Value.category]
  exact X₁.ldcStringW hexec (own := own) (text := text) (index := is) (a := sa) hown' hstr'.1 hstr'.2
    (g := { method := m, pc := pc + 4, locals := ls, stack := .ref T.heap.size :: .ref T.heap.size :: rest, locked := none }) rfl d4' _ hsteps
end Ends
section Bodies
variable {l : Launch}
theorem vx_ofW {y : MethodName} {ws ws' : List Cond} {rm : Room} {Pc : Array Value → State → Prop} {Qc : Array Value → State → Outcome → State → Prop} {XC : String → State → State → Prop} {mc ms : Nat} {free : Addr → Prop} {cc : ByteArray} {maxL : Nat} {ret : Option FieldType}
    (hy : plainName y.cls = true) (hw : ws = Cond.code y cc maxL ret :: ws')
    (body : ∀ p e s m args below meth c s₁, BodyLoose p l y (headSpec ws rm) cc maxL ret e s m args below meth c s₁ → c.maxLocals = maxL → (∀ x ∈ c.exceptionTable.toList, False) → Pc args s →
      W p l e (headSpec ws rm).room s m args below meth c s.heap [] 0 0 (vx_MQ below Qc XC args s mc ms free) (entryFrame m args maxL)) : vx_Met l y ws rm Pc Qc XC mc ms free := by
  refine MetFree.of_bodyS (code := cc) (maxLocals := maxL) (ret := ret) hy ?_ ?_
  · intro args s m h hn
    obtain ⟨meth, c, h1, h2, h3, h4, h5, h6, -, -⟩ := Cond.code_spec hn (atoms_spec (ws := ws) h _ (by rw [hw]; exact List.mem_cons_self))
    exact ⟨meth, c, h1, h2, h3, h4, h5, h6⟩
  · intro p e s m args below meth c s₁ B hml hP _
    have hh0 : s₁.heap = s.heap := by rw [B.state]; rfl
    have ht : ∀ x ∈ c.exceptionTable.toList, False := by
      obtain ⟨meth9, c9, h1, h2, -, -, -, -, h7, -⟩ := Cond.code_spec B.named (atoms_spec (ws := ws) B.pre _ (by rw [hw]; exact List.mem_cons_self))
      cases Option.some.inj (h1.symm.trans B.method)
      cases Option.some.inj (h2.symm.trans (Stand.of_body B).code)
      intro x hx
      rw [Array.isEmpty_iff.mp h7] at hx
      cases hx
    obtain ⟨t, a1, o, b1, b2, b3⟩ := body p e s m args below meth c s₁ B hml ht hP s₁ hh0 (Stand.of_body B)
    exact ⟨t, o, a1, b1, b2, b3⟩
/-- the table of a body with handlers -/
theorem vx_table {p : Program} {x y : MethodName} {S : Spec} {cc bytes : ByteArray} {maxL maxL' : Nat} {ret ret' : Option FieldType} {e : Env} {s s₁ : State} {m : MethodId} {args : Array Value} {below : List Frame} {meth : Method} {c : Code} {hh : List (Nat × Nat × Nat × Nat)}
    (B : BodyLoose p l y S cc maxL ret e s m args below meth c s₁) (h : (Cond.codeWith y bytes maxL' ret' hh).before args s = true) : c.exceptionTable.toList = tableOf hh := by
  obtain ⟨m9, meth9, c9, hn9, h1, h2, -, -, h6, -⟩ := Cond.codeWith_spec h
  cases Option.some.inj (hn9.symm.trans B.named)
  cases Option.some.inj (h1.symm.trans B.method)
  cases Option.some.inj (h2.symm.trans (Stand.of_body B).code)
  rw [← h6, table_eq]
end Bodies
end VXA
/-! ===== END ===== -/
/-! ===== BEGIN a static call of a method with an exception table ===== -/
section VXS
variable {p : Program} {l : Launch} {e : Env} {R : Room} {s : State} {m : MethodId} {args : Array Value} {below : List Frame} {meth : Method} {c : Code} {T : State} {H : Heap} {locs : List Loc} {cells slots : Nat}
abbrev vx_CSW (R : Room) (s : State) (args : Array Value) (own : String) (index : Nat) (y : MethodName) (bytes : ByteArray) (maxL : Nat) (ret : Option FieldType) (hh : List (Nat × Nat × Nat × Nat)) (ws : List Cond) (rm : Room) (mc ms n : Nat) : Prop :=
  (rm.cells = mc ∧ rm.slots = ms ∧ rm.frames + 1 ≤ R.frames ∧ 8 + (maxL + 11) + rm.locals ≤ R.locals ∧ (∀ w ∈ ws, ∀ (a' : Array Value) (U : State), s.WarmedH U.vm → w.before a' U = true) ∧ Cond.codeWith y bytes maxL ret hh ∈ ws) ∧
  (Cond.codeWith y bytes maxL ret hh).before args s = true ∧ (Cond.initialized y.cls).before args s = true ∧ (y.cls ≠ "java/lang/invoke/MethodHandle" ∧ y.cls ≠ "java/lang/invoke/VarHandle") ∧
  (∀ sig, parseMethodDescriptor y.desc = some sig → n = sig.parameters.length) ∧ (Cond.methodLink own index y).before args s = true ∧ (Cond.static y).before args s = true
theorem vx_cwSW {own : String} {index maxL mc ms : Nat} {y : MethodName} {bytes : ByteArray} {ret : Option FieldType} {hh : List (Nat × Nat × Nat × Nat)} {Ts ws ws' : List Cond} {rm : Room} (n : Nat) (ht : ∀ w ∈ Ts, w.before args s = true) (hT : GoodIn Ts (va_wsS own index y ws)) (hw : ws = Cond.codeWith y bytes maxL ret hh :: ws') (hrc : rm.cells = mc) (hrs : rm.slots = ms)
    (hd : y.cls ≠ "java/lang/invoke/MethodHandle" ∧ y.cls ≠ "java/lang/invoke/VarHandle" ∧ (parseMethodDescriptor y.desc).map (fun d => d.parameters.length) = some n) (hR : rm.frames + 1 ≤ R.frames ∧ 8 + (maxL + 11) + rm.locals ≤ R.locals) :
    vx_CSW R s args own index y bytes maxL ret hh ws rm mc ms n := by
  have ok : ∀ w ∈ va_wsS own index y ws, w.before args s = true := fun w h => ht w (hT w h).1
  have hG : GoodIn Ts ws := fun w h => hT w (by unfold va_wsS; exact List.mem_append_right _ h)
  have hc : Cond.codeWith y bytes maxL ret hh ∈ ws := by rw [hw]; exact List.mem_cons_self
  refine ⟨⟨hrc, hrs, hR.1, hR.2, pay_in ht hG, hc⟩, ht _ (hG _ hc).1, ok _ (by simp [va_wsS]), ⟨hd.1, hd.2.1⟩, fun sig h => ?_, ok _ (by simp [va_wsS]), ok _ (by simp [va_wsS])⟩
  have h2 := hd.2.2
  rw [h] at h2
  exact (Option.some.inj h2).symm
theorem vx_callSW (X : Stand p l e R s m args below meth c T locs cells slots) (hexec : p.tables.exec = Jvm.exec) {own : String} {index : Nat} {y : MethodName} {bytes : ByteArray} {maxL : Nat} {ret : Option FieldType} {hh : List (Nat × Nat × Nat × Nat)}
    (hown : s.vm.findClass own = some m.cls) (hlink : (Cond.methodLink own index y).before args s = true) (hstat : (Cond.static y).before args s = true) (hinit : (Cond.initialized y.cls).before args s = true)
    (hcode : (Cond.codeWith y bytes maxL ret hh).before args s = true) (hy : y.cls ≠ "java/lang/invoke/MethodHandle" ∧ y.cls ≠ "java/lang/invoke/VarHandle")
    {W9 : Nat} {Pre : Pt → Array Value → Prop} {Post : Pt → Array Value → Option Value → Pt → Prop} (hK : Back l R p e below s args y 3 W9 Pre Post)
    {g : JFrame} (hg : g.method = m) (hsize : g.locals.size = c.maxLocals) {argsL rest : List Value} (hlen : ∀ sig, parseMethodDescriptor y.desc = some sig → argsL.length = sig.parameters.length)
    (hstack : g.stack = argsL.reverse ++ rest) (hW : 2 * g.monitorRoom + (rest.map fun v => v.category).sum ≤ W9) (hdg : decode c.code g.pc = .ok (.invokestatic index, 3))
    (hpre : ∀ vm₁, s.WarmedH vm₁ → Pre ⟨T.setVm vm₁, locs, cells, slots⟩ argsL.toArray) :
    ∃ (v : Option Value) (vm₁ : Vm) (B : Pt), s.WarmedH vm₁ ∧ Stand p l e R s m args below meth c B.U B.locs B.cells B.slots ∧ Post ⟨T.setVm vm₁, locs, cells, slots⟩ argsL.toArray v B ∧
      ∀ target, Steps p.tables e below (B.U.setTop { g with pc := g.pc + 3, stack := v.toList ++ rest }) target → Steps p.tables e below (T.setTop g) target := by
  obtain ⟨mk, methM, cM, hnamed, hmethM, -, -, -, -, -, -, hsigM⟩ := Cond.codeWith_spec hcode
  have hstatic : methM.isStatic = true := Cond.static_spec hnamed hmethM hstat
  obtain ⟨kP, hkP, -⟩ := className_of_methodNamed hnamed
  have hinitP : kP.init = .initialized := Cond.initialized_spec (findClass_of_methodNamed hnamed) hkP hinit
  obtain ⟨vm₁, X₁, hstep₁⟩ := X.invokestatic hexec hown hlink hnamed hmethM hstatic hkP hinitP hy (g := g) hg (argsL := argsL) (rest := rest) (hlen _ hsigM) hstack hdg
  obtain ⟨v, B, X', hpost, hsteps⟩ := hK m meth c ⟨T.setVm vm₁, locs, cells, slots⟩ { g with stack := rest } (.invokestatic index) mk argsL.toArray X₁ hg hsize hdg hW (X₁.named hnamed) (hpre vm₁ X₁.warmed)
  exact ⟨v, vm₁, B, X₁.warmed, X', hpost, fun target h => hstep₁ _ fun acts => by rw [doInvoke_state]; exact hsteps.trans h⟩
theorem vx_runSW {y : MethodName} {bytes cc : ByteArray} {maxL nL mc ms n index : Nat} {ret : Option FieldType} {hh : List (Nat × Nat × Nat × Nat)} {ws : List Cond} {rm : Room} {Pc : Array Value → State → Prop} {Qc : Array Value → State → Outcome → State → Prop} {free : Addr → Prop} {Ts : List Cond} {own : String} {As rest : List Value} {g : JFrame}
    (S : CallFix p m c cc nL s args Ts own) (hM : Met l y ws rm Pc Qc mc ms free) (cw : vx_CSW R s args own index y bytes maxL ret hh ws rm mc ms n) (hp : PreS s H Pc As)
    (hg : g.method = m) (hn : As.length = n) (hsize : g.locals.size = nL) (hstack : g.stack = As.reverse ++ rest) (hW : 2 * g.monitorRoom + (rest.map fun v => v.category).sum ≤ 8) (hdg : decode cc g.pc = .ok (.invokestatic index, 3)) (hf : cells + mc ≤ R.cells ∧ slots + ms ≤ R.slots) :
    va_Run p l e R s m args below meth c H locs cells slots mc ms g rest (Qc As.toArray) (free) := by
  obtain ⟨⟨hrc, hrs, hfr, hlo, hws, hcw⟩, hcode, hini, hy, hlen, hl, hstt⟩ := cw
  have hK : Back l R p e below s args y 3 8 (PreOf R mc ms Pc) (PostOf Qc mc ms free) := va_backW (hh := hh) (bytes := bytes) (maxL := maxL) (ret := ret) hM hp.1 hrc hrs hfr hlo hws hcw (fun a' U hW => word_at hW (Or.inl (by first | rfl | simp [Cond.onTables, Cond.keeps, Cond.steady])) hini)
  obtain ⟨hx, hb, hml, ho, -⟩ := S
  intro T hT X
  obtain ⟨v, vm₁, ⟨U', l2, c2, s2⟩, hW₁, X', ⟨g', mk, t, L, e1, e2, hq, h1, hL, h2, h3⟩, st⟩ := vx_callSW X hx (hh := hh) (bytes := bytes) (maxL := maxL) (ret := ret) ho hl hstt hini hcode hy hK hg (hsize.trans hml.symm) (argsL := As) (rest := rest) (fun sig h => hn.trans (hlen sig h)) hstack hW (by rw [hb]; exact hdg)
    (fun vm₁ hW₁ => ⟨hf.1, hf.2, hp.2 (T.setVm vm₁) hT hW₁⟩)
  dsimp only [Pt.U, Pt.locs, Pt.cells, Pt.slots] at X' e1 e2 h1 h2 h3 st
  subst h1; subst h2; subst h3
  exact ⟨v, (T.setVm vm₁).calling g' mk As.toArray, t, U', L, hT, X', hL, e1, e2, hq, st⟩
/-- not caught here, past rows that name other classes: it goes on to the caller -/
theorem vx_outP {p : Program} {l : Launch} {e : Env} {R : Room} {s : State} {m : MethodId} {args : Array Value} {below : List Frame} {meth : Method} {c : Code} {H : Heap} {locs : List Loc} {cells slots : Nat} {free : Addr → Prop} {ls : Array Slot} {rest : List Value} {Qc : Array Value → State → Outcome → State → Prop} {XC : String → State → State → Prop}
    {pc : Nat} {own E : String} {ce : Cell} {q : Addr} {mc ms : Nat} (hown : s.vm.findClass own = some m.cls) (hlocks : meth.locks = false)
    (hpass : ∀ z ∈ c.exceptionTable.toList, covers z pc = false ∨ (z.catchType ≠ 0 ∧ ∃ nm : String, (Cond.classLink own z.catchType nm).before args s = true ∧ va_Nc E nm s)) (hcell : H[q]? = some ce) (hv : ce.vm = .none) (hcl : s.vm.findClass E = some ce.cls)
    (hx : ∀ t : State, t.heap = H → s.vm.Alike t.vm → XC E s t) (hf : ∀ z ∈ locs, free z.base) (hc : cells ≤ mc) (hs : slots ≤ ms) :
    vx_W p l e R s m args below meth c H locs cells slots (vx_MQ below Qc XC args s mc ms free) (F0 m pc ls rest) q := by
  intro T hT X
  have hpl : e.platform.magicAccessors = ({} : Platform).magicAccessors := by rw [X.admits.platform]
  obtain ⟨vm', hW', X', st⟩ := X.outThrough hlocks q (g := F0 m pc ls rest) rfl rfl rfl (cell := ce) (by rw [hT]; exact hcell) (by rw [hv]; rfl)
    (by obtain ⟨k9, h9, -⟩ := Vm.findClass_spec hcl; exact ⟨k9, h9⟩) (fun z hz => by
      rcases hpass z hz with h | ⟨hz0, nm, hl1, hn1⟩
      · exact Or.inl h
      · obtain ⟨c6, hc6, hcl6⟩ := Cond.classLink_spec hown hl1 e.platform hpl
        obtain ⟨a8, b8, h1, h2, h3⟩ := hn1
        cases Option.some.inj (h1.symm.trans hcl)
        cases Option.some.inj (h2.symm.trans hc6)
        exact Or.inr ⟨hz0, _, hcl6, h3⟩)
  obtain ⟨g₀, hfr⟩ := X'.frames_eq
  have hcell9 : ((T.setVm vm').setFrames (.throwing q :: below)).heap[q]? = some ce := by
    show T.heap[q]? = some ce
    rw [hT]; exact hcell
  have hend : Ended ((T.setVm vm').setFrames (.throwing q :: below)) below (.threw q) := State.frames_setFrames _ (State.cur_lt_of_frames hfr)
  refine ⟨(T.setVm vm').setFrames (.throwing q :: below), ?_, .threw q, X'.here.running, hend, Or.inr ⟨q, rfl, E, ce, locs, hx _ hT (X'.ends _).1.alike, hcell9, hv, hcl, (X'.ends _).1, (X'.ends _).2.mono hc hs, hf⟩⟩
  rw [X.pushThrowing_eq]
  exact st
/-- a thing of a world lies in the heap -/
theorem vx_lt {D : va_G} {cl : List vw_C} {ws : va_W} {H1 : Heap} (h : va_P D cl ws H1) {k : Nat} {q : Nat × va_E} (hk : ws[k]? = some q) : q.1 < H1.size := (h k q hk).lt
end VXS
/-! ===== END ===== -/
/-! ===== BEGIN methods with a table of their own: called by a name, returning or throwing ===== -/
section VXH
/-! vx_backW, vx_callVX, vx_callSX, vx_callVW, vx_runVW, vx_runVX, vx_runSX, vx_ofWH follow the same proofs as their sisters above (Free/Laws.lean, Shelf42/LK1.lean); vx_outP calls Shelf42/NT130.lean (outThrough). -/
section
variable {l : Launch} {R : Room} {p : Program} {e : Env} {below : List Frame} {s : State} {sargs : Array Value} {y : MethodName} {len W9 : Nat}
theorem vx_backW {ws : List Cond} {rm : Room} {Pc : Array Value → State → Prop} {Qc : Array Value → State → Outcome → State → Prop} {XC : String → State → State → Prop} {mc ms : Nat} {free : Addr → Prop} {bytes : ByteArray} {maxL : Nat} {ret : Option FieldType} {hh : List (Nat × Nat × Nat × Nat)}
    (hM : vx_Met l y ws rm Pc Qc XC mc ms free) (hblind : FrameBlind Pc) (hrc : rm.cells = mc) (hrs : rm.slots = ms)
    (hframes : rm.frames + 1 ≤ R.frames) (hlocals : W9 + (maxL + 11) + rm.locals ≤ R.locals)
    (hws : ∀ w ∈ ws, ∀ a' U, s.WarmedH U.vm → w.before a' U = true) (hcode : Cond.codeWith y bytes maxL ret hh ∈ ws) (hinit : ∀ a' U, s.WarmedH U.vm → (Cond.initialized y.cls).before a' U = true) :
    vx_Back l R p e below s sargs y len W9 (PreOf R mc ms Pc) (PostOf Qc mc ms free) (vx_Post XC mc ms free) := by
  intro m meth c A g ig mk a X hg hsize hdg hW hn hp
  have h1 : (headSpec ws rm).pre.before a A.U = true := atoms_intro fun w hw => hws w hw _ _ X.warmed
  have h2 : (Cond.codeWith y bytes maxL ret hh).before a A.U = true := hws _ hcode _ _ X.warmed
  have h3 : (Cond.initialized y.cls).before a A.U = true := hinit _ _ X.warmed
  have h4 : A.cells + (headSpec ws rm).room.cells ≤ R.cells := by rw [show (headSpec ws rm).room.cells = mc from hrc]; exact hp.1
  have h5 : A.slots + (headSpec ws rm).room.slots ≤ R.slots := by rw [show (headSpec ws rm).room.slots = ms from hrs]; exact hp.2.1
  have hPc : Pc a (A.U.calling g mk a) := hblind _ _ _ _ hp.2.2
  obtain ⟨U, Ls, c0, s0⟩ := A
  dsimp only [Pt.U, Pt.locs, Pt.cells, Pt.slots] at h1 h2 h3 h4 h5 X hn hPc ⊢
  obtain ⟨m9, methY, cY, hn9, hmY, hcY, -, hlY, -⟩ := Cond.codeWith_spec h2
  cases Option.some.inj (hn9.symm.trans hn)
  obtain ⟨kY, hkY, -⟩ := className_of_methodNamed hn
  have hinitY : kY.init = .initialized := Cond.initialized_spec (findClass_of_methodNamed hn) hkY h3
  have h : At U g.method c below := by rw [hg]; exact X.here
  have hlocals9 : W9 + (maxL + 11) + (headSpec ws rm).room.locals ≤ R.locals := hlocals
  have happ : (headSpec ws rm).appliesLoose y e.platform (U.calling g mk a) = true :=
    Spec.appliesLoose_calling (g := g) h hdg hn hkY hinitY
      (X.room_calling (g := g) (R' := (headSpec ws rm).room) hsize hmY hcY hframes (by rw [hlY]; omega) h4 h5) h1
  obtain ⟨mid, hmid⟩ := h.above
  have hfr : (U.setTop g).frames = (.java g :: mid) ++ below := by rw [State.frames_setTop' g h.top, hmid]; rfl
  obtain ⟨o, s₂, hsteps, -, hend, hq⟩ := Steps.callFree hM p X.admits X.cas X.clock (acts := []) hfr happ hPc trivial
  have hq' : vx_Q Qc XC mc ms free a (U.calling g mk a) o s₂ := hq
  rw [State.frames_setTop' g h.top] at hend
  obtain ⟨g₀, hg0⟩ := Option.isSome_iff_exists.mp h.top
  obtain ⟨r, hr⟩ := State.topJava?_eq_some.mp hg0
  have hr' : (({ U with heap := s₂.heap, slotsUsed := s₂.slotsUsed } : State).setVm s₂.vm).frames = .java g₀ :: r := hr
  rcases hq' with ⟨hqc, L, hfe, hL⟩ | ⟨q, rfl, E, ce, L, hx, hce, hcv, hcl, hW₂, hsm, hL⟩
  · obtain ⟨⟨v, rfl⟩, hW₂, e2, q2, q3, q4, q5, q6⟩ := id hfe
    have e3 : s₂ = ({ (U.calling g mk a).setFrames s₂.frames with heap := s₂.heap, slotsUsed := s₂.slotsUsed } : State).setVm s₂.vm := by
      have : s₂ = ({ s₂ with vm := (U.calling g mk a).vm } : State).setVm s₂.vm := rfl
      rw [e2] at this
      exact this
    obtain ⟨c₂, i₂, len₂, hc₂, hd₂, hf₂⟩ := hend
    have hW' : U.WarmedH s₂.vm := hW₂
    have hcc : c₂ = c := by
      have h1 : s₂.code? g.method = U.code? g.method := by
        rw [State.code?_eq, State.code?_eq, hW'.alike.method?]
      exact Option.some.inj (hc₂.symm.trans (h1.trans h.code))
    subst hcc
    have hlen : len₂ = len := by rw [hdg] at hd₂; cases hd₂; rfl
    subst hlen
    have hs₂ : s₂ = (({ U with heap := s₂.heap, slotsUsed := s₂.slotsUsed } : State).setVm s₂.vm).setTop { g with pc := g.pc + len₂, stack := v.toList ++ g.stack } := by
      refine e3.trans ?_
      rw [hf₂, State.calling_eq h.top, State.setFrames_setFrames, State.setTop_of_frames _ hr', hr]
      rfl
    have hsame : U.sameButNew ({ U with heap := s₂.heap, slotsUsed := s₂.slotsUsed } : State) L mc ms := by
      refine ⟨?_, q2, q3, q4, q5, q6⟩
      obtain ⟨t, ht, -⟩ := State.frames_cons hr
      show ({ U with heap := s₂.heap, slotsUsed := s₂.slotsUsed } : State) = { U.setFrames U.frames with heap := s₂.heap, slotsUsed := s₂.slotsUsed }
      rw [State.setFrames_self ht]
    subst hg
    refine Or.inl ⟨v, ⟨(({ U with heap := s₂.heap, slotsUsed := s₂.slotsUsed } : State).setVm s₂.vm), Ls ++ L, c0 + mc, s0 + ms⟩,
      ⟨X.admits, X.cas, X.clock, X.frames, X.room, X.hears, X.method, X.code, (X.here.setHeapUsed s₂.heap s₂.slotsUsed).setVm hW'.alike, X.tail, State.WarmedH.trans X.warmed hW', X.limits, X.bytes, X.same.trans (hsame.setVm s.vm)⟩,
      ⟨g, mk, s₂, L, rfl, rfl, hqc, rfl, hL, rfl, rfl⟩, ?_⟩
    show Steps p.tables e below _ ((({ U with heap := s₂.heap, slotsUsed := s₂.slotsUsed } : State).setVm s₂.vm).setTop { g with pc := g.pc + len₂, stack := v.toList ++ g.stack })
    rw [← hs₂]
    exact hsteps
  · obtain ⟨e2, q2, q3, q4, q5, q6⟩ := id hsm
    have e3 : s₂ = ({ (U.calling g mk a).setFrames s₂.frames with heap := s₂.heap, slotsUsed := s₂.slotsUsed } : State).setVm s₂.vm := by
      have : s₂ = ({ s₂ with vm := (U.calling g mk a).vm } : State).setVm s₂.vm := rfl
      rw [e2] at this
      exact this
    have hf₂ : s₂.frames = .throwing q :: .java g :: U.frames.tail := hend
    have hW' : U.WarmedH s₂.vm := hW₂
    have hs₂ : s₂ = ((({ U with heap := s₂.heap, slotsUsed := s₂.slotsUsed } : State).setVm s₂.vm).setTop g).pushFrame (.throwing q) := by
      refine e3.trans ?_
      rw [hf₂, State.calling_eq h.top, State.setFrames_setFrames, State.pushFrame, State.frames_setTop _ hr', State.setTop_of_frames _ hr', State.setFrames_setFrames, hr]
      rfl
    have hsame : U.sameButNew ({ U with heap := s₂.heap, slotsUsed := s₂.slotsUsed } : State) L mc ms := by
      refine ⟨?_, q2, q3, q4, q5, q6⟩
      obtain ⟨t, ht, -⟩ := State.frames_cons hr
      show ({ U with heap := s₂.heap, slotsUsed := s₂.slotsUsed } : State) = { U.setFrames U.frames with heap := s₂.heap, slotsUsed := s₂.slotsUsed }
      rw [State.setFrames_self ht]
    subst hg
    refine Or.inr ⟨q, ⟨(({ U with heap := s₂.heap, slotsUsed := s₂.slotsUsed } : State).setVm s₂.vm), Ls ++ L, c0 + mc, s0 + ms⟩,
      ⟨X.admits, X.cas, X.clock, X.frames, X.room, X.hears, X.method, X.code, (X.here.setHeapUsed s₂.heap s₂.slotsUsed).setVm hW'.alike, X.tail, State.WarmedH.trans X.warmed hW', X.limits, X.bytes, X.same.trans (hsame.setVm s.vm)⟩,
      ⟨g, mk, s₂, L, E, ce, rfl, rfl, hx, hce, hcv, hcl, rfl, hL, rfl, rfl⟩, ?_⟩
    show Steps p.tables e below _ (((({ U with heap := s₂.heap, slotsUsed := s₂.slotsUsed } : State).setVm s₂.vm).setTop g).pushFrame (.throwing q))
    rw [← hs₂]
    exact hsteps
end
variable {p : Program} {l : Launch} {e : Env} {R : Room} {s : State} {m : MethodId} {args : Array Value} {below : List Frame} {meth : Method} {c : Code} {T : State} {H : Heap} {locs : List Loc} {cells slots : Nat}
theorem vx_callVX (X : Stand p l e R s m args below meth c T locs cells slots) (hexec : p.tables.exec = Jvm.exec) {own C : String} {index : Nat} {y : MethodName} {bytes : ByteArray} {maxL : Nat} {ret : Option FieldType} {hh : List (Nat × Nat × Nat × Nat)}
    (hown : s.vm.findClass own = some m.cls) (hlink : (Cond.methodLink own index y).before args s = true) (hinst : (Cond.instanceMethod y).before args s = true) (hsel : (Cond.selects C y y).before args s = true)
    (hcode : (Cond.codeWith y bytes maxL ret hh).before args s = true) (hy : y.cls ≠ "java/lang/invoke/MethodHandle" ∧ y.cls ≠ "java/lang/invoke/VarHandle")
    {W9 : Nat} {Pre : Pt → Array Value → Prop} {Post : Pt → Array Value → Option Value → Pt → Prop} {PostX : Pt → Array Value → Addr → Pt → Prop} (hK : vx_Back l R p e below s args y 3 W9 Pre Post PostX)
    {b : Addr} {cellB : Cell} (hcell : T.heap[b]? = some cellB) (hobj : cellB.vm.isStatics = false) (hcls : s.vm.findClass C = some cellB.cls)
    {g : JFrame} (hg : g.method = m) (hsize : g.locals.size = c.maxLocals) {argsL rest : List Value} (hlen : ∀ sig, parseMethodDescriptor y.desc = some sig → argsL.length = sig.parameters.length)
    (hstack : g.stack = argsL.reverse ++ .ref b :: rest) (hW : 2 * g.monitorRoom + (rest.map fun v => v.category).sum ≤ W9) (hdg : decode c.code g.pc = .ok (.invokevirtual index, 3))
    (hpre : ∀ vm₁, s.WarmedH vm₁ → Pre ⟨T.setVm vm₁, locs, cells, slots⟩ (Value.ref b :: argsL).toArray) :
    (∃ (v : Option Value) (vm₁ : Vm) (B : Pt), s.WarmedH vm₁ ∧ Stand p l e R s m args below meth c B.U B.locs B.cells B.slots ∧ Post ⟨T.setVm vm₁, locs, cells, slots⟩ (Value.ref b :: argsL).toArray v B ∧
      ∀ target, Steps p.tables e below (B.U.setTop { g with pc := g.pc + 3, stack := v.toList ++ rest }) target → Steps p.tables e below (T.setTop g) target) ∨
    (∃ (q : Addr) (vm₁ : Vm) (B : Pt), s.WarmedH vm₁ ∧ Stand p l e R s m args below meth c B.U B.locs B.cells B.slots ∧ PostX ⟨T.setVm vm₁, locs, cells, slots⟩ (Value.ref b :: argsL).toArray q B ∧
      Steps p.tables e below (T.setTop g) ((B.U.setTop { g with stack := rest }).pushFrame (.throwing q))) := by
  obtain ⟨mk, methM, hnamed, hmethM, hstM, habM⟩ := Cond.instanceMethod_spec hinst
  obtain ⟨m8, methM', cM, hn8, hmethM', -, -, -, -, -, -, hsigM⟩ := Cond.codeWith_spec hcode
  cases Option.some.inj (hn8.symm.trans hnamed)
  cases hmethM.symm.trans hmethM'
  obtain ⟨c2, r2, m2, q1, q2, q3, q4, kP, hkP, hkPi⟩ := Cond.selects_spec hsel
  cases hcls.symm.trans q1
  cases (State.methodFound?_of_named hnamed hy).symm.trans q2
  cases hnamed.symm.trans q3
  have hselP : selectMethod e.platform s.vm cellB.cls mk = .method mk := by rw [Launch.admits_selectMethod X.admits]; exact q4
  obtain ⟨vm₁, X₁, hstep₁⟩ := X.invokevirtual hexec hown hlink hnamed hmethM hstM hkP hkPi hy (a := b) (cell := cellB) hcell
    (fun z h => by rw [h] at hobj; cases hobj) hselP hmethM habM hkP hkPi (g := g) hg (argsL := argsL) (rest := rest) (hlen _ hsigM) hstack hdg
  rcases hK m meth c ⟨T.setVm vm₁, locs, cells, slots⟩ { g with stack := rest } (.invokevirtual index) mk (Value.ref b :: argsL).toArray X₁ hg hsize hdg hW (X₁.named hnamed) (hpre vm₁ X₁.warmed) with ⟨v, B, X', hpost, hsteps⟩ | ⟨q, B, X', hpost, hsteps⟩
  · exact Or.inl ⟨v, vm₁, B, X₁.warmed, X', hpost, fun target h => hstep₁ _ fun acts => by rw [doInvoke_state]; exact hsteps.trans h⟩
  · exact Or.inr ⟨q, vm₁, B, X₁.warmed, X', hpost, hstep₁ _ fun acts => by rw [doInvoke_state]; exact hsteps⟩
theorem vx_callSX (X : Stand p l e R s m args below meth c T locs cells slots) (hexec : p.tables.exec = Jvm.exec) {own : String} {index : Nat} {y : MethodName} {bytes : ByteArray} {maxL : Nat} {ret : Option FieldType} {hh : List (Nat × Nat × Nat × Nat)}
    (hown : s.vm.findClass own = some m.cls) (hlink : (Cond.methodLink own index y).before args s = true) (hstat : (Cond.static y).before args s = true) (hinit : (Cond.initialized y.cls).before args s = true)
    (hcode : (Cond.codeWith y bytes maxL ret hh).before args s = true) (hy : y.cls ≠ "java/lang/invoke/MethodHandle" ∧ y.cls ≠ "java/lang/invoke/VarHandle")
    {W9 : Nat} {Pre : Pt → Array Value → Prop} {Post : Pt → Array Value → Option Value → Pt → Prop} {PostX : Pt → Array Value → Addr → Pt → Prop} (hK : vx_Back l R p e below s args y 3 W9 Pre Post PostX)
    {g : JFrame} (hg : g.method = m) (hsize : g.locals.size = c.maxLocals) {argsL rest : List Value} (hlen : ∀ sig, parseMethodDescriptor y.desc = some sig → argsL.length = sig.parameters.length)
    (hstack : g.stack = argsL.reverse ++ rest) (hW : 2 * g.monitorRoom + (rest.map fun v => v.category).sum ≤ W9) (hdg : decode c.code g.pc = .ok (.invokestatic index, 3))
    (hpre : ∀ vm₁, s.WarmedH vm₁ → Pre ⟨T.setVm vm₁, locs, cells, slots⟩ argsL.toArray) :
    (∃ (v : Option Value) (vm₁ : Vm) (B : Pt), s.WarmedH vm₁ ∧ Stand p l e R s m args below meth c B.U B.locs B.cells B.slots ∧ Post ⟨T.setVm vm₁, locs, cells, slots⟩ argsL.toArray v B ∧
      ∀ target, Steps p.tables e below (B.U.setTop { g with pc := g.pc + 3, stack := v.toList ++ rest }) target → Steps p.tables e below (T.setTop g) target) ∨
    (∃ (q : Addr) (vm₁ : Vm) (B : Pt), s.WarmedH vm₁ ∧ Stand p l e R s m args below meth c B.U B.locs B.cells B.slots ∧ PostX ⟨T.setVm vm₁, locs, cells, slots⟩ argsL.toArray q B ∧
      Steps p.tables e below (T.setTop g) ((B.U.setTop { g with stack := rest }).pushFrame (.throwing q))) := by
  obtain ⟨mk, methM, cM, hnamed, hmethM, -, -, -, -, -, -, hsigM⟩ := Cond.codeWith_spec hcode
  have hstatic : methM.isStatic = true := Cond.static_spec hnamed hmethM hstat
  obtain ⟨kP, hkP, -⟩ := className_of_methodNamed hnamed
  have hinitP : kP.init = .initialized := Cond.initialized_spec (findClass_of_methodNamed hnamed) hkP hinit
  obtain ⟨vm₁, X₁, hstep₁⟩ := X.invokestatic hexec hown hlink hnamed hmethM hstatic hkP hinitP hy (g := g) hg (argsL := argsL) (rest := rest) (hlen _ hsigM) hstack hdg
  rcases hK m meth c ⟨T.setVm vm₁, locs, cells, slots⟩ { g with stack := rest } (.invokestatic index) mk argsL.toArray X₁ hg hsize hdg hW (X₁.named hnamed) (hpre vm₁ X₁.warmed) with ⟨v, B, X', hpost, hsteps⟩ | ⟨q, B, X', hpost, hsteps⟩
  · exact Or.inl ⟨v, vm₁, B, X₁.warmed, X', hpost, fun target h => hstep₁ _ fun acts => by rw [doInvoke_state]; exact hsteps.trans h⟩
  · exact Or.inr ⟨q, vm₁, B, X₁.warmed, X', hpost, hstep₁ _ fun acts => by rw [doInvoke_state]; exact hsteps⟩
theorem vx_callVW (X : Stand p l e R s m args below meth c T locs cells slots) (hexec : p.tables.exec = Jvm.exec) {own C : String} {index : Nat} {y : MethodName} {bytes : ByteArray} {maxL : Nat} {ret : Option FieldType} {hh : List (Nat × Nat × Nat × Nat)}
    (hown : s.vm.findClass own = some m.cls) (hlink : (Cond.methodLink own index y).before args s = true) (hinst : (Cond.instanceMethod y).before args s = true) (hsel : (Cond.selects C y y).before args s = true)
    (hcode : (Cond.codeWith y bytes maxL ret hh).before args s = true) (hy : y.cls ≠ "java/lang/invoke/MethodHandle" ∧ y.cls ≠ "java/lang/invoke/VarHandle")
    {W9 : Nat} {Pre : Pt → Array Value → Prop} {Post : Pt → Array Value → Option Value → Pt → Prop} (hK : Back l R p e below s args y 3 W9 Pre Post)
    {b : Addr} {cellB : Cell} (hcell : T.heap[b]? = some cellB) (hobj : cellB.vm.isStatics = false) (hcls : s.vm.findClass C = some cellB.cls)
    {g : JFrame} (hg : g.method = m) (hsize : g.locals.size = c.maxLocals) {argsL rest : List Value} (hlen : ∀ sig, parseMethodDescriptor y.desc = some sig → argsL.length = sig.parameters.length)
    (hstack : g.stack = argsL.reverse ++ .ref b :: rest) (hW : 2 * g.monitorRoom + (rest.map fun v => v.category).sum ≤ W9) (hdg : decode c.code g.pc = .ok (.invokevirtual index, 3))
    (hpre : ∀ vm₁, s.WarmedH vm₁ → Pre ⟨T.setVm vm₁, locs, cells, slots⟩ (Value.ref b :: argsL).toArray) :
    ∃ (v : Option Value) (vm₁ : Vm) (B : Pt), s.WarmedH vm₁ ∧ Stand p l e R s m args below meth c B.U B.locs B.cells B.slots ∧ Post ⟨T.setVm vm₁, locs, cells, slots⟩ (Value.ref b :: argsL).toArray v B ∧
      ∀ target, Steps p.tables e below (B.U.setTop { g with pc := g.pc + 3, stack := v.toList ++ rest }) target → Steps p.tables e below (T.setTop g) target := by
  obtain ⟨mk, methM, hnamed, hmethM, hstM, habM⟩ := Cond.instanceMethod_spec hinst
  obtain ⟨m8, methM', cM, hn8, hmethM', -, -, -, -, -, -, hsigM⟩ := Cond.codeWith_spec hcode
  cases Option.some.inj (hn8.symm.trans hnamed)
  cases hmethM.symm.trans hmethM'
  obtain ⟨c2, r2, m2, q1, q2, q3, q4, kP, hkP, hkPi⟩ := Cond.selects_spec hsel
  cases hcls.symm.trans q1
  cases (State.methodFound?_of_named hnamed hy).symm.trans q2
  cases hnamed.symm.trans q3
  have hselP : selectMethod e.platform s.vm cellB.cls mk = .method mk := by rw [Launch.admits_selectMethod X.admits]; exact q4
  obtain ⟨vm₁, X₁, hstep₁⟩ := X.invokevirtual hexec hown hlink hnamed hmethM hstM hkP hkPi hy (a := b) (cell := cellB) hcell
    (fun z h => by rw [h] at hobj; cases hobj) hselP hmethM habM hkP hkPi (g := g) hg (argsL := argsL) (rest := rest) (hlen _ hsigM) hstack hdg
  obtain ⟨v, B, X', hpost, hsteps⟩ := hK m meth c ⟨T.setVm vm₁, locs, cells, slots⟩ { g with stack := rest } (.invokevirtual index) mk (Value.ref b :: argsL).toArray X₁ hg hsize hdg hW (X₁.named hnamed) (hpre vm₁ X₁.warmed)
  exact ⟨v, vm₁, B, X₁.warmed, X', hpost, fun target h => hstep₁ _ fun acts => by rw [doInvoke_state]; exact hsteps.trans h⟩
abbrev vx_CVW (R : Room) (s : State) (args : Array Value) (own C : String) (index : Nat) (y : MethodName) (bytes : ByteArray) (maxL : Nat) (ret : Option FieldType) (hh : List (Nat × Nat × Nat × Nat)) (ws : List Cond) (rm : Room) (mc ms n : Nat) : Prop :=
  (rm.cells = mc ∧ rm.slots = ms ∧ rm.frames + 1 ≤ R.frames ∧ 8 + (maxL + 11) + rm.locals ≤ R.locals ∧ (∀ w ∈ ws, ∀ (a' : Array Value) (U : State), s.WarmedH U.vm → w.before a' U = true) ∧ Cond.codeWith y bytes maxL ret hh ∈ ws) ∧
  (Cond.codeWith y bytes maxL ret hh).before args s = true ∧ (Cond.initialized y.cls).before args s = true ∧ (y.cls ≠ "java/lang/invoke/MethodHandle" ∧ y.cls ≠ "java/lang/invoke/VarHandle") ∧
  (∀ sig, parseMethodDescriptor y.desc = some sig → n = sig.parameters.length) ∧ (Cond.methodLink own index y).before args s = true ∧ (Cond.instanceMethod y).before args s = true ∧ (Cond.selects C y y).before args s = true
theorem vx_cwVW {own C : String} {index maxL mc ms : Nat} {y : MethodName} {bytes : ByteArray} {ret : Option FieldType} {hh : List (Nat × Nat × Nat × Nat)} {Ts ws ws' : List Cond} {rm : Room} (n : Nat) (ht : ∀ w ∈ Ts, w.before args s = true) (hT : GoodIn Ts (wsV own index C y ws)) (hw : ws = Cond.codeWith y bytes maxL ret hh :: ws') (hrc : rm.cells = mc) (hrs : rm.slots = ms)
    (hd : y.cls = C ∧ y.cls ≠ "java/lang/invoke/MethodHandle" ∧ y.cls ≠ "java/lang/invoke/VarHandle" ∧ (parseMethodDescriptor y.desc).map (fun d => d.parameters.length) = some n) (hR : rm.frames + 1 ≤ R.frames ∧ 8 + (maxL + 11) + rm.locals ≤ R.locals) :
    vx_CVW R s args own C index y bytes maxL ret hh ws rm mc ms n := by
  obtain ⟨hC, hd⟩ := hd
  subst hC
  have ok : ∀ w ∈ wsV own index y.cls y ws, w.before args s = true := fun w h => ht w (hT w h).1
  have hG : GoodIn Ts ws := fun w h => hT w (by unfold wsV; exact List.mem_append_right _ h)
  have hc : Cond.codeWith y bytes maxL ret hh ∈ ws := by rw [hw]; exact List.mem_cons_self
  refine ⟨⟨hrc, hrs, hR.1, hR.2, pay_in ht hG, hc⟩, ht _ (hG _ hc).1, ok _ (by simp [wsV]), ⟨hd.1, hd.2.1⟩, fun sig h => ?_, ok _ (by simp [wsV]), ok _ (by simp [wsV]), ok _ (by simp [wsV])⟩
  have h2 := hd.2.2
  rw [h] at h2
  exact (Option.some.inj h2).symm
theorem vx_runVW {y : MethodName} {bytes cc : ByteArray} {maxL nL mc ms n index : Nat} {ret : Option FieldType} {hh : List (Nat × Nat × Nat × Nat)} {ws : List Cond} {rm : Room} {Pc : Array Value → State → Prop} {Qc : Array Value → State → Outcome → State → Prop} {free : Addr → Prop} {Ts : List Cond} {own C : String} {b : Addr} {As rest : List Value} {g : JFrame}
    (S : CallFix p m c cc nL s args Ts own) (hM : Met l y ws rm Pc Qc mc ms free) (cw : vx_CVW R s args own C index y bytes maxL ret hh ws rm mc ms n) (hp : PreV s H C b Pc As)
    (hg : g.method = m) (hn : As.length = n) (hsize : g.locals.size = nL) (hstack : g.stack = As.reverse ++ .ref b :: rest) (hW : 2 * g.monitorRoom + (rest.map fun v => v.category).sum ≤ 8) (hdg : decode cc g.pc = .ok (.invokevirtual index, 3)) (hf : cells + mc ≤ R.cells ∧ slots + ms ≤ R.slots) :
    va_Run p l e R s m args below meth c H locs cells slots mc ms g rest (Qc (Value.ref b :: As).toArray) free := by
  obtain ⟨⟨hrc, hrs, hfr, hlo, hws, hcw⟩, hcode, hini, hy, hlen, hl, hin, hse⟩ := cw
  have hK : Back l R p e below s args y 3 8 (PreOf R mc ms Pc) (PostOf Qc mc ms free) := va_backW (hh := hh) (bytes := bytes) (maxL := maxL) (ret := ret) hM hp.1 hrc hrs hfr hlo hws hcw (fun a' U hW => word_at hW (Or.inl (by first | rfl | simp [Cond.onTables, Cond.keeps, Cond.steady])) hini)
  obtain ⟨hx, hb, hml, ho, -⟩ := S
  obtain ⟨-, ⟨cellB, hcB, hoB, hclB⟩, hPc⟩ := hp
  intro T hT X
  obtain ⟨v, vm₁, ⟨U', l2, c2, s2⟩, hW₁, X', ⟨g', mk, t, L, e1, e2, hq, h1, hL, h2, h3⟩, st⟩ := vx_callVW X hx (C := C) (hh := hh) (bytes := bytes) (maxL := maxL) (ret := ret) ho hl hin hse hcode hy hK (by rw [hT]; exact hcB) hoB hclB hg (hsize.trans hml.symm) (argsL := As) (rest := rest) (fun sig h => hn.trans (hlen sig h)) hstack hW (by rw [hb]; exact hdg)
    (fun vm₁ hW₁ => ⟨hf.1, hf.2, hPc (T.setVm vm₁) hT hW₁⟩)
  dsimp only [Pt.U, Pt.locs, Pt.cells, Pt.slots] at X' e1 e2 h1 h2 h3 st
  subst h1; subst h2; subst h3
  exact ⟨v, (T.setVm vm₁).calling g' mk (Value.ref b :: As).toArray, t, U', L, hT, X', hL, e1, e2, hq, st⟩
section
variable {y : MethodName} {bytes cc : ByteArray} {maxL nL mc ms n index : Nat} {ret : Option FieldType} {ws : List Cond} {rm : Room} {Pc : Array Value → State → Prop} {Qc : Array Value → State → Outcome → State → Prop} {XC : String → State → State → Prop} {free : Addr → Prop} {Ts : List Cond} {own C : String} {b : Addr} {As rest : List Value} {g : JFrame}
theorem vx_runVX {hh : List (Nat × Nat × Nat × Nat)} (S : CallFix p m c cc nL s args Ts own) (hM : vx_Met l y ws rm Pc Qc XC mc ms free) (cw : vx_CVW R s args own C index y bytes maxL ret hh ws rm mc ms n) (hp : PreV s H C b Pc As)
    (hg : g.method = m) (hn : As.length = n) (hsize : g.locals.size = nL) (hstack : g.stack = As.reverse ++ .ref b :: rest) (hW : 2 * g.monitorRoom + (rest.map fun v => v.category).sum ≤ 8) (hdg : decode cc g.pc = .ok (.invokevirtual index, 3)) (hf : cells + mc ≤ R.cells ∧ slots + ms ≤ R.slots) :
    vx_Run p l e R s m args below meth c H locs cells slots mc ms g rest (Qc (Value.ref b :: As).toArray) XC free := by
  obtain ⟨⟨hrc, hrs, hfr, hlo, hws, hcw⟩, hcode, hini, hy, hlen, hl, hin, hse⟩ := cw
  have hK : vx_Back l R p e below s args y 3 8 (PreOf R mc ms Pc) (PostOf Qc mc ms free) (vx_Post XC mc ms free) := vx_backW (hh := hh) (bytes := bytes) (maxL := maxL) (ret := ret) hM hp.1 hrc hrs hfr hlo hws hcw (fun a' U hW => word_at hW (Or.inl (by first | rfl | simp [Cond.onTables, Cond.keeps, Cond.steady])) hini)
  obtain ⟨hx, hb, hml, ho, -⟩ := S
  obtain ⟨-, ⟨cellB, hcB, hoB, hclB⟩, hPc⟩ := hp
  intro T hT X
  rcases vx_callVX X hx (C := C) (hh := hh) (bytes := bytes) (maxL := maxL) (ret := ret) ho hl hin hse hcode hy hK (by rw [hT]; exact hcB) hoB hclB hg (hsize.trans hml.symm) (argsL := As) (rest := rest) (fun sig h => hn.trans (hlen sig h)) hstack hW (by rw [hb]; exact hdg)
    (fun vm₁ hW₁ => ⟨hf.1, hf.2, hPc (T.setVm vm₁) hT hW₁⟩) with ⟨v, vm₁, ⟨U', l2, c2, s2⟩, hW₁, X', ⟨g', mk, t, L, e1, e2, hq, h1, hL, h2, h3⟩, st⟩ | ⟨q, vm₁, ⟨U', l2, c2, s2⟩, hW₁, X', ⟨g', mk, t, L, E, ce, e1, e2, hq, hce, hcv, hcl, h1, hL, h2, h3⟩, st⟩
  · dsimp only [Pt.U, Pt.locs, Pt.cells, Pt.slots] at X' e1 e2 h1 h2 h3 st
    subst h1; subst h2; subst h3
    exact Or.inl ⟨v, (T.setVm vm₁).calling g' mk (Value.ref b :: As).toArray, t, U', L, hT, X', hL, e1, e2, hq, st⟩
  · dsimp only [Pt.U, Pt.locs, Pt.cells, Pt.slots] at X' e1 e2 h1 h2 h3 st hcl
    subst h1; subst h2; subst h3
    exact Or.inr ⟨q, (T.setVm vm₁).calling g' mk (Value.ref b :: As).toArray, t, U', L, E, ce, hT, X', hL, e1, e2, hq, hce, hcv, vx_cls hW₁ hcl, st⟩
theorem vx_runSX {hh : List (Nat × Nat × Nat × Nat)} (S : CallFix p m c cc nL s args Ts own) (hM : vx_Met l y ws rm Pc Qc XC mc ms free) (cw : vx_CSW R s args own index y bytes maxL ret hh ws rm mc ms n) (hp : PreS s H Pc As)
    (hg : g.method = m) (hn : As.length = n) (hsize : g.locals.size = nL) (hstack : g.stack = As.reverse ++ rest) (hW : 2 * g.monitorRoom + (rest.map fun v => v.category).sum ≤ 8) (hdg : decode cc g.pc = .ok (.invokestatic index, 3)) (hf : cells + mc ≤ R.cells ∧ slots + ms ≤ R.slots) :
    vx_Run p l e R s m args below meth c H locs cells slots mc ms g rest (Qc As.toArray) XC free := by
  obtain ⟨⟨hrc, hrs, hfr, hlo, hws, hcw⟩, hcode, hini, hy, hlen, hl, hstt⟩ := cw
  have hK : vx_Back l R p e below s args y 3 8 (PreOf R mc ms Pc) (PostOf Qc mc ms free) (vx_Post XC mc ms free) := vx_backW (hh := hh) (bytes := bytes) (maxL := maxL) (ret := ret) hM hp.1 hrc hrs hfr hlo hws hcw (fun a' U hW => word_at hW (Or.inl (by first | rfl | simp [Cond.onTables, Cond.keeps, Cond.steady])) hini)
  obtain ⟨hx, hb, hml, ho, -⟩ := S
  intro T hT X
  rcases vx_callSX X hx (hh := hh) (bytes := bytes) (maxL := maxL) (ret := ret) ho hl hstt hini hcode hy hK hg (hsize.trans hml.symm) (argsL := As) (rest := rest) (fun sig h => hn.trans (hlen sig h)) hstack hW (by rw [hb]; exact hdg)
    (fun vm₁ hW₁ => ⟨hf.1, hf.2, hp.2 (T.setVm vm₁) hT hW₁⟩) with ⟨v, vm₁, ⟨U', l2, c2, s2⟩, hW₁, X', ⟨g', mk, t, L, e1, e2, hq, h1, hL, h2, h3⟩, st⟩ | ⟨q, vm₁, ⟨U', l2, c2, s2⟩, hW₁, X', ⟨g', mk, t, L, E, ce, e1, e2, hq, hce, hcv, hcl, h1, hL, h2, h3⟩, st⟩
  · dsimp only [Pt.U, Pt.locs, Pt.cells, Pt.slots] at X' e1 e2 h1 h2 h3 st
    subst h1; subst h2; subst h3
    exact Or.inl ⟨v, (T.setVm vm₁).calling g' mk As.toArray, t, U', L, hT, X', hL, e1, e2, hq, st⟩
  · dsimp only [Pt.U, Pt.locs, Pt.cells, Pt.slots] at X' e1 e2 h1 h2 h3 st hcl
    subst h1; subst h2; subst h3
    exact Or.inr ⟨q, (T.setVm vm₁).calling g' mk As.toArray, t, U', L, E, ce, hT, X', hL, e1, e2, hq, hce, hcv, vx_cls hW₁ hcl, st⟩
end
end VXH
theorem vx_ofWH {l : Launch} {y : MethodName} {ws ws' : List Cond} {rm : Room} {Pc : Array Value → State → Prop} {Qc : Array Value → State → Outcome → State → Prop} {XC : String → State → State → Prop} {mc ms : Nat} {free : Addr → Prop} {cc : ByteArray} {maxL : Nat} {ret : Option FieldType} {hh : List (Nat × Nat × Nat × Nat)}
    (hy : plainName y.cls = true) (hw : ws = Cond.codeWith y cc maxL ret hh :: ws')
    (body : ∀ p e s m args below meth c s₁, BodyLoose p l y (headSpec ws rm) cc maxL ret e s m args below meth c s₁ → c.maxLocals = maxL → Pc args s →
      W p l e (headSpec ws rm).room s m args below meth c s.heap [] 0 0 (vx_MQ below Qc XC args s mc ms free) (entryFrame m args maxL)) : vx_Met l y ws rm Pc Qc XC mc ms free := by
  refine MetFree.of_bodyS (code := cc) (maxLocals := maxL) (ret := ret) hy ?_ ?_
  · intro args s m h hn
    obtain ⟨m9, meth, c, hn9, h1, h2, h3, h4, -, h5, h6, -⟩ := Cond.codeWith_spec (atoms_spec (ws := ws) h _ (by rw [hw]; exact List.mem_cons_self))
    cases hn.symm.trans hn9
    exact ⟨meth, c, h1, h2, h3, h4, h5, h6⟩
  · intro p e s m args below meth c s₁ B hml hP _
    have hh0 : s₁.heap = s.heap := by rw [B.state]; rfl
    obtain ⟨t, a1, o, b1, b2, b3⟩ := body p e s m args below meth c s₁ B hml hP s₁ hh0 (Stand.of_body B)
    exact ⟨t, o, a1, b1, b2, b3⟩
/-! ===== END ===== -/
end
section
abbrev RC : String := "TickLines$Controller"
def TC : u_T := fun k => match k with
  | 0 => ("TickLines$Controller", "leads", "Z", true)
  | 1 => ("TickLines$Controller", "lines", "I", false)
  | 2 => ("TickLines$Controller", "latches", "I", false)
  | 3 => ("TickLines$Controller", "mask", "I", false)
  | 4 => ("TickLines$Controller", "service", "I", false)
  | 5 => ("TickLines$Controller", "base", "I", false)
  | 6 => ("TickLines$Controller", "lowest", "I", false)
  | 7 => ("TickLines$Controller", "ready", "Z", false)
  | 8 => ("TickLines$Controller", "awaited", "I", false)
  | 9 => ("TickLines$Controller", "levelMode", "Z", false)
  | 10 => ("TickLines$Controller", "single", "Z", false)
  | 11 => ("TickLines$Controller", "fourthComes", "Z", false)
  | 12 => ("TickLines$Controller", "auto", "Z", false)
  | 13 => ("TickLines$Controller", "nested", "Z", false)
  | 14 => ("TickLines$Controller", "special", "Z", false)
  | 15 => ("TickLines$Controller", "turns", "Z", false)
  | 16 => ("TickLines$Controller", "serviceIsRead", "Z", false)
  | _ => ("TickLines$Controller", "polled", "Z", false)
def tyC : Nat → FieldType := fun k => match k with
  | 0 => .boolean
  | 1 => .int
  | 2 => .int
  | 3 => .int
  | 4 => .int
  | 5 => .int
  | 6 => .int
  | 7 => .boolean
  | 8 => .int
  | 9 => .boolean
  | 10 => .boolean
  | 11 => .boolean
  | 12 => .boolean
  | 13 => .boolean
  | 14 => .boolean
  | 15 => .boolean
  | 16 => .boolean
  | _ => .boolean
theorem nmC : ∀ a, a < 18 → ∀ b, b < 18 → a ≠ b → (TC a).2.1 ≠ (TC b).2.1 := by decide +kernel
theorem tyC_ok : ∀ k, k < 18 → parseFieldDescriptor (TC k).2.2.1 = some (tyC k) := by decide +kernel
abbrev RN : String := "TickLines$Counter"
def TN : u_T := fun k => match k with
  | 0 => ("TickLines$Counter", "gateIsOn", "Z", false)
  | 1 => ("TickLines$Counter", "output", "Z", false)
  | 2 => ("TickLines$Counter", "mode", "I", false)
  | 3 => ("TickLines$Counter", "access", "I", false)
  | 4 => ("TickLines$Counter", "reload", "I", false)
  | 5 => ("TickLines$Counter", "count", "I", false)
  | 6 => ("TickLines$Counter", "runs", "Z", false)
  | 7 => ("TickLines$Counter", "toBeLoaded", "Z", false)
  | 8 => ("TickLines$Counter", "pending", "Z", false)
  | 9 => ("TickLines$Counter", "lowWritten", "I", false)
  | 10 => ("TickLines$Counter", "highIsWrittenNext", "Z", false)
  | 11 => ("TickLines$Counter", "highIsReadNext", "Z", false)
  | 12 => ("TickLines$Counter", "latchedCount", "I", false)
  | _ => ("TickLines$Counter", "latchedStatus", "I", false)
def tyN : Nat → FieldType := fun k => match k with
  | 0 => .boolean
  | 1 => .boolean
  | 2 => .int
  | 3 => .int
  | 4 => .int
  | 5 => .int
  | 6 => .boolean
  | 7 => .boolean
  | 8 => .boolean
  | 9 => .int
  | 10 => .boolean
  | 11 => .boolean
  | 12 => .int
  | _ => .int
theorem nmN : ∀ a, a < 14 → ∀ b, b < 14 → a ≠ b → (TN a).2.1 ≠ (TN b).2.1 := by decide +kernel
theorem tyN_ok : ∀ k, k < 14 → parseFieldDescriptor (TN k).2.2.1 = some (tyN k) := by decide +kernel
abbrev RT : String := "TickLines"
def TT : u_T := fun k => match k with
  | 0 => ("TickLines", "leader", "LTickLines$Controller;", true)
  | 1 => ("TickLines", "follower", "LTickLines$Controller;", true)
  | _ => ("TickLines", "counters", "[LTickLines$Counter;", true)
def tyT : Nat → FieldType := fun k => match k with
  | 0 => .object "TickLines$Controller"
  | 1 => .object "TickLines$Controller"
  | _ => .array (.object "TickLines$Counter")
theorem nmT : ∀ a, a < 3 → ∀ b, b < 3 → a ≠ b → (TT a).2.1 ≠ (TT b).2.1 := by decide +kernel
theorem tyT_ok : ∀ k, k < 3 → parseFieldDescriptor (TT k).2.2.1 = some (tyT k) := by decide +kernel
abbrev RM : String := "TickLinesModel"
def TM : u_T := fun k => match k with
  | 0 => ("TickLinesModel", "thrown", "I", false)
  | 1 => ("TickLinesModel", "lines", "[I", true)
  | 2 => ("TickLinesModel", "latches", "[I", true)
  | 3 => ("TickLinesModel", "mask", "[I", true)
  | 4 => ("TickLinesModel", "service", "[I", true)
  | 5 => ("TickLinesModel", "base", "[I", true)
  | 6 => ("TickLinesModel", "lowest", "[I", true)
  | 7 => ("TickLinesModel", "ready", "[Z", true)
  | 8 => ("TickLinesModel", "level", "[Z", true)
  | 9 => ("TickLinesModel", "single", "[Z", true)
  | 10 => ("TickLinesModel", "fourth", "[Z", true)
  | 11 => ("TickLinesModel", "auto", "[Z", true)
  | 12 => ("TickLinesModel", "nested", "[Z", true)
  | 13 => ("TickLinesModel", "special", "[Z", true)
  | 14 => ("TickLinesModel", "turns", "[Z", true)
  | 15 => ("TickLinesModel", "poll", "[Z", true)
  | 16 => ("TickLinesModel", "showsService", "[Z", true)
  | 17 => ("TickLinesModel", "stage", "[I", true)
  | 18 => ("TickLinesModel", "gate", "[Z", true)
  | 19 => ("TickLinesModel", "output", "[Z", true)
  | 20 => ("TickLinesModel", "mode", "[I", true)
  | 21 => ("TickLinesModel", "access", "[I", true)
  | 22 => ("TickLinesModel", "reload", "[I", true)
  | 23 => ("TickLinesModel", "count", "[I", true)
  | 24 => ("TickLinesModel", "runs", "[Z", true)
  | 25 => ("TickLinesModel", "load", "[Z", true)
  | 26 => ("TickLinesModel", "stands", "[Z", true)
  | 27 => ("TickLinesModel", "fresh", "[Z", true)
  | 28 => ("TickLinesModel", "highNext", "[Z", true)
  | 29 => ("TickLinesModel", "low", "[I", true)
  | 30 => ("TickLinesModel", "readHigh", "[Z", true)
  | 31 => ("TickLinesModel", "latched", "[I", true)
  | _ => ("TickLinesModel", "status", "[I", true)
def tyM : Nat → FieldType := fun k => match k with
  | 0 => .int
  | 1 => .array .int
  | 2 => .array .int
  | 3 => .array .int
  | 4 => .array .int
  | 5 => .array .int
  | 6 => .array .int
  | 7 => .array .boolean
  | 8 => .array .boolean
  | 9 => .array .boolean
  | 10 => .array .boolean
  | 11 => .array .boolean
  | 12 => .array .boolean
  | 13 => .array .boolean
  | 14 => .array .boolean
  | 15 => .array .boolean
  | 16 => .array .boolean
  | 17 => .array .int
  | 18 => .array .boolean
  | 19 => .array .boolean
  | 20 => .array .int
  | 21 => .array .int
  | 22 => .array .int
  | 23 => .array .int
  | 24 => .array .boolean
  | 25 => .array .boolean
  | 26 => .array .boolean
  | 27 => .array .boolean
  | 28 => .array .boolean
  | 29 => .array .int
  | 30 => .array .boolean
  | 31 => .array .int
  | _ => .array .int
theorem nmM : ∀ a, a < 33 → ∀ b, b < 33 → a ≠ b → (TM a).2.1 ≠ (TM b).2.1 := by decide +kernel
theorem tyM_ok : ∀ k, k < 33 → parseFieldDescriptor (TM k).2.2.1 = some (tyM k) := by decide +kernel
abbrev cN_init : ByteArray := prog_3_method_1_code
def yN_init : MethodName := ⟨"TickLines$Counter", "<init>", "()V"⟩
abbrev cN_hasMode : ByteArray := prog_3_method_2_code
def yN_hasMode : MethodName := ⟨"TickLines$Counter", "hasMode", "()Z"⟩
abbrev cN_setMode : ByteArray := prog_3_method_3_code
def yN_setMode : MethodName := ⟨"TickLines$Counter", "setMode", "(II)V"⟩
abbrev cN_latchCount : ByteArray := prog_3_method_4_code
def yN_latchCount : MethodName := ⟨"TickLines$Counter", "latchCount", "()V"⟩
abbrev cN_latchStatus : ByteArray := prog_3_method_5_code
def yN_latchStatus : MethodName := ⟨"TickLines$Counter", "latchStatus", "()V"⟩
abbrev cN_takeByte : ByteArray := prog_3_method_6_code
def yN_takeByte : MethodName := ⟨"TickLines$Counter", "takeByte", "(I)V"⟩
abbrev cN_giveByte : ByteArray := prog_3_method_7_code
def yN_giveByte : MethodName := ⟨"TickLines$Counter", "giveByte", "()I"⟩
abbrev cN_setGate : ByteArray := prog_3_method_8_code
def yN_setGate : MethodName := ⟨"TickLines$Counter", "setGate", "(Z)V"⟩
abbrev cN_step : ByteArray := prog_3_method_9_code
def yN_step : MethodName := ⟨"TickLines$Counter", "step", "()V"⟩
abbrev cN_tell : ByteArray := prog_3_method_10_code
def yN_tell : MethodName := ⟨"TickLines$Counter", "tell", "(I)I"⟩
abbrev cN_isEmpty : ByteArray := prog_3_method_11_code
def yN_isEmpty : MethodName := ⟨"TickLines$Counter", "isEmpty", "()Z"⟩
abbrev cN_standsBetweenBytes : ByteArray := prog_3_method_12_code
def yN_standsBetweenBytes : MethodName := ⟨"TickLines$Counter", "standsBetweenBytes", "()Z"⟩
abbrev cN_isPeriodic : ByteArray := prog_3_method_13_code
def yN_isPeriodic : MethodName := ⟨"TickLines$Counter", "isPeriodic", "()Z"⟩
abbrev cN_gateLoads : ByteArray := prog_3_method_14_code
def yN_gateLoads : MethodName := ⟨"TickLines$Counter", "gateLoads", "()Z"⟩
abbrev cN_gateHoldsBack : ByteArray := prog_3_method_15_code
def yN_gateHoldsBack : MethodName := ⟨"TickLines$Counter", "gateHoldsBack", "()Z"⟩
abbrev cN_takeReload : ByteArray := prog_3_method_16_code
def yN_takeReload : MethodName := ⟨"TickLines$Counter", "takeReload", "(I)V"⟩
abbrev cN_load : ByteArray := prog_3_method_17_code
def yN_load : MethodName := ⟨"TickLines$Counter", "load", "()V"⟩
abbrev cN_partTicks : ByteArray := prog_3_method_18_code
def yN_partTicks : MethodName := ⟨"TickLines$Counter", "partTicks", "()I"⟩
abbrev cN_setCount : ByteArray := prog_3_method_19_code
def yN_setCount : MethodName := ⟨"TickLines$Counter", "setCount", "(I)V"⟩
abbrev cN_countDown : ByteArray := prog_3_method_20_code
def yN_countDown : MethodName := ⟨"TickLines$Counter", "countDown", "()V"⟩
abbrev cN_lessen : ByteArray := prog_3_method_21_code
def yN_lessen : MethodName := ⟨"TickLines$Counter", "lessen", "(I)V"⟩
abbrev cN_stepOnce : ByteArray := prog_3_method_22_code
def yN_stepOnce : MethodName := ⟨"TickLines$Counter", "stepOnce", "()V"⟩
abbrev cN_stepRate : ByteArray := prog_3_method_23_code
def yN_stepRate : MethodName := ⟨"TickLines$Counter", "stepRate", "()V"⟩
abbrev cN_stepSquare : ByteArray := prog_3_method_24_code
def yN_stepSquare : MethodName := ⟨"TickLines$Counter", "stepSquare", "()V"⟩
abbrev cN_stepStrobe : ByteArray := prog_3_method_25_code
def yN_stepStrobe : MethodName := ⟨"TickLines$Counter", "stepStrobe", "()V"⟩
abbrev cC_init : ByteArray := prog_2_method_1_code
def yC_init : MethodName := ⟨"TickLines$Controller", "<init>", "(Z)V"⟩
abbrev cC_setLine : ByteArray := prog_2_method_2_code
def yC_setLine : MethodName := ⟨"TickLines$Controller", "setLine", "(IZ)V"⟩
abbrev cC_chosenLevel : ByteArray := prog_2_method_3_code
def yC_chosenLevel : MethodName := ⟨"TickLines$Controller", "chosenLevel", "()I"⟩
abbrev cC_serveChosen : ByteArray := prog_2_method_4_code
def yC_serveChosen : MethodName := ⟨"TickLines$Controller", "serveChosen", "()I"⟩
abbrev cC_vectorOf : ByteArray := prog_2_method_5_code
def yC_vectorOf : MethodName := ⟨"TickLines$Controller", "vectorOf", "(I)I"⟩
abbrev cC_takeSideZero : ByteArray := prog_2_method_6_code
def yC_takeSideZero : MethodName := ⟨"TickLines$Controller", "takeSideZero", "(I)V"⟩
abbrev cC_takeSideOne : ByteArray := prog_2_method_7_code
def yC_takeSideOne : MethodName := ⟨"TickLines$Controller", "takeSideOne", "(I)V"⟩
abbrev cC_giveSideZero : ByteArray := prog_2_method_8_code
def yC_giveSideZero : MethodName := ⟨"TickLines$Controller", "giveSideZero", "()I"⟩
abbrev cC_tell : ByteArray := prog_2_method_9_code
def yC_tell : MethodName := ⟨"TickLines$Controller", "tell", "(I)I"⟩
abbrev cC_requests : ByteArray := prog_2_method_10_code
def yC_requests : MethodName := ⟨"TickLines$Controller", "requests", "()I"⟩
abbrev cC_holdingLevels : ByteArray := prog_2_method_11_code
def yC_holdingLevels : MethodName := ⟨"TickLines$Controller", "holdingLevels", "()I"⟩
abbrev cC_mayNest : ByteArray := prog_2_method_12_code
def yC_mayNest : MethodName := ⟨"TickLines$Controller", "mayNest", "(I)Z"⟩
abbrev cC_serve : ByteArray := prog_2_method_13_code
def yC_serve : MethodName := ⟨"TickLines$Controller", "serve", "(I)V"⟩
abbrev cC_beginSettingUp : ByteArray := prog_2_method_14_code
def yC_beginSettingUp : MethodName := ⟨"TickLines$Controller", "beginSettingUp", "(I)V"⟩
abbrev cC_awaitFrom : ByteArray := prog_2_method_15_code
def yC_awaitFrom : MethodName := ⟨"TickLines$Controller", "awaitFrom", "(I)V"⟩
abbrev cC_becomeReady : ByteArray := prog_2_method_16_code
def yC_becomeReady : MethodName := ⟨"TickLines$Controller", "becomeReady", "()V"⟩
abbrev cC_takeServiceCommand : ByteArray := prog_2_method_17_code
def yC_takeServiceCommand : MethodName := ⟨"TickLines$Controller", "takeServiceCommand", "(II)V"⟩
abbrev cC_takeReadingCommand : ByteArray := prog_2_method_18_code
def yC_takeReadingCommand : MethodName := ⟨"TickLines$Controller", "takeReadingCommand", "(I)V"⟩
abbrev cC_firstHolding : ByteArray := prog_2_method_19_code
def yC_firstHolding : MethodName := ⟨"TickLines$Controller", "firstHolding", "()I"⟩
abbrev cC_endService : ByteArray := prog_2_method_20_code
def yC_endService : MethodName := ⟨"TickLines$Controller", "endService", "(I)V"⟩
abbrev cC_endServiceAndTurn : ByteArray := prog_2_method_21_code
def yC_endServiceAndTurn : MethodName := ⟨"TickLines$Controller", "endServiceAndTurn", "(I)V"⟩
abbrev cT_init : ByteArray := prog_1_method_1_code
def yT_init : MethodName := ⟨"TickLines", "<init>", "()V"⟩
abbrev cT_write : ByteArray := prog_1_method_2_code
def yT_write : MethodName := ⟨"TickLines", "write", "(II)V"⟩
abbrev cT_read : ByteArray := prog_1_method_3_code
def yT_read : MethodName := ⟨"TickLines", "read", "(I)I"⟩
abbrev cT_line : ByteArray := prog_1_method_4_code
def yT_line : MethodName := ⟨"TickLines", "line", "(IIZ)Z"⟩
abbrev cT_gate : ByteArray := prog_1_method_5_code
def yT_gate : MethodName := ⟨"TickLines", "gate", "(IZ)Z"⟩
abbrev cT_tick : ByteArray := prog_1_method_6_code
def yT_tick : MethodName := ⟨"TickLines", "tick", "(I)I"⟩
abbrev cT_acknowledge : ByteArray := prog_1_method_7_code
def yT_acknowledge : MethodName := ⟨"TickLines", "acknowledge", "()I"⟩
abbrev cT_chosen : ByteArray := prog_1_method_8_code
def yT_chosen : MethodName := ⟨"TickLines", "chosen", "(I)I"⟩
abbrev cT_about : ByteArray := prog_1_method_9_code
def yT_about : MethodName := ⟨"TickLines", "about", "(II)I"⟩
abbrev cT_counter : ByteArray := prog_1_method_10_code
def yT_counter : MethodName := ⟨"TickLines", "counter", "(II)I"⟩
abbrev cT_isPort : ByteArray := prog_1_method_11_code
def yT_isPort : MethodName := ⟨"TickLines", "isPort", "(I)Z"⟩
abbrev cT_isCounterPort : ByteArray := prog_1_method_12_code
def yT_isCounterPort : MethodName := ⟨"TickLines", "isCounterPort", "(I)Z"⟩
abbrev cT_isController : ByteArray := prog_1_method_13_code
def yT_isController : MethodName := ⟨"TickLines", "isController", "(I)Z"⟩
abbrev cT_isCounter : ByteArray := prog_1_method_14_code
def yT_isCounter : MethodName := ⟨"TickLines", "isCounter", "(I)Z"⟩
abbrev cT_asBit : ByteArray := prog_1_method_15_code
def yT_asBit : MethodName := ⟨"TickLines", "asBit", "(Z)I"⟩
abbrev cT_hasBit : ByteArray := prog_1_method_16_code
def yT_hasBit : MethodName := ⟨"TickLines", "hasBit", "(II)Z"⟩
abbrev cT_controllerOf : ByteArray := prog_1_method_17_code
def yT_controllerOf : MethodName := ⟨"TickLines", "controllerOf", "(I)LTickLines$Controller;"⟩
abbrev cT_counterWithMode : ByteArray := prog_1_method_18_code
def yT_counterWithMode : MethodName := ⟨"TickLines", "counterWithMode", "(I)LTickLines$Counter;"⟩
abbrev cT_takeControl : ByteArray := prog_1_method_19_code
def yT_takeControl : MethodName := ⟨"TickLines", "takeControl", "(I)V"⟩
abbrev cT_latchMany : ByteArray := prog_1_method_20_code
def yT_latchMany : MethodName := ⟨"TickLines", "latchMany", "(I)V"⟩
abbrev cT_followLines : ByteArray := prog_1_method_21_code
def yT_followLines : MethodName := ⟨"TickLines", "followLines", "()V"⟩
abbrev cM_init : ByteArray := prog_5_method_1_code
def yM_init : MethodName := ⟨"TickLinesModel", "<init>", "()V"⟩
abbrev cM_thrown : ByteArray := prog_5_method_2_code
def yM_thrown : MethodName := ⟨"TickLinesModel", "thrown", "()I"⟩
abbrev cM_requests : ByteArray := prog_5_method_3_code
def yM_requests : MethodName := ⟨"TickLinesModel", "requests", "(I)I"⟩
abbrev cM_holds : ByteArray := prog_5_method_4_code
def yM_holds : MethodName := ⟨"TickLinesModel", "holds", "(II)Z"⟩
abbrev cM_choice : ByteArray := prog_5_method_5_code
def yM_choice : MethodName := ⟨"TickLinesModel", "choice", "(I)I"⟩
abbrev cM_serve : ByteArray := prog_5_method_6_code
def yM_serve : MethodName := ⟨"TickLinesModel", "serve", "(II)V"⟩
abbrev cM_set : ByteArray := prog_5_method_7_code
def yM_set : MethodName := ⟨"TickLinesModel", "set", "(IIZ)V"⟩
abbrev cM_follow : ByteArray := prog_5_method_8_code
def yM_follow : MethodName := ⟨"TickLinesModel", "follow", "()V"⟩
abbrev cM_firstHeld : ByteArray := prog_5_method_9_code
def yM_firstHeld : MethodName := ⟨"TickLinesModel", "firstHeld", "(I)I"⟩
abbrev cM_begin : ByteArray := prog_5_method_10_code
def yM_begin : MethodName := ⟨"TickLinesModel", "begin", "(II)V"⟩
abbrev cM_rule : ByteArray := prog_5_method_11_code
def yM_rule : MethodName := ⟨"TickLinesModel", "rule", "(II)V"⟩
abbrev cM_writeFirst : ByteArray := prog_5_method_12_code
def yM_writeFirst : MethodName := ⟨"TickLinesModel", "writeFirst", "(II)V"⟩
abbrev cM_writeSecond : ByteArray := prog_5_method_13_code
def yM_writeSecond : MethodName := ⟨"TickLinesModel", "writeSecond", "(II)V"⟩
abbrev cM_readFirst : ByteArray := prog_5_method_14_code
def yM_readFirst : MethodName := ⟨"TickLinesModel", "readFirst", "(I)I"⟩
abbrev cM_latch : ByteArray := prog_5_method_15_code
def yM_latch : MethodName := ⟨"TickLinesModel", "latch", "(I)V"⟩
abbrev cM_latchStatus : ByteArray := prog_5_method_16_code
def yM_latchStatus : MethodName := ⟨"TickLinesModel", "latchStatus", "(I)V"⟩
abbrev cM_control : ByteArray := prog_5_method_17_code
def yM_control : MethodName := ⟨"TickLinesModel", "control", "(I)V"⟩
abbrev cM_writeCounter : ByteArray := prog_5_method_18_code
def yM_writeCounter : MethodName := ⟨"TickLinesModel", "writeCounter", "(II)V"⟩
abbrev cM_readCounter : ByteArray := prog_5_method_19_code
def yM_readCounter : MethodName := ⟨"TickLinesModel", "readCounter", "(I)I"⟩
abbrev cM_put : ByteArray := prog_5_method_20_code
def yM_put : MethodName := ⟨"TickLinesModel", "put", "(II)V"⟩
abbrev cM_step : ByteArray := prog_5_method_21_code
def yM_step : MethodName := ⟨"TickLinesModel", "step", "(I)V"⟩
abbrev cM_turn : ByteArray := prog_5_method_22_code
def yM_turn : MethodName := ⟨"TickLinesModel", "turn", "(I)V"⟩
abbrev cM_tickOne : ByteArray := prog_5_method_23_code
def yM_tickOne : MethodName := ⟨"TickLinesModel", "tickOne", "(I)V"⟩
abbrev cM_write : ByteArray := prog_5_method_24_code
def yM_write : MethodName := ⟨"TickLinesModel", "write", "(II)V"⟩
abbrev cM_read : ByteArray := prog_5_method_25_code
def yM_read : MethodName := ⟨"TickLinesModel", "read", "(I)I"⟩
abbrev cM_line : ByteArray := prog_5_method_26_code
def yM_line : MethodName := ⟨"TickLinesModel", "line", "(IIZ)Z"⟩
abbrev cM_gate : ByteArray := prog_5_method_27_code
def yM_gate : MethodName := ⟨"TickLinesModel", "gate", "(IZ)Z"⟩
abbrev cM_tick : ByteArray := prog_5_method_28_code
def yM_tick : MethodName := ⟨"TickLinesModel", "tick", "(I)I"⟩
abbrev cM_acknowledge : ByteArray := prog_5_method_29_code
def yM_acknowledge : MethodName := ⟨"TickLinesModel", "acknowledge", "()I"⟩
abbrev cM_chosen : ByteArray := prog_5_method_30_code
def yM_chosen : MethodName := ⟨"TickLinesModel", "chosen", "(I)I"⟩
abbrev cM_about : ByteArray := prog_5_method_31_code
def yM_about : MethodName := ⟨"TickLinesModel", "about", "(II)I"⟩
abbrev cM_counter : ByteArray := prog_5_method_32_code
def yM_counter : MethodName := ⟨"TickLinesModel", "counter", "(II)I"⟩
abbrev cL_write : ByteArray := method_3_code
def yL_write : MethodName := ⟨"TickLinesLaw", "write", "(LTickLines;II)I"⟩
abbrev cL_read : ByteArray := method_4_code
def yL_read : MethodName := ⟨"TickLinesLaw", "read", "(LTickLines;I[J)I"⟩
abbrev cL_tick : ByteArray := method_5_code
def yL_tick : MethodName := ⟨"TickLinesLaw", "tick", "(LTickLines;I[J)I"⟩
abbrev cL_acknowledge : ByteArray := method_6_code
def yL_acknowledge : MethodName := ⟨"TickLinesLaw", "acknowledge", "(LTickLines;[J)I"⟩
abbrev vwCl : List vw_C := [(RC, TC, 18), (RN, TN, 14), (RT, TT, 3), (RM, TM, 33)]
def tkW_0 : List Cond := [.selects "TickLines" yT_controllerOf yT_controllerOf, .selects "TickLines" yT_followLines yT_followLines, .selects "TickLines$Controller" yC_requests yC_requests, .selects "TickLines$Controller" yC_holdingLevels yC_holdingLevels, .selects "TickLines$Controller" yC_mayNest yC_mayNest, .selects "TickLines$Counter" yN_isEmpty yN_isEmpty, .selects "TickLines$Counter" yN_gateLoads yN_gateLoads, .selects "TickLines$Counter" yN_isPeriodic yN_isPeriodic, .selects "TickLines" yT_counterWithMode yT_counterWithMode, .selects "TickLines$Counter" yN_takeReload yN_takeReload, .selects "TickLines" yT_takeControl yT_takeControl, .selects "TickLines" yT_latchMany yT_latchMany, .selects "TickLines$Controller" yC_beginSettingUp yC_beginSettingUp, .selects "TickLines$Controller" yC_takeReadingCommand yC_takeReadingCommand, .selects "TickLines$Controller" yC_takeServiceCommand yC_takeServiceCommand, .selects "TickLines$Controller" yC_firstHolding yC_firstHolding, .selects "TickLines$Controller" yC_endService yC_endService, .selects "TickLines$Controller" yC_endServiceAndTurn yC_endServiceAndTurn, .selects "TickLines$Controller" yC_awaitFrom yC_awaitFrom, .selects "TickLines$Controller" yC_becomeReady yC_becomeReady, .selects "TickLines$Controller" yC_serve yC_serve, .selects "TickLines$Counter" yN_standsBetweenBytes yN_standsBetweenBytes, .selects "TickLines$Counter" yN_load yN_load, .selects "TickLines$Counter" yN_partTicks yN_partTicks, .selects "TickLines$Counter" yN_setCount yN_setCount, .selects "TickLines$Counter" yN_gateHoldsBack yN_gateHoldsBack, .selects "TickLines$Counter" yN_countDown yN_countDown, .selects "TickLines$Counter" yN_stepRate yN_stepRate, .selects "TickLines$Counter" yN_lessen yN_lessen, .selects "TickLines$Counter" yN_stepSquare yN_stepSquare, .selects "TickLines$Counter" yN_stepStrobe yN_stepStrobe, .selects "TickLines$Counter" yN_stepOnce yN_stepOnce, .initialized "TickLines", .initialized "TickLines$Controller", .initialized "TickLines$Counter", .initialized "java/lang/Throwable", .initialized "java/lang/Exception", .initialized "java/lang/RuntimeException", .initialized "java/lang/IllegalArgumentException", .initialized "java/lang/IllegalStateException", .instantiable "TickLines" 3, .instanceMethod yT_init, .code yT_init cT_init 1 none, .methodLink "TickLines" 1 objectInit, .instanceMethod objectInit, .code objectInit ⟨#[0xb1]⟩ 1 none, .classLink "TickLines" 7 "TickLines$Controller", .instantiable "TickLines$Controller" 18, .methodLink "TickLines" 9 yC_init, .instanceMethod yC_init, .code yC_init cC_init 2 none, .methodLink "TickLines$Controller" 3 objectInit, .fieldLink "TickLines$Controller" 9 "TickLines$Controller" "leads" "Z", .fieldLink "TickLines$Controller" 22 "TickLines$Controller" "lines" "I", .fieldLink "TickLines$Controller" 19 "TickLines$Controller" "latches" "I", .fieldLink "TickLines$Controller" 32 "TickLines$Controller" "mask" "I", .fieldLink "TickLines$Controller" 93 "TickLines$Controller" "service" "I", .fieldLink "TickLines$Controller" 53 "TickLines$Controller" "base" "I", .fieldLink "TickLines$Controller" 15 "TickLines$Controller" "lowest" "I", .fieldLink "TickLines$Controller" 25 "TickLines$Controller" "ready" "Z"]
def tkW_1 : List Cond := [.fieldLink "TickLines$Controller" 66 "TickLines$Controller" "awaited" "I", .fieldLink "TickLines$Controller" 100 "TickLines$Controller" "levelMode" "Z", .fieldLink "TickLines$Controller" 69 "TickLines$Controller" "single" "Z", .fieldLink "TickLines$Controller" 109 "TickLines$Controller" "fourthComes" "Z", .fieldLink "TickLines$Controller" 75 "TickLines$Controller" "auto" "Z", .fieldLink "TickLines$Controller" 78 "TickLines$Controller" "nested" "Z", .fieldLink "TickLines$Controller" 103 "TickLines$Controller" "special" "Z", .fieldLink "TickLines$Controller" 106 "TickLines$Controller" "turns" "Z", .fieldLink "TickLines$Controller" 90 "TickLines$Controller" "serviceIsRead" "Z", .fieldLink "TickLines$Controller" 84 "TickLines$Controller" "polled" "Z", .laysFinal "TickLines$Controller" "TickLines$Controller" "leads" "Z", .lays "TickLines$Controller" "TickLines$Controller" "lines" "I", .lays "TickLines$Controller" "TickLines$Controller" "latches" "I", .lays "TickLines$Controller" "TickLines$Controller" "mask" "I", .lays "TickLines$Controller" "TickLines$Controller" "service" "I", .lays "TickLines$Controller" "TickLines$Controller" "base" "I", .lays "TickLines$Controller" "TickLines$Controller" "lowest" "I", .lays "TickLines$Controller" "TickLines$Controller" "ready" "Z", .lays "TickLines$Controller" "TickLines$Controller" "awaited" "I", .lays "TickLines$Controller" "TickLines$Controller" "levelMode" "Z", .lays "TickLines$Controller" "TickLines$Controller" "single" "Z", .lays "TickLines$Controller" "TickLines$Controller" "fourthComes" "Z", .lays "TickLines$Controller" "TickLines$Controller" "auto" "Z", .lays "TickLines$Controller" "TickLines$Controller" "nested" "Z", .lays "TickLines$Controller" "TickLines$Controller" "special" "Z", .lays "TickLines$Controller" "TickLines$Controller" "turns" "Z", .lays "TickLines$Controller" "TickLines$Controller" "serviceIsRead" "Z", .lays "TickLines$Controller" "TickLines$Controller" "polled" "Z", .classLink "TickLines" 21 "TickLines$Counter", .instantiable "TickLines$Counter" 14, .methodLink "TickLines" 23 yN_init, .instanceMethod yN_init, .code yN_init cN_init 1 none, .methodLink "TickLines$Counter" 3 objectInit, .fieldLink "TickLines$Counter" 9 "TickLines$Counter" "gateIsOn" "Z", .fieldLink "TickLines$Counter" 46 "TickLines$Counter" "output" "Z", .fieldLink "TickLines$Counter" 15 "TickLines$Counter" "mode" "I", .fieldLink "TickLines$Counter" 25 "TickLines$Counter" "access" "I", .fieldLink "TickLines$Counter" 28 "TickLines$Counter" "reload" "I", .fieldLink "TickLines$Counter" 53 "TickLines$Counter" "count" "I", .fieldLink "TickLines$Counter" 31 "TickLines$Counter" "runs" "Z", .fieldLink "TickLines$Counter" 34 "TickLines$Counter" "toBeLoaded" "Z", .fieldLink "TickLines$Counter" 37 "TickLines$Counter" "pending" "Z", .fieldLink "TickLines$Counter" 64 "TickLines$Counter" "lowWritten" "I", .fieldLink "TickLines$Counter" 40 "TickLines$Counter" "highIsWrittenNext" "Z", .fieldLink "TickLines$Counter" 43 "TickLines$Counter" "highIsReadNext" "Z", .fieldLink "TickLines$Counter" 19 "TickLines$Counter" "latchedCount" "I", .fieldLink "TickLines$Counter" 22 "TickLines$Counter" "latchedStatus" "I", .lays "TickLines$Counter" "TickLines$Counter" "gateIsOn" "Z", .lays "TickLines$Counter" "TickLines$Counter" "output" "Z", .lays "TickLines$Counter" "TickLines$Counter" "mode" "I", .lays "TickLines$Counter" "TickLines$Counter" "access" "I", .lays "TickLines$Counter" "TickLines$Counter" "reload" "I", .lays "TickLines$Counter" "TickLines$Counter" "count" "I", .lays "TickLines$Counter" "TickLines$Counter" "runs" "Z", .lays "TickLines$Counter" "TickLines$Counter" "toBeLoaded" "Z", .lays "TickLines$Counter" "TickLines$Counter" "pending" "Z", .lays "TickLines$Counter" "TickLines$Counter" "lowWritten" "I", .lays "TickLines$Counter" "TickLines$Counter" "highIsWrittenNext" "Z", .lays "TickLines$Counter" "TickLines$Counter" "highIsReadNext" "Z"]
def tkW_2 : List Cond := [.lays "TickLines$Counter" "TickLines$Counter" "latchedCount" "I", .lays "TickLines$Counter" "TickLines$Counter" "latchedStatus" "I", .fieldLink "TickLines" 12 "TickLines" "leader" "LTickLines$Controller;", .fieldLink "TickLines" 18 "TickLines" "follower" "LTickLines$Controller;", .fieldLink "TickLines" 24 "TickLines" "counters" "[LTickLines$Counter;", .laysFinal "TickLines" "TickLines" "leader" "LTickLines$Controller;", .laysFinal "TickLines" "TickLines" "follower" "LTickLines$Controller;", .laysFinal "TickLines" "TickLines" "counters" "[LTickLines$Counter;", .instanceMethod yT_line, .selects "TickLines" yT_line yT_line, .code yT_line cT_line 4 (some .boolean), .methodLink "TickLines" 73 yT_isController, .static yT_isController, .code yT_isController cT_isController 1 (some .boolean), .methodLink "TickLines" 49 yT_controllerOf, .instanceMethod yT_controllerOf, .code yT_controllerOf cT_controllerOf 2 (some (.object "TickLines$Controller")), .methodLink "TickLines" 76 yC_setLine, .instanceMethod yC_setLine, .selects "TickLines$Controller" yC_setLine yC_setLine, .code yC_setLine cC_setLine 4 none, .methodLink "TickLines" 59 yT_followLines, .instanceMethod yT_followLines, .code yT_followLines cT_followLines 1 none, .methodLink "TickLines" 109 yC_chosenLevel, .instanceMethod yC_chosenLevel, .selects "TickLines$Controller" yC_chosenLevel yC_chosenLevel, .code yC_chosenLevel cC_chosenLevel 6 (some .int), .methodLink "TickLines$Controller" 28 yC_requests, .instanceMethod yC_requests, .code yC_requests cC_requests 1 (some .int), .methodLink "TickLines$Controller" 35 yC_holdingLevels, .instanceMethod yC_holdingLevels, .code yC_holdingLevels cC_holdingLevels 1 (some .int), .static yT_hasBit, .code yT_hasBit cT_hasBit 2 (some .boolean), .methodLink "TickLines$Controller" 42 yC_mayNest, .instanceMethod yC_mayNest, .code yC_mayNest cC_mayNest 2 (some .boolean), .instanceMethod yT_gate, .selects "TickLines" yT_gate yT_gate, .code yT_gate cT_gate 3 (some .boolean), .methodLink "TickLines" 80 yT_isCounter, .static yT_isCounter, .code yT_isCounter cT_isCounter 1 (some .boolean), .methodLink "TickLines" 83 yN_setGate, .instanceMethod yN_setGate, .selects "TickLines$Counter" yN_setGate yN_setGate, .code yN_setGate cN_setGate 4 none, .methodLink "TickLines$Counter" 67 yN_isEmpty, .instanceMethod yN_isEmpty, .code yN_isEmpty cN_isEmpty 1 (some .boolean), .methodLink "TickLines$Counter" 70 yN_gateLoads, .instanceMethod yN_gateLoads, .code yN_gateLoads cN_gateLoads 1 (some .boolean), .methodLink "TickLines$Counter" 73 yN_isPeriodic, .instanceMethod yN_isPeriodic, .code yN_isPeriodic cN_isPeriodic 1 (some .boolean), .instanceMethod yT_chosen, .selects "TickLines" yT_chosen yT_chosen]
def tkW_3 : List Cond := [.code yT_chosen cT_chosen 2 (some .int), .instanceMethod yT_about, .selects "TickLines" yT_about yT_about, .code yT_about cT_about 3 (some .int), .methodLink "TickLines" 112 yC_tell, .instanceMethod yC_tell, .selects "TickLines$Controller" yC_tell yC_tell, .code yC_tell cC_tell 2 (some .int), .static yT_asBit, .code yT_asBit cT_asBit 1 (some .int), .instanceMethod yT_counter, .selects "TickLines" yT_counter yT_counter, .code yT_counter cT_counter 3 (some .int), .methodLink "TickLines" 115 yN_tell, .instanceMethod yN_tell, .selects "TickLines$Counter" yN_tell yN_tell, .code yN_tell cN_tell 2 (some .int), .instanceMethod yT_write, .selects "TickLines" yT_write yT_write, .code yT_write cT_write 3 none, .methodLink "TickLines" 28 yT_isPort, .static yT_isPort, .code yT_isPort cT_isPort 1 (some .boolean), .classLink "TickLines" 32 "java/lang/IllegalArgumentException", .methodLink "TickLines" 35 yT_isCounterPort, .static yT_isCounterPort, .code yT_isCounterPort cT_isCounterPort 1 (some .boolean), .methodLink "TickLines" 38 yT_counterWithMode, .instanceMethod yT_counterWithMode, .code yT_counterWithMode cT_counterWithMode 3 (some (.object "TickLines$Counter")), .methodLink "TickLines" 116 yN_hasMode, .instanceMethod yN_hasMode, .selects "TickLines$Counter" yN_hasMode yN_hasMode, .code yN_hasMode cN_hasMode 1 (some .boolean), .classLink "TickLines" 96 "java/lang/IllegalStateException", .methodLink "TickLines" 42 yN_takeByte, .instanceMethod yN_takeByte, .selects "TickLines$Counter" yN_takeByte yN_takeByte, .code yN_takeByte cN_takeByte 2 none, .methodLink "TickLines$Counter" 60 yN_takeReload, .instanceMethod yN_takeReload, .code yN_takeReload cN_takeReload 3 none, .constant "TickLines$Counter" 88 65536, .methodLink "TickLines" 46 yT_takeControl, .instanceMethod yT_takeControl, .code yT_takeControl cT_takeControl 4 none, .methodLink "TickLines" 120 yT_latchMany, .instanceMethod yT_latchMany, .code yT_latchMany cT_latchMany 3 none, .methodLink "TickLines" 130 yT_hasBit, .methodLink "TickLines" 123 yN_latchCount, .instanceMethod yN_latchCount, .selects "TickLines$Counter" yN_latchCount yN_latchCount, .code yN_latchCount cN_latchCount 1 none, .methodLink "TickLines$Counter" 49 yN_hasMode, .methodLink "TickLines" 134 yN_latchStatus, .instanceMethod yN_latchStatus, .selects "TickLines$Counter" yN_latchStatus yN_latchStatus, .code yN_latchStatus cN_latchStatus 1 none, .methodLink "TickLines" 126 yN_setMode]
def tkW_4 : List Cond := [.instanceMethod yN_setMode, .selects "TickLines$Counter" yN_setMode yN_setMode, .code yN_setMode cN_setMode 3 none, .methodLink "TickLines" 53 yC_takeSideZero, .instanceMethod yC_takeSideZero, .selects "TickLines$Controller" yC_takeSideZero yC_takeSideZero, .code yC_takeSideZero cC_takeSideZero 2 none, .methodLink "TickLines$Controller" 56 yC_beginSettingUp, .instanceMethod yC_beginSettingUp, .code yC_beginSettingUp cC_beginSettingUp 2 none, .methodLink "TickLines$Controller" 59 yC_takeReadingCommand, .instanceMethod yC_takeReadingCommand, .code yC_takeReadingCommand cC_takeReadingCommand 2 none, .methodLink "TickLines$Controller" 62 yC_takeServiceCommand, .instanceMethod yC_takeServiceCommand, .code yC_takeServiceCommand cC_takeServiceCommand 3 none, .methodLink "TickLines$Controller" 112 yC_firstHolding, .instanceMethod yC_firstHolding, .code yC_firstHolding cC_firstHolding 4 (some .int), .methodLink "TickLines$Controller" 115 yC_endService, .instanceMethod yC_endService, .code yC_endService cC_endService 2 none, .methodLink "TickLines$Controller" 118 yC_endServiceAndTurn, .instanceMethod yC_endServiceAndTurn, .code yC_endServiceAndTurn cC_endServiceAndTurn 2 none, .methodLink "TickLines" 56 yC_takeSideOne, .instanceMethod yC_takeSideOne, .selects "TickLines$Controller" yC_takeSideOne yC_takeSideOne, .code yC_takeSideOne cC_takeSideOne 2 none, .methodLink "TickLines$Controller" 72 yC_awaitFrom, .instanceMethod yC_awaitFrom, .code yC_awaitFrom cC_awaitFrom 2 none, .methodLink "TickLines$Controller" 81 yC_becomeReady, .instanceMethod yC_becomeReady, .code yC_becomeReady cC_becomeReady 1 none, .instanceMethod yT_read, .selects "TickLines" yT_read yT_read, .code yT_read cT_read 3 (some .int), .methodLink "TickLines" 62 yN_giveByte, .instanceMethod yN_giveByte, .selects "TickLines$Counter" yN_giveByte yN_giveByte, .code yN_giveByte cN_giveByte 3 (some .int), .methodLink "TickLines" 66 yC_giveSideZero, .instanceMethod yC_giveSideZero, .selects "TickLines$Controller" yC_giveSideZero yC_giveSideZero, .code yC_giveSideZero cC_giveSideZero 2 (some .int), .methodLink "TickLines$Controller" 87 yC_serveChosen, .instanceMethod yC_serveChosen, .selects "TickLines$Controller" yC_serveChosen yC_serveChosen, .code yC_serveChosen cC_serveChosen 2 (some .int), .methodLink "TickLines$Controller" 46 yC_chosenLevel, .methodLink "TickLines$Controller" 49 yC_serve, .instanceMethod yC_serve, .code yC_serve cC_serve 2 none, .instanceMethod yT_tick, .selects "TickLines" yT_tick yT_tick, .code yT_tick cT_tick 6 (some .int), .methodLink "TickLines" 90 yN_step, .instanceMethod yN_step, .selects "TickLines$Counter" yN_step yN_step]
def tkW_5 : List Cond := [.code yN_step cN_step 1 none, .methodLink "TickLines$Counter" 76 yN_standsBetweenBytes, .instanceMethod yN_standsBetweenBytes, .code yN_standsBetweenBytes cN_standsBetweenBytes 1 (some .boolean), .methodLink "TickLines$Counter" 79 yN_load, .instanceMethod yN_load, .code yN_load cN_load 1 none, .methodLink "TickLines$Counter" 89 yN_partTicks, .instanceMethod yN_partTicks, .code yN_partTicks cN_partTicks 1 (some .int), .methodLink "TickLines$Counter" 93 yN_setCount, .instanceMethod yN_setCount, .code yN_setCount cN_setCount 2 none, .constant "TickLines$Counter" 96 65535, .methodLink "TickLines$Counter" 82 yN_gateHoldsBack, .instanceMethod yN_gateHoldsBack, .code yN_gateHoldsBack cN_gateHoldsBack 1 (some .boolean), .methodLink "TickLines$Counter" 85 yN_countDown, .instanceMethod yN_countDown, .code yN_countDown cN_countDown 1 none, .methodLink "TickLines$Counter" 97 yN_stepRate, .instanceMethod yN_stepRate, .code yN_stepRate cN_stepRate 1 none, .methodLink "TickLines$Counter" 109 yN_lessen, .instanceMethod yN_lessen, .code yN_lessen cN_lessen 2 none, .methodLink "TickLines$Counter" 100 yN_stepSquare, .instanceMethod yN_stepSquare, .code yN_stepSquare cN_stepSquare 1 none, .methodLink "TickLines$Counter" 103 yN_stepStrobe, .instanceMethod yN_stepStrobe, .code yN_stepStrobe cN_stepStrobe 1 none, .methodLink "TickLines$Counter" 106 yN_stepOnce, .instanceMethod yN_stepOnce, .code yN_stepOnce cN_stepOnce 1 none, .instanceMethod yT_acknowledge, .selects "TickLines" yT_acknowledge yT_acknowledge, .code yT_acknowledge cT_acknowledge 3 (some .int), .methodLink "TickLines" 99 yC_serveChosen, .methodLink "TickLines" 105 yC_vectorOf, .instanceMethod yC_vectorOf, .selects "TickLines$Controller" yC_vectorOf yC_vectorOf, .code yC_vectorOf cC_vectorOf 2 (some .int)]
def tkW_x : List Cond := (vx_at0 "TickLines" 34 "java/lang/IllegalArgumentException" ["java/lang/RuntimeException", "java/lang/Exception"]).filter goodWord ++ (vx_at0 "TickLines" 98 "java/lang/IllegalStateException" ["java/lang/RuntimeException", "java/lang/Exception"]).filter goodWord
def tkW : List Cond := tkW_0 ++ (tkW_1 ++ (tkW_2 ++ (tkW_3 ++ (tkW_4 ++ (tkW_5 ++ tkW_x)))))
theorem wS_T_controllerOf : Cond.selects "TickLines" yT_controllerOf yT_controllerOf ∈ tkW := (List.mem_append_left _ (List.mem_of_getElem? (i := 0) rfl))
theorem wS_T_followLines : Cond.selects "TickLines" yT_followLines yT_followLines ∈ tkW := (List.mem_append_left _ (List.mem_of_getElem? (i := 1) rfl))
theorem wS_C_requests : Cond.selects "TickLines$Controller" yC_requests yC_requests ∈ tkW := (List.mem_append_left _ (List.mem_of_getElem? (i := 2) rfl))
theorem wS_C_holdingLevels : Cond.selects "TickLines$Controller" yC_holdingLevels yC_holdingLevels ∈ tkW := (List.mem_append_left _ (List.mem_of_getElem? (i := 3) rfl))
theorem wS_C_mayNest : Cond.selects "TickLines$Controller" yC_mayNest yC_mayNest ∈ tkW := (List.mem_append_left _ (List.mem_of_getElem? (i := 4) rfl))
theorem wS_N_isEmpty : Cond.selects "TickLines$Counter" yN_isEmpty yN_isEmpty ∈ tkW := (List.mem_append_left _ (List.mem_of_getElem? (i := 5) rfl))
theorem wS_N_gateLoads : Cond.selects "TickLines$Counter" yN_gateLoads yN_gateLoads ∈ tkW := (List.mem_append_left _ (List.mem_of_getElem? (i := 6) rfl))
theorem wS_N_isPeriodic : Cond.selects "TickLines$Counter" yN_isPeriodic yN_isPeriodic ∈ tkW := (List.mem_append_left _ (List.mem_of_getElem? (i := 7) rfl))
theorem wS_T_counterWithMode : Cond.selects "TickLines" yT_counterWithMode yT_counterWithMode ∈ tkW := (List.mem_append_left _ (List.mem_of_getElem? (i := 8) rfl))
theorem wS_N_takeReload : Cond.selects "TickLines$Counter" yN_takeReload yN_takeReload ∈ tkW := (List.mem_append_left _ (List.mem_of_getElem? (i := 9) rfl))
theorem wS_T_takeControl : Cond.selects "TickLines" yT_takeControl yT_takeControl ∈ tkW := (List.mem_append_left _ (List.mem_of_getElem? (i := 10) rfl))
theorem wS_T_latchMany : Cond.selects "TickLines" yT_latchMany yT_latchMany ∈ tkW := (List.mem_append_left _ (List.mem_of_getElem? (i := 11) rfl))
theorem wS_C_beginSettingUp : Cond.selects "TickLines$Controller" yC_beginSettingUp yC_beginSettingUp ∈ tkW := (List.mem_append_left _ (List.mem_of_getElem? (i := 12) rfl))
theorem wS_C_takeReadingCommand : Cond.selects "TickLines$Controller" yC_takeReadingCommand yC_takeReadingCommand ∈ tkW := (List.mem_append_left _ (List.mem_of_getElem? (i := 13) rfl))
theorem wS_C_takeServiceCommand : Cond.selects "TickLines$Controller" yC_takeServiceCommand yC_takeServiceCommand ∈ tkW := (List.mem_append_left _ (List.mem_of_getElem? (i := 14) rfl))
theorem wS_C_firstHolding : Cond.selects "TickLines$Controller" yC_firstHolding yC_firstHolding ∈ tkW := (List.mem_append_left _ (List.mem_of_getElem? (i := 15) rfl))
theorem wS_C_endService : Cond.selects "TickLines$Controller" yC_endService yC_endService ∈ tkW := (List.mem_append_left _ (List.mem_of_getElem? (i := 16) rfl))
theorem wS_C_endServiceAndTurn : Cond.selects "TickLines$Controller" yC_endServiceAndTurn yC_endServiceAndTurn ∈ tkW := (List.mem_append_left _ (List.mem_of_getElem? (i := 17) rfl))
theorem wS_C_awaitFrom : Cond.selects "TickLines$Controller" yC_awaitFrom yC_awaitFrom ∈ tkW := (List.mem_append_left _ (List.mem_of_getElem? (i := 18) rfl))
theorem wS_C_becomeReady : Cond.selects "TickLines$Controller" yC_becomeReady yC_becomeReady ∈ tkW := (List.mem_append_left _ (List.mem_of_getElem? (i := 19) rfl))
theorem wS_C_serve : Cond.selects "TickLines$Controller" yC_serve yC_serve ∈ tkW := (List.mem_append_left _ (List.mem_of_getElem? (i := 20) rfl))
theorem wS_N_standsBetweenBytes : Cond.selects "TickLines$Counter" yN_standsBetweenBytes yN_standsBetweenBytes ∈ tkW := (List.mem_append_left _ (List.mem_of_getElem? (i := 21) rfl))
theorem wS_N_load : Cond.selects "TickLines$Counter" yN_load yN_load ∈ tkW := (List.mem_append_left _ (List.mem_of_getElem? (i := 22) rfl))
theorem wS_N_partTicks : Cond.selects "TickLines$Counter" yN_partTicks yN_partTicks ∈ tkW := (List.mem_append_left _ (List.mem_of_getElem? (i := 23) rfl))
theorem wS_N_setCount : Cond.selects "TickLines$Counter" yN_setCount yN_setCount ∈ tkW := (List.mem_append_left _ (List.mem_of_getElem? (i := 24) rfl))
theorem wS_N_gateHoldsBack : Cond.selects "TickLines$Counter" yN_gateHoldsBack yN_gateHoldsBack ∈ tkW := (List.mem_append_left _ (List.mem_of_getElem? (i := 25) rfl))
theorem wS_N_countDown : Cond.selects "TickLines$Counter" yN_countDown yN_countDown ∈ tkW := (List.mem_append_left _ (List.mem_of_getElem? (i := 26) rfl))
theorem wS_N_stepRate : Cond.selects "TickLines$Counter" yN_stepRate yN_stepRate ∈ tkW := (List.mem_append_left _ (List.mem_of_getElem? (i := 27) rfl))
theorem wS_N_lessen : Cond.selects "TickLines$Counter" yN_lessen yN_lessen ∈ tkW := (List.mem_append_left _ (List.mem_of_getElem? (i := 28) rfl))
theorem wS_N_stepSquare : Cond.selects "TickLines$Counter" yN_stepSquare yN_stepSquare ∈ tkW := (List.mem_append_left _ (List.mem_of_getElem? (i := 29) rfl))
theorem wS_N_stepStrobe : Cond.selects "TickLines$Counter" yN_stepStrobe yN_stepStrobe ∈ tkW := (List.mem_append_left _ (List.mem_of_getElem? (i := 30) rfl))
theorem wS_N_stepOnce : Cond.selects "TickLines$Counter" yN_stepOnce yN_stepOnce ∈ tkW := (List.mem_append_left _ (List.mem_of_getElem? (i := 31) rfl))
theorem wZ_T : Cond.initialized "TickLines" ∈ tkW := (List.mem_append_left _ (List.mem_of_getElem? (i := 32) rfl))
theorem wZ_C : Cond.initialized "TickLines$Controller" ∈ tkW := (List.mem_append_left _ (List.mem_of_getElem? (i := 33) rfl))
theorem wZ_N : Cond.initialized "TickLines$Counter" ∈ tkW := (List.mem_append_left _ (List.mem_of_getElem? (i := 34) rfl))
theorem wZ_Throwable : Cond.initialized "java/lang/Throwable" ∈ tkW := (List.mem_append_left _ (List.mem_of_getElem? (i := 35) rfl))
theorem wZ_Exception : Cond.initialized "java/lang/Exception" ∈ tkW := (List.mem_append_left _ (List.mem_of_getElem? (i := 36) rfl))
theorem wZ_RuntimeException : Cond.initialized "java/lang/RuntimeException" ∈ tkW := (List.mem_append_left _ (List.mem_of_getElem? (i := 37) rfl))
theorem wZ_IllegalArgumentException : Cond.initialized "java/lang/IllegalArgumentException" ∈ tkW := (List.mem_append_left _ (List.mem_of_getElem? (i := 38) rfl))
theorem wZ_IllegalStateException : Cond.initialized "java/lang/IllegalStateException" ∈ tkW := (List.mem_append_left _ (List.mem_of_getElem? (i := 39) rfl))
theorem wN_T : Cond.instantiable "TickLines" 3 ∈ tkW := (List.mem_append_left _ (List.mem_of_getElem? (i := 40) rfl))
theorem wI_T_init : Cond.instanceMethod yT_init ∈ tkW := (List.mem_append_left _ (List.mem_of_getElem? (i := 41) rfl))
theorem wC_T_init : Cond.code yT_init cT_init 1 none ∈ tkW := (List.mem_append_left _ (List.mem_of_getElem? (i := 42) rfl))
theorem wM_T_1 : Cond.methodLink "TickLines" 1 objectInit ∈ tkW := (List.mem_append_left _ (List.mem_of_getElem? (i := 43) rfl))
theorem wI_obj : Cond.instanceMethod objectInit ∈ tkW := (List.mem_append_left _ (List.mem_of_getElem? (i := 44) rfl))
theorem wC_obj : Cond.code objectInit ⟨#[0xb1]⟩ 1 none ∈ tkW := (List.mem_append_left _ (List.mem_of_getElem? (i := 45) rfl))
theorem wL_T_7 : Cond.classLink "TickLines" 7 "TickLines$Controller" ∈ tkW := (List.mem_append_left _ (List.mem_of_getElem? (i := 46) rfl))
theorem wN_C : Cond.instantiable "TickLines$Controller" 18 ∈ tkW := (List.mem_append_left _ (List.mem_of_getElem? (i := 47) rfl))
theorem wM_T_9 : Cond.methodLink "TickLines" 9 yC_init ∈ tkW := (List.mem_append_left _ (List.mem_of_getElem? (i := 48) rfl))
theorem wI_C_init : Cond.instanceMethod yC_init ∈ tkW := (List.mem_append_left _ (List.mem_of_getElem? (i := 49) rfl))
theorem wC_C_init : Cond.code yC_init cC_init 2 none ∈ tkW := (List.mem_append_left _ (List.mem_of_getElem? (i := 50) rfl))
theorem wM_C_3 : Cond.methodLink "TickLines$Controller" 3 objectInit ∈ tkW := (List.mem_append_left _ (List.mem_of_getElem? (i := 51) rfl))
theorem wF_C_9 : Cond.fieldLink "TickLines$Controller" 9 "TickLines$Controller" "leads" "Z" ∈ tkW := (List.mem_append_left _ (List.mem_of_getElem? (i := 52) rfl))
theorem wF_C_22 : Cond.fieldLink "TickLines$Controller" 22 "TickLines$Controller" "lines" "I" ∈ tkW := (List.mem_append_left _ (List.mem_of_getElem? (i := 53) rfl))
theorem wF_C_19 : Cond.fieldLink "TickLines$Controller" 19 "TickLines$Controller" "latches" "I" ∈ tkW := (List.mem_append_left _ (List.mem_of_getElem? (i := 54) rfl))
theorem wF_C_32 : Cond.fieldLink "TickLines$Controller" 32 "TickLines$Controller" "mask" "I" ∈ tkW := (List.mem_append_left _ (List.mem_of_getElem? (i := 55) rfl))
theorem wF_C_93 : Cond.fieldLink "TickLines$Controller" 93 "TickLines$Controller" "service" "I" ∈ tkW := (List.mem_append_left _ (List.mem_of_getElem? (i := 56) rfl))
theorem wF_C_53 : Cond.fieldLink "TickLines$Controller" 53 "TickLines$Controller" "base" "I" ∈ tkW := (List.mem_append_left _ (List.mem_of_getElem? (i := 57) rfl))
theorem wF_C_15 : Cond.fieldLink "TickLines$Controller" 15 "TickLines$Controller" "lowest" "I" ∈ tkW := (List.mem_append_left _ (List.mem_of_getElem? (i := 58) rfl))
theorem wF_C_25 : Cond.fieldLink "TickLines$Controller" 25 "TickLines$Controller" "ready" "Z" ∈ tkW := (List.mem_append_left _ (List.mem_of_getElem? (i := 59) rfl))
theorem wF_C_66 : Cond.fieldLink "TickLines$Controller" 66 "TickLines$Controller" "awaited" "I" ∈ tkW := (List.mem_append_right _ (List.mem_append_left _ (List.mem_of_getElem? (i := 0) rfl)))
theorem wF_C_100 : Cond.fieldLink "TickLines$Controller" 100 "TickLines$Controller" "levelMode" "Z" ∈ tkW := (List.mem_append_right _ (List.mem_append_left _ (List.mem_of_getElem? (i := 1) rfl)))
theorem wF_C_69 : Cond.fieldLink "TickLines$Controller" 69 "TickLines$Controller" "single" "Z" ∈ tkW := (List.mem_append_right _ (List.mem_append_left _ (List.mem_of_getElem? (i := 2) rfl)))
theorem wF_C_109 : Cond.fieldLink "TickLines$Controller" 109 "TickLines$Controller" "fourthComes" "Z" ∈ tkW := (List.mem_append_right _ (List.mem_append_left _ (List.mem_of_getElem? (i := 3) rfl)))
theorem wF_C_75 : Cond.fieldLink "TickLines$Controller" 75 "TickLines$Controller" "auto" "Z" ∈ tkW := (List.mem_append_right _ (List.mem_append_left _ (List.mem_of_getElem? (i := 4) rfl)))
theorem wF_C_78 : Cond.fieldLink "TickLines$Controller" 78 "TickLines$Controller" "nested" "Z" ∈ tkW := (List.mem_append_right _ (List.mem_append_left _ (List.mem_of_getElem? (i := 5) rfl)))
theorem wF_C_103 : Cond.fieldLink "TickLines$Controller" 103 "TickLines$Controller" "special" "Z" ∈ tkW := (List.mem_append_right _ (List.mem_append_left _ (List.mem_of_getElem? (i := 6) rfl)))
theorem wF_C_106 : Cond.fieldLink "TickLines$Controller" 106 "TickLines$Controller" "turns" "Z" ∈ tkW := (List.mem_append_right _ (List.mem_append_left _ (List.mem_of_getElem? (i := 7) rfl)))
theorem wF_C_90 : Cond.fieldLink "TickLines$Controller" 90 "TickLines$Controller" "serviceIsRead" "Z" ∈ tkW := (List.mem_append_right _ (List.mem_append_left _ (List.mem_of_getElem? (i := 8) rfl)))
theorem wF_C_84 : Cond.fieldLink "TickLines$Controller" 84 "TickLines$Controller" "polled" "Z" ∈ tkW := (List.mem_append_right _ (List.mem_append_left _ (List.mem_of_getElem? (i := 9) rfl)))
theorem wY_C_leads : Cond.laysFinal "TickLines$Controller" "TickLines$Controller" "leads" "Z" ∈ tkW := (List.mem_append_right _ (List.mem_append_left _ (List.mem_of_getElem? (i := 10) rfl)))
theorem wY_C_lines : Cond.lays "TickLines$Controller" "TickLines$Controller" "lines" "I" ∈ tkW := (List.mem_append_right _ (List.mem_append_left _ (List.mem_of_getElem? (i := 11) rfl)))
theorem wY_C_latches : Cond.lays "TickLines$Controller" "TickLines$Controller" "latches" "I" ∈ tkW := (List.mem_append_right _ (List.mem_append_left _ (List.mem_of_getElem? (i := 12) rfl)))
theorem wY_C_mask : Cond.lays "TickLines$Controller" "TickLines$Controller" "mask" "I" ∈ tkW := (List.mem_append_right _ (List.mem_append_left _ (List.mem_of_getElem? (i := 13) rfl)))
theorem wY_C_service : Cond.lays "TickLines$Controller" "TickLines$Controller" "service" "I" ∈ tkW := (List.mem_append_right _ (List.mem_append_left _ (List.mem_of_getElem? (i := 14) rfl)))
theorem wY_C_base : Cond.lays "TickLines$Controller" "TickLines$Controller" "base" "I" ∈ tkW := (List.mem_append_right _ (List.mem_append_left _ (List.mem_of_getElem? (i := 15) rfl)))
theorem wY_C_lowest : Cond.lays "TickLines$Controller" "TickLines$Controller" "lowest" "I" ∈ tkW := (List.mem_append_right _ (List.mem_append_left _ (List.mem_of_getElem? (i := 16) rfl)))
theorem wY_C_ready : Cond.lays "TickLines$Controller" "TickLines$Controller" "ready" "Z" ∈ tkW := (List.mem_append_right _ (List.mem_append_left _ (List.mem_of_getElem? (i := 17) rfl)))
theorem wY_C_awaited : Cond.lays "TickLines$Controller" "TickLines$Controller" "awaited" "I" ∈ tkW := (List.mem_append_right _ (List.mem_append_left _ (List.mem_of_getElem? (i := 18) rfl)))
theorem wY_C_levelMode : Cond.lays "TickLines$Controller" "TickLines$Controller" "levelMode" "Z" ∈ tkW := (List.mem_append_right _ (List.mem_append_left _ (List.mem_of_getElem? (i := 19) rfl)))
theorem wY_C_single : Cond.lays "TickLines$Controller" "TickLines$Controller" "single" "Z" ∈ tkW := (List.mem_append_right _ (List.mem_append_left _ (List.mem_of_getElem? (i := 20) rfl)))
theorem wY_C_fourthComes : Cond.lays "TickLines$Controller" "TickLines$Controller" "fourthComes" "Z" ∈ tkW := (List.mem_append_right _ (List.mem_append_left _ (List.mem_of_getElem? (i := 21) rfl)))
theorem wY_C_auto : Cond.lays "TickLines$Controller" "TickLines$Controller" "auto" "Z" ∈ tkW := (List.mem_append_right _ (List.mem_append_left _ (List.mem_of_getElem? (i := 22) rfl)))
theorem wY_C_nested : Cond.lays "TickLines$Controller" "TickLines$Controller" "nested" "Z" ∈ tkW := (List.mem_append_right _ (List.mem_append_left _ (List.mem_of_getElem? (i := 23) rfl)))
theorem wY_C_special : Cond.lays "TickLines$Controller" "TickLines$Controller" "special" "Z" ∈ tkW := (List.mem_append_right _ (List.mem_append_left _ (List.mem_of_getElem? (i := 24) rfl)))
theorem wY_C_turns : Cond.lays "TickLines$Controller" "TickLines$Controller" "turns" "Z" ∈ tkW := (List.mem_append_right _ (List.mem_append_left _ (List.mem_of_getElem? (i := 25) rfl)))
theorem wY_C_serviceIsRead : Cond.lays "TickLines$Controller" "TickLines$Controller" "serviceIsRead" "Z" ∈ tkW := (List.mem_append_right _ (List.mem_append_left _ (List.mem_of_getElem? (i := 26) rfl)))
theorem wY_C_polled : Cond.lays "TickLines$Controller" "TickLines$Controller" "polled" "Z" ∈ tkW := (List.mem_append_right _ (List.mem_append_left _ (List.mem_of_getElem? (i := 27) rfl)))
theorem wL_T_21 : Cond.classLink "TickLines" 21 "TickLines$Counter" ∈ tkW := (List.mem_append_right _ (List.mem_append_left _ (List.mem_of_getElem? (i := 28) rfl)))
theorem wN_N : Cond.instantiable "TickLines$Counter" 14 ∈ tkW := (List.mem_append_right _ (List.mem_append_left _ (List.mem_of_getElem? (i := 29) rfl)))
theorem wM_T_23 : Cond.methodLink "TickLines" 23 yN_init ∈ tkW := (List.mem_append_right _ (List.mem_append_left _ (List.mem_of_getElem? (i := 30) rfl)))
theorem wI_N_init : Cond.instanceMethod yN_init ∈ tkW := (List.mem_append_right _ (List.mem_append_left _ (List.mem_of_getElem? (i := 31) rfl)))
theorem wC_N_init : Cond.code yN_init cN_init 1 none ∈ tkW := (List.mem_append_right _ (List.mem_append_left _ (List.mem_of_getElem? (i := 32) rfl)))
theorem wM_N_3 : Cond.methodLink "TickLines$Counter" 3 objectInit ∈ tkW := (List.mem_append_right _ (List.mem_append_left _ (List.mem_of_getElem? (i := 33) rfl)))
theorem wF_N_9 : Cond.fieldLink "TickLines$Counter" 9 "TickLines$Counter" "gateIsOn" "Z" ∈ tkW := (List.mem_append_right _ (List.mem_append_left _ (List.mem_of_getElem? (i := 34) rfl)))
theorem wF_N_46 : Cond.fieldLink "TickLines$Counter" 46 "TickLines$Counter" "output" "Z" ∈ tkW := (List.mem_append_right _ (List.mem_append_left _ (List.mem_of_getElem? (i := 35) rfl)))
theorem wF_N_15 : Cond.fieldLink "TickLines$Counter" 15 "TickLines$Counter" "mode" "I" ∈ tkW := (List.mem_append_right _ (List.mem_append_left _ (List.mem_of_getElem? (i := 36) rfl)))
theorem wF_N_25 : Cond.fieldLink "TickLines$Counter" 25 "TickLines$Counter" "access" "I" ∈ tkW := (List.mem_append_right _ (List.mem_append_left _ (List.mem_of_getElem? (i := 37) rfl)))
theorem wF_N_28 : Cond.fieldLink "TickLines$Counter" 28 "TickLines$Counter" "reload" "I" ∈ tkW := (List.mem_append_right _ (List.mem_append_left _ (List.mem_of_getElem? (i := 38) rfl)))
theorem wF_N_53 : Cond.fieldLink "TickLines$Counter" 53 "TickLines$Counter" "count" "I" ∈ tkW := (List.mem_append_right _ (List.mem_append_left _ (List.mem_of_getElem? (i := 39) rfl)))
theorem wF_N_31 : Cond.fieldLink "TickLines$Counter" 31 "TickLines$Counter" "runs" "Z" ∈ tkW := (List.mem_append_right _ (List.mem_append_left _ (List.mem_of_getElem? (i := 40) rfl)))
theorem wF_N_34 : Cond.fieldLink "TickLines$Counter" 34 "TickLines$Counter" "toBeLoaded" "Z" ∈ tkW := (List.mem_append_right _ (List.mem_append_left _ (List.mem_of_getElem? (i := 41) rfl)))
theorem wF_N_37 : Cond.fieldLink "TickLines$Counter" 37 "TickLines$Counter" "pending" "Z" ∈ tkW := (List.mem_append_right _ (List.mem_append_left _ (List.mem_of_getElem? (i := 42) rfl)))
theorem wF_N_64 : Cond.fieldLink "TickLines$Counter" 64 "TickLines$Counter" "lowWritten" "I" ∈ tkW := (List.mem_append_right _ (List.mem_append_left _ (List.mem_of_getElem? (i := 43) rfl)))
theorem wF_N_40 : Cond.fieldLink "TickLines$Counter" 40 "TickLines$Counter" "highIsWrittenNext" "Z" ∈ tkW := (List.mem_append_right _ (List.mem_append_left _ (List.mem_of_getElem? (i := 44) rfl)))
theorem wF_N_43 : Cond.fieldLink "TickLines$Counter" 43 "TickLines$Counter" "highIsReadNext" "Z" ∈ tkW := (List.mem_append_right _ (List.mem_append_left _ (List.mem_of_getElem? (i := 45) rfl)))
theorem wF_N_19 : Cond.fieldLink "TickLines$Counter" 19 "TickLines$Counter" "latchedCount" "I" ∈ tkW := (List.mem_append_right _ (List.mem_append_left _ (List.mem_of_getElem? (i := 46) rfl)))
theorem wF_N_22 : Cond.fieldLink "TickLines$Counter" 22 "TickLines$Counter" "latchedStatus" "I" ∈ tkW := (List.mem_append_right _ (List.mem_append_left _ (List.mem_of_getElem? (i := 47) rfl)))
theorem wY_N_gateIsOn : Cond.lays "TickLines$Counter" "TickLines$Counter" "gateIsOn" "Z" ∈ tkW := (List.mem_append_right _ (List.mem_append_left _ (List.mem_of_getElem? (i := 48) rfl)))
theorem wY_N_output : Cond.lays "TickLines$Counter" "TickLines$Counter" "output" "Z" ∈ tkW := (List.mem_append_right _ (List.mem_append_left _ (List.mem_of_getElem? (i := 49) rfl)))
theorem wY_N_mode : Cond.lays "TickLines$Counter" "TickLines$Counter" "mode" "I" ∈ tkW := (List.mem_append_right _ (List.mem_append_left _ (List.mem_of_getElem? (i := 50) rfl)))
theorem wY_N_access : Cond.lays "TickLines$Counter" "TickLines$Counter" "access" "I" ∈ tkW := (List.mem_append_right _ (List.mem_append_left _ (List.mem_of_getElem? (i := 51) rfl)))
theorem wY_N_reload : Cond.lays "TickLines$Counter" "TickLines$Counter" "reload" "I" ∈ tkW := (List.mem_append_right _ (List.mem_append_left _ (List.mem_of_getElem? (i := 52) rfl)))
theorem wY_N_count : Cond.lays "TickLines$Counter" "TickLines$Counter" "count" "I" ∈ tkW := (List.mem_append_right _ (List.mem_append_left _ (List.mem_of_getElem? (i := 53) rfl)))
theorem wY_N_runs : Cond.lays "TickLines$Counter" "TickLines$Counter" "runs" "Z" ∈ tkW := (List.mem_append_right _ (List.mem_append_left _ (List.mem_of_getElem? (i := 54) rfl)))
theorem wY_N_toBeLoaded : Cond.lays "TickLines$Counter" "TickLines$Counter" "toBeLoaded" "Z" ∈ tkW := (List.mem_append_right _ (List.mem_append_left _ (List.mem_of_getElem? (i := 55) rfl)))
theorem wY_N_pending : Cond.lays "TickLines$Counter" "TickLines$Counter" "pending" "Z" ∈ tkW := (List.mem_append_right _ (List.mem_append_left _ (List.mem_of_getElem? (i := 56) rfl)))
theorem wY_N_lowWritten : Cond.lays "TickLines$Counter" "TickLines$Counter" "lowWritten" "I" ∈ tkW := (List.mem_append_right _ (List.mem_append_left _ (List.mem_of_getElem? (i := 57) rfl)))
theorem wY_N_highIsWrittenNext : Cond.lays "TickLines$Counter" "TickLines$Counter" "highIsWrittenNext" "Z" ∈ tkW := (List.mem_append_right _ (List.mem_append_left _ (List.mem_of_getElem? (i := 58) rfl)))
theorem wY_N_highIsReadNext : Cond.lays "TickLines$Counter" "TickLines$Counter" "highIsReadNext" "Z" ∈ tkW := (List.mem_append_right _ (List.mem_append_left _ (List.mem_of_getElem? (i := 59) rfl)))
theorem wY_N_latchedCount : Cond.lays "TickLines$Counter" "TickLines$Counter" "latchedCount" "I" ∈ tkW := (List.mem_append_right _ (List.mem_append_right _ (List.mem_append_left _ (List.mem_of_getElem? (i := 0) rfl))))
theorem wY_N_latchedStatus : Cond.lays "TickLines$Counter" "TickLines$Counter" "latchedStatus" "I" ∈ tkW := (List.mem_append_right _ (List.mem_append_right _ (List.mem_append_left _ (List.mem_of_getElem? (i := 1) rfl))))
theorem wF_T_12 : Cond.fieldLink "TickLines" 12 "TickLines" "leader" "LTickLines$Controller;" ∈ tkW := (List.mem_append_right _ (List.mem_append_right _ (List.mem_append_left _ (List.mem_of_getElem? (i := 2) rfl))))
theorem wF_T_18 : Cond.fieldLink "TickLines" 18 "TickLines" "follower" "LTickLines$Controller;" ∈ tkW := (List.mem_append_right _ (List.mem_append_right _ (List.mem_append_left _ (List.mem_of_getElem? (i := 3) rfl))))
theorem wF_T_24 : Cond.fieldLink "TickLines" 24 "TickLines" "counters" "[LTickLines$Counter;" ∈ tkW := (List.mem_append_right _ (List.mem_append_right _ (List.mem_append_left _ (List.mem_of_getElem? (i := 4) rfl))))
theorem wY_T_leader : Cond.laysFinal "TickLines" "TickLines" "leader" "LTickLines$Controller;" ∈ tkW := (List.mem_append_right _ (List.mem_append_right _ (List.mem_append_left _ (List.mem_of_getElem? (i := 5) rfl))))
theorem wY_T_follower : Cond.laysFinal "TickLines" "TickLines" "follower" "LTickLines$Controller;" ∈ tkW := (List.mem_append_right _ (List.mem_append_right _ (List.mem_append_left _ (List.mem_of_getElem? (i := 6) rfl))))
theorem wY_T_counters : Cond.laysFinal "TickLines" "TickLines" "counters" "[LTickLines$Counter;" ∈ tkW := (List.mem_append_right _ (List.mem_append_right _ (List.mem_append_left _ (List.mem_of_getElem? (i := 7) rfl))))
theorem wI_T_line : Cond.instanceMethod yT_line ∈ tkW := (List.mem_append_right _ (List.mem_append_right _ (List.mem_append_left _ (List.mem_of_getElem? (i := 8) rfl))))
theorem wS_T_line : Cond.selects "TickLines" yT_line yT_line ∈ tkW := (List.mem_append_right _ (List.mem_append_right _ (List.mem_append_left _ (List.mem_of_getElem? (i := 9) rfl))))
theorem wC_T_line : Cond.code yT_line cT_line 4 (some .boolean) ∈ tkW := (List.mem_append_right _ (List.mem_append_right _ (List.mem_append_left _ (List.mem_of_getElem? (i := 10) rfl))))
theorem wM_T_73 : Cond.methodLink "TickLines" 73 yT_isController ∈ tkW := (List.mem_append_right _ (List.mem_append_right _ (List.mem_append_left _ (List.mem_of_getElem? (i := 11) rfl))))
theorem wT_T_isController : Cond.static yT_isController ∈ tkW := (List.mem_append_right _ (List.mem_append_right _ (List.mem_append_left _ (List.mem_of_getElem? (i := 12) rfl))))
theorem wC_T_isController : Cond.code yT_isController cT_isController 1 (some .boolean) ∈ tkW := (List.mem_append_right _ (List.mem_append_right _ (List.mem_append_left _ (List.mem_of_getElem? (i := 13) rfl))))
theorem wM_T_49 : Cond.methodLink "TickLines" 49 yT_controllerOf ∈ tkW := (List.mem_append_right _ (List.mem_append_right _ (List.mem_append_left _ (List.mem_of_getElem? (i := 14) rfl))))
theorem wI_T_controllerOf : Cond.instanceMethod yT_controllerOf ∈ tkW := (List.mem_append_right _ (List.mem_append_right _ (List.mem_append_left _ (List.mem_of_getElem? (i := 15) rfl))))
theorem wC_T_controllerOf : Cond.code yT_controllerOf cT_controllerOf 2 (some (.object "TickLines$Controller")) ∈ tkW := (List.mem_append_right _ (List.mem_append_right _ (List.mem_append_left _ (List.mem_of_getElem? (i := 16) rfl))))
theorem wM_T_76 : Cond.methodLink "TickLines" 76 yC_setLine ∈ tkW := (List.mem_append_right _ (List.mem_append_right _ (List.mem_append_left _ (List.mem_of_getElem? (i := 17) rfl))))
theorem wI_C_setLine : Cond.instanceMethod yC_setLine ∈ tkW := (List.mem_append_right _ (List.mem_append_right _ (List.mem_append_left _ (List.mem_of_getElem? (i := 18) rfl))))
theorem wS_C_setLine : Cond.selects "TickLines$Controller" yC_setLine yC_setLine ∈ tkW := (List.mem_append_right _ (List.mem_append_right _ (List.mem_append_left _ (List.mem_of_getElem? (i := 19) rfl))))
theorem wC_C_setLine : Cond.code yC_setLine cC_setLine 4 none ∈ tkW := (List.mem_append_right _ (List.mem_append_right _ (List.mem_append_left _ (List.mem_of_getElem? (i := 20) rfl))))
theorem wM_T_59 : Cond.methodLink "TickLines" 59 yT_followLines ∈ tkW := (List.mem_append_right _ (List.mem_append_right _ (List.mem_append_left _ (List.mem_of_getElem? (i := 21) rfl))))
theorem wI_T_followLines : Cond.instanceMethod yT_followLines ∈ tkW := (List.mem_append_right _ (List.mem_append_right _ (List.mem_append_left _ (List.mem_of_getElem? (i := 22) rfl))))
theorem wC_T_followLines : Cond.code yT_followLines cT_followLines 1 none ∈ tkW := (List.mem_append_right _ (List.mem_append_right _ (List.mem_append_left _ (List.mem_of_getElem? (i := 23) rfl))))
theorem wM_T_109 : Cond.methodLink "TickLines" 109 yC_chosenLevel ∈ tkW := (List.mem_append_right _ (List.mem_append_right _ (List.mem_append_left _ (List.mem_of_getElem? (i := 24) rfl))))
theorem wI_C_chosenLevel : Cond.instanceMethod yC_chosenLevel ∈ tkW := (List.mem_append_right _ (List.mem_append_right _ (List.mem_append_left _ (List.mem_of_getElem? (i := 25) rfl))))
theorem wS_C_chosenLevel : Cond.selects "TickLines$Controller" yC_chosenLevel yC_chosenLevel ∈ tkW := (List.mem_append_right _ (List.mem_append_right _ (List.mem_append_left _ (List.mem_of_getElem? (i := 26) rfl))))
theorem wC_C_chosenLevel : Cond.code yC_chosenLevel cC_chosenLevel 6 (some .int) ∈ tkW := (List.mem_append_right _ (List.mem_append_right _ (List.mem_append_left _ (List.mem_of_getElem? (i := 27) rfl))))
theorem wM_C_28 : Cond.methodLink "TickLines$Controller" 28 yC_requests ∈ tkW := (List.mem_append_right _ (List.mem_append_right _ (List.mem_append_left _ (List.mem_of_getElem? (i := 28) rfl))))
theorem wI_C_requests : Cond.instanceMethod yC_requests ∈ tkW := (List.mem_append_right _ (List.mem_append_right _ (List.mem_append_left _ (List.mem_of_getElem? (i := 29) rfl))))
theorem wC_C_requests : Cond.code yC_requests cC_requests 1 (some .int) ∈ tkW := (List.mem_append_right _ (List.mem_append_right _ (List.mem_append_left _ (List.mem_of_getElem? (i := 30) rfl))))
theorem wM_C_35 : Cond.methodLink "TickLines$Controller" 35 yC_holdingLevels ∈ tkW := (List.mem_append_right _ (List.mem_append_right _ (List.mem_append_left _ (List.mem_of_getElem? (i := 31) rfl))))
theorem wI_C_holdingLevels : Cond.instanceMethod yC_holdingLevels ∈ tkW := (List.mem_append_right _ (List.mem_append_right _ (List.mem_append_left _ (List.mem_of_getElem? (i := 32) rfl))))
theorem wC_C_holdingLevels : Cond.code yC_holdingLevels cC_holdingLevels 1 (some .int) ∈ tkW := (List.mem_append_right _ (List.mem_append_right _ (List.mem_append_left _ (List.mem_of_getElem? (i := 33) rfl))))
theorem wT_T_hasBit : Cond.static yT_hasBit ∈ tkW := (List.mem_append_right _ (List.mem_append_right _ (List.mem_append_left _ (List.mem_of_getElem? (i := 34) rfl))))
theorem wC_T_hasBit : Cond.code yT_hasBit cT_hasBit 2 (some .boolean) ∈ tkW := (List.mem_append_right _ (List.mem_append_right _ (List.mem_append_left _ (List.mem_of_getElem? (i := 35) rfl))))
theorem wM_C_42 : Cond.methodLink "TickLines$Controller" 42 yC_mayNest ∈ tkW := (List.mem_append_right _ (List.mem_append_right _ (List.mem_append_left _ (List.mem_of_getElem? (i := 36) rfl))))
theorem wI_C_mayNest : Cond.instanceMethod yC_mayNest ∈ tkW := (List.mem_append_right _ (List.mem_append_right _ (List.mem_append_left _ (List.mem_of_getElem? (i := 37) rfl))))
theorem wC_C_mayNest : Cond.code yC_mayNest cC_mayNest 2 (some .boolean) ∈ tkW := (List.mem_append_right _ (List.mem_append_right _ (List.mem_append_left _ (List.mem_of_getElem? (i := 38) rfl))))
theorem wI_T_gate : Cond.instanceMethod yT_gate ∈ tkW := (List.mem_append_right _ (List.mem_append_right _ (List.mem_append_left _ (List.mem_of_getElem? (i := 39) rfl))))
theorem wS_T_gate : Cond.selects "TickLines" yT_gate yT_gate ∈ tkW := (List.mem_append_right _ (List.mem_append_right _ (List.mem_append_left _ (List.mem_of_getElem? (i := 40) rfl))))
theorem wC_T_gate : Cond.code yT_gate cT_gate 3 (some .boolean) ∈ tkW := (List.mem_append_right _ (List.mem_append_right _ (List.mem_append_left _ (List.mem_of_getElem? (i := 41) rfl))))
theorem wM_T_80 : Cond.methodLink "TickLines" 80 yT_isCounter ∈ tkW := (List.mem_append_right _ (List.mem_append_right _ (List.mem_append_left _ (List.mem_of_getElem? (i := 42) rfl))))
theorem wT_T_isCounter : Cond.static yT_isCounter ∈ tkW := (List.mem_append_right _ (List.mem_append_right _ (List.mem_append_left _ (List.mem_of_getElem? (i := 43) rfl))))
theorem wC_T_isCounter : Cond.code yT_isCounter cT_isCounter 1 (some .boolean) ∈ tkW := (List.mem_append_right _ (List.mem_append_right _ (List.mem_append_left _ (List.mem_of_getElem? (i := 44) rfl))))
theorem wM_T_83 : Cond.methodLink "TickLines" 83 yN_setGate ∈ tkW := (List.mem_append_right _ (List.mem_append_right _ (List.mem_append_left _ (List.mem_of_getElem? (i := 45) rfl))))
theorem wI_N_setGate : Cond.instanceMethod yN_setGate ∈ tkW := (List.mem_append_right _ (List.mem_append_right _ (List.mem_append_left _ (List.mem_of_getElem? (i := 46) rfl))))
theorem wS_N_setGate : Cond.selects "TickLines$Counter" yN_setGate yN_setGate ∈ tkW := (List.mem_append_right _ (List.mem_append_right _ (List.mem_append_left _ (List.mem_of_getElem? (i := 47) rfl))))
theorem wC_N_setGate : Cond.code yN_setGate cN_setGate 4 none ∈ tkW := (List.mem_append_right _ (List.mem_append_right _ (List.mem_append_left _ (List.mem_of_getElem? (i := 48) rfl))))
theorem wM_N_67 : Cond.methodLink "TickLines$Counter" 67 yN_isEmpty ∈ tkW := (List.mem_append_right _ (List.mem_append_right _ (List.mem_append_left _ (List.mem_of_getElem? (i := 49) rfl))))
theorem wI_N_isEmpty : Cond.instanceMethod yN_isEmpty ∈ tkW := (List.mem_append_right _ (List.mem_append_right _ (List.mem_append_left _ (List.mem_of_getElem? (i := 50) rfl))))
theorem wC_N_isEmpty : Cond.code yN_isEmpty cN_isEmpty 1 (some .boolean) ∈ tkW := (List.mem_append_right _ (List.mem_append_right _ (List.mem_append_left _ (List.mem_of_getElem? (i := 51) rfl))))
theorem wM_N_70 : Cond.methodLink "TickLines$Counter" 70 yN_gateLoads ∈ tkW := (List.mem_append_right _ (List.mem_append_right _ (List.mem_append_left _ (List.mem_of_getElem? (i := 52) rfl))))
theorem wI_N_gateLoads : Cond.instanceMethod yN_gateLoads ∈ tkW := (List.mem_append_right _ (List.mem_append_right _ (List.mem_append_left _ (List.mem_of_getElem? (i := 53) rfl))))
theorem wC_N_gateLoads : Cond.code yN_gateLoads cN_gateLoads 1 (some .boolean) ∈ tkW := (List.mem_append_right _ (List.mem_append_right _ (List.mem_append_left _ (List.mem_of_getElem? (i := 54) rfl))))
theorem wM_N_73 : Cond.methodLink "TickLines$Counter" 73 yN_isPeriodic ∈ tkW := (List.mem_append_right _ (List.mem_append_right _ (List.mem_append_left _ (List.mem_of_getElem? (i := 55) rfl))))
theorem wI_N_isPeriodic : Cond.instanceMethod yN_isPeriodic ∈ tkW := (List.mem_append_right _ (List.mem_append_right _ (List.mem_append_left _ (List.mem_of_getElem? (i := 56) rfl))))
theorem wC_N_isPeriodic : Cond.code yN_isPeriodic cN_isPeriodic 1 (some .boolean) ∈ tkW := (List.mem_append_right _ (List.mem_append_right _ (List.mem_append_left _ (List.mem_of_getElem? (i := 57) rfl))))
theorem wI_T_chosen : Cond.instanceMethod yT_chosen ∈ tkW := (List.mem_append_right _ (List.mem_append_right _ (List.mem_append_left _ (List.mem_of_getElem? (i := 58) rfl))))
theorem wS_T_chosen : Cond.selects "TickLines" yT_chosen yT_chosen ∈ tkW := (List.mem_append_right _ (List.mem_append_right _ (List.mem_append_left _ (List.mem_of_getElem? (i := 59) rfl))))
theorem wC_T_chosen : Cond.code yT_chosen cT_chosen 2 (some .int) ∈ tkW := (List.mem_append_right _ (List.mem_append_right _ (List.mem_append_right _ (List.mem_append_left _ (List.mem_of_getElem? (i := 0) rfl)))))
theorem wI_T_about : Cond.instanceMethod yT_about ∈ tkW := (List.mem_append_right _ (List.mem_append_right _ (List.mem_append_right _ (List.mem_append_left _ (List.mem_of_getElem? (i := 1) rfl)))))
theorem wS_T_about : Cond.selects "TickLines" yT_about yT_about ∈ tkW := (List.mem_append_right _ (List.mem_append_right _ (List.mem_append_right _ (List.mem_append_left _ (List.mem_of_getElem? (i := 2) rfl)))))
theorem wC_T_about : Cond.code yT_about cT_about 3 (some .int) ∈ tkW := (List.mem_append_right _ (List.mem_append_right _ (List.mem_append_right _ (List.mem_append_left _ (List.mem_of_getElem? (i := 3) rfl)))))
theorem wM_T_112 : Cond.methodLink "TickLines" 112 yC_tell ∈ tkW := (List.mem_append_right _ (List.mem_append_right _ (List.mem_append_right _ (List.mem_append_left _ (List.mem_of_getElem? (i := 4) rfl)))))
theorem wI_C_tell : Cond.instanceMethod yC_tell ∈ tkW := (List.mem_append_right _ (List.mem_append_right _ (List.mem_append_right _ (List.mem_append_left _ (List.mem_of_getElem? (i := 5) rfl)))))
theorem wS_C_tell : Cond.selects "TickLines$Controller" yC_tell yC_tell ∈ tkW := (List.mem_append_right _ (List.mem_append_right _ (List.mem_append_right _ (List.mem_append_left _ (List.mem_of_getElem? (i := 6) rfl)))))
theorem wC_C_tell : Cond.code yC_tell cC_tell 2 (some .int) ∈ tkW := (List.mem_append_right _ (List.mem_append_right _ (List.mem_append_right _ (List.mem_append_left _ (List.mem_of_getElem? (i := 7) rfl)))))
theorem wT_T_asBit : Cond.static yT_asBit ∈ tkW := (List.mem_append_right _ (List.mem_append_right _ (List.mem_append_right _ (List.mem_append_left _ (List.mem_of_getElem? (i := 8) rfl)))))
theorem wC_T_asBit : Cond.code yT_asBit cT_asBit 1 (some .int) ∈ tkW := (List.mem_append_right _ (List.mem_append_right _ (List.mem_append_right _ (List.mem_append_left _ (List.mem_of_getElem? (i := 9) rfl)))))
theorem wI_T_counter : Cond.instanceMethod yT_counter ∈ tkW := (List.mem_append_right _ (List.mem_append_right _ (List.mem_append_right _ (List.mem_append_left _ (List.mem_of_getElem? (i := 10) rfl)))))
theorem wS_T_counter : Cond.selects "TickLines" yT_counter yT_counter ∈ tkW := (List.mem_append_right _ (List.mem_append_right _ (List.mem_append_right _ (List.mem_append_left _ (List.mem_of_getElem? (i := 11) rfl)))))
theorem wC_T_counter : Cond.code yT_counter cT_counter 3 (some .int) ∈ tkW := (List.mem_append_right _ (List.mem_append_right _ (List.mem_append_right _ (List.mem_append_left _ (List.mem_of_getElem? (i := 12) rfl)))))
theorem wM_T_115 : Cond.methodLink "TickLines" 115 yN_tell ∈ tkW := (List.mem_append_right _ (List.mem_append_right _ (List.mem_append_right _ (List.mem_append_left _ (List.mem_of_getElem? (i := 13) rfl)))))
theorem wI_N_tell : Cond.instanceMethod yN_tell ∈ tkW := (List.mem_append_right _ (List.mem_append_right _ (List.mem_append_right _ (List.mem_append_left _ (List.mem_of_getElem? (i := 14) rfl)))))
theorem wS_N_tell : Cond.selects "TickLines$Counter" yN_tell yN_tell ∈ tkW := (List.mem_append_right _ (List.mem_append_right _ (List.mem_append_right _ (List.mem_append_left _ (List.mem_of_getElem? (i := 15) rfl)))))
theorem wC_N_tell : Cond.code yN_tell cN_tell 2 (some .int) ∈ tkW := (List.mem_append_right _ (List.mem_append_right _ (List.mem_append_right _ (List.mem_append_left _ (List.mem_of_getElem? (i := 16) rfl)))))
theorem wI_T_write : Cond.instanceMethod yT_write ∈ tkW := (List.mem_append_right _ (List.mem_append_right _ (List.mem_append_right _ (List.mem_append_left _ (List.mem_of_getElem? (i := 17) rfl)))))
theorem wS_T_write : Cond.selects "TickLines" yT_write yT_write ∈ tkW := (List.mem_append_right _ (List.mem_append_right _ (List.mem_append_right _ (List.mem_append_left _ (List.mem_of_getElem? (i := 18) rfl)))))
theorem wC_T_write : Cond.code yT_write cT_write 3 none ∈ tkW := (List.mem_append_right _ (List.mem_append_right _ (List.mem_append_right _ (List.mem_append_left _ (List.mem_of_getElem? (i := 19) rfl)))))
theorem wM_T_28 : Cond.methodLink "TickLines" 28 yT_isPort ∈ tkW := (List.mem_append_right _ (List.mem_append_right _ (List.mem_append_right _ (List.mem_append_left _ (List.mem_of_getElem? (i := 20) rfl)))))
theorem wT_T_isPort : Cond.static yT_isPort ∈ tkW := (List.mem_append_right _ (List.mem_append_right _ (List.mem_append_right _ (List.mem_append_left _ (List.mem_of_getElem? (i := 21) rfl)))))
theorem wC_T_isPort : Cond.code yT_isPort cT_isPort 1 (some .boolean) ∈ tkW := (List.mem_append_right _ (List.mem_append_right _ (List.mem_append_right _ (List.mem_append_left _ (List.mem_of_getElem? (i := 22) rfl)))))
theorem wL_T_32 : Cond.classLink "TickLines" 32 "java/lang/IllegalArgumentException" ∈ tkW := (List.mem_append_right _ (List.mem_append_right _ (List.mem_append_right _ (List.mem_append_left _ (List.mem_of_getElem? (i := 23) rfl)))))
theorem wM_T_35 : Cond.methodLink "TickLines" 35 yT_isCounterPort ∈ tkW := (List.mem_append_right _ (List.mem_append_right _ (List.mem_append_right _ (List.mem_append_left _ (List.mem_of_getElem? (i := 24) rfl)))))
theorem wT_T_isCounterPort : Cond.static yT_isCounterPort ∈ tkW := (List.mem_append_right _ (List.mem_append_right _ (List.mem_append_right _ (List.mem_append_left _ (List.mem_of_getElem? (i := 25) rfl)))))
theorem wC_T_isCounterPort : Cond.code yT_isCounterPort cT_isCounterPort 1 (some .boolean) ∈ tkW := (List.mem_append_right _ (List.mem_append_right _ (List.mem_append_right _ (List.mem_append_left _ (List.mem_of_getElem? (i := 26) rfl)))))
theorem wM_T_38 : Cond.methodLink "TickLines" 38 yT_counterWithMode ∈ tkW := (List.mem_append_right _ (List.mem_append_right _ (List.mem_append_right _ (List.mem_append_left _ (List.mem_of_getElem? (i := 27) rfl)))))
theorem wI_T_counterWithMode : Cond.instanceMethod yT_counterWithMode ∈ tkW := (List.mem_append_right _ (List.mem_append_right _ (List.mem_append_right _ (List.mem_append_left _ (List.mem_of_getElem? (i := 28) rfl)))))
theorem wC_T_counterWithMode : Cond.code yT_counterWithMode cT_counterWithMode 3 (some (.object "TickLines$Counter")) ∈ tkW := (List.mem_append_right _ (List.mem_append_right _ (List.mem_append_right _ (List.mem_append_left _ (List.mem_of_getElem? (i := 29) rfl)))))
theorem wM_T_116 : Cond.methodLink "TickLines" 116 yN_hasMode ∈ tkW := (List.mem_append_right _ (List.mem_append_right _ (List.mem_append_right _ (List.mem_append_left _ (List.mem_of_getElem? (i := 30) rfl)))))
theorem wI_N_hasMode : Cond.instanceMethod yN_hasMode ∈ tkW := (List.mem_append_right _ (List.mem_append_right _ (List.mem_append_right _ (List.mem_append_left _ (List.mem_of_getElem? (i := 31) rfl)))))
theorem wS_N_hasMode : Cond.selects "TickLines$Counter" yN_hasMode yN_hasMode ∈ tkW := (List.mem_append_right _ (List.mem_append_right _ (List.mem_append_right _ (List.mem_append_left _ (List.mem_of_getElem? (i := 32) rfl)))))
theorem wC_N_hasMode : Cond.code yN_hasMode cN_hasMode 1 (some .boolean) ∈ tkW := (List.mem_append_right _ (List.mem_append_right _ (List.mem_append_right _ (List.mem_append_left _ (List.mem_of_getElem? (i := 33) rfl)))))
theorem wL_T_96 : Cond.classLink "TickLines" 96 "java/lang/IllegalStateException" ∈ tkW := (List.mem_append_right _ (List.mem_append_right _ (List.mem_append_right _ (List.mem_append_left _ (List.mem_of_getElem? (i := 34) rfl)))))
theorem wM_T_42 : Cond.methodLink "TickLines" 42 yN_takeByte ∈ tkW := (List.mem_append_right _ (List.mem_append_right _ (List.mem_append_right _ (List.mem_append_left _ (List.mem_of_getElem? (i := 35) rfl)))))
theorem wI_N_takeByte : Cond.instanceMethod yN_takeByte ∈ tkW := (List.mem_append_right _ (List.mem_append_right _ (List.mem_append_right _ (List.mem_append_left _ (List.mem_of_getElem? (i := 36) rfl)))))
theorem wS_N_takeByte : Cond.selects "TickLines$Counter" yN_takeByte yN_takeByte ∈ tkW := (List.mem_append_right _ (List.mem_append_right _ (List.mem_append_right _ (List.mem_append_left _ (List.mem_of_getElem? (i := 37) rfl)))))
theorem wC_N_takeByte : Cond.code yN_takeByte cN_takeByte 2 none ∈ tkW := (List.mem_append_right _ (List.mem_append_right _ (List.mem_append_right _ (List.mem_append_left _ (List.mem_of_getElem? (i := 38) rfl)))))
theorem wM_N_60 : Cond.methodLink "TickLines$Counter" 60 yN_takeReload ∈ tkW := (List.mem_append_right _ (List.mem_append_right _ (List.mem_append_right _ (List.mem_append_left _ (List.mem_of_getElem? (i := 39) rfl)))))
theorem wI_N_takeReload : Cond.instanceMethod yN_takeReload ∈ tkW := (List.mem_append_right _ (List.mem_append_right _ (List.mem_append_right _ (List.mem_append_left _ (List.mem_of_getElem? (i := 40) rfl)))))
theorem wC_N_takeReload : Cond.code yN_takeReload cN_takeReload 3 none ∈ tkW := (List.mem_append_right _ (List.mem_append_right _ (List.mem_append_right _ (List.mem_append_left _ (List.mem_of_getElem? (i := 41) rfl)))))
theorem wK_N_88 : Cond.constant "TickLines$Counter" 88 65536 ∈ tkW := (List.mem_append_right _ (List.mem_append_right _ (List.mem_append_right _ (List.mem_append_left _ (List.mem_of_getElem? (i := 42) rfl)))))
theorem wM_T_46 : Cond.methodLink "TickLines" 46 yT_takeControl ∈ tkW := (List.mem_append_right _ (List.mem_append_right _ (List.mem_append_right _ (List.mem_append_left _ (List.mem_of_getElem? (i := 43) rfl)))))
theorem wI_T_takeControl : Cond.instanceMethod yT_takeControl ∈ tkW := (List.mem_append_right _ (List.mem_append_right _ (List.mem_append_right _ (List.mem_append_left _ (List.mem_of_getElem? (i := 44) rfl)))))
theorem wC_T_takeControl : Cond.code yT_takeControl cT_takeControl 4 none ∈ tkW := (List.mem_append_right _ (List.mem_append_right _ (List.mem_append_right _ (List.mem_append_left _ (List.mem_of_getElem? (i := 45) rfl)))))
theorem wM_T_120 : Cond.methodLink "TickLines" 120 yT_latchMany ∈ tkW := (List.mem_append_right _ (List.mem_append_right _ (List.mem_append_right _ (List.mem_append_left _ (List.mem_of_getElem? (i := 46) rfl)))))
theorem wI_T_latchMany : Cond.instanceMethod yT_latchMany ∈ tkW := (List.mem_append_right _ (List.mem_append_right _ (List.mem_append_right _ (List.mem_append_left _ (List.mem_of_getElem? (i := 47) rfl)))))
theorem wC_T_latchMany : Cond.code yT_latchMany cT_latchMany 3 none ∈ tkW := (List.mem_append_right _ (List.mem_append_right _ (List.mem_append_right _ (List.mem_append_left _ (List.mem_of_getElem? (i := 48) rfl)))))
theorem wM_T_130 : Cond.methodLink "TickLines" 130 yT_hasBit ∈ tkW := (List.mem_append_right _ (List.mem_append_right _ (List.mem_append_right _ (List.mem_append_left _ (List.mem_of_getElem? (i := 49) rfl)))))
theorem wM_T_123 : Cond.methodLink "TickLines" 123 yN_latchCount ∈ tkW := (List.mem_append_right _ (List.mem_append_right _ (List.mem_append_right _ (List.mem_append_left _ (List.mem_of_getElem? (i := 50) rfl)))))
theorem wI_N_latchCount : Cond.instanceMethod yN_latchCount ∈ tkW := (List.mem_append_right _ (List.mem_append_right _ (List.mem_append_right _ (List.mem_append_left _ (List.mem_of_getElem? (i := 51) rfl)))))
theorem wS_N_latchCount : Cond.selects "TickLines$Counter" yN_latchCount yN_latchCount ∈ tkW := (List.mem_append_right _ (List.mem_append_right _ (List.mem_append_right _ (List.mem_append_left _ (List.mem_of_getElem? (i := 52) rfl)))))
theorem wC_N_latchCount : Cond.code yN_latchCount cN_latchCount 1 none ∈ tkW := (List.mem_append_right _ (List.mem_append_right _ (List.mem_append_right _ (List.mem_append_left _ (List.mem_of_getElem? (i := 53) rfl)))))
theorem wM_N_49 : Cond.methodLink "TickLines$Counter" 49 yN_hasMode ∈ tkW := (List.mem_append_right _ (List.mem_append_right _ (List.mem_append_right _ (List.mem_append_left _ (List.mem_of_getElem? (i := 54) rfl)))))
theorem wM_T_134 : Cond.methodLink "TickLines" 134 yN_latchStatus ∈ tkW := (List.mem_append_right _ (List.mem_append_right _ (List.mem_append_right _ (List.mem_append_left _ (List.mem_of_getElem? (i := 55) rfl)))))
theorem wI_N_latchStatus : Cond.instanceMethod yN_latchStatus ∈ tkW := (List.mem_append_right _ (List.mem_append_right _ (List.mem_append_right _ (List.mem_append_left _ (List.mem_of_getElem? (i := 56) rfl)))))
theorem wS_N_latchStatus : Cond.selects "TickLines$Counter" yN_latchStatus yN_latchStatus ∈ tkW := (List.mem_append_right _ (List.mem_append_right _ (List.mem_append_right _ (List.mem_append_left _ (List.mem_of_getElem? (i := 57) rfl)))))
theorem wC_N_latchStatus : Cond.code yN_latchStatus cN_latchStatus 1 none ∈ tkW := (List.mem_append_right _ (List.mem_append_right _ (List.mem_append_right _ (List.mem_append_left _ (List.mem_of_getElem? (i := 58) rfl)))))
theorem wM_T_126 : Cond.methodLink "TickLines" 126 yN_setMode ∈ tkW := (List.mem_append_right _ (List.mem_append_right _ (List.mem_append_right _ (List.mem_append_left _ (List.mem_of_getElem? (i := 59) rfl)))))
theorem wI_N_setMode : Cond.instanceMethod yN_setMode ∈ tkW := (List.mem_append_right _ (List.mem_append_right _ (List.mem_append_right _ (List.mem_append_right _ (List.mem_append_left _ (List.mem_of_getElem? (i := 0) rfl))))))
theorem wS_N_setMode : Cond.selects "TickLines$Counter" yN_setMode yN_setMode ∈ tkW := (List.mem_append_right _ (List.mem_append_right _ (List.mem_append_right _ (List.mem_append_right _ (List.mem_append_left _ (List.mem_of_getElem? (i := 1) rfl))))))
theorem wC_N_setMode : Cond.code yN_setMode cN_setMode 3 none ∈ tkW := (List.mem_append_right _ (List.mem_append_right _ (List.mem_append_right _ (List.mem_append_right _ (List.mem_append_left _ (List.mem_of_getElem? (i := 2) rfl))))))
theorem wM_T_53 : Cond.methodLink "TickLines" 53 yC_takeSideZero ∈ tkW := (List.mem_append_right _ (List.mem_append_right _ (List.mem_append_right _ (List.mem_append_right _ (List.mem_append_left _ (List.mem_of_getElem? (i := 3) rfl))))))
theorem wI_C_takeSideZero : Cond.instanceMethod yC_takeSideZero ∈ tkW := (List.mem_append_right _ (List.mem_append_right _ (List.mem_append_right _ (List.mem_append_right _ (List.mem_append_left _ (List.mem_of_getElem? (i := 4) rfl))))))
theorem wS_C_takeSideZero : Cond.selects "TickLines$Controller" yC_takeSideZero yC_takeSideZero ∈ tkW := (List.mem_append_right _ (List.mem_append_right _ (List.mem_append_right _ (List.mem_append_right _ (List.mem_append_left _ (List.mem_of_getElem? (i := 5) rfl))))))
theorem wC_C_takeSideZero : Cond.code yC_takeSideZero cC_takeSideZero 2 none ∈ tkW := (List.mem_append_right _ (List.mem_append_right _ (List.mem_append_right _ (List.mem_append_right _ (List.mem_append_left _ (List.mem_of_getElem? (i := 6) rfl))))))
theorem wM_C_56 : Cond.methodLink "TickLines$Controller" 56 yC_beginSettingUp ∈ tkW := (List.mem_append_right _ (List.mem_append_right _ (List.mem_append_right _ (List.mem_append_right _ (List.mem_append_left _ (List.mem_of_getElem? (i := 7) rfl))))))
theorem wI_C_beginSettingUp : Cond.instanceMethod yC_beginSettingUp ∈ tkW := (List.mem_append_right _ (List.mem_append_right _ (List.mem_append_right _ (List.mem_append_right _ (List.mem_append_left _ (List.mem_of_getElem? (i := 8) rfl))))))
theorem wC_C_beginSettingUp : Cond.code yC_beginSettingUp cC_beginSettingUp 2 none ∈ tkW := (List.mem_append_right _ (List.mem_append_right _ (List.mem_append_right _ (List.mem_append_right _ (List.mem_append_left _ (List.mem_of_getElem? (i := 9) rfl))))))
theorem wM_C_59 : Cond.methodLink "TickLines$Controller" 59 yC_takeReadingCommand ∈ tkW := (List.mem_append_right _ (List.mem_append_right _ (List.mem_append_right _ (List.mem_append_right _ (List.mem_append_left _ (List.mem_of_getElem? (i := 10) rfl))))))
theorem wI_C_takeReadingCommand : Cond.instanceMethod yC_takeReadingCommand ∈ tkW := (List.mem_append_right _ (List.mem_append_right _ (List.mem_append_right _ (List.mem_append_right _ (List.mem_append_left _ (List.mem_of_getElem? (i := 11) rfl))))))
theorem wC_C_takeReadingCommand : Cond.code yC_takeReadingCommand cC_takeReadingCommand 2 none ∈ tkW := (List.mem_append_right _ (List.mem_append_right _ (List.mem_append_right _ (List.mem_append_right _ (List.mem_append_left _ (List.mem_of_getElem? (i := 12) rfl))))))
theorem wM_C_62 : Cond.methodLink "TickLines$Controller" 62 yC_takeServiceCommand ∈ tkW := (List.mem_append_right _ (List.mem_append_right _ (List.mem_append_right _ (List.mem_append_right _ (List.mem_append_left _ (List.mem_of_getElem? (i := 13) rfl))))))
theorem wI_C_takeServiceCommand : Cond.instanceMethod yC_takeServiceCommand ∈ tkW := (List.mem_append_right _ (List.mem_append_right _ (List.mem_append_right _ (List.mem_append_right _ (List.mem_append_left _ (List.mem_of_getElem? (i := 14) rfl))))))
theorem wC_C_takeServiceCommand : Cond.code yC_takeServiceCommand cC_takeServiceCommand 3 none ∈ tkW := (List.mem_append_right _ (List.mem_append_right _ (List.mem_append_right _ (List.mem_append_right _ (List.mem_append_left _ (List.mem_of_getElem? (i := 15) rfl))))))
theorem wM_C_112 : Cond.methodLink "TickLines$Controller" 112 yC_firstHolding ∈ tkW := (List.mem_append_right _ (List.mem_append_right _ (List.mem_append_right _ (List.mem_append_right _ (List.mem_append_left _ (List.mem_of_getElem? (i := 16) rfl))))))
theorem wI_C_firstHolding : Cond.instanceMethod yC_firstHolding ∈ tkW := (List.mem_append_right _ (List.mem_append_right _ (List.mem_append_right _ (List.mem_append_right _ (List.mem_append_left _ (List.mem_of_getElem? (i := 17) rfl))))))
theorem wC_C_firstHolding : Cond.code yC_firstHolding cC_firstHolding 4 (some .int) ∈ tkW := (List.mem_append_right _ (List.mem_append_right _ (List.mem_append_right _ (List.mem_append_right _ (List.mem_append_left _ (List.mem_of_getElem? (i := 18) rfl))))))
theorem wM_C_115 : Cond.methodLink "TickLines$Controller" 115 yC_endService ∈ tkW := (List.mem_append_right _ (List.mem_append_right _ (List.mem_append_right _ (List.mem_append_right _ (List.mem_append_left _ (List.mem_of_getElem? (i := 19) rfl))))))
theorem wI_C_endService : Cond.instanceMethod yC_endService ∈ tkW := (List.mem_append_right _ (List.mem_append_right _ (List.mem_append_right _ (List.mem_append_right _ (List.mem_append_left _ (List.mem_of_getElem? (i := 20) rfl))))))
theorem wC_C_endService : Cond.code yC_endService cC_endService 2 none ∈ tkW := (List.mem_append_right _ (List.mem_append_right _ (List.mem_append_right _ (List.mem_append_right _ (List.mem_append_left _ (List.mem_of_getElem? (i := 21) rfl))))))
theorem wM_C_118 : Cond.methodLink "TickLines$Controller" 118 yC_endServiceAndTurn ∈ tkW := (List.mem_append_right _ (List.mem_append_right _ (List.mem_append_right _ (List.mem_append_right _ (List.mem_append_left _ (List.mem_of_getElem? (i := 22) rfl))))))
theorem wI_C_endServiceAndTurn : Cond.instanceMethod yC_endServiceAndTurn ∈ tkW := (List.mem_append_right _ (List.mem_append_right _ (List.mem_append_right _ (List.mem_append_right _ (List.mem_append_left _ (List.mem_of_getElem? (i := 23) rfl))))))
theorem wC_C_endServiceAndTurn : Cond.code yC_endServiceAndTurn cC_endServiceAndTurn 2 none ∈ tkW := (List.mem_append_right _ (List.mem_append_right _ (List.mem_append_right _ (List.mem_append_right _ (List.mem_append_left _ (List.mem_of_getElem? (i := 24) rfl))))))
theorem wM_T_56 : Cond.methodLink "TickLines" 56 yC_takeSideOne ∈ tkW := (List.mem_append_right _ (List.mem_append_right _ (List.mem_append_right _ (List.mem_append_right _ (List.mem_append_left _ (List.mem_of_getElem? (i := 25) rfl))))))
theorem wI_C_takeSideOne : Cond.instanceMethod yC_takeSideOne ∈ tkW := (List.mem_append_right _ (List.mem_append_right _ (List.mem_append_right _ (List.mem_append_right _ (List.mem_append_left _ (List.mem_of_getElem? (i := 26) rfl))))))
theorem wS_C_takeSideOne : Cond.selects "TickLines$Controller" yC_takeSideOne yC_takeSideOne ∈ tkW := (List.mem_append_right _ (List.mem_append_right _ (List.mem_append_right _ (List.mem_append_right _ (List.mem_append_left _ (List.mem_of_getElem? (i := 27) rfl))))))
theorem wC_C_takeSideOne : Cond.code yC_takeSideOne cC_takeSideOne 2 none ∈ tkW := (List.mem_append_right _ (List.mem_append_right _ (List.mem_append_right _ (List.mem_append_right _ (List.mem_append_left _ (List.mem_of_getElem? (i := 28) rfl))))))
theorem wM_C_72 : Cond.methodLink "TickLines$Controller" 72 yC_awaitFrom ∈ tkW := (List.mem_append_right _ (List.mem_append_right _ (List.mem_append_right _ (List.mem_append_right _ (List.mem_append_left _ (List.mem_of_getElem? (i := 29) rfl))))))
theorem wI_C_awaitFrom : Cond.instanceMethod yC_awaitFrom ∈ tkW := (List.mem_append_right _ (List.mem_append_right _ (List.mem_append_right _ (List.mem_append_right _ (List.mem_append_left _ (List.mem_of_getElem? (i := 30) rfl))))))
theorem wC_C_awaitFrom : Cond.code yC_awaitFrom cC_awaitFrom 2 none ∈ tkW := (List.mem_append_right _ (List.mem_append_right _ (List.mem_append_right _ (List.mem_append_right _ (List.mem_append_left _ (List.mem_of_getElem? (i := 31) rfl))))))
theorem wM_C_81 : Cond.methodLink "TickLines$Controller" 81 yC_becomeReady ∈ tkW := (List.mem_append_right _ (List.mem_append_right _ (List.mem_append_right _ (List.mem_append_right _ (List.mem_append_left _ (List.mem_of_getElem? (i := 32) rfl))))))
theorem wI_C_becomeReady : Cond.instanceMethod yC_becomeReady ∈ tkW := (List.mem_append_right _ (List.mem_append_right _ (List.mem_append_right _ (List.mem_append_right _ (List.mem_append_left _ (List.mem_of_getElem? (i := 33) rfl))))))
theorem wC_C_becomeReady : Cond.code yC_becomeReady cC_becomeReady 1 none ∈ tkW := (List.mem_append_right _ (List.mem_append_right _ (List.mem_append_right _ (List.mem_append_right _ (List.mem_append_left _ (List.mem_of_getElem? (i := 34) rfl))))))
theorem wI_T_read : Cond.instanceMethod yT_read ∈ tkW := (List.mem_append_right _ (List.mem_append_right _ (List.mem_append_right _ (List.mem_append_right _ (List.mem_append_left _ (List.mem_of_getElem? (i := 35) rfl))))))
theorem wS_T_read : Cond.selects "TickLines" yT_read yT_read ∈ tkW := (List.mem_append_right _ (List.mem_append_right _ (List.mem_append_right _ (List.mem_append_right _ (List.mem_append_left _ (List.mem_of_getElem? (i := 36) rfl))))))
theorem wC_T_read : Cond.code yT_read cT_read 3 (some .int) ∈ tkW := (List.mem_append_right _ (List.mem_append_right _ (List.mem_append_right _ (List.mem_append_right _ (List.mem_append_left _ (List.mem_of_getElem? (i := 37) rfl))))))
theorem wM_T_62 : Cond.methodLink "TickLines" 62 yN_giveByte ∈ tkW := (List.mem_append_right _ (List.mem_append_right _ (List.mem_append_right _ (List.mem_append_right _ (List.mem_append_left _ (List.mem_of_getElem? (i := 38) rfl))))))
theorem wI_N_giveByte : Cond.instanceMethod yN_giveByte ∈ tkW := (List.mem_append_right _ (List.mem_append_right _ (List.mem_append_right _ (List.mem_append_right _ (List.mem_append_left _ (List.mem_of_getElem? (i := 39) rfl))))))
theorem wS_N_giveByte : Cond.selects "TickLines$Counter" yN_giveByte yN_giveByte ∈ tkW := (List.mem_append_right _ (List.mem_append_right _ (List.mem_append_right _ (List.mem_append_right _ (List.mem_append_left _ (List.mem_of_getElem? (i := 40) rfl))))))
theorem wC_N_giveByte : Cond.code yN_giveByte cN_giveByte 3 (some .int) ∈ tkW := (List.mem_append_right _ (List.mem_append_right _ (List.mem_append_right _ (List.mem_append_right _ (List.mem_append_left _ (List.mem_of_getElem? (i := 41) rfl))))))
theorem wM_T_66 : Cond.methodLink "TickLines" 66 yC_giveSideZero ∈ tkW := (List.mem_append_right _ (List.mem_append_right _ (List.mem_append_right _ (List.mem_append_right _ (List.mem_append_left _ (List.mem_of_getElem? (i := 42) rfl))))))
theorem wI_C_giveSideZero : Cond.instanceMethod yC_giveSideZero ∈ tkW := (List.mem_append_right _ (List.mem_append_right _ (List.mem_append_right _ (List.mem_append_right _ (List.mem_append_left _ (List.mem_of_getElem? (i := 43) rfl))))))
theorem wS_C_giveSideZero : Cond.selects "TickLines$Controller" yC_giveSideZero yC_giveSideZero ∈ tkW := (List.mem_append_right _ (List.mem_append_right _ (List.mem_append_right _ (List.mem_append_right _ (List.mem_append_left _ (List.mem_of_getElem? (i := 44) rfl))))))
theorem wC_C_giveSideZero : Cond.code yC_giveSideZero cC_giveSideZero 2 (some .int) ∈ tkW := (List.mem_append_right _ (List.mem_append_right _ (List.mem_append_right _ (List.mem_append_right _ (List.mem_append_left _ (List.mem_of_getElem? (i := 45) rfl))))))
theorem wM_C_87 : Cond.methodLink "TickLines$Controller" 87 yC_serveChosen ∈ tkW := (List.mem_append_right _ (List.mem_append_right _ (List.mem_append_right _ (List.mem_append_right _ (List.mem_append_left _ (List.mem_of_getElem? (i := 46) rfl))))))
theorem wI_C_serveChosen : Cond.instanceMethod yC_serveChosen ∈ tkW := (List.mem_append_right _ (List.mem_append_right _ (List.mem_append_right _ (List.mem_append_right _ (List.mem_append_left _ (List.mem_of_getElem? (i := 47) rfl))))))
theorem wS_C_serveChosen : Cond.selects "TickLines$Controller" yC_serveChosen yC_serveChosen ∈ tkW := (List.mem_append_right _ (List.mem_append_right _ (List.mem_append_right _ (List.mem_append_right _ (List.mem_append_left _ (List.mem_of_getElem? (i := 48) rfl))))))
theorem wC_C_serveChosen : Cond.code yC_serveChosen cC_serveChosen 2 (some .int) ∈ tkW := (List.mem_append_right _ (List.mem_append_right _ (List.mem_append_right _ (List.mem_append_right _ (List.mem_append_left _ (List.mem_of_getElem? (i := 49) rfl))))))
theorem wM_C_46 : Cond.methodLink "TickLines$Controller" 46 yC_chosenLevel ∈ tkW := (List.mem_append_right _ (List.mem_append_right _ (List.mem_append_right _ (List.mem_append_right _ (List.mem_append_left _ (List.mem_of_getElem? (i := 50) rfl))))))
theorem wM_C_49 : Cond.methodLink "TickLines$Controller" 49 yC_serve ∈ tkW := (List.mem_append_right _ (List.mem_append_right _ (List.mem_append_right _ (List.mem_append_right _ (List.mem_append_left _ (List.mem_of_getElem? (i := 51) rfl))))))
theorem wI_C_serve : Cond.instanceMethod yC_serve ∈ tkW := (List.mem_append_right _ (List.mem_append_right _ (List.mem_append_right _ (List.mem_append_right _ (List.mem_append_left _ (List.mem_of_getElem? (i := 52) rfl))))))
theorem wC_C_serve : Cond.code yC_serve cC_serve 2 none ∈ tkW := (List.mem_append_right _ (List.mem_append_right _ (List.mem_append_right _ (List.mem_append_right _ (List.mem_append_left _ (List.mem_of_getElem? (i := 53) rfl))))))
theorem wI_T_tick : Cond.instanceMethod yT_tick ∈ tkW := (List.mem_append_right _ (List.mem_append_right _ (List.mem_append_right _ (List.mem_append_right _ (List.mem_append_left _ (List.mem_of_getElem? (i := 54) rfl))))))
theorem wS_T_tick : Cond.selects "TickLines" yT_tick yT_tick ∈ tkW := (List.mem_append_right _ (List.mem_append_right _ (List.mem_append_right _ (List.mem_append_right _ (List.mem_append_left _ (List.mem_of_getElem? (i := 55) rfl))))))
theorem wC_T_tick : Cond.code yT_tick cT_tick 6 (some .int) ∈ tkW := (List.mem_append_right _ (List.mem_append_right _ (List.mem_append_right _ (List.mem_append_right _ (List.mem_append_left _ (List.mem_of_getElem? (i := 56) rfl))))))
theorem wM_T_90 : Cond.methodLink "TickLines" 90 yN_step ∈ tkW := (List.mem_append_right _ (List.mem_append_right _ (List.mem_append_right _ (List.mem_append_right _ (List.mem_append_left _ (List.mem_of_getElem? (i := 57) rfl))))))
theorem wI_N_step : Cond.instanceMethod yN_step ∈ tkW := (List.mem_append_right _ (List.mem_append_right _ (List.mem_append_right _ (List.mem_append_right _ (List.mem_append_left _ (List.mem_of_getElem? (i := 58) rfl))))))
theorem wS_N_step : Cond.selects "TickLines$Counter" yN_step yN_step ∈ tkW := (List.mem_append_right _ (List.mem_append_right _ (List.mem_append_right _ (List.mem_append_right _ (List.mem_append_left _ (List.mem_of_getElem? (i := 59) rfl))))))
theorem wC_N_step : Cond.code yN_step cN_step 1 none ∈ tkW := (List.mem_append_right _ (List.mem_append_right _ (List.mem_append_right _ (List.mem_append_right _ (List.mem_append_right _ (List.mem_append_left _ (List.mem_of_getElem? (i := 0) rfl)))))))
theorem wM_N_76 : Cond.methodLink "TickLines$Counter" 76 yN_standsBetweenBytes ∈ tkW := (List.mem_append_right _ (List.mem_append_right _ (List.mem_append_right _ (List.mem_append_right _ (List.mem_append_right _ (List.mem_append_left _ (List.mem_of_getElem? (i := 1) rfl)))))))
theorem wI_N_standsBetweenBytes : Cond.instanceMethod yN_standsBetweenBytes ∈ tkW := (List.mem_append_right _ (List.mem_append_right _ (List.mem_append_right _ (List.mem_append_right _ (List.mem_append_right _ (List.mem_append_left _ (List.mem_of_getElem? (i := 2) rfl)))))))
theorem wC_N_standsBetweenBytes : Cond.code yN_standsBetweenBytes cN_standsBetweenBytes 1 (some .boolean) ∈ tkW := (List.mem_append_right _ (List.mem_append_right _ (List.mem_append_right _ (List.mem_append_right _ (List.mem_append_right _ (List.mem_append_left _ (List.mem_of_getElem? (i := 3) rfl)))))))
theorem wM_N_79 : Cond.methodLink "TickLines$Counter" 79 yN_load ∈ tkW := (List.mem_append_right _ (List.mem_append_right _ (List.mem_append_right _ (List.mem_append_right _ (List.mem_append_right _ (List.mem_append_left _ (List.mem_of_getElem? (i := 4) rfl)))))))
theorem wI_N_load : Cond.instanceMethod yN_load ∈ tkW := (List.mem_append_right _ (List.mem_append_right _ (List.mem_append_right _ (List.mem_append_right _ (List.mem_append_right _ (List.mem_append_left _ (List.mem_of_getElem? (i := 5) rfl)))))))
theorem wC_N_load : Cond.code yN_load cN_load 1 none ∈ tkW := (List.mem_append_right _ (List.mem_append_right _ (List.mem_append_right _ (List.mem_append_right _ (List.mem_append_right _ (List.mem_append_left _ (List.mem_of_getElem? (i := 6) rfl)))))))
theorem wM_N_89 : Cond.methodLink "TickLines$Counter" 89 yN_partTicks ∈ tkW := (List.mem_append_right _ (List.mem_append_right _ (List.mem_append_right _ (List.mem_append_right _ (List.mem_append_right _ (List.mem_append_left _ (List.mem_of_getElem? (i := 7) rfl)))))))
theorem wI_N_partTicks : Cond.instanceMethod yN_partTicks ∈ tkW := (List.mem_append_right _ (List.mem_append_right _ (List.mem_append_right _ (List.mem_append_right _ (List.mem_append_right _ (List.mem_append_left _ (List.mem_of_getElem? (i := 8) rfl)))))))
theorem wC_N_partTicks : Cond.code yN_partTicks cN_partTicks 1 (some .int) ∈ tkW := (List.mem_append_right _ (List.mem_append_right _ (List.mem_append_right _ (List.mem_append_right _ (List.mem_append_right _ (List.mem_append_left _ (List.mem_of_getElem? (i := 9) rfl)))))))
theorem wM_N_93 : Cond.methodLink "TickLines$Counter" 93 yN_setCount ∈ tkW := (List.mem_append_right _ (List.mem_append_right _ (List.mem_append_right _ (List.mem_append_right _ (List.mem_append_right _ (List.mem_append_left _ (List.mem_of_getElem? (i := 10) rfl)))))))
theorem wI_N_setCount : Cond.instanceMethod yN_setCount ∈ tkW := (List.mem_append_right _ (List.mem_append_right _ (List.mem_append_right _ (List.mem_append_right _ (List.mem_append_right _ (List.mem_append_left _ (List.mem_of_getElem? (i := 11) rfl)))))))
theorem wC_N_setCount : Cond.code yN_setCount cN_setCount 2 none ∈ tkW := (List.mem_append_right _ (List.mem_append_right _ (List.mem_append_right _ (List.mem_append_right _ (List.mem_append_right _ (List.mem_append_left _ (List.mem_of_getElem? (i := 12) rfl)))))))
theorem wK_N_96 : Cond.constant "TickLines$Counter" 96 65535 ∈ tkW := (List.mem_append_right _ (List.mem_append_right _ (List.mem_append_right _ (List.mem_append_right _ (List.mem_append_right _ (List.mem_append_left _ (List.mem_of_getElem? (i := 13) rfl)))))))
theorem wM_N_82 : Cond.methodLink "TickLines$Counter" 82 yN_gateHoldsBack ∈ tkW := (List.mem_append_right _ (List.mem_append_right _ (List.mem_append_right _ (List.mem_append_right _ (List.mem_append_right _ (List.mem_append_left _ (List.mem_of_getElem? (i := 14) rfl)))))))
theorem wI_N_gateHoldsBack : Cond.instanceMethod yN_gateHoldsBack ∈ tkW := (List.mem_append_right _ (List.mem_append_right _ (List.mem_append_right _ (List.mem_append_right _ (List.mem_append_right _ (List.mem_append_left _ (List.mem_of_getElem? (i := 15) rfl)))))))
theorem wC_N_gateHoldsBack : Cond.code yN_gateHoldsBack cN_gateHoldsBack 1 (some .boolean) ∈ tkW := (List.mem_append_right _ (List.mem_append_right _ (List.mem_append_right _ (List.mem_append_right _ (List.mem_append_right _ (List.mem_append_left _ (List.mem_of_getElem? (i := 16) rfl)))))))
theorem wM_N_85 : Cond.methodLink "TickLines$Counter" 85 yN_countDown ∈ tkW := (List.mem_append_right _ (List.mem_append_right _ (List.mem_append_right _ (List.mem_append_right _ (List.mem_append_right _ (List.mem_append_left _ (List.mem_of_getElem? (i := 17) rfl)))))))
theorem wI_N_countDown : Cond.instanceMethod yN_countDown ∈ tkW := (List.mem_append_right _ (List.mem_append_right _ (List.mem_append_right _ (List.mem_append_right _ (List.mem_append_right _ (List.mem_append_left _ (List.mem_of_getElem? (i := 18) rfl)))))))
theorem wC_N_countDown : Cond.code yN_countDown cN_countDown 1 none ∈ tkW := (List.mem_append_right _ (List.mem_append_right _ (List.mem_append_right _ (List.mem_append_right _ (List.mem_append_right _ (List.mem_append_left _ (List.mem_of_getElem? (i := 19) rfl)))))))
theorem wM_N_97 : Cond.methodLink "TickLines$Counter" 97 yN_stepRate ∈ tkW := (List.mem_append_right _ (List.mem_append_right _ (List.mem_append_right _ (List.mem_append_right _ (List.mem_append_right _ (List.mem_append_left _ (List.mem_of_getElem? (i := 20) rfl)))))))
theorem wI_N_stepRate : Cond.instanceMethod yN_stepRate ∈ tkW := (List.mem_append_right _ (List.mem_append_right _ (List.mem_append_right _ (List.mem_append_right _ (List.mem_append_right _ (List.mem_append_left _ (List.mem_of_getElem? (i := 21) rfl)))))))
theorem wC_N_stepRate : Cond.code yN_stepRate cN_stepRate 1 none ∈ tkW := (List.mem_append_right _ (List.mem_append_right _ (List.mem_append_right _ (List.mem_append_right _ (List.mem_append_right _ (List.mem_append_left _ (List.mem_of_getElem? (i := 22) rfl)))))))
theorem wM_N_109 : Cond.methodLink "TickLines$Counter" 109 yN_lessen ∈ tkW := (List.mem_append_right _ (List.mem_append_right _ (List.mem_append_right _ (List.mem_append_right _ (List.mem_append_right _ (List.mem_append_left _ (List.mem_of_getElem? (i := 23) rfl)))))))
theorem wI_N_lessen : Cond.instanceMethod yN_lessen ∈ tkW := (List.mem_append_right _ (List.mem_append_right _ (List.mem_append_right _ (List.mem_append_right _ (List.mem_append_right _ (List.mem_append_left _ (List.mem_of_getElem? (i := 24) rfl)))))))
theorem wC_N_lessen : Cond.code yN_lessen cN_lessen 2 none ∈ tkW := (List.mem_append_right _ (List.mem_append_right _ (List.mem_append_right _ (List.mem_append_right _ (List.mem_append_right _ (List.mem_append_left _ (List.mem_of_getElem? (i := 25) rfl)))))))
theorem wM_N_100 : Cond.methodLink "TickLines$Counter" 100 yN_stepSquare ∈ tkW := (List.mem_append_right _ (List.mem_append_right _ (List.mem_append_right _ (List.mem_append_right _ (List.mem_append_right _ (List.mem_append_left _ (List.mem_of_getElem? (i := 26) rfl)))))))
theorem wI_N_stepSquare : Cond.instanceMethod yN_stepSquare ∈ tkW := (List.mem_append_right _ (List.mem_append_right _ (List.mem_append_right _ (List.mem_append_right _ (List.mem_append_right _ (List.mem_append_left _ (List.mem_of_getElem? (i := 27) rfl)))))))
theorem wC_N_stepSquare : Cond.code yN_stepSquare cN_stepSquare 1 none ∈ tkW := (List.mem_append_right _ (List.mem_append_right _ (List.mem_append_right _ (List.mem_append_right _ (List.mem_append_right _ (List.mem_append_left _ (List.mem_of_getElem? (i := 28) rfl)))))))
theorem wM_N_103 : Cond.methodLink "TickLines$Counter" 103 yN_stepStrobe ∈ tkW := (List.mem_append_right _ (List.mem_append_right _ (List.mem_append_right _ (List.mem_append_right _ (List.mem_append_right _ (List.mem_append_left _ (List.mem_of_getElem? (i := 29) rfl)))))))
theorem wI_N_stepStrobe : Cond.instanceMethod yN_stepStrobe ∈ tkW := (List.mem_append_right _ (List.mem_append_right _ (List.mem_append_right _ (List.mem_append_right _ (List.mem_append_right _ (List.mem_append_left _ (List.mem_of_getElem? (i := 30) rfl)))))))
theorem wC_N_stepStrobe : Cond.code yN_stepStrobe cN_stepStrobe 1 none ∈ tkW := (List.mem_append_right _ (List.mem_append_right _ (List.mem_append_right _ (List.mem_append_right _ (List.mem_append_right _ (List.mem_append_left _ (List.mem_of_getElem? (i := 31) rfl)))))))
theorem wM_N_106 : Cond.methodLink "TickLines$Counter" 106 yN_stepOnce ∈ tkW := (List.mem_append_right _ (List.mem_append_right _ (List.mem_append_right _ (List.mem_append_right _ (List.mem_append_right _ (List.mem_append_left _ (List.mem_of_getElem? (i := 32) rfl)))))))
theorem wI_N_stepOnce : Cond.instanceMethod yN_stepOnce ∈ tkW := (List.mem_append_right _ (List.mem_append_right _ (List.mem_append_right _ (List.mem_append_right _ (List.mem_append_right _ (List.mem_append_left _ (List.mem_of_getElem? (i := 33) rfl)))))))
theorem wC_N_stepOnce : Cond.code yN_stepOnce cN_stepOnce 1 none ∈ tkW := (List.mem_append_right _ (List.mem_append_right _ (List.mem_append_right _ (List.mem_append_right _ (List.mem_append_right _ (List.mem_append_left _ (List.mem_of_getElem? (i := 34) rfl)))))))
theorem wI_T_acknowledge : Cond.instanceMethod yT_acknowledge ∈ tkW := (List.mem_append_right _ (List.mem_append_right _ (List.mem_append_right _ (List.mem_append_right _ (List.mem_append_right _ (List.mem_append_left _ (List.mem_of_getElem? (i := 35) rfl)))))))
theorem wS_T_acknowledge : Cond.selects "TickLines" yT_acknowledge yT_acknowledge ∈ tkW := (List.mem_append_right _ (List.mem_append_right _ (List.mem_append_right _ (List.mem_append_right _ (List.mem_append_right _ (List.mem_append_left _ (List.mem_of_getElem? (i := 36) rfl)))))))
theorem wC_T_acknowledge : Cond.code yT_acknowledge cT_acknowledge 3 (some .int) ∈ tkW := (List.mem_append_right _ (List.mem_append_right _ (List.mem_append_right _ (List.mem_append_right _ (List.mem_append_right _ (List.mem_append_left _ (List.mem_of_getElem? (i := 37) rfl)))))))
theorem wM_T_99 : Cond.methodLink "TickLines" 99 yC_serveChosen ∈ tkW := (List.mem_append_right _ (List.mem_append_right _ (List.mem_append_right _ (List.mem_append_right _ (List.mem_append_right _ (List.mem_append_left _ (List.mem_of_getElem? (i := 38) rfl)))))))
theorem wM_T_105 : Cond.methodLink "TickLines" 105 yC_vectorOf ∈ tkW := (List.mem_append_right _ (List.mem_append_right _ (List.mem_append_right _ (List.mem_append_right _ (List.mem_append_right _ (List.mem_append_left _ (List.mem_of_getElem? (i := 39) rfl)))))))
theorem wI_C_vectorOf : Cond.instanceMethod yC_vectorOf ∈ tkW := (List.mem_append_right _ (List.mem_append_right _ (List.mem_append_right _ (List.mem_append_right _ (List.mem_append_right _ (List.mem_append_left _ (List.mem_of_getElem? (i := 40) rfl)))))))
theorem wS_C_vectorOf : Cond.selects "TickLines$Controller" yC_vectorOf yC_vectorOf ∈ tkW := (List.mem_append_right _ (List.mem_append_right _ (List.mem_append_right _ (List.mem_append_right _ (List.mem_append_right _ (List.mem_append_left _ (List.mem_of_getElem? (i := 41) rfl)))))))
theorem wC_C_vectorOf : Cond.code yC_vectorOf cC_vectorOf 2 (some .int) ∈ tkW := (List.mem_append_right _ (List.mem_append_right _ (List.mem_append_right _ (List.mem_append_right _ (List.mem_append_right _ (List.mem_append_left _ (List.mem_of_getElem? (i := 42) rfl)))))))
theorem tkW_g0 : ∀ w ∈ tkW_0, goodWord w = true := by decide +kernel
theorem tkW_g1 : ∀ w ∈ tkW_1, goodWord w = true := by decide +kernel
theorem tkW_g2 : ∀ w ∈ tkW_2, goodWord w = true := by decide +kernel
theorem tkW_g3 : ∀ w ∈ tkW_3, goodWord w = true := by decide +kernel
theorem tkW_g4 : ∀ w ∈ tkW_4, goodWord w = true := by decide +kernel
theorem tkW_g5 : ∀ w ∈ tkW_5, goodWord w = true := by decide +kernel
theorem tkW_gx : ∀ w ∈ tkW_x, goodWord w = true := fun w h => (List.mem_append.mp h).elim (fun h => (List.mem_filter.mp h).2) (fun h => (List.mem_filter.mp h).2)
theorem tkW_good : ∀ w ∈ tkW, goodWord w = true := fun w h => (List.mem_append.mp h).elim (fun h => tkW_g0 w h) (fun h => (List.mem_append.mp h).elim (fun h => tkW_g1 w h) (fun h => (List.mem_append.mp h).elim (fun h => tkW_g2 w h) (fun h => (List.mem_append.mp h).elim (fun h => tkW_g3 w h) (fun h => (List.mem_append.mp h).elim (fun h => tkW_g4 w h) (fun h => (List.mem_append.mp h).elim (fun h => tkW_g5 w h) (fun h => tkW_gx w h))))))
def tkWM_0 : List Cond := [.selects "TickLinesModel" yM_control yM_control, .selects "TickLinesModel" yM_latch yM_latch, .selects "TickLinesModel" yM_latchStatus yM_latchStatus, .selects "TickLinesModel" yM_writeCounter yM_writeCounter, .selects "TickLinesModel" yM_writeFirst yM_writeFirst, .selects "TickLinesModel" yM_begin yM_begin, .selects "TickLinesModel" yM_rule yM_rule, .selects "TickLinesModel" yM_firstHeld yM_firstHeld, .selects "TickLinesModel" yM_holds yM_holds, .selects "TickLinesModel" yM_writeSecond yM_writeSecond, .selects "TickLinesModel" yM_follow yM_follow, .selects "TickLinesModel" yM_set yM_set, .selects "TickLinesModel" yM_choice yM_choice, .selects "TickLinesModel" yM_requests yM_requests, .selects "TickLinesModel" yM_readCounter yM_readCounter, .selects "TickLinesModel" yM_readFirst yM_readFirst, .selects "TickLinesModel" yM_serve yM_serve, .selects "TickLinesModel" yM_tickOne yM_tickOne, .selects "TickLinesModel" yM_put yM_put, .selects "TickLinesModel" yM_step yM_step, .selects "TickLinesModel" yM_turn yM_turn, .initialized "TickLinesModel", .instantiable "TickLinesModel" 33, .instanceMethod yM_init, .code yM_init cM_init 1 none, .methodLink "TickLinesModel" 1 objectInit, .fieldLink "TickLinesModel" 107 "TickLinesModel" "thrown" "I", .fieldLink "TickLinesModel" 7 "TickLinesModel" "lines" "[I", .fieldLink "TickLinesModel" 13 "TickLinesModel" "latches" "[I", .fieldLink "TickLinesModel" 16 "TickLinesModel" "mask" "[I", .fieldLink "TickLinesModel" 19 "TickLinesModel" "service" "[I", .fieldLink "TickLinesModel" 22 "TickLinesModel" "base" "[I", .fieldLink "TickLinesModel" 25 "TickLinesModel" "lowest" "[I", .fieldLink "TickLinesModel" 28 "TickLinesModel" "ready" "[Z", .fieldLink "TickLinesModel" 32 "TickLinesModel" "level" "[Z", .fieldLink "TickLinesModel" 35 "TickLinesModel" "single" "[Z", .fieldLink "TickLinesModel" 38 "TickLinesModel" "fourth" "[Z", .fieldLink "TickLinesModel" 41 "TickLinesModel" "auto" "[Z", .fieldLink "TickLinesModel" 44 "TickLinesModel" "nested" "[Z", .fieldLink "TickLinesModel" 47 "TickLinesModel" "special" "[Z", .fieldLink "TickLinesModel" 50 "TickLinesModel" "turns" "[Z", .fieldLink "TickLinesModel" 53 "TickLinesModel" "poll" "[Z", .fieldLink "TickLinesModel" 56 "TickLinesModel" "showsService" "[Z", .fieldLink "TickLinesModel" 59 "TickLinesModel" "stage" "[I", .fieldLink "TickLinesModel" 62 "TickLinesModel" "gate" "[Z", .fieldLink "TickLinesModel" 65 "TickLinesModel" "output" "[Z", .fieldLink "TickLinesModel" 68 "TickLinesModel" "mode" "[I", .fieldLink "TickLinesModel" 71 "TickLinesModel" "access" "[I", .fieldLink "TickLinesModel" 74 "TickLinesModel" "reload" "[I", .fieldLink "TickLinesModel" 77 "TickLinesModel" "count" "[I", .fieldLink "TickLinesModel" 80 "TickLinesModel" "runs" "[Z", .fieldLink "TickLinesModel" 83 "TickLinesModel" "load" "[Z", .fieldLink "TickLinesModel" 86 "TickLinesModel" "stands" "[Z", .fieldLink "TickLinesModel" 89 "TickLinesModel" "fresh" "[Z", .fieldLink "TickLinesModel" 92 "TickLinesModel" "highNext" "[Z", .fieldLink "TickLinesModel" 95 "TickLinesModel" "low" "[I", .fieldLink "TickLinesModel" 98 "TickLinesModel" "readHigh" "[Z", .fieldLink "TickLinesModel" 101 "TickLinesModel" "latched" "[I", .fieldLink "TickLinesModel" 104 "TickLinesModel" "status" "[I", .lays "TickLinesModel" "TickLinesModel" "thrown" "I"]
def tkWM_1 : List Cond := [.laysFinal "TickLinesModel" "TickLinesModel" "lines" "[I", .laysFinal "TickLinesModel" "TickLinesModel" "latches" "[I", .laysFinal "TickLinesModel" "TickLinesModel" "mask" "[I", .laysFinal "TickLinesModel" "TickLinesModel" "service" "[I", .laysFinal "TickLinesModel" "TickLinesModel" "base" "[I", .laysFinal "TickLinesModel" "TickLinesModel" "lowest" "[I", .laysFinal "TickLinesModel" "TickLinesModel" "ready" "[Z", .laysFinal "TickLinesModel" "TickLinesModel" "level" "[Z", .laysFinal "TickLinesModel" "TickLinesModel" "single" "[Z", .laysFinal "TickLinesModel" "TickLinesModel" "fourth" "[Z", .laysFinal "TickLinesModel" "TickLinesModel" "auto" "[Z", .laysFinal "TickLinesModel" "TickLinesModel" "nested" "[Z", .laysFinal "TickLinesModel" "TickLinesModel" "special" "[Z", .laysFinal "TickLinesModel" "TickLinesModel" "turns" "[Z", .laysFinal "TickLinesModel" "TickLinesModel" "poll" "[Z", .laysFinal "TickLinesModel" "TickLinesModel" "showsService" "[Z", .laysFinal "TickLinesModel" "TickLinesModel" "stage" "[I", .laysFinal "TickLinesModel" "TickLinesModel" "gate" "[Z", .laysFinal "TickLinesModel" "TickLinesModel" "output" "[Z", .laysFinal "TickLinesModel" "TickLinesModel" "mode" "[I", .laysFinal "TickLinesModel" "TickLinesModel" "access" "[I", .laysFinal "TickLinesModel" "TickLinesModel" "reload" "[I", .laysFinal "TickLinesModel" "TickLinesModel" "count" "[I", .laysFinal "TickLinesModel" "TickLinesModel" "runs" "[Z", .laysFinal "TickLinesModel" "TickLinesModel" "load" "[Z", .laysFinal "TickLinesModel" "TickLinesModel" "stands" "[Z", .laysFinal "TickLinesModel" "TickLinesModel" "fresh" "[Z", .laysFinal "TickLinesModel" "TickLinesModel" "highNext" "[Z", .laysFinal "TickLinesModel" "TickLinesModel" "low" "[I", .laysFinal "TickLinesModel" "TickLinesModel" "readHigh" "[Z", .laysFinal "TickLinesModel" "TickLinesModel" "latched" "[I", .laysFinal "TickLinesModel" "TickLinesModel" "status" "[I", .arrayClass .int, .arrayClass .boolean, .instanceMethod yM_thrown, .selects "TickLinesModel" yM_thrown yM_thrown, .code yM_thrown cM_thrown 1 (some .int), .instanceMethod yM_write, .selects "TickLinesModel" yM_write yM_write, .code yM_write cM_write 4 none, .methodLink "TickLinesModel" 157 yM_control, .instanceMethod yM_control, .code yM_control cM_control 6 none, .methodLink "TickLinesModel" 139 yM_latch, .instanceMethod yM_latch, .code yM_latch cM_latch 2 none, .methodLink "TickLinesModel" 143 yM_latchStatus, .instanceMethod yM_latchStatus, .code yM_latchStatus cM_latchStatus 3 none, .methodLink "TickLinesModel" 160 yM_writeCounter, .instanceMethod yM_writeCounter, .code yM_writeCounter cM_writeCounter 6 none, .constant "TickLinesModel" 146 65536, .methodLink "TickLinesModel" 163 yM_writeFirst, .instanceMethod yM_writeFirst, .code yM_writeFirst cM_writeFirst 3 none, .methodLink "TickLinesModel" 129 yM_begin, .instanceMethod yM_begin, .code yM_begin cM_begin 3 none, .methodLink "TickLinesModel" 133 yM_rule]
def tkWM_2 : List Cond := [.instanceMethod yM_rule, .code yM_rule cM_rule 6 none, .methodLink "TickLinesModel" 126 yM_firstHeld, .instanceMethod yM_firstHeld, .code yM_firstHeld cM_firstHeld 4 (some .int), .methodLink "TickLinesModel" 111 yM_holds, .instanceMethod yM_holds, .code yM_holds cM_holds 3 (some .boolean), .methodLink "TickLinesModel" 166 yM_writeSecond, .instanceMethod yM_writeSecond, .code yM_writeSecond cM_writeSecond 4 none, .methodLink "TickLinesModel" 169 yM_follow, .instanceMethod yM_follow, .code yM_follow cM_follow 1 none, .methodLink "TickLinesModel" 119 yM_set, .instanceMethod yM_set, .code yM_set cM_set 5 none, .methodLink "TickLinesModel" 123 yM_choice, .instanceMethod yM_choice, .code yM_choice cM_choice 6 (some .int), .methodLink "TickLinesModel" 115 yM_requests, .instanceMethod yM_requests, .code yM_requests cM_requests 2 (some .int), .instanceMethod yM_read, .selects "TickLinesModel" yM_read yM_read, .code yM_read cM_read 3 (some .int), .methodLink "TickLinesModel" 172 yM_readCounter, .instanceMethod yM_readCounter, .code yM_readCounter cM_readCounter 5 (some .int), .methodLink "TickLinesModel" 175 yM_readFirst, .instanceMethod yM_readFirst, .code yM_readFirst cM_readFirst 3 (some .int), .methodLink "TickLinesModel" 136 yM_serve, .instanceMethod yM_serve, .code yM_serve cM_serve 3 none, .instanceMethod yM_line, .selects "TickLinesModel" yM_line yM_line, .code yM_line cM_line 4 (some .boolean), .instanceMethod yM_gate, .selects "TickLinesModel" yM_gate yM_gate, .code yM_gate cM_gate 5 (some .boolean), .instanceMethod yM_tick, .selects "TickLinesModel" yM_tick yM_tick, .code yM_tick cM_tick 6 (some .int), .methodLink "TickLinesModel" 178 yM_tickOne, .instanceMethod yM_tickOne, .code yM_tickOne cM_tickOne 3 none, .methodLink "TickLinesModel" 148 yM_put, .instanceMethod yM_put, .code yM_put cM_put 3 none, .constant "TickLinesModel" 147 65535, .methodLink "TickLinesModel" 154 yM_step, .instanceMethod yM_step, .code yM_step cM_step 3 none, .methodLink "TickLinesModel" 151 yM_turn, .instanceMethod yM_turn, .code yM_turn cM_turn 3 none, .instanceMethod yM_acknowledge, .selects "TickLinesModel" yM_acknowledge yM_acknowledge, .code yM_acknowledge cM_acknowledge 4 (some .int)]
def tkWM_3 : List Cond := [.instanceMethod yM_chosen, .selects "TickLinesModel" yM_chosen yM_chosen, .code yM_chosen cM_chosen 2 (some .int), .instanceMethod yM_about, .selects "TickLinesModel" yM_about yM_about, .code yM_about cM_about 3 (some .int), .instanceMethod yM_counter, .selects "TickLinesModel" yM_counter yM_counter, .code yM_counter cM_counter 3 (some .int), .code objectInit ⟨#[0xb1]⟩ 1 none, .instanceMethod objectInit]
def tkWM : List Cond := tkWM_0 ++ (tkWM_1 ++ (tkWM_2 ++ (tkWM_3)))
theorem wS_M_control : Cond.selects "TickLinesModel" yM_control yM_control ∈ tkWM := (List.mem_append_left _ (List.mem_of_getElem? (i := 0) rfl))
theorem wS_M_latch : Cond.selects "TickLinesModel" yM_latch yM_latch ∈ tkWM := (List.mem_append_left _ (List.mem_of_getElem? (i := 1) rfl))
theorem wS_M_latchStatus : Cond.selects "TickLinesModel" yM_latchStatus yM_latchStatus ∈ tkWM := (List.mem_append_left _ (List.mem_of_getElem? (i := 2) rfl))
theorem wS_M_writeCounter : Cond.selects "TickLinesModel" yM_writeCounter yM_writeCounter ∈ tkWM := (List.mem_append_left _ (List.mem_of_getElem? (i := 3) rfl))
theorem wS_M_writeFirst : Cond.selects "TickLinesModel" yM_writeFirst yM_writeFirst ∈ tkWM := (List.mem_append_left _ (List.mem_of_getElem? (i := 4) rfl))
theorem wS_M_begin : Cond.selects "TickLinesModel" yM_begin yM_begin ∈ tkWM := (List.mem_append_left _ (List.mem_of_getElem? (i := 5) rfl))
theorem wS_M_rule : Cond.selects "TickLinesModel" yM_rule yM_rule ∈ tkWM := (List.mem_append_left _ (List.mem_of_getElem? (i := 6) rfl))
theorem wS_M_firstHeld : Cond.selects "TickLinesModel" yM_firstHeld yM_firstHeld ∈ tkWM := (List.mem_append_left _ (List.mem_of_getElem? (i := 7) rfl))
theorem wS_M_holds : Cond.selects "TickLinesModel" yM_holds yM_holds ∈ tkWM := (List.mem_append_left _ (List.mem_of_getElem? (i := 8) rfl))
theorem wS_M_writeSecond : Cond.selects "TickLinesModel" yM_writeSecond yM_writeSecond ∈ tkWM := (List.mem_append_left _ (List.mem_of_getElem? (i := 9) rfl))
theorem wS_M_follow : Cond.selects "TickLinesModel" yM_follow yM_follow ∈ tkWM := (List.mem_append_left _ (List.mem_of_getElem? (i := 10) rfl))
theorem wS_M_set : Cond.selects "TickLinesModel" yM_set yM_set ∈ tkWM := (List.mem_append_left _ (List.mem_of_getElem? (i := 11) rfl))
theorem wS_M_choice : Cond.selects "TickLinesModel" yM_choice yM_choice ∈ tkWM := (List.mem_append_left _ (List.mem_of_getElem? (i := 12) rfl))
theorem wS_M_requests : Cond.selects "TickLinesModel" yM_requests yM_requests ∈ tkWM := (List.mem_append_left _ (List.mem_of_getElem? (i := 13) rfl))
theorem wS_M_readCounter : Cond.selects "TickLinesModel" yM_readCounter yM_readCounter ∈ tkWM := (List.mem_append_left _ (List.mem_of_getElem? (i := 14) rfl))
theorem wS_M_readFirst : Cond.selects "TickLinesModel" yM_readFirst yM_readFirst ∈ tkWM := (List.mem_append_left _ (List.mem_of_getElem? (i := 15) rfl))
theorem wS_M_serve : Cond.selects "TickLinesModel" yM_serve yM_serve ∈ tkWM := (List.mem_append_left _ (List.mem_of_getElem? (i := 16) rfl))
theorem wS_M_tickOne : Cond.selects "TickLinesModel" yM_tickOne yM_tickOne ∈ tkWM := (List.mem_append_left _ (List.mem_of_getElem? (i := 17) rfl))
theorem wS_M_put : Cond.selects "TickLinesModel" yM_put yM_put ∈ tkWM := (List.mem_append_left _ (List.mem_of_getElem? (i := 18) rfl))
theorem wS_M_step : Cond.selects "TickLinesModel" yM_step yM_step ∈ tkWM := (List.mem_append_left _ (List.mem_of_getElem? (i := 19) rfl))
theorem wS_M_turn : Cond.selects "TickLinesModel" yM_turn yM_turn ∈ tkWM := (List.mem_append_left _ (List.mem_of_getElem? (i := 20) rfl))
theorem wZ_M : Cond.initialized "TickLinesModel" ∈ tkWM := (List.mem_append_left _ (List.mem_of_getElem? (i := 21) rfl))
theorem wN_M : Cond.instantiable "TickLinesModel" 33 ∈ tkWM := (List.mem_append_left _ (List.mem_of_getElem? (i := 22) rfl))
theorem wI_M_init : Cond.instanceMethod yM_init ∈ tkWM := (List.mem_append_left _ (List.mem_of_getElem? (i := 23) rfl))
theorem wC_M_init : Cond.code yM_init cM_init 1 none ∈ tkWM := (List.mem_append_left _ (List.mem_of_getElem? (i := 24) rfl))
theorem wM_M_1 : Cond.methodLink "TickLinesModel" 1 objectInit ∈ tkWM := (List.mem_append_left _ (List.mem_of_getElem? (i := 25) rfl))
theorem wF_M_107 : Cond.fieldLink "TickLinesModel" 107 "TickLinesModel" "thrown" "I" ∈ tkWM := (List.mem_append_left _ (List.mem_of_getElem? (i := 26) rfl))
theorem wF_M_7 : Cond.fieldLink "TickLinesModel" 7 "TickLinesModel" "lines" "[I" ∈ tkWM := (List.mem_append_left _ (List.mem_of_getElem? (i := 27) rfl))
theorem wF_M_13 : Cond.fieldLink "TickLinesModel" 13 "TickLinesModel" "latches" "[I" ∈ tkWM := (List.mem_append_left _ (List.mem_of_getElem? (i := 28) rfl))
theorem wF_M_16 : Cond.fieldLink "TickLinesModel" 16 "TickLinesModel" "mask" "[I" ∈ tkWM := (List.mem_append_left _ (List.mem_of_getElem? (i := 29) rfl))
theorem wF_M_19 : Cond.fieldLink "TickLinesModel" 19 "TickLinesModel" "service" "[I" ∈ tkWM := (List.mem_append_left _ (List.mem_of_getElem? (i := 30) rfl))
theorem wF_M_22 : Cond.fieldLink "TickLinesModel" 22 "TickLinesModel" "base" "[I" ∈ tkWM := (List.mem_append_left _ (List.mem_of_getElem? (i := 31) rfl))
theorem wF_M_25 : Cond.fieldLink "TickLinesModel" 25 "TickLinesModel" "lowest" "[I" ∈ tkWM := (List.mem_append_left _ (List.mem_of_getElem? (i := 32) rfl))
theorem wF_M_28 : Cond.fieldLink "TickLinesModel" 28 "TickLinesModel" "ready" "[Z" ∈ tkWM := (List.mem_append_left _ (List.mem_of_getElem? (i := 33) rfl))
theorem wF_M_32 : Cond.fieldLink "TickLinesModel" 32 "TickLinesModel" "level" "[Z" ∈ tkWM := (List.mem_append_left _ (List.mem_of_getElem? (i := 34) rfl))
theorem wF_M_35 : Cond.fieldLink "TickLinesModel" 35 "TickLinesModel" "single" "[Z" ∈ tkWM := (List.mem_append_left _ (List.mem_of_getElem? (i := 35) rfl))
theorem wF_M_38 : Cond.fieldLink "TickLinesModel" 38 "TickLinesModel" "fourth" "[Z" ∈ tkWM := (List.mem_append_left _ (List.mem_of_getElem? (i := 36) rfl))
theorem wF_M_41 : Cond.fieldLink "TickLinesModel" 41 "TickLinesModel" "auto" "[Z" ∈ tkWM := (List.mem_append_left _ (List.mem_of_getElem? (i := 37) rfl))
theorem wF_M_44 : Cond.fieldLink "TickLinesModel" 44 "TickLinesModel" "nested" "[Z" ∈ tkWM := (List.mem_append_left _ (List.mem_of_getElem? (i := 38) rfl))
theorem wF_M_47 : Cond.fieldLink "TickLinesModel" 47 "TickLinesModel" "special" "[Z" ∈ tkWM := (List.mem_append_left _ (List.mem_of_getElem? (i := 39) rfl))
theorem wF_M_50 : Cond.fieldLink "TickLinesModel" 50 "TickLinesModel" "turns" "[Z" ∈ tkWM := (List.mem_append_left _ (List.mem_of_getElem? (i := 40) rfl))
theorem wF_M_53 : Cond.fieldLink "TickLinesModel" 53 "TickLinesModel" "poll" "[Z" ∈ tkWM := (List.mem_append_left _ (List.mem_of_getElem? (i := 41) rfl))
theorem wF_M_56 : Cond.fieldLink "TickLinesModel" 56 "TickLinesModel" "showsService" "[Z" ∈ tkWM := (List.mem_append_left _ (List.mem_of_getElem? (i := 42) rfl))
theorem wF_M_59 : Cond.fieldLink "TickLinesModel" 59 "TickLinesModel" "stage" "[I" ∈ tkWM := (List.mem_append_left _ (List.mem_of_getElem? (i := 43) rfl))
theorem wF_M_62 : Cond.fieldLink "TickLinesModel" 62 "TickLinesModel" "gate" "[Z" ∈ tkWM := (List.mem_append_left _ (List.mem_of_getElem? (i := 44) rfl))
theorem wF_M_65 : Cond.fieldLink "TickLinesModel" 65 "TickLinesModel" "output" "[Z" ∈ tkWM := (List.mem_append_left _ (List.mem_of_getElem? (i := 45) rfl))
theorem wF_M_68 : Cond.fieldLink "TickLinesModel" 68 "TickLinesModel" "mode" "[I" ∈ tkWM := (List.mem_append_left _ (List.mem_of_getElem? (i := 46) rfl))
theorem wF_M_71 : Cond.fieldLink "TickLinesModel" 71 "TickLinesModel" "access" "[I" ∈ tkWM := (List.mem_append_left _ (List.mem_of_getElem? (i := 47) rfl))
theorem wF_M_74 : Cond.fieldLink "TickLinesModel" 74 "TickLinesModel" "reload" "[I" ∈ tkWM := (List.mem_append_left _ (List.mem_of_getElem? (i := 48) rfl))
theorem wF_M_77 : Cond.fieldLink "TickLinesModel" 77 "TickLinesModel" "count" "[I" ∈ tkWM := (List.mem_append_left _ (List.mem_of_getElem? (i := 49) rfl))
theorem wF_M_80 : Cond.fieldLink "TickLinesModel" 80 "TickLinesModel" "runs" "[Z" ∈ tkWM := (List.mem_append_left _ (List.mem_of_getElem? (i := 50) rfl))
theorem wF_M_83 : Cond.fieldLink "TickLinesModel" 83 "TickLinesModel" "load" "[Z" ∈ tkWM := (List.mem_append_left _ (List.mem_of_getElem? (i := 51) rfl))
theorem wF_M_86 : Cond.fieldLink "TickLinesModel" 86 "TickLinesModel" "stands" "[Z" ∈ tkWM := (List.mem_append_left _ (List.mem_of_getElem? (i := 52) rfl))
theorem wF_M_89 : Cond.fieldLink "TickLinesModel" 89 "TickLinesModel" "fresh" "[Z" ∈ tkWM := (List.mem_append_left _ (List.mem_of_getElem? (i := 53) rfl))
theorem wF_M_92 : Cond.fieldLink "TickLinesModel" 92 "TickLinesModel" "highNext" "[Z" ∈ tkWM := (List.mem_append_left _ (List.mem_of_getElem? (i := 54) rfl))
theorem wF_M_95 : Cond.fieldLink "TickLinesModel" 95 "TickLinesModel" "low" "[I" ∈ tkWM := (List.mem_append_left _ (List.mem_of_getElem? (i := 55) rfl))
theorem wF_M_98 : Cond.fieldLink "TickLinesModel" 98 "TickLinesModel" "readHigh" "[Z" ∈ tkWM := (List.mem_append_left _ (List.mem_of_getElem? (i := 56) rfl))
theorem wF_M_101 : Cond.fieldLink "TickLinesModel" 101 "TickLinesModel" "latched" "[I" ∈ tkWM := (List.mem_append_left _ (List.mem_of_getElem? (i := 57) rfl))
theorem wF_M_104 : Cond.fieldLink "TickLinesModel" 104 "TickLinesModel" "status" "[I" ∈ tkWM := (List.mem_append_left _ (List.mem_of_getElem? (i := 58) rfl))
theorem wY_M_thrown : Cond.lays "TickLinesModel" "TickLinesModel" "thrown" "I" ∈ tkWM := (List.mem_append_left _ (List.mem_of_getElem? (i := 59) rfl))
theorem wY_M_lines : Cond.laysFinal "TickLinesModel" "TickLinesModel" "lines" "[I" ∈ tkWM := (List.mem_append_right _ (List.mem_append_left _ (List.mem_of_getElem? (i := 0) rfl)))
theorem wY_M_latches : Cond.laysFinal "TickLinesModel" "TickLinesModel" "latches" "[I" ∈ tkWM := (List.mem_append_right _ (List.mem_append_left _ (List.mem_of_getElem? (i := 1) rfl)))
theorem wY_M_mask : Cond.laysFinal "TickLinesModel" "TickLinesModel" "mask" "[I" ∈ tkWM := (List.mem_append_right _ (List.mem_append_left _ (List.mem_of_getElem? (i := 2) rfl)))
theorem wY_M_service : Cond.laysFinal "TickLinesModel" "TickLinesModel" "service" "[I" ∈ tkWM := (List.mem_append_right _ (List.mem_append_left _ (List.mem_of_getElem? (i := 3) rfl)))
theorem wY_M_base : Cond.laysFinal "TickLinesModel" "TickLinesModel" "base" "[I" ∈ tkWM := (List.mem_append_right _ (List.mem_append_left _ (List.mem_of_getElem? (i := 4) rfl)))
theorem wY_M_lowest : Cond.laysFinal "TickLinesModel" "TickLinesModel" "lowest" "[I" ∈ tkWM := (List.mem_append_right _ (List.mem_append_left _ (List.mem_of_getElem? (i := 5) rfl)))
theorem wY_M_ready : Cond.laysFinal "TickLinesModel" "TickLinesModel" "ready" "[Z" ∈ tkWM := (List.mem_append_right _ (List.mem_append_left _ (List.mem_of_getElem? (i := 6) rfl)))
theorem wY_M_level : Cond.laysFinal "TickLinesModel" "TickLinesModel" "level" "[Z" ∈ tkWM := (List.mem_append_right _ (List.mem_append_left _ (List.mem_of_getElem? (i := 7) rfl)))
theorem wY_M_single : Cond.laysFinal "TickLinesModel" "TickLinesModel" "single" "[Z" ∈ tkWM := (List.mem_append_right _ (List.mem_append_left _ (List.mem_of_getElem? (i := 8) rfl)))
theorem wY_M_fourth : Cond.laysFinal "TickLinesModel" "TickLinesModel" "fourth" "[Z" ∈ tkWM := (List.mem_append_right _ (List.mem_append_left _ (List.mem_of_getElem? (i := 9) rfl)))
theorem wY_M_auto : Cond.laysFinal "TickLinesModel" "TickLinesModel" "auto" "[Z" ∈ tkWM := (List.mem_append_right _ (List.mem_append_left _ (List.mem_of_getElem? (i := 10) rfl)))
theorem wY_M_nested : Cond.laysFinal "TickLinesModel" "TickLinesModel" "nested" "[Z" ∈ tkWM := (List.mem_append_right _ (List.mem_append_left _ (List.mem_of_getElem? (i := 11) rfl)))
theorem wY_M_special : Cond.laysFinal "TickLinesModel" "TickLinesModel" "special" "[Z" ∈ tkWM := (List.mem_append_right _ (List.mem_append_left _ (List.mem_of_getElem? (i := 12) rfl)))
theorem wY_M_turns : Cond.laysFinal "TickLinesModel" "TickLinesModel" "turns" "[Z" ∈ tkWM := (List.mem_append_right _ (List.mem_append_left _ (List.mem_of_getElem? (i := 13) rfl)))
theorem wY_M_poll : Cond.laysFinal "TickLinesModel" "TickLinesModel" "poll" "[Z" ∈ tkWM := (List.mem_append_right _ (List.mem_append_left _ (List.mem_of_getElem? (i := 14) rfl)))
theorem wY_M_showsService : Cond.laysFinal "TickLinesModel" "TickLinesModel" "showsService" "[Z" ∈ tkWM := (List.mem_append_right _ (List.mem_append_left _ (List.mem_of_getElem? (i := 15) rfl)))
theorem wY_M_stage : Cond.laysFinal "TickLinesModel" "TickLinesModel" "stage" "[I" ∈ tkWM := (List.mem_append_right _ (List.mem_append_left _ (List.mem_of_getElem? (i := 16) rfl)))
theorem wY_M_gate : Cond.laysFinal "TickLinesModel" "TickLinesModel" "gate" "[Z" ∈ tkWM := (List.mem_append_right _ (List.mem_append_left _ (List.mem_of_getElem? (i := 17) rfl)))
theorem wY_M_output : Cond.laysFinal "TickLinesModel" "TickLinesModel" "output" "[Z" ∈ tkWM := (List.mem_append_right _ (List.mem_append_left _ (List.mem_of_getElem? (i := 18) rfl)))
theorem wY_M_mode : Cond.laysFinal "TickLinesModel" "TickLinesModel" "mode" "[I" ∈ tkWM := (List.mem_append_right _ (List.mem_append_left _ (List.mem_of_getElem? (i := 19) rfl)))
theorem wY_M_access : Cond.laysFinal "TickLinesModel" "TickLinesModel" "access" "[I" ∈ tkWM := (List.mem_append_right _ (List.mem_append_left _ (List.mem_of_getElem? (i := 20) rfl)))
theorem wY_M_reload : Cond.laysFinal "TickLinesModel" "TickLinesModel" "reload" "[I" ∈ tkWM := (List.mem_append_right _ (List.mem_append_left _ (List.mem_of_getElem? (i := 21) rfl)))
theorem wY_M_count : Cond.laysFinal "TickLinesModel" "TickLinesModel" "count" "[I" ∈ tkWM := (List.mem_append_right _ (List.mem_append_left _ (List.mem_of_getElem? (i := 22) rfl)))
theorem wY_M_runs : Cond.laysFinal "TickLinesModel" "TickLinesModel" "runs" "[Z" ∈ tkWM := (List.mem_append_right _ (List.mem_append_left _ (List.mem_of_getElem? (i := 23) rfl)))
theorem wY_M_load : Cond.laysFinal "TickLinesModel" "TickLinesModel" "load" "[Z" ∈ tkWM := (List.mem_append_right _ (List.mem_append_left _ (List.mem_of_getElem? (i := 24) rfl)))
theorem wY_M_stands : Cond.laysFinal "TickLinesModel" "TickLinesModel" "stands" "[Z" ∈ tkWM := (List.mem_append_right _ (List.mem_append_left _ (List.mem_of_getElem? (i := 25) rfl)))
theorem wY_M_fresh : Cond.laysFinal "TickLinesModel" "TickLinesModel" "fresh" "[Z" ∈ tkWM := (List.mem_append_right _ (List.mem_append_left _ (List.mem_of_getElem? (i := 26) rfl)))
theorem wY_M_highNext : Cond.laysFinal "TickLinesModel" "TickLinesModel" "highNext" "[Z" ∈ tkWM := (List.mem_append_right _ (List.mem_append_left _ (List.mem_of_getElem? (i := 27) rfl)))
theorem wY_M_low : Cond.laysFinal "TickLinesModel" "TickLinesModel" "low" "[I" ∈ tkWM := (List.mem_append_right _ (List.mem_append_left _ (List.mem_of_getElem? (i := 28) rfl)))
theorem wY_M_readHigh : Cond.laysFinal "TickLinesModel" "TickLinesModel" "readHigh" "[Z" ∈ tkWM := (List.mem_append_right _ (List.mem_append_left _ (List.mem_of_getElem? (i := 29) rfl)))
theorem wY_M_latched : Cond.laysFinal "TickLinesModel" "TickLinesModel" "latched" "[I" ∈ tkWM := (List.mem_append_right _ (List.mem_append_left _ (List.mem_of_getElem? (i := 30) rfl)))
theorem wY_M_status : Cond.laysFinal "TickLinesModel" "TickLinesModel" "status" "[I" ∈ tkWM := (List.mem_append_right _ (List.mem_append_left _ (List.mem_of_getElem? (i := 31) rfl)))
theorem wA_int : Cond.arrayClass .int ∈ tkWM := (List.mem_append_right _ (List.mem_append_left _ (List.mem_of_getElem? (i := 32) rfl)))
theorem wA_boolean : Cond.arrayClass .boolean ∈ tkWM := (List.mem_append_right _ (List.mem_append_left _ (List.mem_of_getElem? (i := 33) rfl)))
theorem wI_M_thrown : Cond.instanceMethod yM_thrown ∈ tkWM := (List.mem_append_right _ (List.mem_append_left _ (List.mem_of_getElem? (i := 34) rfl)))
theorem wS_M_thrown : Cond.selects "TickLinesModel" yM_thrown yM_thrown ∈ tkWM := (List.mem_append_right _ (List.mem_append_left _ (List.mem_of_getElem? (i := 35) rfl)))
theorem wC_M_thrown : Cond.code yM_thrown cM_thrown 1 (some .int) ∈ tkWM := (List.mem_append_right _ (List.mem_append_left _ (List.mem_of_getElem? (i := 36) rfl)))
theorem wI_M_write : Cond.instanceMethod yM_write ∈ tkWM := (List.mem_append_right _ (List.mem_append_left _ (List.mem_of_getElem? (i := 37) rfl)))
theorem wS_M_write : Cond.selects "TickLinesModel" yM_write yM_write ∈ tkWM := (List.mem_append_right _ (List.mem_append_left _ (List.mem_of_getElem? (i := 38) rfl)))
theorem wC_M_write : Cond.code yM_write cM_write 4 none ∈ tkWM := (List.mem_append_right _ (List.mem_append_left _ (List.mem_of_getElem? (i := 39) rfl)))
theorem wM_M_157 : Cond.methodLink "TickLinesModel" 157 yM_control ∈ tkWM := (List.mem_append_right _ (List.mem_append_left _ (List.mem_of_getElem? (i := 40) rfl)))
theorem wI_M_control : Cond.instanceMethod yM_control ∈ tkWM := (List.mem_append_right _ (List.mem_append_left _ (List.mem_of_getElem? (i := 41) rfl)))
theorem wC_M_control : Cond.code yM_control cM_control 6 none ∈ tkWM := (List.mem_append_right _ (List.mem_append_left _ (List.mem_of_getElem? (i := 42) rfl)))
theorem wM_M_139 : Cond.methodLink "TickLinesModel" 139 yM_latch ∈ tkWM := (List.mem_append_right _ (List.mem_append_left _ (List.mem_of_getElem? (i := 43) rfl)))
theorem wI_M_latch : Cond.instanceMethod yM_latch ∈ tkWM := (List.mem_append_right _ (List.mem_append_left _ (List.mem_of_getElem? (i := 44) rfl)))
theorem wC_M_latch : Cond.code yM_latch cM_latch 2 none ∈ tkWM := (List.mem_append_right _ (List.mem_append_left _ (List.mem_of_getElem? (i := 45) rfl)))
theorem wM_M_143 : Cond.methodLink "TickLinesModel" 143 yM_latchStatus ∈ tkWM := (List.mem_append_right _ (List.mem_append_left _ (List.mem_of_getElem? (i := 46) rfl)))
theorem wI_M_latchStatus : Cond.instanceMethod yM_latchStatus ∈ tkWM := (List.mem_append_right _ (List.mem_append_left _ (List.mem_of_getElem? (i := 47) rfl)))
theorem wC_M_latchStatus : Cond.code yM_latchStatus cM_latchStatus 3 none ∈ tkWM := (List.mem_append_right _ (List.mem_append_left _ (List.mem_of_getElem? (i := 48) rfl)))
theorem wM_M_160 : Cond.methodLink "TickLinesModel" 160 yM_writeCounter ∈ tkWM := (List.mem_append_right _ (List.mem_append_left _ (List.mem_of_getElem? (i := 49) rfl)))
theorem wI_M_writeCounter : Cond.instanceMethod yM_writeCounter ∈ tkWM := (List.mem_append_right _ (List.mem_append_left _ (List.mem_of_getElem? (i := 50) rfl)))
theorem wC_M_writeCounter : Cond.code yM_writeCounter cM_writeCounter 6 none ∈ tkWM := (List.mem_append_right _ (List.mem_append_left _ (List.mem_of_getElem? (i := 51) rfl)))
theorem wK_M_146 : Cond.constant "TickLinesModel" 146 65536 ∈ tkWM := (List.mem_append_right _ (List.mem_append_left _ (List.mem_of_getElem? (i := 52) rfl)))
theorem wM_M_163 : Cond.methodLink "TickLinesModel" 163 yM_writeFirst ∈ tkWM := (List.mem_append_right _ (List.mem_append_left _ (List.mem_of_getElem? (i := 53) rfl)))
theorem wI_M_writeFirst : Cond.instanceMethod yM_writeFirst ∈ tkWM := (List.mem_append_right _ (List.mem_append_left _ (List.mem_of_getElem? (i := 54) rfl)))
theorem wC_M_writeFirst : Cond.code yM_writeFirst cM_writeFirst 3 none ∈ tkWM := (List.mem_append_right _ (List.mem_append_left _ (List.mem_of_getElem? (i := 55) rfl)))
theorem wM_M_129 : Cond.methodLink "TickLinesModel" 129 yM_begin ∈ tkWM := (List.mem_append_right _ (List.mem_append_left _ (List.mem_of_getElem? (i := 56) rfl)))
theorem wI_M_begin : Cond.instanceMethod yM_begin ∈ tkWM := (List.mem_append_right _ (List.mem_append_left _ (List.mem_of_getElem? (i := 57) rfl)))
theorem wC_M_begin : Cond.code yM_begin cM_begin 3 none ∈ tkWM := (List.mem_append_right _ (List.mem_append_left _ (List.mem_of_getElem? (i := 58) rfl)))
theorem wM_M_133 : Cond.methodLink "TickLinesModel" 133 yM_rule ∈ tkWM := (List.mem_append_right _ (List.mem_append_left _ (List.mem_of_getElem? (i := 59) rfl)))
theorem wI_M_rule : Cond.instanceMethod yM_rule ∈ tkWM := (List.mem_append_right _ (List.mem_append_right _ (List.mem_append_left _ (List.mem_of_getElem? (i := 0) rfl))))
theorem wC_M_rule : Cond.code yM_rule cM_rule 6 none ∈ tkWM := (List.mem_append_right _ (List.mem_append_right _ (List.mem_append_left _ (List.mem_of_getElem? (i := 1) rfl))))
theorem wM_M_126 : Cond.methodLink "TickLinesModel" 126 yM_firstHeld ∈ tkWM := (List.mem_append_right _ (List.mem_append_right _ (List.mem_append_left _ (List.mem_of_getElem? (i := 2) rfl))))
theorem wI_M_firstHeld : Cond.instanceMethod yM_firstHeld ∈ tkWM := (List.mem_append_right _ (List.mem_append_right _ (List.mem_append_left _ (List.mem_of_getElem? (i := 3) rfl))))
theorem wC_M_firstHeld : Cond.code yM_firstHeld cM_firstHeld 4 (some .int) ∈ tkWM := (List.mem_append_right _ (List.mem_append_right _ (List.mem_append_left _ (List.mem_of_getElem? (i := 4) rfl))))
theorem wM_M_111 : Cond.methodLink "TickLinesModel" 111 yM_holds ∈ tkWM := (List.mem_append_right _ (List.mem_append_right _ (List.mem_append_left _ (List.mem_of_getElem? (i := 5) rfl))))
theorem wI_M_holds : Cond.instanceMethod yM_holds ∈ tkWM := (List.mem_append_right _ (List.mem_append_right _ (List.mem_append_left _ (List.mem_of_getElem? (i := 6) rfl))))
theorem wC_M_holds : Cond.code yM_holds cM_holds 3 (some .boolean) ∈ tkWM := (List.mem_append_right _ (List.mem_append_right _ (List.mem_append_left _ (List.mem_of_getElem? (i := 7) rfl))))
theorem wM_M_166 : Cond.methodLink "TickLinesModel" 166 yM_writeSecond ∈ tkWM := (List.mem_append_right _ (List.mem_append_right _ (List.mem_append_left _ (List.mem_of_getElem? (i := 8) rfl))))
theorem wI_M_writeSecond : Cond.instanceMethod yM_writeSecond ∈ tkWM := (List.mem_append_right _ (List.mem_append_right _ (List.mem_append_left _ (List.mem_of_getElem? (i := 9) rfl))))
theorem wC_M_writeSecond : Cond.code yM_writeSecond cM_writeSecond 4 none ∈ tkWM := (List.mem_append_right _ (List.mem_append_right _ (List.mem_append_left _ (List.mem_of_getElem? (i := 10) rfl))))
theorem wM_M_169 : Cond.methodLink "TickLinesModel" 169 yM_follow ∈ tkWM := (List.mem_append_right _ (List.mem_append_right _ (List.mem_append_left _ (List.mem_of_getElem? (i := 11) rfl))))
theorem wI_M_follow : Cond.instanceMethod yM_follow ∈ tkWM := (List.mem_append_right _ (List.mem_append_right _ (List.mem_append_left _ (List.mem_of_getElem? (i := 12) rfl))))
theorem wC_M_follow : Cond.code yM_follow cM_follow 1 none ∈ tkWM := (List.mem_append_right _ (List.mem_append_right _ (List.mem_append_left _ (List.mem_of_getElem? (i := 13) rfl))))
theorem wM_M_119 : Cond.methodLink "TickLinesModel" 119 yM_set ∈ tkWM := (List.mem_append_right _ (List.mem_append_right _ (List.mem_append_left _ (List.mem_of_getElem? (i := 14) rfl))))
theorem wI_M_set : Cond.instanceMethod yM_set ∈ tkWM := (List.mem_append_right _ (List.mem_append_right _ (List.mem_append_left _ (List.mem_of_getElem? (i := 15) rfl))))
theorem wC_M_set : Cond.code yM_set cM_set 5 none ∈ tkWM := (List.mem_append_right _ (List.mem_append_right _ (List.mem_append_left _ (List.mem_of_getElem? (i := 16) rfl))))
theorem wM_M_123 : Cond.methodLink "TickLinesModel" 123 yM_choice ∈ tkWM := (List.mem_append_right _ (List.mem_append_right _ (List.mem_append_left _ (List.mem_of_getElem? (i := 17) rfl))))
theorem wI_M_choice : Cond.instanceMethod yM_choice ∈ tkWM := (List.mem_append_right _ (List.mem_append_right _ (List.mem_append_left _ (List.mem_of_getElem? (i := 18) rfl))))
theorem wC_M_choice : Cond.code yM_choice cM_choice 6 (some .int) ∈ tkWM := (List.mem_append_right _ (List.mem_append_right _ (List.mem_append_left _ (List.mem_of_getElem? (i := 19) rfl))))
theorem wM_M_115 : Cond.methodLink "TickLinesModel" 115 yM_requests ∈ tkWM := (List.mem_append_right _ (List.mem_append_right _ (List.mem_append_left _ (List.mem_of_getElem? (i := 20) rfl))))
theorem wI_M_requests : Cond.instanceMethod yM_requests ∈ tkWM := (List.mem_append_right _ (List.mem_append_right _ (List.mem_append_left _ (List.mem_of_getElem? (i := 21) rfl))))
theorem wC_M_requests : Cond.code yM_requests cM_requests 2 (some .int) ∈ tkWM := (List.mem_append_right _ (List.mem_append_right _ (List.mem_append_left _ (List.mem_of_getElem? (i := 22) rfl))))
theorem wI_M_read : Cond.instanceMethod yM_read ∈ tkWM := (List.mem_append_right _ (List.mem_append_right _ (List.mem_append_left _ (List.mem_of_getElem? (i := 23) rfl))))
theorem wS_M_read : Cond.selects "TickLinesModel" yM_read yM_read ∈ tkWM := (List.mem_append_right _ (List.mem_append_right _ (List.mem_append_left _ (List.mem_of_getElem? (i := 24) rfl))))
theorem wC_M_read : Cond.code yM_read cM_read 3 (some .int) ∈ tkWM := (List.mem_append_right _ (List.mem_append_right _ (List.mem_append_left _ (List.mem_of_getElem? (i := 25) rfl))))
theorem wM_M_172 : Cond.methodLink "TickLinesModel" 172 yM_readCounter ∈ tkWM := (List.mem_append_right _ (List.mem_append_right _ (List.mem_append_left _ (List.mem_of_getElem? (i := 26) rfl))))
theorem wI_M_readCounter : Cond.instanceMethod yM_readCounter ∈ tkWM := (List.mem_append_right _ (List.mem_append_right _ (List.mem_append_left _ (List.mem_of_getElem? (i := 27) rfl))))
theorem wC_M_readCounter : Cond.code yM_readCounter cM_readCounter 5 (some .int) ∈ tkWM := (List.mem_append_right _ (List.mem_append_right _ (List.mem_append_left _ (List.mem_of_getElem? (i := 28) rfl))))
theorem wM_M_175 : Cond.methodLink "TickLinesModel" 175 yM_readFirst ∈ tkWM := (List.mem_append_right _ (List.mem_append_right _ (List.mem_append_left _ (List.mem_of_getElem? (i := 29) rfl))))
theorem wI_M_readFirst : Cond.instanceMethod yM_readFirst ∈ tkWM := (List.mem_append_right _ (List.mem_append_right _ (List.mem_append_left _ (List.mem_of_getElem? (i := 30) rfl))))
theorem wC_M_readFirst : Cond.code yM_readFirst cM_readFirst 3 (some .int) ∈ tkWM := (List.mem_append_right _ (List.mem_append_right _ (List.mem_append_left _ (List.mem_of_getElem? (i := 31) rfl))))
theorem wM_M_136 : Cond.methodLink "TickLinesModel" 136 yM_serve ∈ tkWM := (List.mem_append_right _ (List.mem_append_right _ (List.mem_append_left _ (List.mem_of_getElem? (i := 32) rfl))))
theorem wI_M_serve : Cond.instanceMethod yM_serve ∈ tkWM := (List.mem_append_right _ (List.mem_append_right _ (List.mem_append_left _ (List.mem_of_getElem? (i := 33) rfl))))
theorem wC_M_serve : Cond.code yM_serve cM_serve 3 none ∈ tkWM := (List.mem_append_right _ (List.mem_append_right _ (List.mem_append_left _ (List.mem_of_getElem? (i := 34) rfl))))
theorem wI_M_line : Cond.instanceMethod yM_line ∈ tkWM := (List.mem_append_right _ (List.mem_append_right _ (List.mem_append_left _ (List.mem_of_getElem? (i := 35) rfl))))
theorem wS_M_line : Cond.selects "TickLinesModel" yM_line yM_line ∈ tkWM := (List.mem_append_right _ (List.mem_append_right _ (List.mem_append_left _ (List.mem_of_getElem? (i := 36) rfl))))
theorem wC_M_line : Cond.code yM_line cM_line 4 (some .boolean) ∈ tkWM := (List.mem_append_right _ (List.mem_append_right _ (List.mem_append_left _ (List.mem_of_getElem? (i := 37) rfl))))
theorem wI_M_gate : Cond.instanceMethod yM_gate ∈ tkWM := (List.mem_append_right _ (List.mem_append_right _ (List.mem_append_left _ (List.mem_of_getElem? (i := 38) rfl))))
theorem wS_M_gate : Cond.selects "TickLinesModel" yM_gate yM_gate ∈ tkWM := (List.mem_append_right _ (List.mem_append_right _ (List.mem_append_left _ (List.mem_of_getElem? (i := 39) rfl))))
theorem wC_M_gate : Cond.code yM_gate cM_gate 5 (some .boolean) ∈ tkWM := (List.mem_append_right _ (List.mem_append_right _ (List.mem_append_left _ (List.mem_of_getElem? (i := 40) rfl))))
theorem wI_M_tick : Cond.instanceMethod yM_tick ∈ tkWM := (List.mem_append_right _ (List.mem_append_right _ (List.mem_append_left _ (List.mem_of_getElem? (i := 41) rfl))))
theorem wS_M_tick : Cond.selects "TickLinesModel" yM_tick yM_tick ∈ tkWM := (List.mem_append_right _ (List.mem_append_right _ (List.mem_append_left _ (List.mem_of_getElem? (i := 42) rfl))))
theorem wC_M_tick : Cond.code yM_tick cM_tick 6 (some .int) ∈ tkWM := (List.mem_append_right _ (List.mem_append_right _ (List.mem_append_left _ (List.mem_of_getElem? (i := 43) rfl))))
theorem wM_M_178 : Cond.methodLink "TickLinesModel" 178 yM_tickOne ∈ tkWM := (List.mem_append_right _ (List.mem_append_right _ (List.mem_append_left _ (List.mem_of_getElem? (i := 44) rfl))))
theorem wI_M_tickOne : Cond.instanceMethod yM_tickOne ∈ tkWM := (List.mem_append_right _ (List.mem_append_right _ (List.mem_append_left _ (List.mem_of_getElem? (i := 45) rfl))))
theorem wC_M_tickOne : Cond.code yM_tickOne cM_tickOne 3 none ∈ tkWM := (List.mem_append_right _ (List.mem_append_right _ (List.mem_append_left _ (List.mem_of_getElem? (i := 46) rfl))))
theorem wM_M_148 : Cond.methodLink "TickLinesModel" 148 yM_put ∈ tkWM := (List.mem_append_right _ (List.mem_append_right _ (List.mem_append_left _ (List.mem_of_getElem? (i := 47) rfl))))
theorem wI_M_put : Cond.instanceMethod yM_put ∈ tkWM := (List.mem_append_right _ (List.mem_append_right _ (List.mem_append_left _ (List.mem_of_getElem? (i := 48) rfl))))
theorem wC_M_put : Cond.code yM_put cM_put 3 none ∈ tkWM := (List.mem_append_right _ (List.mem_append_right _ (List.mem_append_left _ (List.mem_of_getElem? (i := 49) rfl))))
theorem wK_M_147 : Cond.constant "TickLinesModel" 147 65535 ∈ tkWM := (List.mem_append_right _ (List.mem_append_right _ (List.mem_append_left _ (List.mem_of_getElem? (i := 50) rfl))))
theorem wM_M_154 : Cond.methodLink "TickLinesModel" 154 yM_step ∈ tkWM := (List.mem_append_right _ (List.mem_append_right _ (List.mem_append_left _ (List.mem_of_getElem? (i := 51) rfl))))
theorem wI_M_step : Cond.instanceMethod yM_step ∈ tkWM := (List.mem_append_right _ (List.mem_append_right _ (List.mem_append_left _ (List.mem_of_getElem? (i := 52) rfl))))
theorem wC_M_step : Cond.code yM_step cM_step 3 none ∈ tkWM := (List.mem_append_right _ (List.mem_append_right _ (List.mem_append_left _ (List.mem_of_getElem? (i := 53) rfl))))
theorem wM_M_151 : Cond.methodLink "TickLinesModel" 151 yM_turn ∈ tkWM := (List.mem_append_right _ (List.mem_append_right _ (List.mem_append_left _ (List.mem_of_getElem? (i := 54) rfl))))
theorem wI_M_turn : Cond.instanceMethod yM_turn ∈ tkWM := (List.mem_append_right _ (List.mem_append_right _ (List.mem_append_left _ (List.mem_of_getElem? (i := 55) rfl))))
theorem wC_M_turn : Cond.code yM_turn cM_turn 3 none ∈ tkWM := (List.mem_append_right _ (List.mem_append_right _ (List.mem_append_left _ (List.mem_of_getElem? (i := 56) rfl))))
theorem wI_M_acknowledge : Cond.instanceMethod yM_acknowledge ∈ tkWM := (List.mem_append_right _ (List.mem_append_right _ (List.mem_append_left _ (List.mem_of_getElem? (i := 57) rfl))))
theorem wS_M_acknowledge : Cond.selects "TickLinesModel" yM_acknowledge yM_acknowledge ∈ tkWM := (List.mem_append_right _ (List.mem_append_right _ (List.mem_append_left _ (List.mem_of_getElem? (i := 58) rfl))))
theorem wC_M_acknowledge : Cond.code yM_acknowledge cM_acknowledge 4 (some .int) ∈ tkWM := (List.mem_append_right _ (List.mem_append_right _ (List.mem_append_left _ (List.mem_of_getElem? (i := 59) rfl))))
theorem wI_M_chosen : Cond.instanceMethod yM_chosen ∈ tkWM := (List.mem_append_right _ (List.mem_append_right _ (List.mem_append_right _ (List.mem_of_getElem? (i := 0) rfl))))
theorem wS_M_chosen : Cond.selects "TickLinesModel" yM_chosen yM_chosen ∈ tkWM := (List.mem_append_right _ (List.mem_append_right _ (List.mem_append_right _ (List.mem_of_getElem? (i := 1) rfl))))
theorem wC_M_chosen : Cond.code yM_chosen cM_chosen 2 (some .int) ∈ tkWM := (List.mem_append_right _ (List.mem_append_right _ (List.mem_append_right _ (List.mem_of_getElem? (i := 2) rfl))))
theorem wI_M_about : Cond.instanceMethod yM_about ∈ tkWM := (List.mem_append_right _ (List.mem_append_right _ (List.mem_append_right _ (List.mem_of_getElem? (i := 3) rfl))))
theorem wS_M_about : Cond.selects "TickLinesModel" yM_about yM_about ∈ tkWM := (List.mem_append_right _ (List.mem_append_right _ (List.mem_append_right _ (List.mem_of_getElem? (i := 4) rfl))))
theorem wC_M_about : Cond.code yM_about cM_about 3 (some .int) ∈ tkWM := (List.mem_append_right _ (List.mem_append_right _ (List.mem_append_right _ (List.mem_of_getElem? (i := 5) rfl))))
theorem wI_M_counter : Cond.instanceMethod yM_counter ∈ tkWM := (List.mem_append_right _ (List.mem_append_right _ (List.mem_append_right _ (List.mem_of_getElem? (i := 6) rfl))))
theorem wS_M_counter : Cond.selects "TickLinesModel" yM_counter yM_counter ∈ tkWM := (List.mem_append_right _ (List.mem_append_right _ (List.mem_append_right _ (List.mem_of_getElem? (i := 7) rfl))))
theorem wC_M_counter : Cond.code yM_counter cM_counter 3 (some .int) ∈ tkWM := (List.mem_append_right _ (List.mem_append_right _ (List.mem_append_right _ (List.mem_of_getElem? (i := 8) rfl))))
theorem wC_objM : Cond.code objectInit ⟨#[0xb1]⟩ 1 none ∈ tkWM := (List.mem_append_right _ (List.mem_append_right _ (List.mem_append_right _ (List.mem_of_getElem? (i := 9) rfl))))
theorem wI_objM : Cond.instanceMethod objectInit ∈ tkWM := (List.mem_append_right _ (List.mem_append_right _ (List.mem_append_right _ (List.mem_of_getElem? (i := 10) rfl))))
theorem tkWM_g0 : ∀ w ∈ tkWM_0, goodWord w = true := by decide +kernel
theorem tkWM_g1 : ∀ w ∈ tkWM_1, goodWord w = true := by decide +kernel
theorem tkWM_g2 : ∀ w ∈ tkWM_2, goodWord w = true := by decide +kernel
theorem tkWM_g3 : ∀ w ∈ tkWM_3, goodWord w = true := by decide +kernel
theorem tkWM_good : ∀ w ∈ tkWM, goodWord w = true := fun w h => (List.mem_append.mp h).elim (fun h => tkWM_g0 w h) (fun h => (List.mem_append.mp h).elim (fun h => tkWM_g1 w h) (fun h => (List.mem_append.mp h).elim (fun h => tkWM_g2 w h) (fun h => tkWM_g3 w h)))
set_option maxRecDepth 20000 in
theorem inC : ∀ w ∈ u_ws RC TC 18, w ∈ tkW := by decide +kernel
set_option maxRecDepth 20000 in
theorem inN : ∀ w ∈ u_ws RN TN 14, w ∈ tkW := by decide +kernel
set_option maxRecDepth 20000 in
theorem inT : ∀ w ∈ u_ws RT TT 3, w ∈ tkW := by decide +kernel
set_option maxRecDepth 20000 in
theorem inM : ∀ w ∈ u_ws RM TM 33, w ∈ tkWM := by decide +kernel
abbrev wsN_init : List Cond := .code yN_init cN_init 1 none :: tkW
abbrev wsN_hasMode : List Cond := .code yN_hasMode cN_hasMode 1 (some .boolean) :: tkW
abbrev wsN_setMode : List Cond := .code yN_setMode cN_setMode 3 none :: tkW
abbrev wsN_latchCount : List Cond := .code yN_latchCount cN_latchCount 1 none :: tkW
abbrev wsN_latchStatus : List Cond := .code yN_latchStatus cN_latchStatus 1 none :: tkW
abbrev wsN_takeByte : List Cond := .code yN_takeByte cN_takeByte 2 none :: tkW
abbrev wsN_giveByte : List Cond := .code yN_giveByte cN_giveByte 3 (some .int) :: tkW
abbrev wsN_setGate : List Cond := .code yN_setGate cN_setGate 4 none :: tkW
abbrev wsN_step : List Cond := .code yN_step cN_step 1 none :: tkW
abbrev wsN_tell : List Cond := .code yN_tell cN_tell 2 (some .int) :: tkW
abbrev wsN_isEmpty : List Cond := .code yN_isEmpty cN_isEmpty 1 (some .boolean) :: tkW
abbrev wsN_standsBetweenBytes : List Cond := .code yN_standsBetweenBytes cN_standsBetweenBytes 1 (some .boolean) :: tkW
abbrev wsN_isPeriodic : List Cond := .code yN_isPeriodic cN_isPeriodic 1 (some .boolean) :: tkW
abbrev wsN_gateLoads : List Cond := .code yN_gateLoads cN_gateLoads 1 (some .boolean) :: tkW
abbrev wsN_gateHoldsBack : List Cond := .code yN_gateHoldsBack cN_gateHoldsBack 1 (some .boolean) :: tkW
abbrev wsN_takeReload : List Cond := .code yN_takeReload cN_takeReload 3 none :: tkW
abbrev wsN_load : List Cond := .code yN_load cN_load 1 none :: tkW
abbrev wsN_partTicks : List Cond := .code yN_partTicks cN_partTicks 1 (some .int) :: tkW
abbrev wsN_setCount : List Cond := .code yN_setCount cN_setCount 2 none :: tkW
abbrev wsN_countDown : List Cond := .code yN_countDown cN_countDown 1 none :: tkW
abbrev wsN_lessen : List Cond := .code yN_lessen cN_lessen 2 none :: tkW
abbrev wsN_stepOnce : List Cond := .code yN_stepOnce cN_stepOnce 1 none :: tkW
abbrev wsN_stepRate : List Cond := .code yN_stepRate cN_stepRate 1 none :: tkW
abbrev wsN_stepSquare : List Cond := .code yN_stepSquare cN_stepSquare 1 none :: tkW
abbrev wsN_stepStrobe : List Cond := .code yN_stepStrobe cN_stepStrobe 1 none :: tkW
abbrev wsC_init : List Cond := .code yC_init cC_init 2 none :: tkW
abbrev wsC_setLine : List Cond := .code yC_setLine cC_setLine 4 none :: tkW
abbrev wsC_chosenLevel : List Cond := .code yC_chosenLevel cC_chosenLevel 6 (some .int) :: tkW
abbrev wsC_serveChosen : List Cond := .code yC_serveChosen cC_serveChosen 2 (some .int) :: tkW
abbrev wsC_vectorOf : List Cond := .code yC_vectorOf cC_vectorOf 2 (some .int) :: tkW
abbrev wsC_takeSideZero : List Cond := .code yC_takeSideZero cC_takeSideZero 2 none :: tkW
abbrev wsC_takeSideOne : List Cond := .code yC_takeSideOne cC_takeSideOne 2 none :: tkW
abbrev wsC_giveSideZero : List Cond := .code yC_giveSideZero cC_giveSideZero 2 (some .int) :: tkW
abbrev wsC_tell : List Cond := .code yC_tell cC_tell 2 (some .int) :: tkW
abbrev wsC_requests : List Cond := .code yC_requests cC_requests 1 (some .int) :: tkW
abbrev wsC_holdingLevels : List Cond := .code yC_holdingLevels cC_holdingLevels 1 (some .int) :: tkW
abbrev wsC_mayNest : List Cond := .code yC_mayNest cC_mayNest 2 (some .boolean) :: tkW
abbrev wsC_serve : List Cond := .code yC_serve cC_serve 2 none :: tkW
abbrev wsC_beginSettingUp : List Cond := .code yC_beginSettingUp cC_beginSettingUp 2 none :: tkW
abbrev wsC_awaitFrom : List Cond := .code yC_awaitFrom cC_awaitFrom 2 none :: tkW
abbrev wsC_becomeReady : List Cond := .code yC_becomeReady cC_becomeReady 1 none :: tkW
abbrev wsC_takeServiceCommand : List Cond := .code yC_takeServiceCommand cC_takeServiceCommand 3 none :: tkW
abbrev wsC_takeReadingCommand : List Cond := .code yC_takeReadingCommand cC_takeReadingCommand 2 none :: tkW
abbrev wsC_firstHolding : List Cond := .code yC_firstHolding cC_firstHolding 4 (some .int) :: tkW
abbrev wsC_endService : List Cond := .code yC_endService cC_endService 2 none :: tkW
abbrev wsC_endServiceAndTurn : List Cond := .code yC_endServiceAndTurn cC_endServiceAndTurn 2 none :: tkW
abbrev wsT_init : List Cond := .code yT_init cT_init 1 none :: tkW
abbrev wsT_write : List Cond := .code yT_write cT_write 3 none :: tkW
abbrev wsT_read : List Cond := .code yT_read cT_read 3 (some .int) :: tkW
abbrev wsT_line : List Cond := .code yT_line cT_line 4 (some .boolean) :: tkW
abbrev wsT_gate : List Cond := .code yT_gate cT_gate 3 (some .boolean) :: tkW
abbrev wsT_tick : List Cond := .code yT_tick cT_tick 6 (some .int) :: tkW
abbrev wsT_acknowledge : List Cond := .code yT_acknowledge cT_acknowledge 3 (some .int) :: tkW
abbrev wsT_chosen : List Cond := .code yT_chosen cT_chosen 2 (some .int) :: tkW
abbrev wsT_about : List Cond := .code yT_about cT_about 3 (some .int) :: tkW
abbrev wsT_counter : List Cond := .code yT_counter cT_counter 3 (some .int) :: tkW
abbrev wsT_isPort : List Cond := .code yT_isPort cT_isPort 1 (some .boolean) :: tkW
abbrev wsT_isCounterPort : List Cond := .code yT_isCounterPort cT_isCounterPort 1 (some .boolean) :: tkW
abbrev wsT_isController : List Cond := .code yT_isController cT_isController 1 (some .boolean) :: tkW
abbrev wsT_isCounter : List Cond := .code yT_isCounter cT_isCounter 1 (some .boolean) :: tkW
abbrev wsT_asBit : List Cond := .code yT_asBit cT_asBit 1 (some .int) :: tkW
abbrev wsT_hasBit : List Cond := .code yT_hasBit cT_hasBit 2 (some .boolean) :: tkW
abbrev wsT_controllerOf : List Cond := .code yT_controllerOf cT_controllerOf 2 (some (.object "TickLines$Controller")) :: tkW
abbrev wsT_counterWithMode : List Cond := .code yT_counterWithMode cT_counterWithMode 3 (some (.object "TickLines$Counter")) :: tkW
abbrev wsT_takeControl : List Cond := .code yT_takeControl cT_takeControl 4 none :: tkW
abbrev wsT_latchMany : List Cond := .code yT_latchMany cT_latchMany 3 none :: tkW
abbrev wsT_followLines : List Cond := .code yT_followLines cT_followLines 1 none :: tkW
abbrev wsM_init : List Cond := .code yM_init cM_init 1 none :: tkWM
abbrev wsM_thrown : List Cond := .code yM_thrown cM_thrown 1 (some .int) :: tkWM
abbrev wsM_requests : List Cond := .code yM_requests cM_requests 2 (some .int) :: tkWM
abbrev wsM_holds : List Cond := .code yM_holds cM_holds 3 (some .boolean) :: tkWM
abbrev wsM_choice : List Cond := .code yM_choice cM_choice 6 (some .int) :: tkWM
abbrev wsM_serve : List Cond := .code yM_serve cM_serve 3 none :: tkWM
abbrev wsM_set : List Cond := .code yM_set cM_set 5 none :: tkWM
abbrev wsM_follow : List Cond := .code yM_follow cM_follow 1 none :: tkWM
abbrev wsM_firstHeld : List Cond := .code yM_firstHeld cM_firstHeld 4 (some .int) :: tkWM
abbrev wsM_begin : List Cond := .code yM_begin cM_begin 3 none :: tkWM
abbrev wsM_rule : List Cond := .code yM_rule cM_rule 6 none :: tkWM
abbrev wsM_writeFirst : List Cond := .code yM_writeFirst cM_writeFirst 3 none :: tkWM
abbrev wsM_writeSecond : List Cond := .code yM_writeSecond cM_writeSecond 4 none :: tkWM
abbrev wsM_readFirst : List Cond := .code yM_readFirst cM_readFirst 3 (some .int) :: tkWM
abbrev wsM_latch : List Cond := .code yM_latch cM_latch 2 none :: tkWM
abbrev wsM_latchStatus : List Cond := .code yM_latchStatus cM_latchStatus 3 none :: tkWM
abbrev wsM_control : List Cond := .code yM_control cM_control 6 none :: tkWM
abbrev wsM_writeCounter : List Cond := .code yM_writeCounter cM_writeCounter 6 none :: tkWM
abbrev wsM_readCounter : List Cond := .code yM_readCounter cM_readCounter 5 (some .int) :: tkWM
abbrev wsM_put : List Cond := .code yM_put cM_put 3 none :: tkWM
abbrev wsM_step : List Cond := .code yM_step cM_step 3 none :: tkWM
abbrev wsM_turn : List Cond := .code yM_turn cM_turn 3 none :: tkWM
abbrev wsM_tickOne : List Cond := .code yM_tickOne cM_tickOne 3 none :: tkWM
abbrev wsM_write : List Cond := .code yM_write cM_write 4 none :: tkWM
abbrev wsM_read : List Cond := .code yM_read cM_read 3 (some .int) :: tkWM
abbrev wsM_line : List Cond := .code yM_line cM_line 4 (some .boolean) :: tkWM
abbrev wsM_gate : List Cond := .code yM_gate cM_gate 5 (some .boolean) :: tkWM
abbrev wsM_tick : List Cond := .code yM_tick cM_tick 6 (some .int) :: tkWM
abbrev wsM_acknowledge : List Cond := .code yM_acknowledge cM_acknowledge 4 (some .int) :: tkWM
abbrev wsM_chosen : List Cond := .code yM_chosen cM_chosen 2 (some .int) :: tkWM
abbrev wsM_about : List Cond := .code yM_about cM_about 3 (some .int) :: tkWM
abbrev wsM_counter : List Cond := .code yM_counter cM_counter 3 (some .int) :: tkWM
def tk_Z : List Cond := [.fieldLinkNest "TickLines" 69 "TickLines$Controller" "mask" "I" "TickLines", .fieldLinkNest "TickLines" 93 "TickLines$Controller" "ready" "Z" "TickLines", .fieldLinkNest "TickLines" 102 "TickLines$Controller" "single" "Z" "TickLines", .fieldLinkNest "TickLines" 86 "TickLines$Counter" "output" "Z" "TickLines", .methodLinkNest "TickLines$Controller" 38 yT_hasBit "TickLines", .methodLinkNest "TickLines$Controller" 96 yT_asBit "TickLines", .methodLinkNest "TickLines$Counter" 56 yT_asBit "TickLines", .castable "java/lang/IllegalArgumentException" "java/lang/IllegalArgumentException", .castable "java/lang/IllegalStateException" "java/lang/IllegalStateException", .declares ⟨"java/lang/RuntimeException", "<init>", "()V"⟩, .declares ⟨"java/lang/Exception", "<init>", "()V"⟩, .declares ⟨"java/lang/Throwable", "<init>", "()V"⟩]
end
section
/-! Own words for contracts: a method takes the world ws to the world ws' and answers rv. tk_Z (the nest words) stands ahead of this part. -/
def tk_nk : Cond → Bool
  | .fieldLinkNest _ _ _ _ _ _ => true
  | .methodLinkNest _ _ _ _ => true
  | .castable _ _ => true
  | .declares _ => true
  | _ => false
theorem tk_Z_ok : ∀ w ∈ tk_Z, tk_nk w = true := by decide +kernel
/-- the nest words hold -/
def tk_N (U : State) : Prop := ∀ w ∈ tk_Z, va_Nw w U
theorem tk_nk_warm {w : Cond} (h : tk_nk w = true) {s U : State} (hW : s.WarmedH U.vm) (hZ : va_Nw w s) : va_Nw w U := by
  cases w with
  | fieldLinkNest a i b n d h0 => exact va_Nw.warmF hW hZ
  | methodLinkNest a i x h0 => exact va_Nw.warmM hW hZ
  | castable a b => exact va_Nw.warmC hW hZ
  | declares x => exact va_Nw.warmD hW hZ
  | _ => cases h
theorem tk_nk_tab {w : Cond} (h : tk_nk w = true) : w.onTables = true := by
  cases w with
  | fieldLinkNest a i b n d h0 => rfl
  | methodLinkNest a i x h0 => rfl
  | castable a b => rfl
  | declares x => rfl
  | _ => cases h
theorem tk_N.warm {s U : State} (hW : s.WarmedH U.vm) (h : tk_N s) : tk_N U := fun w hw => tk_nk_warm (tk_Z_ok w hw) hW (h w hw)
theorem tk_N.same {s U : State} (hv : s.vm = U.vm) (h : tk_N s) : tk_N U := fun w hw => va_Nw.same (tk_nk_tab (tk_Z_ok w hw)) hv (h w hw)
/-- a store in a list of fields, by its place -/
abbrev tk_up {α : Type} (f : Nat → α) (k : Nat) (x : α) : Nat → α := fun j => match Nat.beq j k with
  | true => x
  | false => f j
/-- a method's start -/
def tk_P (D : va_G) (tys : List (ClassId × FieldType)) (ws : va_W) (sz : Nat) (U : State) : Prop := U.heap.size = sz ∧ va_P D vwCl ws U.heap ∧ va_K D vwCl tys U ∧ va_D (fun _ => True) ws ∧ tk_N U
/-- a method's end -/
def tk_Q (D : va_G) (A : Nat → Prop) (ws' : va_W) (rv : Option Value) : Array Value → State → Outcome → State → Prop := fun _ st oc t => (oc = .returned rv ∧ va_P D vwCl ws' t.heap ∧ va_D A ws') ∧ va_F A st t
/-- the contract -/
def tk_M (l : Launch) (y : MethodName) (wd : List Cond) (rm : Room) (D : va_G) (tys : List (ClassId × FieldType)) (av : List Value) (ws ws' : va_W) (rv : Option Value) : Prop :=
  ∀ sz : Nat, Met l y wd rm (va_Pc av (tk_P D tys ws sz)) (tk_Q D (va_A ws sz) ws' rv) 0 0 (va_A ws sz)
/-- what holds all through a method's body -/
def tk_B (p : Program) (s : State) (m : MethodId) (y : MethodName) (wd : List Cond) (cc : ByteArray) (maxL : Nat) (ret : Option FieldType) (meth : Method) (c : Code) (args : Array Value) : Prop :=
  p.tables.exec = Jvm.exec ∧ c.code = cc ∧ meth.sig.returnType = ret ∧ c.maxLocals = maxL ∧ s.vm.findClass y.cls = some m.cls ∧ meth.locks = false ∧ meth.name = y.name ∧ ∀ w ∈ wd, w.before args s = true
theorem tk_M.of {l : Launch} {y : MethodName} {wd wd' : List Cond} {rm : Room} {D : va_G} {tys : List (ClassId × FieldType)} {av : List Value} {ws ws' : va_W} {rv : Option Value} {cc : ByteArray} {maxL : Nat} {ret : Option FieldType}
    (hy : plainName y.cls = true) (hw : wd = Cond.code y cc maxL ret :: wd') (hlen : (lg_sl av).length ≤ maxL)
    (body : ∀ (p : Program) (e : Env) (s : State) (m : MethodId) (below : List Frame) (meth : Method) (c : Code) (A : Nat → Prop) (H : Heap) (locs : List Loc) (ls : Array Slot), tk_B p s m y wd cc maxL ret meth c av.toArray → va_K D vwCl tys s → tk_N s → (∀ q, s.heap.size ≤ q → A q) → va_P D vwCl ws H → va_D A ws → va_S A s.heap H locs → lv_has ls maxL (lv_args 0 av) →
      W p l e rm s m av.toArray below meth c H locs 0 0 (MQ below (tk_Q D A ws' rv) av.toArray s 0 0 A) (F0 m 0 ls [])) : tk_M l y wd rm D tys av ws ws' rv := by
  intro sz
  refine Met.ofW (cc := cc) (maxL := maxL) (ret := ret) hy hw ?_
  intro p e s m args below meth c s₁ B hml hv
  obtain ⟨rfl, hsz, hP, hK, hD0, hN⟩ := hv
  subst hsz
  have hts := atoms_spec (ws := wd) B.pre
  have hown : s.vm.findClass y.cls = some m.cls := findClass_of_methodNamed B.named
  have hD := hD0.self (sz := s.heap.size)
  have hl := lv_entry av (n := maxL) hlen
  rw [lg_entry_eq]
  exact body p e s m below meth c _ _ _ _ ⟨B.exec, B.bytes, B.returns, hml, hown, B.notSynchronized, (name_of_methodNamed B.named B.method).1, hts⟩ hK hN (fun q h => Or.inr h) hP hD va_S.rf hl
section TKR
variable {p : Program} {l : Launch} {e : Env} {R : Room} {s : State} {m : MethodId} {args : Array Value} {below : List Frame} {meth : Method} {c : Code} {H : Heap} {locs : List Loc} {cells slots : Nat} {cc : ByteArray} {pc : Nat} {ls : Array Slot} {D : va_G} {A : Nat → Prop} {ws ws' : va_W}
theorem tk_iret {v v' : Int32} (hx : p.tables.exec = Jvm.exec) (hb : c.code = cc) (hr : meth.sig.returnType = some .int) (hk : meth.locks = false) (hP : va_P D vwCl ws H) (hD : va_D A ws) (hS : va_S A s.heap H locs) (hdg : decode cc pc = .ok (.ireturn, 1)) (ev : v' = v) (ew : ws' = ws) :
    W p l e R s m args below meth c H locs cells slots (MQ below (tk_Q D A ws' (some (.int v'))) args s cells slots A) (F0 m pc ls [.int v]) := by
  subst ev; subst ew
  exact W.iret hx hb hr (fun t ht hW => ⟨⟨rfl, by rw [ht]; exact hP, hD⟩, hS.F ht⟩) hS.2.2 hdg hk
theorem tk_zret {v v' : Int32} (hx : p.tables.exec = Jvm.exec) (hb : c.code = cc) (hr : meth.sig.returnType = some .boolean) (hk : meth.locks = false) (hP : va_P D vwCl ws H) (hD : va_D A ws) (hS : va_S A s.heap H locs) (hdg : decode cc pc = .ok (.ireturn, 1)) (hn : narrow .boolean (.int v) = .int v) (ev : v' = v) (ew : ws' = ws) :
    W p l e R s m args below meth c H locs cells slots (MQ below (tk_Q D A ws' (some (.int v'))) args s cells slots A) (F0 m pc ls [.int v]) := by
  subst ev; subst ew
  exact W.zret hx hb hr hn (fun t ht hW => ⟨⟨rfl, by rw [ht]; exact hP, hD⟩, hS.F ht⟩) hS.2.2 hdg hk
theorem tk_vret (hx : p.tables.exec = Jvm.exec) (hb : c.code = cc) (hr : meth.sig.returnType = none) (hk : meth.locks = false) (hP : va_P D vwCl ws H) (hD : va_D A ws) (hS : va_S A s.heap H locs) (hdg : decode cc pc = .ok (.return_, 1)) (ew : ws' = ws) :
    W p l e R s m args below meth c H locs cells slots (MQ below (tk_Q D A ws' none) args s cells slots A) (F0 m pc ls []) := by
  subst ew
  exact W.vret hx hb hr (fun t ht hW => ⟨⟨rfl, by rw [ht]; exact hP, hD⟩, hS.F ht⟩) hS.2.2 hdg hk
theorem tk_aret {v v' : Nat} {rt : FieldType} (hx : p.tables.exec = Jvm.exec) (hb : c.code = cc) (hr : meth.sig.returnType = some rt) (hrt : (∃ n, rt = .object n) ∨ ∃ t, rt = .array t) (hk : meth.locks = false) (hP : va_P D vwCl ws H) (hD : va_D A ws) (hS : va_S A s.heap H locs) (hdg : decode cc pc = .ok (.areturn, 1)) (ev : v' = v) (ew : ws' = ws) :
    W p l e R s m args below meth c H locs cells slots (MQ below (tk_Q D A ws' (some (.ref v'))) args s cells slots A) (F0 m pc ls [.ref v]) := by
  subst ev; subst ew
  exact W.aret hx hb hr hrt (Or.inr ⟨_, rfl⟩) (fun t ht hW => ⟨⟨rfl, by rw [ht]; exact hP, hD⟩, hS.F ht⟩) hS.2.2 hdg hk
end TKR
theorem tk_fm {α β : Type} (f : α → Option β) : ∀ (l : List α) (w : List β), l.map f = w.map some → l.filterMap f = w
  | [], [], _ => rfl
  | [], _ :: _, h => by cases h
  | _ :: _, [], h => by cases h
  | a :: l, b :: w, h => by
    rw [List.map_cons, List.map_cons] at h
    injection h with h1 h2
    rw [List.filterMap_cons, h1]
    show b :: l.filterMap f = b :: w
    rw [tk_fm f l w h2]
theorem tk_blind {D : va_G} {tys : List (ClassId × FieldType)} {ws : va_W} {sz : Nat} {av : List Value} : FrameBlind (va_Pc av (tk_P D tys ws sz)) := fun a U g mk q => by
  obtain ⟨q0, q1, qP, qK, qD, qN⟩ := q
  exact ⟨q0, q1, qP, va_K.moved (u := U) (U := U.calling g mk a) (Vm.Alike.refl U.vm) qK, qD, tk_N.same (s := U) (U := U.calling g mk a) rfl qN⟩
section TKC
variable {p : Program} {l : Launch} {e : Env} {R : Room} {s : State} {m : MethodId} {args : Array Value} {below : List Frame} {meth : Method} {c : Code} {H H0 : Heap} {locs : List Loc} {cells slots : Nat} {Q : State → Prop} {pc : Nat} {ls : Array Slot} {rest st0 : List Value} {a : Array Value} {D : va_G} {A : Nat → Prop} {tys tys' : List (ClassId × FieldType)} {ws wc wc' : va_W} {rv : Option Value}
/-- a callee's start, its cells cut out of the caller's world by their places -/
theorem tk_pre {av : List Value} (hK : va_K D vwCl tys s) (hN : tk_N s) (hP : va_P D vwCl ws H) (hD : va_D A ws) (is it : List Nat) (hn : va_nd is = true) (hC : is.map (fun i => ws[i]?) = wc.map some) (hT : it.filterMap (fun i => tys[i]?) = tys') : ∀ U : State, U.heap = H → s.WarmedH U.vm → va_Pc av (tk_P D tys' wc H.size) av.toArray U := fun U hU hW =>
  ⟨rfl, by rw [hU], by rw [hU]; exact hP.sub is (tk_fm _ _ _ hC), va_K.moved hW.alike (hK.sub it hT), (hD.sub is hn hC).weaken (fun _ _ _ _ => trivial), tk_N.warm hW hN⟩
theorem tk_preS {av : List Value} (hK : va_K D vwCl tys s) (hN : tk_N s) (hP : va_P D vwCl ws H) (hD : va_D A ws) (is it : List Nat) (hn : va_nd is = true) (hC : is.map (fun i => ws[i]?) = wc.map some) (hT : it.filterMap (fun i => tys[i]?) = tys') : PreS s H (va_Pc av (tk_P D tys' wc H.size)) av := ⟨tk_blind, tk_pre hK hN hP hD is it hn hC hT⟩
theorem tk_preV {b q0 ci : Nat} {fs : List Value} {C : String} {T : u_T} {N : Nat} {As : List Value} (hK : va_K D vwCl tys s) (hN : tk_N s) (hP : va_P D vwCl ws H) (hD : va_D A ws) (is it : List Nat) (hn : va_nd is = true) (hC : is.map (fun i => ws[i]?) = wc.map some) (hT : it.filterMap (fun i => tys[i]?) = tys') (hq : ws[q0]? = some (b, .inr (ci, fs))) (hc : vwCl[ci]? = some (C, T, N)) : PreV s H C b (va_Pc (.ref b :: As) (tk_P D tys' wc H.size)) As := ⟨tk_blind, va_recv (q := (C, T, N)) hK hP hc hq, tk_pre hK hN hP hD is it hn hC hT⟩
/-- behind a call: what the callee had may have changed, the rest stays -/
theorem tk_run (hr : va_Run p l e R s m args below meth c H locs cells slots 0 0 (F0 m pc ls st0) rest (tk_Q D (va_A wc H.size) wc' rv a) (va_A wc H.size)) (hS : va_S A H0 H locs) (hF : ∀ q, va_A wc H.size q → A q)
    (kk : ∀ (H1 : Heap) (locs1 : List Loc), va_P D vwCl wc' H1 → va_D (va_A wc H.size) wc' → (∀ q : Nat, q < H.size → ¬ va_A wc H.size q → H1[q]? = H[q]?) → va_S A H0 H1 locs1 → W p l e R s m args below meth c H1 locs1 cells slots Q (F0 m (pc + 3) ls (rv.toList ++ rest))) : W p l e R s m args below meth c H locs cells slots Q (F0 m pc ls st0) := by
  intro T hT X
  obtain ⟨v, st₀, t, T', L, h0, X', hL, e1, e2, ⟨⟨hv, hp, hd⟩, hz, hk⟩, st⟩ := hr T hT X
  cases hv
  rw [h0] at hz hk
  obtain ⟨t2, a1, b1⟩ := kk T'.heap (locs ++ L) (by rw [e1]; exact hp) hd (fun q h1 h2 => by rw [e1]; exact hk q h1 h2)
    ⟨Nat.le_trans hS.1 (by rw [e1]; exact hz), fun q h1 h2 => by rw [e1, hk q (Nat.lt_of_lt_of_le h1 hS.1) (fun z => h2 (hF q z))]; exact hS.2.1 q h1 h2, fun q hq => by
      rcases List.mem_append.mp hq with h | h
      · exact hS.2.2 q h
      · exact hF _ (hL q h)⟩ T' rfl X'
  exact ⟨t2, st t2 a1, b1⟩
/-- a callee with no cells -/
theorem tk_call0 (hP : va_P D vwCl ws H) (hD : va_D A ws) (hS : va_S A H0 H locs) (hA : ∀ q, H0.size ≤ q → A q)
    (hr : va_Run p l e R s m args below meth c H locs cells slots 0 0 (F0 m pc ls st0) rest (tk_Q D (va_A [] H.size) [] rv a) (va_A [] H.size))
    (kk : ∀ (H1 : Heap) (locs1 : List Loc), va_P D vwCl ws H1 → va_D A ws → va_S A H0 H1 locs1 → W p l e R s m args below meth c H1 locs1 cells slots Q (F0 m (pc + 3) ls (rv.toList ++ rest))) : W p l e R s m args below meth c H locs cells slots Q (F0 m pc ls st0) := by
  have hF : ∀ q, va_A [] H.size q → A q := va_free (wc := []) hD hS hA [] rfl
  refine tk_run hr hS hF (fun H1 locs1 _ _ hk hS1 => kk H1 locs1 (fun k q hq => ?_) hD hS1)
  have h1 := hP k q hq
  have hlt := va_at.lt h1
  exact va_at.kept h1 (hk q.1 hlt (fun z => by
    rcases z with ⟨k, e, z⟩ | z
    · cases z
    · omega))
/-- a callee with one of the caller's cells -/
theorem tk_call1 {cell cell' : Nat × va_E} (k0 : Nat) (hP : va_P D vwCl ws H) (hD : va_D A ws) (hS : va_S A H0 H locs) (hA : ∀ q, H0.size ≤ q → A q) (hk0 : ws[k0]? = some cell) (hsame : cell'.1 = cell.1)
    (hr : va_Run p l e R s m args below meth c H locs cells slots 0 0 (F0 m pc ls st0) rest (tk_Q D (va_A [cell] H.size) [cell'] rv a) (va_A [cell] H.size))
    (kk : ∀ (H1 : Heap) (locs1 : List Loc), va_P D vwCl (ws.set k0 cell') H1 → va_D A (ws.set k0 cell') → va_S A H0 H1 locs1 → W p l e R s m args below meth c H1 locs1 cells slots Q (F0 m (pc + 3) ls (rv.toList ++ rest))) : W p l e R s m args below meth c H locs cells slots Q (F0 m pc ls st0) := by
  have hF : ∀ q, va_A [cell] H.size q → A q := va_free (wc := [cell]) hD hS hA [k0] (by simp [hk0])
  have hlk : k0 < ws.length := (List.getElem?_eq_some_iff.mp hk0).1
  refine tk_run hr hS hF (fun H1 locs1 hP1 hD1 hk hS1 => kk H1 locs1 (fun k q hq => ?_) ?_ hS1)
  · by_cases hkk : k0 = k
    · subst hkk
      rw [List.getElem?_set_self hlk] at hq
      exact hP1 0 q hq
    · rw [List.getElem?_set_ne hkk] at hq
      have h1 := hP k q hq
      have hlt := va_at.lt h1
      refine va_at.kept h1 (hk q.1 hlt (fun z => ?_))
      rcases z with ⟨j, e, z⟩ | z
      · cases j with
        | zero =>
          have z2 : cell = (q.1, e) := Option.some.inj z
          exact hkk (hD.1 k0 k _ _ hk0 hq (by rw [z2]))
        | succ j => simp at z
      · omega
  · refine ⟨fun i j x y hi hj hxy => ?_, fun k q hq => ?_⟩
    · have key : ∀ (i : Nat) (x : Nat × va_E), (ws.set k0 cell')[i]? = some x → ∃ x', ws[i]? = some x' ∧ x'.1 = x.1 := by
        intro i x hi
        by_cases h : k0 = i
        · subst h
          rw [List.getElem?_set_self hlk] at hi
          exact ⟨cell, hk0, by rw [← Option.some.inj hi, hsame]⟩
        · rw [List.getElem?_set_ne h] at hi
          exact ⟨x, hi, rfl⟩
      obtain ⟨x', h1, h2⟩ := key i x hi
      obtain ⟨y', h3, h4⟩ := key j y hj
      exact hD.1 i j x' y' h1 h3 (by rw [h2, h4, hxy])
    · by_cases h : k0 = k
      · subst h
        rw [List.getElem?_set_self hlk] at hq
        rw [← Option.some.inj hq, hsame]
        exact hD.2 k0 _ hk0
      · rw [List.getElem?_set_ne h] at hq
        exact hD.2 k q hq
/-- a callee with all of the caller's cells -/
theorem tk_callA (hD : va_D A ws) (hS : va_S A H0 H locs) (hA : ∀ q, H0.size ≤ q → A q)
    (hr : va_Run p l e R s m args below meth c H locs cells slots 0 0 (F0 m pc ls st0) rest (tk_Q D (va_A ws H.size) wc' rv a) (va_A ws H.size))
    (kk : ∀ (H1 : Heap) (locs1 : List Loc), va_P D vwCl wc' H1 → va_D A wc' → va_S A H0 H1 locs1 → W p l e R s m args below meth c H1 locs1 cells slots Q (F0 m (pc + 3) ls (rv.toList ++ rest))) : W p l e R s m args below meth c H locs cells slots Q (F0 m pc ls st0) := by
  have hF : ∀ q, va_A ws H.size q → A q := fun q z => by
    rcases z with ⟨k, e, z⟩ | z
    · exact hD.2 k _ z
    · exact hA q (Nat.le_trans hS.1 z)
  exact tk_run hr hS hF (fun H1 locs1 hP1 hD1 _ hS1 => kk H1 locs1 hP1 (hD1.weaken (fun _ q _ h => hF q.1 h)) hS1)
end TKC
theorem tk_nb {v : Int32} (h : v = 0 ∨ v = 1) : narrow .boolean (.int v) = .int v := by
  rcases h with h | h <;> subst h <;> rfl
/-- a switch's default -/
theorem tk_out {x : Int32} {lo hi : Int} (h : ∀ k : Int, lo ≤ k → k ≤ hi → ¬ x = Int32.ofInt k) : x.toInt < lo ∨ hi < x.toInt := by
  by_cases h1 : x.toInt < lo
  · exact Or.inl h1
  · by_cases h2 : hi < x.toInt
    · exact Or.inr h2
    · exact absurd (Int32.ofInt_toInt x).symm (h x.toInt (by omega) (by omega))
section TKX
variable {p : Program} {l : Launch} {e : Env} {R : Room} {s : State} {m : MethodId} {args : Array Value} {below : List Frame} {meth : Method} {c : Code} {H H0 : Heap} {locs : List Loc} {cells slots : Nat} {Q : State → Prop} {pc : Nat} {ls : Array Slot} {rest : List Value} {D : va_G} {A : Nat → Prop} {ws ws1 : va_W} {g g2 : JFrame}
theorem tk_top {x y : Int32} (h : x = y) (k : W p l e R s m args below meth c H locs cells slots Q (F0 m pc ls (.int y :: rest))) : W p l e R s m args below meth c H locs cells slots Q (F0 m pc ls (.int x :: rest)) := by
  subst h; exact k
theorem tk_topr {x y : Nat} (h : x = y) (k : W p l e R s m args below meth c H locs cells slots Q (F0 m pc ls (.ref y :: rest))) : W p l e R s m args below meth c H locs cells slots Q (F0 m pc ls (.ref x :: rest)) := by
  subst h; exact k
/-- two roads that meet: what holds behind the meeting is proved once -/
theorem tk_mrg (_ : va_D A ws) (_ : va_S A H0 H locs)
    (br : (∀ (H : Heap) (locs : List Loc), va_P D vwCl ws1 H → va_D A ws1 → va_S A H0 H locs → W p l e R s m args below meth c H locs cells slots Q g2) → W p l e R s m args below meth c H locs cells slots Q g)
    (key : ∀ (H : Heap) (locs : List Loc), va_P D vwCl ws1 H → va_D A ws1 → va_S A H0 H locs → W p l e R s m args below meth c H locs cells slots Q g2) : W p l e R s m args below meth c H locs cells slots Q g := br key
theorem tk_Pw (h : ws1 = ws) (hP : va_P D vwCl ws H) : va_P D vwCl ws1 H := h ▸ hP
theorem tk_Dw (h : ws1 = ws) (hD : va_D A ws) : va_D A ws1 := h ▸ hD
end TKX
theorem tk_us (f : Nat → Int32) (k : Nat) (x : Int32) : upd f k x k = x := if_pos rfl
theorem tk_eqI {x : Int32} {k : Int} (h : x.toInt = k) : x = Int32.ofInt k := by rw [← h, Int32.ofInt_toInt]
theorem tk_lt {x y : Int32} : x < y ↔ x.toInt < y.toInt := Int32.lt_iff_toInt_lt
theorem tk_le {x y : Int32} : x ≤ y ↔ x.toInt ≤ y.toInt := Int32.le_iff_toInt_le
theorem tk_vin {i : Int32} {n : Nat} (h0 : 0 ≤ i.toInt) (h1 : i.toInt < n) : vp_in i n := by
  intro h
  rcases h with h | h
  · have h2 := tk_lt.mp h
    have h3 : (0 : Int32).toInt = 0 := by decide
    omega
  · have h2 : i.toNatClampNeg = i.toInt.toNat := rfl
    omega
theorem tk_ixe {i k : Int32} {n : Nat} (h : i = k) (hk : vp_in k n) : vp_in i n := h ▸ hk
theorem tk_ixr {i k : Int32} {n : Nat} (hk : k.toInt + 1 = n) (h0 : ¬ i < 0) (h1 : ¬ k < i) : vp_in i n := by
  have z : (0 : Int32).toInt = 0 := by decide
  have a : ¬ i.toInt < (0 : Int32).toInt := fun h => h0 (tk_lt.mpr h)
  have b : ¬ k.toInt < i.toInt := fun h => h1 (tk_lt.mpr h)
  exact tk_vin (by omega) (by omega)
theorem tk_ixr2 {i : Int32} (h0 : ¬ i < 0) (h1 : ¬ 1 < i) : vp_in i 2 := tk_ixr (by decide) h0 h1
theorem tk_ixr3 {i : Int32} (h0 : ¬ i < 0) (h1 : ¬ 2 < i) : vp_in i 3 := tk_ixr (by decide) h0 h1
theorem tk_ixl {i k : Int32} {n : Nat} (hk : k.toInt + 1 = n) (h0 : ¬ i < 0) (h1 : i ≤ k) : vp_in i n := by
  have z : (0 : Int32).toInt = 0 := by decide
  have a : ¬ i.toInt < (0 : Int32).toInt := fun h => h0 (tk_lt.mpr h)
  have b := tk_le.mp h1
  exact tk_vin (by omega) (by omega)
theorem tk_ixl2 {i : Int32} (h0 : ¬ i < 0) (h1 : i ≤ 1) : vp_in i 2 := tk_ixl (by decide) h0 h1
theorem tk_ixl3 {i : Int32} (h0 : ¬ i < 0) (h1 : i ≤ 2) : vp_in i 3 := tk_ixl (by decide) h0 h1
theorem tk_ix4 {x : Int32} (h0 : 4 ≤ x.toInt) (h1 : x.toInt ≤ 6) : vp_in (x - 4) 3 := by
  rcases (by omega : x.toInt = 4 ∨ x.toInt = 5 ∨ x.toInt = 6) with h | h | h
  · rw [tk_eqI h]; unfold vp_in; decide
  · rw [tk_eqI h]; unfold vp_in; decide
  · rw [tk_eqI h]; unfold vp_in; decide
theorem tk_n3 {x : Int32} (h : ¬ x ≤ 3) : 4 ≤ x.toInt := by
  have a : ¬ x.toInt ≤ (3 : Int32).toInt := fun z => h (tk_le.mpr z)
  have z : (3 : Int32).toInt = 3 := by decide
  omega
theorem tk_ix4a {x : Int32} (h : ¬ x ≤ 3) (h1 : ¬ 7 ≤ x) : vp_in (x - 4) 3 := tk_ix4 (tk_n3 h) (by
  have a : ¬ (7 : Int32).toInt ≤ x.toInt := fun z => h1 (tk_le.mpr z)
  have z : (7 : Int32).toInt = 7 := by decide
  omega)
theorem tk_ix4c {x : Int32} (h : ¬ x ≤ 3) (h1 : x ≤ 6) : vp_in (x - 4) 3 := tk_ix4 (tk_n3 h) (by
  have a := tk_le.mp h1
  have z : (6 : Int32).toInt = 6 := by decide
  omega)
theorem tk_ix4d {x : Int32} (h : ¬ x ≤ 3) (h1 : x ≤ 7) (h2 : ¬ x = 7) : vp_in (x - 4) 3 := tk_ix4 (tk_n3 h) (by
  have a := tk_le.mp h1
  have z : (7 : Int32).toInt = 7 := by decide
  have b : ¬ x.toInt = 7 := fun w => h2 (by rw [tk_eqI w]; decide)
  omega)
theorem tk_ix4b {x : Int32} (h : ¬ x ≤ 3) (h1 : ¬ 7 < x) (h2 : ¬ x = 7) : vp_in (x - 4) 3 := tk_ix4 (tk_n3 h) (by
  have a : ¬ (7 : Int32).toInt < x.toInt := fun z => h1 (tk_lt.mpr z)
  have z : (7 : Int32).toInt = 7 := by decide
  have b : ¬ x.toInt = 7 := fun w => h2 (by rw [tk_eqI w]; decide)
  omega)
theorem tk_ix2 {x : Int32} (h0 : ¬ x < 0) (h1 : x ≤ 3) : vp_in (x / 2) 2 := by
  have z : (0 : Int32).toInt = 0 := by decide
  have z3 : (3 : Int32).toInt = 3 := by decide
  have a : ¬ x.toInt < (0 : Int32).toInt := fun h => h0 (tk_lt.mpr h)
  have b := tk_le.mp h1
  rcases (by omega : x.toInt = 0 ∨ x.toInt = 1 ∨ x.toInt = 2 ∨ x.toInt = 3) with h | h | h | h
  · rw [tk_eqI h]; unfold vp_in; decide
  · rw [tk_eqI h]; unfold vp_in; decide
  · rw [tk_eqI h]; unfold vp_in; decide
  · rw [tk_eqI h]; unfold vp_in; decide
theorem tk_q256 : ∀ n : Nat, n < 256 → ¬ (Int32.ofInt n) >>> ((6 : Int32) &&& 31) = 3 → (0 ≤ ((Int32.ofInt n) >>> ((6 : Int32) &&& 31)).toInt ∧ ((Int32.ofInt n) >>> ((6 : Int32) &&& 31)).toInt < 3) := by decide +kernel
theorem tk_ixq {v : Int32} (h0 : ¬ v < 0) (h1 : ¬ 255 < v) (h2 : ¬ v >>> ((6 : Int32) &&& 31) = 3) : vp_in (v >>> ((6 : Int32) &&& 31)) 3 := by
  have z : (0 : Int32).toInt = 0 := by decide
  have z3 : (255 : Int32).toInt = 255 := by decide
  have a : ¬ v.toInt < (0 : Int32).toInt := fun h => h0 (tk_lt.mpr h)
  have b : ¬ (255 : Int32).toInt < v.toInt := fun h => h1 (tk_lt.mpr h)
  have e : v = Int32.ofInt (v.toInt.toNat : Nat) := tk_eqI (by omega)
  have q := tk_q256 v.toInt.toNat (by omega) (by rw [← e]; exact h2)
  rw [← e] at q
  exact tk_vin q.1 q.2
theorem tk_inc (i : Nat) : nI i + Int32.ofInt 1 = nI (i + 1) := by rw [nI_succ]; rfl
theorem tk_nI {x : Int32} (h : 0 ≤ x.toInt) : nI x.toInt.toNat = x := by
  have e : x = Int32.ofInt x.toInt := (Int32.ofInt_toInt x).symm
  have e2 : x.toInt = ((x.toInt.toNat : Nat) : Int) := by omega
  rw [e2] at e
  exact e.symm
theorem tk_ge {x : Int32} {i : Nat} (h : i = x.toInt.toNat) : x ≤ nI i := by
  subst h
  by_cases h0 : 0 ≤ x.toInt
  · rw [tk_nI h0]; exact tk_le.mpr (Int.le_refl _)
  · have e : x.toInt.toNat = 0 := by omega
    rw [e]
    exact tk_le.mpr (by have z : (nI 0).toInt = 0 := by decide
                        omega)
theorem tk_nge {x : Int32} {i : Nat} (h : i < x.toInt.toNat) : ¬ x ≤ nI i := fun hle => by
  have h0 : 0 ≤ x.toInt := by omega
  have hm : x.toInt < 2 ^ 31 := Int32.toInt_lt x
  have e : (nI i).toInt = (i : Int) := nI_toInt (by omega)
  have := tk_le.mp hle
  omega
theorem tk_g0 {W : List Cond} (hg : ∀ w ∈ W, goodWord w = true) {y : MethodName} {cc : ByteArray} {maxL : Nat} {ret : Option FieldType} (h5 : Cond.code y cc maxL ret ∈ W) : GoodIn W (Cond.code y cc maxL ret :: W) := by
  intro w hw
  have hm : w ∈ W := by
    rcases List.mem_cons.mp hw with rfl | h
    · exact h5
    · exact h
  exact ⟨hm, good_of_word (hg w hm)⟩
theorem tk_gV {W : List Cond} (hg : ∀ w ∈ W, goodWord w = true) {own C : String} {idx : Nat} {y : MethodName} {cc : ByteArray} {maxL : Nat} {ret : Option FieldType} (h1 : Cond.methodLink own idx y ∈ W) (h2 : Cond.instanceMethod y ∈ W) (h3 : Cond.selects C y y ∈ W) (h4 : Cond.initialized C ∈ W) (h5 : Cond.code y cc maxL ret ∈ W) : GoodIn W (wsV own idx C y (Cond.code y cc maxL ret :: W)) := by
  intro w hw
  unfold wsV at hw
  rcases List.mem_append.mp hw with h | h
  · have hm : w ∈ W := by
      simp only [List.mem_cons, List.not_mem_nil, or_false] at h
      rcases h with rfl | rfl | rfl | rfl <;> assumption
    exact ⟨hm, good_of_word (hg w hm)⟩
  · exact tk_g0 hg h5 w h
theorem tk_gS {W : List Cond} (hg : ∀ w ∈ W, goodWord w = true) {own : String} {idx : Nat} {y : MethodName} {cc : ByteArray} {maxL : Nat} {ret : Option FieldType} (h1 : Cond.methodLink own idx y ∈ W) (h2 : Cond.static y ∈ W) (h4 : Cond.initialized y.cls ∈ W) (h5 : Cond.code y cc maxL ret ∈ W) : GoodIn W (va_wsS own idx y (Cond.code y cc maxL ret :: W)) := by
  intro w hw
  unfold va_wsS at hw
  rcases List.mem_append.mp hw with h | h
  · have hm : w ∈ W := by
      simp only [List.mem_cons, List.not_mem_nil, or_false] at h
      rcases h with rfl | rfl | rfl <;> assumption
    exact ⟨hm, good_of_word (hg w hm)⟩
  · exact tk_g0 hg h5 w h
theorem tk_fb {v : Int32} (h : v = 0 ∨ v = 1) : fits .boolean (.int v) = true := by
  rcases h with h | h <;> subst h <;> rfl
end
section
theorem dT_init_0 : decode cT_init 0 = .ok (.aload_n 0, 1) := by decide +kernel
theorem dT_init_1 : decode cT_init 1 = .ok (.invokespecial 1, 3) := by decide +kernel
theorem dT_init_4 : decode cT_init 4 = .ok (.aload_n 0, 1) := by decide +kernel
theorem dT_init_5 : decode cT_init 5 = .ok (.new 7, 3) := by decide +kernel
theorem dT_init_8 : decode cT_init 8 = .ok (.dup, 1) := by decide +kernel
theorem dT_init_9 : decode cT_init 9 = .ok (.iconst 1, 1) := by decide +kernel
theorem dT_init_10 : decode cT_init 10 = .ok (.invokespecial 9, 3) := by decide +kernel
theorem dT_init_13 : decode cT_init 13 = .ok (.putfield 12, 3) := by decide +kernel
theorem dT_init_16 : decode cT_init 16 = .ok (.aload_n 0, 1) := by decide +kernel
theorem dT_init_17 : decode cT_init 17 = .ok (.new 7, 3) := by decide +kernel
theorem dT_init_20 : decode cT_init 20 = .ok (.dup, 1) := by decide +kernel
theorem dT_init_21 : decode cT_init 21 = .ok (.iconst 0, 1) := by decide +kernel
theorem dT_init_22 : decode cT_init 22 = .ok (.invokespecial 9, 3) := by decide +kernel
theorem dT_init_25 : decode cT_init 25 = .ok (.putfield 18, 3) := by decide +kernel
theorem dT_init_28 : decode cT_init 28 = .ok (.aload_n 0, 1) := by decide +kernel
theorem dT_init_29 : decode cT_init 29 = .ok (.iconst 3, 1) := by decide +kernel
theorem dT_init_30 : decode cT_init 30 = .ok (.anewarray 21, 3) := by decide +kernel
theorem dT_init_33 : decode cT_init 33 = .ok (.dup, 1) := by decide +kernel
theorem dT_init_34 : decode cT_init 34 = .ok (.iconst 0, 1) := by decide +kernel
theorem dT_init_35 : decode cT_init 35 = .ok (.new 21, 3) := by decide +kernel
theorem dT_init_38 : decode cT_init 38 = .ok (.dup, 1) := by decide +kernel
theorem dT_init_39 : decode cT_init 39 = .ok (.invokespecial 23, 3) := by decide +kernel
theorem dT_init_42 : decode cT_init 42 = .ok (.aastore, 1) := by decide +kernel
theorem dT_init_43 : decode cT_init 43 = .ok (.dup, 1) := by decide +kernel
theorem dT_init_44 : decode cT_init 44 = .ok (.iconst 1, 1) := by decide +kernel
theorem dT_init_45 : decode cT_init 45 = .ok (.new 21, 3) := by decide +kernel
theorem dT_init_48 : decode cT_init 48 = .ok (.dup, 1) := by decide +kernel
theorem dT_init_49 : decode cT_init 49 = .ok (.invokespecial 23, 3) := by decide +kernel
theorem dT_init_52 : decode cT_init 52 = .ok (.aastore, 1) := by decide +kernel
theorem dT_init_53 : decode cT_init 53 = .ok (.dup, 1) := by decide +kernel
theorem dT_init_54 : decode cT_init 54 = .ok (.iconst 2, 1) := by decide +kernel
theorem dT_init_55 : decode cT_init 55 = .ok (.new 21, 3) := by decide +kernel
theorem dT_init_58 : decode cT_init 58 = .ok (.dup, 1) := by decide +kernel
theorem dT_init_59 : decode cT_init 59 = .ok (.invokespecial 23, 3) := by decide +kernel
theorem dT_init_62 : decode cT_init 62 = .ok (.aastore, 1) := by decide +kernel
theorem dT_init_63 : decode cT_init 63 = .ok (.putfield 24, 3) := by decide +kernel
theorem dT_init_66 : decode cT_init 66 = .ok (.return_, 1) := by decide +kernel
theorem dT_write_0 : decode cT_write 0 = .ok (.iload_n 1, 1) := by decide +kernel
theorem dT_write_1 : decode cT_write 1 = .ok (.invokestatic 28, 3) := by decide +kernel
theorem dT_write_4 : decode cT_write 4 = .ok (.ifCond .eq 14, 3) := by decide +kernel
theorem dT_write_7 : decode cT_write 7 = .ok (.iload_n 2, 1) := by decide +kernel
theorem dT_write_8 : decode cT_write 8 = .ok (.ifCond .lt 10, 3) := by decide +kernel
theorem dT_write_11 : decode cT_write 11 = .ok (.iload_n 2, 1) := by decide +kernel
theorem dT_write_12 : decode cT_write 12 = .ok (.sipush 255, 3) := by decide +kernel
theorem dT_write_15 : decode cT_write 15 = .ok (.if_icmp .le 11, 3) := by decide +kernel
theorem dT_write_18 : decode cT_write 18 = .ok (.new 32, 3) := by decide +kernel
theorem dT_write_21 : decode cT_write 21 = .ok (.dup, 1) := by decide +kernel
theorem dT_write_22 : decode cT_write 22 = .ok (.invokespecial 34, 3) := by decide +kernel
theorem dT_write_25 : decode cT_write 25 = .ok (.athrow, 1) := by decide +kernel
theorem dT_write_26 : decode cT_write 26 = .ok (.iload_n 1, 1) := by decide +kernel
theorem dT_write_27 : decode cT_write 27 = .ok (.invokestatic 35, 3) := by decide +kernel
theorem dT_write_30 : decode cT_write 30 = .ok (.ifCond .eq 15, 3) := by decide +kernel
theorem dT_write_33 : decode cT_write 33 = .ok (.aload_n 0, 1) := by decide +kernel
theorem dT_write_34 : decode cT_write 34 = .ok (.iload_n 1, 1) := by decide +kernel
theorem dT_write_35 : decode cT_write 35 = .ok (.invokevirtual 38, 3) := by decide +kernel
theorem dT_write_38 : decode cT_write 38 = .ok (.iload_n 2, 1) := by decide +kernel
theorem dT_write_39 : decode cT_write 39 = .ok (.invokevirtual 42, 3) := by decide +kernel
theorem dT_write_42 : decode cT_write 42 = .ok (.goto 48, 3) := by decide +kernel
theorem dT_write_45 : decode cT_write 45 = .ok (.iload_n 1, 1) := by decide +kernel
theorem dT_write_46 : decode cT_write 46 = .ok (.bipush 7, 2) := by decide +kernel
theorem dT_write_48 : decode cT_write 48 = .ok (.if_icmp .ne 11, 3) := by decide +kernel
theorem dT_write_51 : decode cT_write 51 = .ok (.aload_n 0, 1) := by decide +kernel
theorem dT_write_52 : decode cT_write 52 = .ok (.iload_n 2, 1) := by decide +kernel
theorem dT_write_53 : decode cT_write 53 = .ok (.invokevirtual 46, 3) := by decide +kernel
theorem dT_write_56 : decode cT_write 56 = .ok (.goto 34, 3) := by decide +kernel
theorem dT_write_59 : decode cT_write 59 = .ok (.iload_n 1, 1) := by decide +kernel
theorem dT_write_60 : decode cT_write 60 = .ok (.iconst 1, 1) := by decide +kernel
theorem dT_write_61 : decode cT_write 61 = .ok (.iand, 1) := by decide +kernel
theorem dT_write_62 : decode cT_write 62 = .ok (.ifCond .ne 17, 3) := by decide +kernel
theorem dT_write_65 : decode cT_write 65 = .ok (.aload_n 0, 1) := by decide +kernel
theorem dT_write_66 : decode cT_write 66 = .ok (.iload_n 1, 1) := by decide +kernel
theorem dT_write_67 : decode cT_write 67 = .ok (.iconst 1, 1) := by decide +kernel
theorem dT_write_68 : decode cT_write 68 = .ok (.ishr, 1) := by decide +kernel
theorem dT_write_69 : decode cT_write 69 = .ok (.invokevirtual 49, 3) := by decide +kernel
theorem dT_write_72 : decode cT_write 72 = .ok (.iload_n 2, 1) := by decide +kernel
theorem dT_write_73 : decode cT_write 73 = .ok (.invokevirtual 53, 3) := by decide +kernel
theorem dT_write_76 : decode cT_write 76 = .ok (.goto 14, 3) := by decide +kernel
theorem dT_write_79 : decode cT_write 79 = .ok (.aload_n 0, 1) := by decide +kernel
theorem dT_write_80 : decode cT_write 80 = .ok (.iload_n 1, 1) := by decide +kernel
theorem dT_write_81 : decode cT_write 81 = .ok (.iconst 1, 1) := by decide +kernel
theorem dT_write_82 : decode cT_write 82 = .ok (.ishr, 1) := by decide +kernel
theorem dT_write_83 : decode cT_write 83 = .ok (.invokevirtual 49, 3) := by decide +kernel
theorem dT_write_86 : decode cT_write 86 = .ok (.iload_n 2, 1) := by decide +kernel
theorem dT_write_87 : decode cT_write 87 = .ok (.invokevirtual 56, 3) := by decide +kernel
theorem dT_write_90 : decode cT_write 90 = .ok (.aload_n 0, 1) := by decide +kernel
theorem dT_write_91 : decode cT_write 91 = .ok (.invokevirtual 59, 3) := by decide +kernel
theorem dT_write_94 : decode cT_write 94 = .ok (.return_, 1) := by decide +kernel
theorem dT_read_0 : decode cT_read 0 = .ok (.iload_n 1, 1) := by decide +kernel
theorem dT_read_1 : decode cT_read 1 = .ok (.invokestatic 28, 3) := by decide +kernel
theorem dT_read_4 : decode cT_read 4 = .ok (.ifCond .eq 9, 3) := by decide +kernel
theorem dT_read_7 : decode cT_read 7 = .ok (.iload_n 1, 1) := by decide +kernel
theorem dT_read_8 : decode cT_read 8 = .ok (.bipush 7, 2) := by decide +kernel
theorem dT_read_10 : decode cT_read 10 = .ok (.if_icmp .ne 11, 3) := by decide +kernel
theorem dT_read_13 : decode cT_read 13 = .ok (.new 32, 3) := by decide +kernel
theorem dT_read_16 : decode cT_read 16 = .ok (.dup, 1) := by decide +kernel
theorem dT_read_17 : decode cT_read 17 = .ok (.invokespecial 34, 3) := by decide +kernel
theorem dT_read_20 : decode cT_read 20 = .ok (.athrow, 1) := by decide +kernel
theorem dT_read_21 : decode cT_read 21 = .ok (.iload_n 1, 1) := by decide +kernel
theorem dT_read_22 : decode cT_read 22 = .ok (.invokestatic 35, 3) := by decide +kernel
theorem dT_read_25 : decode cT_read 25 = .ok (.ifCond .eq 15, 3) := by decide +kernel
theorem dT_read_28 : decode cT_read 28 = .ok (.aload_n 0, 1) := by decide +kernel
theorem dT_read_29 : decode cT_read 29 = .ok (.iload_n 1, 1) := by decide +kernel
theorem dT_read_30 : decode cT_read 30 = .ok (.invokevirtual 38, 3) := by decide +kernel
theorem dT_read_33 : decode cT_read 33 = .ok (.invokevirtual 62, 3) := by decide +kernel
theorem dT_read_36 : decode cT_read 36 = .ok (.istore_n 2, 1) := by decide +kernel
theorem dT_read_37 : decode cT_read 37 = .ok (.goto 34, 3) := by decide +kernel
theorem dT_read_40 : decode cT_read 40 = .ok (.iload_n 1, 1) := by decide +kernel
theorem dT_read_41 : decode cT_read 41 = .ok (.iconst 1, 1) := by decide +kernel
theorem dT_read_42 : decode cT_read 42 = .ok (.iand, 1) := by decide +kernel
theorem dT_read_43 : decode cT_read 43 = .ok (.ifCond .ne 17, 3) := by decide +kernel
theorem dT_read_46 : decode cT_read 46 = .ok (.aload_n 0, 1) := by decide +kernel
theorem dT_read_47 : decode cT_read 47 = .ok (.iload_n 1, 1) := by decide +kernel
theorem dT_read_48 : decode cT_read 48 = .ok (.iconst 1, 1) := by decide +kernel
theorem dT_read_49 : decode cT_read 49 = .ok (.ishr, 1) := by decide +kernel
theorem dT_read_50 : decode cT_read 50 = .ok (.invokevirtual 49, 3) := by decide +kernel
theorem dT_read_53 : decode cT_read 53 = .ok (.invokevirtual 66, 3) := by decide +kernel
theorem dT_read_56 : decode cT_read 56 = .ok (.istore_n 2, 1) := by decide +kernel
theorem dT_read_57 : decode cT_read 57 = .ok (.goto 14, 3) := by decide +kernel
theorem dT_read_60 : decode cT_read 60 = .ok (.aload_n 0, 1) := by decide +kernel
theorem dT_read_61 : decode cT_read 61 = .ok (.iload_n 1, 1) := by decide +kernel
theorem dT_read_62 : decode cT_read 62 = .ok (.iconst 1, 1) := by decide +kernel
theorem dT_read_63 : decode cT_read 63 = .ok (.ishr, 1) := by decide +kernel
theorem dT_read_64 : decode cT_read 64 = .ok (.invokevirtual 49, 3) := by decide +kernel
theorem dT_read_67 : decode cT_read 67 = .ok (.getfield 69, 3) := by decide +kernel
theorem dT_read_70 : decode cT_read 70 = .ok (.istore_n 2, 1) := by decide +kernel
theorem dT_read_71 : decode cT_read 71 = .ok (.aload_n 0, 1) := by decide +kernel
theorem dT_read_72 : decode cT_read 72 = .ok (.invokevirtual 59, 3) := by decide +kernel
theorem dT_read_75 : decode cT_read 75 = .ok (.iload_n 2, 1) := by decide +kernel
theorem dT_read_76 : decode cT_read 76 = .ok (.ireturn, 1) := by decide +kernel
theorem dT_line_0 : decode cT_line 0 = .ok (.iload_n 1, 1) := by decide +kernel
theorem dT_line_1 : decode cT_line 1 = .ok (.invokestatic 73, 3) := by decide +kernel
theorem dT_line_4 : decode cT_line 4 = .ok (.ifCond .eq 13, 3) := by decide +kernel
theorem dT_line_7 : decode cT_line 7 = .ok (.iload_n 2, 1) := by decide +kernel
theorem dT_line_8 : decode cT_line 8 = .ok (.ifCond .lt 9, 3) := by decide +kernel
theorem dT_line_11 : decode cT_line 11 = .ok (.iload_n 2, 1) := by decide +kernel
theorem dT_line_12 : decode cT_line 12 = .ok (.bipush 8, 2) := by decide +kernel
theorem dT_line_14 : decode cT_line 14 = .ok (.if_icmp .lt 5, 3) := by decide +kernel
theorem dT_line_17 : decode cT_line 17 = .ok (.iconst 0, 1) := by decide +kernel
theorem dT_line_18 : decode cT_line 18 = .ok (.ireturn, 1) := by decide +kernel
theorem dT_line_19 : decode cT_line 19 = .ok (.iload_n 1, 1) := by decide +kernel
theorem dT_line_20 : decode cT_line 20 = .ok (.ifCond .ne 14, 3) := by decide +kernel
theorem dT_line_23 : decode cT_line 23 = .ok (.iload_n 2, 1) := by decide +kernel
theorem dT_line_24 : decode cT_line 24 = .ok (.ifCond .eq 8, 3) := by decide +kernel
theorem dT_line_27 : decode cT_line 27 = .ok (.iload_n 2, 1) := by decide +kernel
theorem dT_line_28 : decode cT_line 28 = .ok (.iconst 2, 1) := by decide +kernel
theorem dT_line_29 : decode cT_line 29 = .ok (.if_icmp .ne 5, 3) := by decide +kernel
theorem dT_line_32 : decode cT_line 32 = .ok (.iconst 0, 1) := by decide +kernel
theorem dT_line_33 : decode cT_line 33 = .ok (.ireturn, 1) := by decide +kernel
theorem dT_line_34 : decode cT_line 34 = .ok (.aload_n 0, 1) := by decide +kernel
theorem dT_line_35 : decode cT_line 35 = .ok (.iload_n 1, 1) := by decide +kernel
theorem dT_line_36 : decode cT_line 36 = .ok (.invokevirtual 49, 3) := by decide +kernel
theorem dT_line_39 : decode cT_line 39 = .ok (.iload_n 2, 1) := by decide +kernel
theorem dT_line_40 : decode cT_line 40 = .ok (.iload_n 3, 1) := by decide +kernel
theorem dT_line_41 : decode cT_line 41 = .ok (.invokevirtual 76, 3) := by decide +kernel
theorem dT_line_44 : decode cT_line 44 = .ok (.aload_n 0, 1) := by decide +kernel
theorem dT_line_45 : decode cT_line 45 = .ok (.invokevirtual 59, 3) := by decide +kernel
theorem dT_line_48 : decode cT_line 48 = .ok (.iconst 1, 1) := by decide +kernel
theorem dT_line_49 : decode cT_line 49 = .ok (.ireturn, 1) := by decide +kernel
theorem dT_gate_0 : decode cT_gate 0 = .ok (.iload_n 1, 1) := by decide +kernel
theorem dT_gate_1 : decode cT_gate 1 = .ok (.invokestatic 80, 3) := by decide +kernel
theorem dT_gate_4 : decode cT_gate 4 = .ok (.ifCond .ne 5, 3) := by decide +kernel
theorem dT_gate_7 : decode cT_gate 7 = .ok (.iconst 0, 1) := by decide +kernel
theorem dT_gate_8 : decode cT_gate 8 = .ok (.ireturn, 1) := by decide +kernel
theorem dT_gate_9 : decode cT_gate 9 = .ok (.aload_n 0, 1) := by decide +kernel
theorem dT_gate_10 : decode cT_gate 10 = .ok (.getfield 24, 3) := by decide +kernel
theorem dT_gate_13 : decode cT_gate 13 = .ok (.iload_n 1, 1) := by decide +kernel
theorem dT_gate_14 : decode cT_gate 14 = .ok (.aaload, 1) := by decide +kernel
theorem dT_gate_15 : decode cT_gate 15 = .ok (.iload_n 2, 1) := by decide +kernel
theorem dT_gate_16 : decode cT_gate 16 = .ok (.invokevirtual 83, 3) := by decide +kernel
theorem dT_gate_19 : decode cT_gate 19 = .ok (.aload_n 0, 1) := by decide +kernel
theorem dT_gate_20 : decode cT_gate 20 = .ok (.invokevirtual 59, 3) := by decide +kernel
theorem dT_gate_23 : decode cT_gate 23 = .ok (.iconst 1, 1) := by decide +kernel
theorem dT_gate_24 : decode cT_gate 24 = .ok (.ireturn, 1) := by decide +kernel
theorem dT_tick_0 : decode cT_tick 0 = .ok (.iload_n 1, 1) := by decide +kernel
theorem dT_tick_1 : decode cT_tick 1 = .ok (.ifCond .lt 9, 3) := by decide +kernel
theorem dT_tick_4 : decode cT_tick 4 = .ok (.iload_n 1, 1) := by decide +kernel
theorem dT_tick_5 : decode cT_tick 5 = .ok (.bipush 100, 2) := by decide +kernel
theorem dT_tick_7 : decode cT_tick 7 = .ok (.if_icmp .le 11, 3) := by decide +kernel
theorem dT_tick_10 : decode cT_tick 10 = .ok (.new 32, 3) := by decide +kernel
theorem dT_tick_13 : decode cT_tick 13 = .ok (.dup, 1) := by decide +kernel
theorem dT_tick_14 : decode cT_tick 14 = .ok (.invokespecial 34, 3) := by decide +kernel
theorem dT_tick_17 : decode cT_tick 17 = .ok (.athrow, 1) := by decide +kernel
theorem dT_tick_18 : decode cT_tick 18 = .ok (.iconst 0, 1) := by decide +kernel
theorem dT_tick_19 : decode cT_tick 19 = .ok (.istore_n 2, 1) := by decide +kernel
theorem dT_tick_20 : decode cT_tick 20 = .ok (.iconst 0, 1) := by decide +kernel
theorem dT_tick_21 : decode cT_tick 21 = .ok (.istore_n 3, 1) := by decide +kernel
theorem dT_tick_22 : decode cT_tick 22 = .ok (.iload_n 3, 1) := by decide +kernel
theorem dT_tick_23 : decode cT_tick 23 = .ok (.iload_n 1, 1) := by decide +kernel
theorem dT_tick_24 : decode cT_tick 24 = .ok (.if_icmp .ge 69, 3) := by decide +kernel
theorem dT_tick_27 : decode cT_tick 27 = .ok (.aload_n 0, 1) := by decide +kernel
theorem dT_tick_28 : decode cT_tick 28 = .ok (.getfield 24, 3) := by decide +kernel
theorem dT_tick_31 : decode cT_tick 31 = .ok (.iconst 0, 1) := by decide +kernel
theorem dT_tick_32 : decode cT_tick 32 = .ok (.aaload, 1) := by decide +kernel
theorem dT_tick_33 : decode cT_tick 33 = .ok (.getfield 86, 3) := by decide +kernel
theorem dT_tick_36 : decode cT_tick 36 = .ok (.istore 4, 2) := by decide +kernel
theorem dT_tick_38 : decode cT_tick 38 = .ok (.iconst 0, 1) := by decide +kernel
theorem dT_tick_39 : decode cT_tick 39 = .ok (.istore 5, 2) := by decide +kernel
theorem dT_tick_41 : decode cT_tick 41 = .ok (.iload 5, 2) := by decide +kernel
theorem dT_tick_43 : decode cT_tick 43 = .ok (.iconst 3, 1) := by decide +kernel
theorem dT_tick_44 : decode cT_tick 44 = .ok (.if_icmp .ge 19, 3) := by decide +kernel
theorem dT_tick_47 : decode cT_tick 47 = .ok (.aload_n 0, 1) := by decide +kernel
theorem dT_tick_48 : decode cT_tick 48 = .ok (.getfield 24, 3) := by decide +kernel
theorem dT_tick_51 : decode cT_tick 51 = .ok (.iload 5, 2) := by decide +kernel
theorem dT_tick_53 : decode cT_tick 53 = .ok (.aaload, 1) := by decide +kernel
theorem dT_tick_54 : decode cT_tick 54 = .ok (.invokevirtual 90, 3) := by decide +kernel
theorem dT_tick_57 : decode cT_tick 57 = .ok (.iinc 5 1, 3) := by decide +kernel
theorem dT_tick_60 : decode cT_tick 60 = .ok (.goto (-19), 3) := by decide +kernel
theorem dT_tick_63 : decode cT_tick 63 = .ok (.iload 4, 2) := by decide +kernel
theorem dT_tick_65 : decode cT_tick 65 = .ok (.ifCond .ne 18, 3) := by decide +kernel
theorem dT_tick_68 : decode cT_tick 68 = .ok (.aload_n 0, 1) := by decide +kernel
theorem dT_tick_69 : decode cT_tick 69 = .ok (.getfield 24, 3) := by decide +kernel
theorem dT_tick_72 : decode cT_tick 72 = .ok (.iconst 0, 1) := by decide +kernel
theorem dT_tick_73 : decode cT_tick 73 = .ok (.aaload, 1) := by decide +kernel
theorem dT_tick_74 : decode cT_tick 74 = .ok (.getfield 86, 3) := by decide +kernel
theorem dT_tick_77 : decode cT_tick 77 = .ok (.ifCond .eq 6, 3) := by decide +kernel
theorem dT_tick_80 : decode cT_tick 80 = .ok (.iinc 2 1, 3) := by decide +kernel
theorem dT_tick_83 : decode cT_tick 83 = .ok (.aload_n 0, 1) := by decide +kernel
theorem dT_tick_84 : decode cT_tick 84 = .ok (.invokevirtual 59, 3) := by decide +kernel
theorem dT_tick_87 : decode cT_tick 87 = .ok (.iinc 3 1, 3) := by decide +kernel
theorem dT_tick_90 : decode cT_tick 90 = .ok (.goto (-68), 3) := by decide +kernel
theorem dT_tick_93 : decode cT_tick 93 = .ok (.iload_n 2, 1) := by decide +kernel
theorem dT_tick_94 : decode cT_tick 94 = .ok (.ireturn, 1) := by decide +kernel
theorem dT_acknowledge_0 : decode cT_acknowledge 0 = .ok (.aload_n 0, 1) := by decide +kernel
theorem dT_acknowledge_1 : decode cT_acknowledge 1 = .ok (.getfield 12, 3) := by decide +kernel
theorem dT_acknowledge_4 : decode cT_acknowledge 4 = .ok (.getfield 93, 3) := by decide +kernel
theorem dT_acknowledge_7 : decode cT_acknowledge 7 = .ok (.ifCond .ne 11, 3) := by decide +kernel
theorem dT_acknowledge_10 : decode cT_acknowledge 10 = .ok (.new 96, 3) := by decide +kernel
theorem dT_acknowledge_13 : decode cT_acknowledge 13 = .ok (.dup, 1) := by decide +kernel
theorem dT_acknowledge_14 : decode cT_acknowledge 14 = .ok (.invokespecial 98, 3) := by decide +kernel
theorem dT_acknowledge_17 : decode cT_acknowledge 17 = .ok (.athrow, 1) := by decide +kernel
theorem dT_acknowledge_18 : decode cT_acknowledge 18 = .ok (.aload_n 0, 1) := by decide +kernel
theorem dT_acknowledge_19 : decode cT_acknowledge 19 = .ok (.getfield 12, 3) := by decide +kernel
theorem dT_acknowledge_22 : decode cT_acknowledge 22 = .ok (.invokevirtual 99, 3) := by decide +kernel
theorem dT_acknowledge_25 : decode cT_acknowledge 25 = .ok (.istore_n 1, 1) := by decide +kernel
theorem dT_acknowledge_26 : decode cT_acknowledge 26 = .ok (.iload_n 1, 1) := by decide +kernel
theorem dT_acknowledge_27 : decode cT_acknowledge 27 = .ok (.iconst 2, 1) := by decide +kernel
theorem dT_acknowledge_28 : decode cT_acknowledge 28 = .ok (.if_icmp .ne 31, 3) := by decide +kernel
theorem dT_acknowledge_31 : decode cT_acknowledge 31 = .ok (.aload_n 0, 1) := by decide +kernel
theorem dT_acknowledge_32 : decode cT_acknowledge 32 = .ok (.getfield 12, 3) := by decide +kernel
theorem dT_acknowledge_35 : decode cT_acknowledge 35 = .ok (.getfield 102, 3) := by decide +kernel
theorem dT_acknowledge_38 : decode cT_acknowledge 38 = .ok (.ifCond .ne 21, 3) := by decide +kernel
theorem dT_acknowledge_41 : decode cT_acknowledge 41 = .ok (.aload_n 0, 1) := by decide +kernel
theorem dT_acknowledge_42 : decode cT_acknowledge 42 = .ok (.getfield 18, 3) := by decide +kernel
theorem dT_acknowledge_45 : decode cT_acknowledge 45 = .ok (.aload_n 0, 1) := by decide +kernel
theorem dT_acknowledge_46 : decode cT_acknowledge 46 = .ok (.getfield 18, 3) := by decide +kernel
theorem dT_acknowledge_49 : decode cT_acknowledge 49 = .ok (.invokevirtual 99, 3) := by decide +kernel
theorem dT_acknowledge_52 : decode cT_acknowledge 52 = .ok (.invokevirtual 105, 3) := by decide +kernel
theorem dT_acknowledge_55 : decode cT_acknowledge 55 = .ok (.istore_n 2, 1) := by decide +kernel
theorem dT_acknowledge_56 : decode cT_acknowledge 56 = .ok (.goto 12, 3) := by decide +kernel
theorem dT_acknowledge_59 : decode cT_acknowledge 59 = .ok (.aload_n 0, 1) := by decide +kernel
theorem dT_acknowledge_60 : decode cT_acknowledge 60 = .ok (.getfield 12, 3) := by decide +kernel
theorem dT_acknowledge_63 : decode cT_acknowledge 63 = .ok (.iload_n 1, 1) := by decide +kernel
theorem dT_acknowledge_64 : decode cT_acknowledge 64 = .ok (.invokevirtual 105, 3) := by decide +kernel
theorem dT_acknowledge_67 : decode cT_acknowledge 67 = .ok (.istore_n 2, 1) := by decide +kernel
theorem dT_acknowledge_68 : decode cT_acknowledge 68 = .ok (.aload_n 0, 1) := by decide +kernel
theorem dT_acknowledge_69 : decode cT_acknowledge 69 = .ok (.invokevirtual 59, 3) := by decide +kernel
theorem dT_acknowledge_72 : decode cT_acknowledge 72 = .ok (.iload_n 2, 1) := by decide +kernel
theorem dT_acknowledge_73 : decode cT_acknowledge 73 = .ok (.ireturn, 1) := by decide +kernel
theorem dT_chosen_0 : decode cT_chosen 0 = .ok (.iload_n 1, 1) := by decide +kernel
theorem dT_chosen_1 : decode cT_chosen 1 = .ok (.invokestatic 73, 3) := by decide +kernel
theorem dT_chosen_4 : decode cT_chosen 4 = .ok (.ifCond .eq 14, 3) := by decide +kernel
theorem dT_chosen_7 : decode cT_chosen 7 = .ok (.aload_n 0, 1) := by decide +kernel
theorem dT_chosen_8 : decode cT_chosen 8 = .ok (.iload_n 1, 1) := by decide +kernel
theorem dT_chosen_9 : decode cT_chosen 9 = .ok (.invokevirtual 49, 3) := by decide +kernel
theorem dT_chosen_12 : decode cT_chosen 12 = .ok (.invokevirtual 109, 3) := by decide +kernel
theorem dT_chosen_15 : decode cT_chosen 15 = .ok (.goto 4, 3) := by decide +kernel
theorem dT_chosen_18 : decode cT_chosen 18 = .ok (.iconst (-1), 1) := by decide +kernel
theorem dT_chosen_19 : decode cT_chosen 19 = .ok (.ireturn, 1) := by decide +kernel
theorem dT_about_0 : decode cT_about 0 = .ok (.iload_n 1, 1) := by decide +kernel
theorem dT_about_1 : decode cT_about 1 = .ok (.invokestatic 73, 3) := by decide +kernel
theorem dT_about_4 : decode cT_about 4 = .ok (.ifCond .eq 15, 3) := by decide +kernel
theorem dT_about_7 : decode cT_about 7 = .ok (.aload_n 0, 1) := by decide +kernel
theorem dT_about_8 : decode cT_about 8 = .ok (.iload_n 1, 1) := by decide +kernel
theorem dT_about_9 : decode cT_about 9 = .ok (.invokevirtual 49, 3) := by decide +kernel
theorem dT_about_12 : decode cT_about 12 = .ok (.iload_n 2, 1) := by decide +kernel
theorem dT_about_13 : decode cT_about 13 = .ok (.invokevirtual 112, 3) := by decide +kernel
theorem dT_about_16 : decode cT_about 16 = .ok (.goto 4, 3) := by decide +kernel
theorem dT_about_19 : decode cT_about 19 = .ok (.iconst (-1), 1) := by decide +kernel
theorem dT_about_20 : decode cT_about 20 = .ok (.ireturn, 1) := by decide +kernel
theorem dT_counter_0 : decode cT_counter 0 = .ok (.iload_n 1, 1) := by decide +kernel
theorem dT_counter_1 : decode cT_counter 1 = .ok (.invokestatic 80, 3) := by decide +kernel
theorem dT_counter_4 : decode cT_counter 4 = .ok (.ifCond .eq 16, 3) := by decide +kernel
theorem dT_counter_7 : decode cT_counter 7 = .ok (.aload_n 0, 1) := by decide +kernel
theorem dT_counter_8 : decode cT_counter 8 = .ok (.getfield 24, 3) := by decide +kernel
theorem dT_counter_11 : decode cT_counter 11 = .ok (.iload_n 1, 1) := by decide +kernel
theorem dT_counter_12 : decode cT_counter 12 = .ok (.aaload, 1) := by decide +kernel
theorem dT_counter_13 : decode cT_counter 13 = .ok (.iload_n 2, 1) := by decide +kernel
theorem dT_counter_14 : decode cT_counter 14 = .ok (.invokevirtual 115, 3) := by decide +kernel
theorem dT_counter_17 : decode cT_counter 17 = .ok (.goto 4, 3) := by decide +kernel
theorem dT_counter_20 : decode cT_counter 20 = .ok (.iconst (-1), 1) := by decide +kernel
theorem dT_counter_21 : decode cT_counter 21 = .ok (.ireturn, 1) := by decide +kernel
theorem dT_isPort_0 : decode cT_isPort 0 = .ok (.iload_n 0, 1) := by decide +kernel
theorem dT_isPort_1 : decode cT_isPort 1 = .ok (.ifCond .lt 13, 3) := by decide +kernel
theorem dT_isPort_4 : decode cT_isPort 4 = .ok (.iload_n 0, 1) := by decide +kernel
theorem dT_isPort_5 : decode cT_isPort 5 = .ok (.bipush 7, 2) := by decide +kernel
theorem dT_isPort_7 : decode cT_isPort 7 = .ok (.if_icmp .gt 7, 3) := by decide +kernel
theorem dT_isPort_10 : decode cT_isPort 10 = .ok (.iconst 1, 1) := by decide +kernel
theorem dT_isPort_11 : decode cT_isPort 11 = .ok (.goto 4, 3) := by decide +kernel
theorem dT_isPort_14 : decode cT_isPort 14 = .ok (.iconst 0, 1) := by decide +kernel
theorem dT_isPort_15 : decode cT_isPort 15 = .ok (.ireturn, 1) := by decide +kernel
theorem dT_isCounterPort_0 : decode cT_isCounterPort 0 = .ok (.iload_n 0, 1) := by decide +kernel
theorem dT_isCounterPort_1 : decode cT_isCounterPort 1 = .ok (.iconst 4, 1) := by decide +kernel
theorem dT_isCounterPort_2 : decode cT_isCounterPort 2 = .ok (.isub, 1) := by decide +kernel
theorem dT_isCounterPort_3 : decode cT_isCounterPort 3 = .ok (.invokestatic 80, 3) := by decide +kernel
theorem dT_isCounterPort_6 : decode cT_isCounterPort 6 = .ok (.ireturn, 1) := by decide +kernel
theorem dT_isController_0 : decode cT_isController 0 = .ok (.iload_n 0, 1) := by decide +kernel
theorem dT_isController_1 : decode cT_isController 1 = .ok (.ifCond .lt 12, 3) := by decide +kernel
theorem dT_isController_4 : decode cT_isController 4 = .ok (.iload_n 0, 1) := by decide +kernel
theorem dT_isController_5 : decode cT_isController 5 = .ok (.iconst 2, 1) := by decide +kernel
theorem dT_isController_6 : decode cT_isController 6 = .ok (.if_icmp .ge 7, 3) := by decide +kernel
theorem dT_isController_9 : decode cT_isController 9 = .ok (.iconst 1, 1) := by decide +kernel
theorem dT_isController_10 : decode cT_isController 10 = .ok (.goto 4, 3) := by decide +kernel
theorem dT_isController_13 : decode cT_isController 13 = .ok (.iconst 0, 1) := by decide +kernel
theorem dT_isController_14 : decode cT_isController 14 = .ok (.ireturn, 1) := by decide +kernel
theorem dT_isCounter_0 : decode cT_isCounter 0 = .ok (.iload_n 0, 1) := by decide +kernel
theorem dT_isCounter_1 : decode cT_isCounter 1 = .ok (.ifCond .lt 12, 3) := by decide +kernel
theorem dT_isCounter_4 : decode cT_isCounter 4 = .ok (.iload_n 0, 1) := by decide +kernel
theorem dT_isCounter_5 : decode cT_isCounter 5 = .ok (.iconst 3, 1) := by decide +kernel
theorem dT_isCounter_6 : decode cT_isCounter 6 = .ok (.if_icmp .ge 7, 3) := by decide +kernel
theorem dT_isCounter_9 : decode cT_isCounter 9 = .ok (.iconst 1, 1) := by decide +kernel
theorem dT_isCounter_10 : decode cT_isCounter 10 = .ok (.goto 4, 3) := by decide +kernel
theorem dT_isCounter_13 : decode cT_isCounter 13 = .ok (.iconst 0, 1) := by decide +kernel
theorem dT_isCounter_14 : decode cT_isCounter 14 = .ok (.ireturn, 1) := by decide +kernel
theorem dT_asBit_0 : decode cT_asBit 0 = .ok (.iload_n 0, 1) := by decide +kernel
theorem dT_asBit_1 : decode cT_asBit 1 = .ok (.ifCond .eq 7, 3) := by decide +kernel
theorem dT_asBit_4 : decode cT_asBit 4 = .ok (.iconst 1, 1) := by decide +kernel
theorem dT_asBit_5 : decode cT_asBit 5 = .ok (.goto 4, 3) := by decide +kernel
theorem dT_asBit_8 : decode cT_asBit 8 = .ok (.iconst 0, 1) := by decide +kernel
theorem dT_asBit_9 : decode cT_asBit 9 = .ok (.ireturn, 1) := by decide +kernel
theorem dT_hasBit_0 : decode cT_hasBit 0 = .ok (.iload_n 0, 1) := by decide +kernel
theorem dT_hasBit_1 : decode cT_hasBit 1 = .ok (.iload_n 1, 1) := by decide +kernel
theorem dT_hasBit_2 : decode cT_hasBit 2 = .ok (.ishr, 1) := by decide +kernel
theorem dT_hasBit_3 : decode cT_hasBit 3 = .ok (.iconst 1, 1) := by decide +kernel
theorem dT_hasBit_4 : decode cT_hasBit 4 = .ok (.iand, 1) := by decide +kernel
theorem dT_hasBit_5 : decode cT_hasBit 5 = .ok (.ifCond .eq 7, 3) := by decide +kernel
theorem dT_hasBit_8 : decode cT_hasBit 8 = .ok (.iconst 1, 1) := by decide +kernel
theorem dT_hasBit_9 : decode cT_hasBit 9 = .ok (.goto 4, 3) := by decide +kernel
theorem dT_hasBit_12 : decode cT_hasBit 12 = .ok (.iconst 0, 1) := by decide +kernel
theorem dT_hasBit_13 : decode cT_hasBit 13 = .ok (.ireturn, 1) := by decide +kernel
theorem dT_controllerOf_0 : decode cT_controllerOf 0 = .ok (.iload_n 1, 1) := by decide +kernel
theorem dT_controllerOf_1 : decode cT_controllerOf 1 = .ok (.ifCond .ne 10, 3) := by decide +kernel
theorem dT_controllerOf_4 : decode cT_controllerOf 4 = .ok (.aload_n 0, 1) := by decide +kernel
theorem dT_controllerOf_5 : decode cT_controllerOf 5 = .ok (.getfield 12, 3) := by decide +kernel
theorem dT_controllerOf_8 : decode cT_controllerOf 8 = .ok (.goto 7, 3) := by decide +kernel
theorem dT_controllerOf_11 : decode cT_controllerOf 11 = .ok (.aload_n 0, 1) := by decide +kernel
theorem dT_controllerOf_12 : decode cT_controllerOf 12 = .ok (.getfield 18, 3) := by decide +kernel
theorem dT_controllerOf_15 : decode cT_controllerOf 15 = .ok (.areturn, 1) := by decide +kernel
theorem dT_counterWithMode_0 : decode cT_counterWithMode 0 = .ok (.aload_n 0, 1) := by decide +kernel
theorem dT_counterWithMode_1 : decode cT_counterWithMode 1 = .ok (.getfield 24, 3) := by decide +kernel
theorem dT_counterWithMode_4 : decode cT_counterWithMode 4 = .ok (.iload_n 1, 1) := by decide +kernel
theorem dT_counterWithMode_5 : decode cT_counterWithMode 5 = .ok (.iconst 4, 1) := by decide +kernel
theorem dT_counterWithMode_6 : decode cT_counterWithMode 6 = .ok (.isub, 1) := by decide +kernel
theorem dT_counterWithMode_7 : decode cT_counterWithMode 7 = .ok (.aaload, 1) := by decide +kernel
theorem dT_counterWithMode_8 : decode cT_counterWithMode 8 = .ok (.astore_n 2, 1) := by decide +kernel
theorem dT_counterWithMode_9 : decode cT_counterWithMode 9 = .ok (.aload_n 2, 1) := by decide +kernel
theorem dT_counterWithMode_10 : decode cT_counterWithMode 10 = .ok (.invokevirtual 116, 3) := by decide +kernel
theorem dT_counterWithMode_13 : decode cT_counterWithMode 13 = .ok (.ifCond .ne 11, 3) := by decide +kernel
theorem dT_counterWithMode_16 : decode cT_counterWithMode 16 = .ok (.new 96, 3) := by decide +kernel
theorem dT_counterWithMode_19 : decode cT_counterWithMode 19 = .ok (.dup, 1) := by decide +kernel
theorem dT_counterWithMode_20 : decode cT_counterWithMode 20 = .ok (.invokespecial 98, 3) := by decide +kernel
theorem dT_counterWithMode_23 : decode cT_counterWithMode 23 = .ok (.athrow, 1) := by decide +kernel
theorem dT_counterWithMode_24 : decode cT_counterWithMode 24 = .ok (.aload_n 2, 1) := by decide +kernel
theorem dT_counterWithMode_25 : decode cT_counterWithMode 25 = .ok (.areturn, 1) := by decide +kernel
theorem dT_takeControl_0 : decode cT_takeControl 0 = .ok (.iload_n 1, 1) := by decide +kernel
theorem dT_takeControl_1 : decode cT_takeControl 1 = .ok (.bipush 6, 2) := by decide +kernel
theorem dT_takeControl_3 : decode cT_takeControl 3 = .ok (.ishr, 1) := by decide +kernel
theorem dT_takeControl_4 : decode cT_takeControl 4 = .ok (.istore_n 2, 1) := by decide +kernel
theorem dT_takeControl_5 : decode cT_takeControl 5 = .ok (.iload_n 1, 1) := by decide +kernel
theorem dT_takeControl_6 : decode cT_takeControl 6 = .ok (.iconst 4, 1) := by decide +kernel
theorem dT_takeControl_7 : decode cT_takeControl 7 = .ok (.ishr, 1) := by decide +kernel
theorem dT_takeControl_8 : decode cT_takeControl 8 = .ok (.iconst 3, 1) := by decide +kernel
theorem dT_takeControl_9 : decode cT_takeControl 9 = .ok (.iand, 1) := by decide +kernel
theorem dT_takeControl_10 : decode cT_takeControl 10 = .ok (.istore_n 3, 1) := by decide +kernel
theorem dT_takeControl_11 : decode cT_takeControl 11 = .ok (.iload_n 2, 1) := by decide +kernel
theorem dT_takeControl_12 : decode cT_takeControl 12 = .ok (.invokestatic 80, 3) := by decide +kernel
theorem dT_takeControl_15 : decode cT_takeControl 15 = .ok (.ifCond .ne 11, 3) := by decide +kernel
theorem dT_takeControl_18 : decode cT_takeControl 18 = .ok (.aload_n 0, 1) := by decide +kernel
theorem dT_takeControl_19 : decode cT_takeControl 19 = .ok (.iload_n 1, 1) := by decide +kernel
theorem dT_takeControl_20 : decode cT_takeControl 20 = .ok (.invokevirtual 120, 3) := by decide +kernel
theorem dT_takeControl_23 : decode cT_takeControl 23 = .ok (.goto 35, 3) := by decide +kernel
theorem dT_takeControl_26 : decode cT_takeControl 26 = .ok (.iload_n 3, 1) := by decide +kernel
theorem dT_takeControl_27 : decode cT_takeControl 27 = .ok (.ifCond .ne 15, 3) := by decide +kernel
theorem dT_takeControl_30 : decode cT_takeControl 30 = .ok (.aload_n 0, 1) := by decide +kernel
theorem dT_takeControl_31 : decode cT_takeControl 31 = .ok (.getfield 24, 3) := by decide +kernel
theorem dT_takeControl_34 : decode cT_takeControl 34 = .ok (.iload_n 2, 1) := by decide +kernel
theorem dT_takeControl_35 : decode cT_takeControl 35 = .ok (.aaload, 1) := by decide +kernel
theorem dT_takeControl_36 : decode cT_takeControl 36 = .ok (.invokevirtual 123, 3) := by decide +kernel
theorem dT_takeControl_39 : decode cT_takeControl 39 = .ok (.goto 19, 3) := by decide +kernel
theorem dT_takeControl_42 : decode cT_takeControl 42 = .ok (.aload_n 0, 1) := by decide +kernel
theorem dT_takeControl_43 : decode cT_takeControl 43 = .ok (.getfield 24, 3) := by decide +kernel
theorem dT_takeControl_46 : decode cT_takeControl 46 = .ok (.iload_n 2, 1) := by decide +kernel
theorem dT_takeControl_47 : decode cT_takeControl 47 = .ok (.aaload, 1) := by decide +kernel
theorem dT_takeControl_48 : decode cT_takeControl 48 = .ok (.iload_n 3, 1) := by decide +kernel
theorem dT_takeControl_49 : decode cT_takeControl 49 = .ok (.iload_n 1, 1) := by decide +kernel
theorem dT_takeControl_50 : decode cT_takeControl 50 = .ok (.iconst 1, 1) := by decide +kernel
theorem dT_takeControl_51 : decode cT_takeControl 51 = .ok (.ishr, 1) := by decide +kernel
theorem dT_takeControl_52 : decode cT_takeControl 52 = .ok (.bipush 7, 2) := by decide +kernel
theorem dT_takeControl_54 : decode cT_takeControl 54 = .ok (.iand, 1) := by decide +kernel
theorem dT_takeControl_55 : decode cT_takeControl 55 = .ok (.invokevirtual 126, 3) := by decide +kernel
theorem dT_takeControl_58 : decode cT_takeControl 58 = .ok (.return_, 1) := by decide +kernel
theorem dT_latchMany_0 : decode cT_latchMany 0 = .ok (.iconst 0, 1) := by decide +kernel
theorem dT_latchMany_1 : decode cT_latchMany 1 = .ok (.istore_n 2, 1) := by decide +kernel
theorem dT_latchMany_2 : decode cT_latchMany 2 = .ok (.iload_n 2, 1) := by decide +kernel
theorem dT_latchMany_3 : decode cT_latchMany 3 = .ok (.iconst 3, 1) := by decide +kernel
theorem dT_latchMany_4 : decode cT_latchMany 4 = .ok (.if_icmp .ge 53, 3) := by decide +kernel
theorem dT_latchMany_7 : decode cT_latchMany 7 = .ok (.iload_n 1, 1) := by decide +kernel
theorem dT_latchMany_8 : decode cT_latchMany 8 = .ok (.iconst 1, 1) := by decide +kernel
theorem dT_latchMany_9 : decode cT_latchMany 9 = .ok (.iload_n 2, 1) := by decide +kernel
theorem dT_latchMany_10 : decode cT_latchMany 10 = .ok (.iadd, 1) := by decide +kernel
theorem dT_latchMany_11 : decode cT_latchMany 11 = .ok (.invokestatic 130, 3) := by decide +kernel
theorem dT_latchMany_14 : decode cT_latchMany 14 = .ok (.ifCond .eq 37, 3) := by decide +kernel
theorem dT_latchMany_17 : decode cT_latchMany 17 = .ok (.iload_n 1, 1) := by decide +kernel
theorem dT_latchMany_18 : decode cT_latchMany 18 = .ok (.iconst 5, 1) := by decide +kernel
theorem dT_latchMany_19 : decode cT_latchMany 19 = .ok (.invokestatic 130, 3) := by decide +kernel
theorem dT_latchMany_22 : decode cT_latchMany 22 = .ok (.ifCond .ne 12, 3) := by decide +kernel
theorem dT_latchMany_25 : decode cT_latchMany 25 = .ok (.aload_n 0, 1) := by decide +kernel
theorem dT_latchMany_26 : decode cT_latchMany 26 = .ok (.getfield 24, 3) := by decide +kernel
theorem dT_latchMany_29 : decode cT_latchMany 29 = .ok (.iload_n 2, 1) := by decide +kernel
theorem dT_latchMany_30 : decode cT_latchMany 30 = .ok (.aaload, 1) := by decide +kernel
theorem dT_latchMany_31 : decode cT_latchMany 31 = .ok (.invokevirtual 123, 3) := by decide +kernel
theorem dT_latchMany_34 : decode cT_latchMany 34 = .ok (.iload_n 1, 1) := by decide +kernel
theorem dT_latchMany_35 : decode cT_latchMany 35 = .ok (.iconst 4, 1) := by decide +kernel
theorem dT_latchMany_36 : decode cT_latchMany 36 = .ok (.invokestatic 130, 3) := by decide +kernel
theorem dT_latchMany_39 : decode cT_latchMany 39 = .ok (.ifCond .ne 12, 3) := by decide +kernel
theorem dT_latchMany_42 : decode cT_latchMany 42 = .ok (.aload_n 0, 1) := by decide +kernel
theorem dT_latchMany_43 : decode cT_latchMany 43 = .ok (.getfield 24, 3) := by decide +kernel
theorem dT_latchMany_46 : decode cT_latchMany 46 = .ok (.iload_n 2, 1) := by decide +kernel
theorem dT_latchMany_47 : decode cT_latchMany 47 = .ok (.aaload, 1) := by decide +kernel
theorem dT_latchMany_48 : decode cT_latchMany 48 = .ok (.invokevirtual 134, 3) := by decide +kernel
theorem dT_latchMany_51 : decode cT_latchMany 51 = .ok (.iinc 2 1, 3) := by decide +kernel
theorem dT_latchMany_54 : decode cT_latchMany 54 = .ok (.goto (-52), 3) := by decide +kernel
theorem dT_latchMany_57 : decode cT_latchMany 57 = .ok (.return_, 1) := by decide +kernel
theorem dT_followLines_0 : decode cT_followLines 0 = .ok (.aload_n 0, 1) := by decide +kernel
theorem dT_followLines_1 : decode cT_followLines 1 = .ok (.getfield 12, 3) := by decide +kernel
theorem dT_followLines_4 : decode cT_followLines 4 = .ok (.iconst 0, 1) := by decide +kernel
theorem dT_followLines_5 : decode cT_followLines 5 = .ok (.aload_n 0, 1) := by decide +kernel
theorem dT_followLines_6 : decode cT_followLines 6 = .ok (.getfield 24, 3) := by decide +kernel
theorem dT_followLines_9 : decode cT_followLines 9 = .ok (.iconst 0, 1) := by decide +kernel
theorem dT_followLines_10 : decode cT_followLines 10 = .ok (.aaload, 1) := by decide +kernel
theorem dT_followLines_11 : decode cT_followLines 11 = .ok (.getfield 86, 3) := by decide +kernel
theorem dT_followLines_14 : decode cT_followLines 14 = .ok (.invokevirtual 76, 3) := by decide +kernel
theorem dT_followLines_17 : decode cT_followLines 17 = .ok (.aload_n 0, 1) := by decide +kernel
theorem dT_followLines_18 : decode cT_followLines 18 = .ok (.getfield 12, 3) := by decide +kernel
theorem dT_followLines_21 : decode cT_followLines 21 = .ok (.iconst 2, 1) := by decide +kernel
theorem dT_followLines_22 : decode cT_followLines 22 = .ok (.aload_n 0, 1) := by decide +kernel
theorem dT_followLines_23 : decode cT_followLines 23 = .ok (.getfield 18, 3) := by decide +kernel
theorem dT_followLines_26 : decode cT_followLines 26 = .ok (.invokevirtual 109, 3) := by decide +kernel
theorem dT_followLines_29 : decode cT_followLines 29 = .ok (.iconst (-1), 1) := by decide +kernel
theorem dT_followLines_30 : decode cT_followLines 30 = .ok (.if_icmp .eq 7, 3) := by decide +kernel
theorem dT_followLines_33 : decode cT_followLines 33 = .ok (.iconst 1, 1) := by decide +kernel
theorem dT_followLines_34 : decode cT_followLines 34 = .ok (.goto 4, 3) := by decide +kernel
theorem dT_followLines_37 : decode cT_followLines 37 = .ok (.iconst 0, 1) := by decide +kernel
theorem dT_followLines_38 : decode cT_followLines 38 = .ok (.invokevirtual 76, 3) := by decide +kernel
theorem dT_followLines_41 : decode cT_followLines 41 = .ok (.return_, 1) := by decide +kernel
theorem dN_init_0 : decode cN_init 0 = .ok (.aload_n 0, 1) := by decide +kernel
theorem dN_init_1 : decode cN_init 1 = .ok (.invokespecial 3, 3) := by decide +kernel
theorem dN_init_4 : decode cN_init 4 = .ok (.aload_n 0, 1) := by decide +kernel
theorem dN_init_5 : decode cN_init 5 = .ok (.iconst 1, 1) := by decide +kernel
theorem dN_init_6 : decode cN_init 6 = .ok (.putfield 9, 3) := by decide +kernel
theorem dN_init_9 : decode cN_init 9 = .ok (.aload_n 0, 1) := by decide +kernel
theorem dN_init_10 : decode cN_init 10 = .ok (.iconst (-1), 1) := by decide +kernel
theorem dN_init_11 : decode cN_init 11 = .ok (.putfield 15, 3) := by decide +kernel
theorem dN_init_14 : decode cN_init 14 = .ok (.aload_n 0, 1) := by decide +kernel
theorem dN_init_15 : decode cN_init 15 = .ok (.iconst (-1), 1) := by decide +kernel
theorem dN_init_16 : decode cN_init 16 = .ok (.putfield 19, 3) := by decide +kernel
theorem dN_init_19 : decode cN_init 19 = .ok (.aload_n 0, 1) := by decide +kernel
theorem dN_init_20 : decode cN_init 20 = .ok (.iconst (-1), 1) := by decide +kernel
theorem dN_init_21 : decode cN_init 21 = .ok (.putfield 22, 3) := by decide +kernel
theorem dN_init_24 : decode cN_init 24 = .ok (.return_, 1) := by decide +kernel
theorem dN_hasMode_0 : decode cN_hasMode 0 = .ok (.aload_n 0, 1) := by decide +kernel
theorem dN_hasMode_1 : decode cN_hasMode 1 = .ok (.getfield 15, 3) := by decide +kernel
theorem dN_hasMode_4 : decode cN_hasMode 4 = .ok (.iconst (-1), 1) := by decide +kernel
theorem dN_hasMode_5 : decode cN_hasMode 5 = .ok (.if_icmp .eq 7, 3) := by decide +kernel
theorem dN_hasMode_8 : decode cN_hasMode 8 = .ok (.iconst 1, 1) := by decide +kernel
theorem dN_hasMode_9 : decode cN_hasMode 9 = .ok (.goto 4, 3) := by decide +kernel
theorem dN_hasMode_12 : decode cN_hasMode 12 = .ok (.iconst 0, 1) := by decide +kernel
theorem dN_hasMode_13 : decode cN_hasMode 13 = .ok (.ireturn, 1) := by decide +kernel
theorem dN_setMode_0 : decode cN_setMode 0 = .ok (.aload_n 0, 1) := by decide +kernel
theorem dN_setMode_1 : decode cN_setMode 1 = .ok (.iload_n 1, 1) := by decide +kernel
theorem dN_setMode_2 : decode cN_setMode 2 = .ok (.putfield 25, 3) := by decide +kernel
theorem dN_setMode_5 : decode cN_setMode 5 = .ok (.aload_n 0, 1) := by decide +kernel
theorem dN_setMode_6 : decode cN_setMode 6 = .ok (.iload_n 2, 1) := by decide +kernel
theorem dN_setMode_7 : decode cN_setMode 7 = .ok (.iconst 5, 1) := by decide +kernel
theorem dN_setMode_8 : decode cN_setMode 8 = .ok (.if_icmp .le 9, 3) := by decide +kernel
theorem dN_setMode_11 : decode cN_setMode 11 = .ok (.iload_n 2, 1) := by decide +kernel
theorem dN_setMode_12 : decode cN_setMode 12 = .ok (.iconst 4, 1) := by decide +kernel
theorem dN_setMode_13 : decode cN_setMode 13 = .ok (.isub, 1) := by decide +kernel
theorem dN_setMode_14 : decode cN_setMode 14 = .ok (.goto 4, 3) := by decide +kernel
theorem dN_setMode_17 : decode cN_setMode 17 = .ok (.iload_n 2, 1) := by decide +kernel
theorem dN_setMode_18 : decode cN_setMode 18 = .ok (.putfield 15, 3) := by decide +kernel
theorem dN_setMode_21 : decode cN_setMode 21 = .ok (.aload_n 0, 1) := by decide +kernel
theorem dN_setMode_22 : decode cN_setMode 22 = .ok (.iconst 0, 1) := by decide +kernel
theorem dN_setMode_23 : decode cN_setMode 23 = .ok (.putfield 28, 3) := by decide +kernel
theorem dN_setMode_26 : decode cN_setMode 26 = .ok (.aload_n 0, 1) := by decide +kernel
theorem dN_setMode_27 : decode cN_setMode 27 = .ok (.iconst 0, 1) := by decide +kernel
theorem dN_setMode_28 : decode cN_setMode 28 = .ok (.putfield 31, 3) := by decide +kernel
theorem dN_setMode_31 : decode cN_setMode 31 = .ok (.aload_n 0, 1) := by decide +kernel
theorem dN_setMode_32 : decode cN_setMode 32 = .ok (.iconst 0, 1) := by decide +kernel
theorem dN_setMode_33 : decode cN_setMode 33 = .ok (.putfield 34, 3) := by decide +kernel
theorem dN_setMode_36 : decode cN_setMode 36 = .ok (.aload_n 0, 1) := by decide +kernel
theorem dN_setMode_37 : decode cN_setMode 37 = .ok (.iconst 1, 1) := by decide +kernel
theorem dN_setMode_38 : decode cN_setMode 38 = .ok (.putfield 37, 3) := by decide +kernel
theorem dN_setMode_41 : decode cN_setMode 41 = .ok (.aload_n 0, 1) := by decide +kernel
theorem dN_setMode_42 : decode cN_setMode 42 = .ok (.iconst 0, 1) := by decide +kernel
theorem dN_setMode_43 : decode cN_setMode 43 = .ok (.putfield 40, 3) := by decide +kernel
theorem dN_setMode_46 : decode cN_setMode 46 = .ok (.aload_n 0, 1) := by decide +kernel
theorem dN_setMode_47 : decode cN_setMode 47 = .ok (.iconst 0, 1) := by decide +kernel
theorem dN_setMode_48 : decode cN_setMode 48 = .ok (.putfield 43, 3) := by decide +kernel
theorem dN_setMode_51 : decode cN_setMode 51 = .ok (.aload_n 0, 1) := by decide +kernel
theorem dN_setMode_52 : decode cN_setMode 52 = .ok (.iconst (-1), 1) := by decide +kernel
theorem dN_setMode_53 : decode cN_setMode 53 = .ok (.putfield 19, 3) := by decide +kernel
theorem dN_setMode_56 : decode cN_setMode 56 = .ok (.aload_n 0, 1) := by decide +kernel
theorem dN_setMode_57 : decode cN_setMode 57 = .ok (.iconst (-1), 1) := by decide +kernel
theorem dN_setMode_58 : decode cN_setMode 58 = .ok (.putfield 22, 3) := by decide +kernel
theorem dN_setMode_61 : decode cN_setMode 61 = .ok (.aload_n 0, 1) := by decide +kernel
theorem dN_setMode_62 : decode cN_setMode 62 = .ok (.aload_n 0, 1) := by decide +kernel
theorem dN_setMode_63 : decode cN_setMode 63 = .ok (.getfield 15, 3) := by decide +kernel
theorem dN_setMode_66 : decode cN_setMode 66 = .ok (.ifCond .eq 7, 3) := by decide +kernel
theorem dN_setMode_69 : decode cN_setMode 69 = .ok (.iconst 1, 1) := by decide +kernel
theorem dN_setMode_70 : decode cN_setMode 70 = .ok (.goto 4, 3) := by decide +kernel
theorem dN_setMode_73 : decode cN_setMode 73 = .ok (.iconst 0, 1) := by decide +kernel
theorem dN_setMode_74 : decode cN_setMode 74 = .ok (.putfield 46, 3) := by decide +kernel
theorem dN_setMode_77 : decode cN_setMode 77 = .ok (.return_, 1) := by decide +kernel
theorem dN_latchCount_0 : decode cN_latchCount 0 = .ok (.aload_n 0, 1) := by decide +kernel
theorem dN_latchCount_1 : decode cN_latchCount 1 = .ok (.invokevirtual 49, 3) := by decide +kernel
theorem dN_latchCount_4 : decode cN_latchCount 4 = .ok (.ifCond .eq 19, 3) := by decide +kernel
theorem dN_latchCount_7 : decode cN_latchCount 7 = .ok (.aload_n 0, 1) := by decide +kernel
theorem dN_latchCount_8 : decode cN_latchCount 8 = .ok (.getfield 19, 3) := by decide +kernel
theorem dN_latchCount_11 : decode cN_latchCount 11 = .ok (.iconst (-1), 1) := by decide +kernel
theorem dN_latchCount_12 : decode cN_latchCount 12 = .ok (.if_icmp .ne 11, 3) := by decide +kernel
theorem dN_latchCount_15 : decode cN_latchCount 15 = .ok (.aload_n 0, 1) := by decide +kernel
theorem dN_latchCount_16 : decode cN_latchCount 16 = .ok (.aload_n 0, 1) := by decide +kernel
theorem dN_latchCount_17 : decode cN_latchCount 17 = .ok (.getfield 53, 3) := by decide +kernel
theorem dN_latchCount_20 : decode cN_latchCount 20 = .ok (.putfield 19, 3) := by decide +kernel
theorem dN_latchCount_23 : decode cN_latchCount 23 = .ok (.return_, 1) := by decide +kernel
theorem dN_latchStatus_0 : decode cN_latchStatus 0 = .ok (.aload_n 0, 1) := by decide +kernel
theorem dN_latchStatus_1 : decode cN_latchStatus 1 = .ok (.invokevirtual 49, 3) := by decide +kernel
theorem dN_latchStatus_4 : decode cN_latchStatus 4 = .ok (.ifCond .eq 52, 3) := by decide +kernel
theorem dN_latchStatus_7 : decode cN_latchStatus 7 = .ok (.aload_n 0, 1) := by decide +kernel
theorem dN_latchStatus_8 : decode cN_latchStatus 8 = .ok (.getfield 22, 3) := by decide +kernel
theorem dN_latchStatus_11 : decode cN_latchStatus 11 = .ok (.iconst (-1), 1) := by decide +kernel
theorem dN_latchStatus_12 : decode cN_latchStatus 12 = .ok (.if_icmp .ne 44, 3) := by decide +kernel
theorem dN_latchStatus_15 : decode cN_latchStatus 15 = .ok (.aload_n 0, 1) := by decide +kernel
theorem dN_latchStatus_16 : decode cN_latchStatus 16 = .ok (.sipush 128, 3) := by decide +kernel
theorem dN_latchStatus_19 : decode cN_latchStatus 19 = .ok (.aload_n 0, 1) := by decide +kernel
theorem dN_latchStatus_20 : decode cN_latchStatus 20 = .ok (.getfield 46, 3) := by decide +kernel
theorem dN_latchStatus_23 : decode cN_latchStatus 23 = .ok (.invokestatic 56, 3) := by decide +kernel
theorem dN_latchStatus_26 : decode cN_latchStatus 26 = .ok (.imul, 1) := by decide +kernel
theorem dN_latchStatus_27 : decode cN_latchStatus 27 = .ok (.bipush 64, 2) := by decide +kernel
theorem dN_latchStatus_29 : decode cN_latchStatus 29 = .ok (.aload_n 0, 1) := by decide +kernel
theorem dN_latchStatus_30 : decode cN_latchStatus 30 = .ok (.getfield 37, 3) := by decide +kernel
theorem dN_latchStatus_33 : decode cN_latchStatus 33 = .ok (.invokestatic 56, 3) := by decide +kernel
theorem dN_latchStatus_36 : decode cN_latchStatus 36 = .ok (.imul, 1) := by decide +kernel
theorem dN_latchStatus_37 : decode cN_latchStatus 37 = .ok (.iadd, 1) := by decide +kernel
theorem dN_latchStatus_38 : decode cN_latchStatus 38 = .ok (.bipush 16, 2) := by decide +kernel
theorem dN_latchStatus_40 : decode cN_latchStatus 40 = .ok (.aload_n 0, 1) := by decide +kernel
theorem dN_latchStatus_41 : decode cN_latchStatus 41 = .ok (.getfield 25, 3) := by decide +kernel
theorem dN_latchStatus_44 : decode cN_latchStatus 44 = .ok (.imul, 1) := by decide +kernel
theorem dN_latchStatus_45 : decode cN_latchStatus 45 = .ok (.iadd, 1) := by decide +kernel
theorem dN_latchStatus_46 : decode cN_latchStatus 46 = .ok (.iconst 2, 1) := by decide +kernel
theorem dN_latchStatus_47 : decode cN_latchStatus 47 = .ok (.aload_n 0, 1) := by decide +kernel
theorem dN_latchStatus_48 : decode cN_latchStatus 48 = .ok (.getfield 15, 3) := by decide +kernel
theorem dN_latchStatus_51 : decode cN_latchStatus 51 = .ok (.imul, 1) := by decide +kernel
theorem dN_latchStatus_52 : decode cN_latchStatus 52 = .ok (.iadd, 1) := by decide +kernel
theorem dN_latchStatus_53 : decode cN_latchStatus 53 = .ok (.putfield 22, 3) := by decide +kernel
theorem dN_latchStatus_56 : decode cN_latchStatus 56 = .ok (.return_, 1) := by decide +kernel
theorem dN_takeByte_0 : decode cN_takeByte 0 = .ok (.aload_n 0, 1) := by decide +kernel
theorem dN_takeByte_1 : decode cN_takeByte 1 = .ok (.getfield 25, 3) := by decide +kernel
theorem dN_takeByte_4 : decode cN_takeByte 4 = .ok (.iconst 1, 1) := by decide +kernel
theorem dN_takeByte_5 : decode cN_takeByte 5 = .ok (.if_icmp .ne 11, 3) := by decide +kernel
theorem dN_takeByte_8 : decode cN_takeByte 8 = .ok (.aload_n 0, 1) := by decide +kernel
theorem dN_takeByte_9 : decode cN_takeByte 9 = .ok (.iload_n 1, 1) := by decide +kernel
theorem dN_takeByte_10 : decode cN_takeByte 10 = .ok (.invokevirtual 60, 3) := by decide +kernel
theorem dN_takeByte_13 : decode cN_takeByte 13 = .ok (.goto 60, 3) := by decide +kernel
theorem dN_takeByte_16 : decode cN_takeByte 16 = .ok (.aload_n 0, 1) := by decide +kernel
theorem dN_takeByte_17 : decode cN_takeByte 17 = .ok (.getfield 25, 3) := by decide +kernel
theorem dN_takeByte_20 : decode cN_takeByte 20 = .ok (.iconst 2, 1) := by decide +kernel
theorem dN_takeByte_21 : decode cN_takeByte 21 = .ok (.if_icmp .ne 14, 3) := by decide +kernel
theorem dN_takeByte_24 : decode cN_takeByte 24 = .ok (.aload_n 0, 1) := by decide +kernel
theorem dN_takeByte_25 : decode cN_takeByte 25 = .ok (.iload_n 1, 1) := by decide +kernel
theorem dN_takeByte_26 : decode cN_takeByte 26 = .ok (.bipush 8, 2) := by decide +kernel
theorem dN_takeByte_28 : decode cN_takeByte 28 = .ok (.ishl, 1) := by decide +kernel
theorem dN_takeByte_29 : decode cN_takeByte 29 = .ok (.invokevirtual 60, 3) := by decide +kernel
theorem dN_takeByte_32 : decode cN_takeByte 32 = .ok (.goto 41, 3) := by decide +kernel
theorem dN_takeByte_35 : decode cN_takeByte 35 = .ok (.aload_n 0, 1) := by decide +kernel
theorem dN_takeByte_36 : decode cN_takeByte 36 = .ok (.getfield 40, 3) := by decide +kernel
theorem dN_takeByte_39 : decode cN_takeByte 39 = .ok (.ifCond .eq 24, 3) := by decide +kernel
theorem dN_takeByte_42 : decode cN_takeByte 42 = .ok (.aload_n 0, 1) := by decide +kernel
theorem dN_takeByte_43 : decode cN_takeByte 43 = .ok (.iconst 0, 1) := by decide +kernel
theorem dN_takeByte_44 : decode cN_takeByte 44 = .ok (.putfield 40, 3) := by decide +kernel
theorem dN_takeByte_47 : decode cN_takeByte 47 = .ok (.aload_n 0, 1) := by decide +kernel
theorem dN_takeByte_48 : decode cN_takeByte 48 = .ok (.iload_n 1, 1) := by decide +kernel
theorem dN_takeByte_49 : decode cN_takeByte 49 = .ok (.bipush 8, 2) := by decide +kernel
theorem dN_takeByte_51 : decode cN_takeByte 51 = .ok (.ishl, 1) := by decide +kernel
theorem dN_takeByte_52 : decode cN_takeByte 52 = .ok (.aload_n 0, 1) := by decide +kernel
theorem dN_takeByte_53 : decode cN_takeByte 53 = .ok (.getfield 64, 3) := by decide +kernel
theorem dN_takeByte_56 : decode cN_takeByte 56 = .ok (.ior, 1) := by decide +kernel
theorem dN_takeByte_57 : decode cN_takeByte 57 = .ok (.invokevirtual 60, 3) := by decide +kernel
theorem dN_takeByte_60 : decode cN_takeByte 60 = .ok (.goto 13, 3) := by decide +kernel
theorem dN_takeByte_63 : decode cN_takeByte 63 = .ok (.aload_n 0, 1) := by decide +kernel
theorem dN_takeByte_64 : decode cN_takeByte 64 = .ok (.iconst 1, 1) := by decide +kernel
theorem dN_takeByte_65 : decode cN_takeByte 65 = .ok (.putfield 40, 3) := by decide +kernel
theorem dN_takeByte_68 : decode cN_takeByte 68 = .ok (.aload_n 0, 1) := by decide +kernel
theorem dN_takeByte_69 : decode cN_takeByte 69 = .ok (.iload_n 1, 1) := by decide +kernel
theorem dN_takeByte_70 : decode cN_takeByte 70 = .ok (.putfield 64, 3) := by decide +kernel
theorem dN_takeByte_73 : decode cN_takeByte 73 = .ok (.return_, 1) := by decide +kernel
theorem dN_giveByte_0 : decode cN_giveByte 0 = .ok (.aload_n 0, 1) := by decide +kernel
theorem dN_giveByte_1 : decode cN_giveByte 1 = .ok (.getfield 22, 3) := by decide +kernel
theorem dN_giveByte_4 : decode cN_giveByte 4 = .ok (.iconst (-1), 1) := by decide +kernel
theorem dN_giveByte_5 : decode cN_giveByte 5 = .ok (.if_icmp .eq 15, 3) := by decide +kernel
theorem dN_giveByte_8 : decode cN_giveByte 8 = .ok (.aload_n 0, 1) := by decide +kernel
theorem dN_giveByte_9 : decode cN_giveByte 9 = .ok (.getfield 22, 3) := by decide +kernel
theorem dN_giveByte_12 : decode cN_giveByte 12 = .ok (.istore_n 1, 1) := by decide +kernel
theorem dN_giveByte_13 : decode cN_giveByte 13 = .ok (.aload_n 0, 1) := by decide +kernel
theorem dN_giveByte_14 : decode cN_giveByte 14 = .ok (.iconst (-1), 1) := by decide +kernel
theorem dN_giveByte_15 : decode cN_giveByte 15 = .ok (.putfield 22, 3) := by decide +kernel
theorem dN_giveByte_18 : decode cN_giveByte 18 = .ok (.iload_n 1, 1) := by decide +kernel
theorem dN_giveByte_19 : decode cN_giveByte 19 = .ok (.ireturn, 1) := by decide +kernel
theorem dN_giveByte_20 : decode cN_giveByte 20 = .ok (.aload_n 0, 1) := by decide +kernel
theorem dN_giveByte_21 : decode cN_giveByte 21 = .ok (.getfield 19, 3) := by decide +kernel
theorem dN_giveByte_24 : decode cN_giveByte 24 = .ok (.iconst (-1), 1) := by decide +kernel
theorem dN_giveByte_25 : decode cN_giveByte 25 = .ok (.if_icmp .eq 10, 3) := by decide +kernel
theorem dN_giveByte_28 : decode cN_giveByte 28 = .ok (.aload_n 0, 1) := by decide +kernel
theorem dN_giveByte_29 : decode cN_giveByte 29 = .ok (.getfield 19, 3) := by decide +kernel
theorem dN_giveByte_32 : decode cN_giveByte 32 = .ok (.goto 7, 3) := by decide +kernel
theorem dN_giveByte_35 : decode cN_giveByte 35 = .ok (.aload_n 0, 1) := by decide +kernel
theorem dN_giveByte_36 : decode cN_giveByte 36 = .ok (.getfield 53, 3) := by decide +kernel
theorem dN_giveByte_39 : decode cN_giveByte 39 = .ok (.istore_n 1, 1) := by decide +kernel
theorem dN_giveByte_40 : decode cN_giveByte 40 = .ok (.aload_n 0, 1) := by decide +kernel
theorem dN_giveByte_41 : decode cN_giveByte 41 = .ok (.getfield 25, 3) := by decide +kernel
theorem dN_giveByte_44 : decode cN_giveByte 44 = .ok (.iconst 2, 1) := by decide +kernel
theorem dN_giveByte_45 : decode cN_giveByte 45 = .ok (.if_icmp .eq 10, 3) := by decide +kernel
theorem dN_giveByte_48 : decode cN_giveByte 48 = .ok (.aload_n 0, 1) := by decide +kernel
theorem dN_giveByte_49 : decode cN_giveByte 49 = .ok (.getfield 43, 3) := by decide +kernel
theorem dN_giveByte_52 : decode cN_giveByte 52 = .ok (.ifCond .eq 7, 3) := by decide +kernel
theorem dN_giveByte_55 : decode cN_giveByte 55 = .ok (.iconst 1, 1) := by decide +kernel
theorem dN_giveByte_56 : decode cN_giveByte 56 = .ok (.goto 4, 3) := by decide +kernel
theorem dN_giveByte_59 : decode cN_giveByte 59 = .ok (.iconst 0, 1) := by decide +kernel
theorem dN_giveByte_60 : decode cN_giveByte 60 = .ok (.istore_n 2, 1) := by decide +kernel
theorem dN_giveByte_61 : decode cN_giveByte 61 = .ok (.aload_n 0, 1) := by decide +kernel
theorem dN_giveByte_62 : decode cN_giveByte 62 = .ok (.getfield 25, 3) := by decide +kernel
theorem dN_giveByte_65 : decode cN_giveByte 65 = .ok (.iconst 3, 1) := by decide +kernel
theorem dN_giveByte_66 : decode cN_giveByte 66 = .ok (.if_icmp .ne 16, 3) := by decide +kernel
theorem dN_giveByte_69 : decode cN_giveByte 69 = .ok (.aload_n 0, 1) := by decide +kernel
theorem dN_giveByte_70 : decode cN_giveByte 70 = .ok (.iload_n 2, 1) := by decide +kernel
theorem dN_giveByte_71 : decode cN_giveByte 71 = .ok (.ifCond .ne 7, 3) := by decide +kernel
theorem dN_giveByte_74 : decode cN_giveByte 74 = .ok (.iconst 1, 1) := by decide +kernel
theorem dN_giveByte_75 : decode cN_giveByte 75 = .ok (.goto 4, 3) := by decide +kernel
theorem dN_giveByte_78 : decode cN_giveByte 78 = .ok (.iconst 0, 1) := by decide +kernel
theorem dN_giveByte_79 : decode cN_giveByte 79 = .ok (.putfield 43, 3) := by decide +kernel
theorem dN_giveByte_82 : decode cN_giveByte 82 = .ok (.iload_n 2, 1) := by decide +kernel
theorem dN_giveByte_83 : decode cN_giveByte 83 = .ok (.ifCond .ne 11, 3) := by decide +kernel
theorem dN_giveByte_86 : decode cN_giveByte 86 = .ok (.aload_n 0, 1) := by decide +kernel
theorem dN_giveByte_87 : decode cN_giveByte 87 = .ok (.getfield 25, 3) := by decide +kernel
theorem dN_giveByte_90 : decode cN_giveByte 90 = .ok (.iconst 1, 1) := by decide +kernel
theorem dN_giveByte_91 : decode cN_giveByte 91 = .ok (.if_icmp .ne 8, 3) := by decide +kernel
theorem dN_giveByte_94 : decode cN_giveByte 94 = .ok (.aload_n 0, 1) := by decide +kernel
theorem dN_giveByte_95 : decode cN_giveByte 95 = .ok (.iconst (-1), 1) := by decide +kernel
theorem dN_giveByte_96 : decode cN_giveByte 96 = .ok (.putfield 19, 3) := by decide +kernel
theorem dN_giveByte_99 : decode cN_giveByte 99 = .ok (.iload_n 2, 1) := by decide +kernel
theorem dN_giveByte_100 : decode cN_giveByte 100 = .ok (.ifCond .eq 10, 3) := by decide +kernel
theorem dN_giveByte_103 : decode cN_giveByte 103 = .ok (.iload_n 1, 1) := by decide +kernel
theorem dN_giveByte_104 : decode cN_giveByte 104 = .ok (.bipush 8, 2) := by decide +kernel
theorem dN_giveByte_106 : decode cN_giveByte 106 = .ok (.ishr, 1) := by decide +kernel
theorem dN_giveByte_107 : decode cN_giveByte 107 = .ok (.goto 8, 3) := by decide +kernel
theorem dN_giveByte_110 : decode cN_giveByte 110 = .ok (.iload_n 1, 1) := by decide +kernel
theorem dN_giveByte_111 : decode cN_giveByte 111 = .ok (.sipush 255, 3) := by decide +kernel
theorem dN_giveByte_114 : decode cN_giveByte 114 = .ok (.iand, 1) := by decide +kernel
theorem dN_giveByte_115 : decode cN_giveByte 115 = .ok (.ireturn, 1) := by decide +kernel
theorem dN_setGate_0 : decode cN_setGate 0 = .ok (.iload_n 1, 1) := by decide +kernel
theorem dN_setGate_1 : decode cN_setGate 1 = .ok (.ifCond .eq 14, 3) := by decide +kernel
theorem dN_setGate_4 : decode cN_setGate 4 = .ok (.aload_n 0, 1) := by decide +kernel
theorem dN_setGate_5 : decode cN_setGate 5 = .ok (.getfield 9, 3) := by decide +kernel
theorem dN_setGate_8 : decode cN_setGate 8 = .ok (.ifCond .ne 7, 3) := by decide +kernel
theorem dN_setGate_11 : decode cN_setGate 11 = .ok (.iconst 1, 1) := by decide +kernel
theorem dN_setGate_12 : decode cN_setGate 12 = .ok (.goto 4, 3) := by decide +kernel
theorem dN_setGate_15 : decode cN_setGate 15 = .ok (.iconst 0, 1) := by decide +kernel
theorem dN_setGate_16 : decode cN_setGate 16 = .ok (.istore_n 2, 1) := by decide +kernel
theorem dN_setGate_17 : decode cN_setGate 17 = .ok (.iload_n 1, 1) := by decide +kernel
theorem dN_setGate_18 : decode cN_setGate 18 = .ok (.ifCond .ne 14, 3) := by decide +kernel
theorem dN_setGate_21 : decode cN_setGate 21 = .ok (.aload_n 0, 1) := by decide +kernel
theorem dN_setGate_22 : decode cN_setGate 22 = .ok (.getfield 9, 3) := by decide +kernel
theorem dN_setGate_25 : decode cN_setGate 25 = .ok (.ifCond .eq 7, 3) := by decide +kernel
theorem dN_setGate_28 : decode cN_setGate 28 = .ok (.iconst 1, 1) := by decide +kernel
theorem dN_setGate_29 : decode cN_setGate 29 = .ok (.goto 4, 3) := by decide +kernel
theorem dN_setGate_32 : decode cN_setGate 32 = .ok (.iconst 0, 1) := by decide +kernel
theorem dN_setGate_33 : decode cN_setGate 33 = .ok (.istore_n 3, 1) := by decide +kernel
theorem dN_setGate_34 : decode cN_setGate 34 = .ok (.aload_n 0, 1) := by decide +kernel
theorem dN_setGate_35 : decode cN_setGate 35 = .ok (.iload_n 1, 1) := by decide +kernel
theorem dN_setGate_36 : decode cN_setGate 36 = .ok (.putfield 9, 3) := by decide +kernel
theorem dN_setGate_39 : decode cN_setGate 39 = .ok (.iload_n 2, 1) := by decide +kernel
theorem dN_setGate_40 : decode cN_setGate 40 = .ok (.ifCond .eq 22, 3) := by decide +kernel
theorem dN_setGate_43 : decode cN_setGate 43 = .ok (.aload_n 0, 1) := by decide +kernel
theorem dN_setGate_44 : decode cN_setGate 44 = .ok (.invokevirtual 67, 3) := by decide +kernel
theorem dN_setGate_47 : decode cN_setGate 47 = .ok (.ifCond .ne 15, 3) := by decide +kernel
theorem dN_setGate_50 : decode cN_setGate 50 = .ok (.aload_n 0, 1) := by decide +kernel
theorem dN_setGate_51 : decode cN_setGate 51 = .ok (.invokevirtual 70, 3) := by decide +kernel
theorem dN_setGate_54 : decode cN_setGate 54 = .ok (.ifCond .eq 8, 3) := by decide +kernel
theorem dN_setGate_57 : decode cN_setGate 57 = .ok (.aload_n 0, 1) := by decide +kernel
theorem dN_setGate_58 : decode cN_setGate 58 = .ok (.iconst 1, 1) := by decide +kernel
theorem dN_setGate_59 : decode cN_setGate 59 = .ok (.putfield 34, 3) := by decide +kernel
theorem dN_setGate_62 : decode cN_setGate 62 = .ok (.iload_n 3, 1) := by decide +kernel
theorem dN_setGate_63 : decode cN_setGate 63 = .ok (.ifCond .eq 15, 3) := by decide +kernel
theorem dN_setGate_66 : decode cN_setGate 66 = .ok (.aload_n 0, 1) := by decide +kernel
theorem dN_setGate_67 : decode cN_setGate 67 = .ok (.invokevirtual 73, 3) := by decide +kernel
theorem dN_setGate_70 : decode cN_setGate 70 = .ok (.ifCond .eq 8, 3) := by decide +kernel
theorem dN_setGate_73 : decode cN_setGate 73 = .ok (.aload_n 0, 1) := by decide +kernel
theorem dN_setGate_74 : decode cN_setGate 74 = .ok (.iconst 1, 1) := by decide +kernel
theorem dN_setGate_75 : decode cN_setGate 75 = .ok (.putfield 46, 3) := by decide +kernel
theorem dN_setGate_78 : decode cN_setGate 78 = .ok (.return_, 1) := by decide +kernel
theorem dN_step_0 : decode cN_step 0 = .ok (.aload_n 0, 1) := by decide +kernel
theorem dN_step_1 : decode cN_step 1 = .ok (.invokevirtual 67, 3) := by decide +kernel
theorem dN_step_4 : decode cN_step 4 = .ok (.ifCond .ne 10, 3) := by decide +kernel
theorem dN_step_7 : decode cN_step 7 = .ok (.aload_n 0, 1) := by decide +kernel
theorem dN_step_8 : decode cN_step 8 = .ok (.invokevirtual 76, 3) := by decide +kernel
theorem dN_step_11 : decode cN_step 11 = .ok (.ifCond .eq 4, 3) := by decide +kernel
theorem dN_step_14 : decode cN_step 14 = .ok (.return_, 1) := by decide +kernel
theorem dN_step_15 : decode cN_step 15 = .ok (.aload_n 0, 1) := by decide +kernel
theorem dN_step_16 : decode cN_step 16 = .ok (.getfield 34, 3) := by decide +kernel
theorem dN_step_19 : decode cN_step 19 = .ok (.ifCond .eq 10, 3) := by decide +kernel
theorem dN_step_22 : decode cN_step 22 = .ok (.aload_n 0, 1) := by decide +kernel
theorem dN_step_23 : decode cN_step 23 = .ok (.invokevirtual 79, 3) := by decide +kernel
theorem dN_step_26 : decode cN_step 26 = .ok (.goto 28, 3) := by decide +kernel
theorem dN_step_29 : decode cN_step 29 = .ok (.aload_n 0, 1) := by decide +kernel
theorem dN_step_30 : decode cN_step 30 = .ok (.getfield 31, 3) := by decide +kernel
theorem dN_step_33 : decode cN_step 33 = .ok (.ifCond .eq 21, 3) := by decide +kernel
theorem dN_step_36 : decode cN_step 36 = .ok (.aload_n 0, 1) := by decide +kernel
theorem dN_step_37 : decode cN_step 37 = .ok (.getfield 9, 3) := by decide +kernel
theorem dN_step_40 : decode cN_step 40 = .ok (.ifCond .ne 10, 3) := by decide +kernel
theorem dN_step_43 : decode cN_step 43 = .ok (.aload_n 0, 1) := by decide +kernel
theorem dN_step_44 : decode cN_step 44 = .ok (.invokevirtual 82, 3) := by decide +kernel
theorem dN_step_47 : decode cN_step 47 = .ok (.ifCond .ne 7, 3) := by decide +kernel
theorem dN_step_50 : decode cN_step 50 = .ok (.aload_n 0, 1) := by decide +kernel
theorem dN_step_51 : decode cN_step 51 = .ok (.invokevirtual 85, 3) := by decide +kernel
theorem dN_step_54 : decode cN_step 54 = .ok (.return_, 1) := by decide +kernel
theorem dN_tell_0 : decode cN_tell 0 = .ok (.iload_n 1, 1) := by decide +kernel
theorem dN_tell_1 : decode cN_tell 1 = .ok (.tableswitch 90 0 6 #[43, 48, 56, 64, 69, 74, 82], 43) := by decide +kernel
theorem dN_tell_44 : decode cN_tell 44 = .ok (.aload_n 0, 1) := by decide +kernel
theorem dN_tell_45 : decode cN_tell 45 = .ok (.getfield 53, 3) := by decide +kernel
theorem dN_tell_48 : decode cN_tell 48 = .ok (.ireturn, 1) := by decide +kernel
theorem dN_tell_49 : decode cN_tell 49 = .ok (.aload_n 0, 1) := by decide +kernel
theorem dN_tell_50 : decode cN_tell 50 = .ok (.getfield 46, 3) := by decide +kernel
theorem dN_tell_53 : decode cN_tell 53 = .ok (.invokestatic 56, 3) := by decide +kernel
theorem dN_tell_56 : decode cN_tell 56 = .ok (.ireturn, 1) := by decide +kernel
theorem dN_tell_57 : decode cN_tell 57 = .ok (.aload_n 0, 1) := by decide +kernel
theorem dN_tell_58 : decode cN_tell 58 = .ok (.getfield 9, 3) := by decide +kernel
theorem dN_tell_61 : decode cN_tell 61 = .ok (.invokestatic 56, 3) := by decide +kernel
theorem dN_tell_64 : decode cN_tell 64 = .ok (.ireturn, 1) := by decide +kernel
theorem dN_tell_65 : decode cN_tell 65 = .ok (.aload_n 0, 1) := by decide +kernel
theorem dN_tell_66 : decode cN_tell 66 = .ok (.getfield 15, 3) := by decide +kernel
theorem dN_tell_69 : decode cN_tell 69 = .ok (.ireturn, 1) := by decide +kernel
theorem dN_tell_70 : decode cN_tell 70 = .ok (.aload_n 0, 1) := by decide +kernel
theorem dN_tell_71 : decode cN_tell 71 = .ok (.getfield 28, 3) := by decide +kernel
theorem dN_tell_74 : decode cN_tell 74 = .ok (.ireturn, 1) := by decide +kernel
theorem dN_tell_75 : decode cN_tell 75 = .ok (.aload_n 0, 1) := by decide +kernel
theorem dN_tell_76 : decode cN_tell 76 = .ok (.getfield 31, 3) := by decide +kernel
theorem dN_tell_79 : decode cN_tell 79 = .ok (.invokestatic 56, 3) := by decide +kernel
theorem dN_tell_82 : decode cN_tell 82 = .ok (.ireturn, 1) := by decide +kernel
theorem dN_tell_83 : decode cN_tell 83 = .ok (.aload_n 0, 1) := by decide +kernel
theorem dN_tell_84 : decode cN_tell 84 = .ok (.getfield 34, 3) := by decide +kernel
theorem dN_tell_87 : decode cN_tell 87 = .ok (.invokestatic 56, 3) := by decide +kernel
theorem dN_tell_90 : decode cN_tell 90 = .ok (.ireturn, 1) := by decide +kernel
theorem dN_tell_91 : decode cN_tell 91 = .ok (.iconst (-1), 1) := by decide +kernel
theorem dN_tell_92 : decode cN_tell 92 = .ok (.ireturn, 1) := by decide +kernel
theorem dN_isEmpty_0 : decode cN_isEmpty 0 = .ok (.aload_n 0, 1) := by decide +kernel
theorem dN_isEmpty_1 : decode cN_isEmpty 1 = .ok (.getfield 28, 3) := by decide +kernel
theorem dN_isEmpty_4 : decode cN_isEmpty 4 = .ok (.ifCond .ne 7, 3) := by decide +kernel
theorem dN_isEmpty_7 : decode cN_isEmpty 7 = .ok (.iconst 1, 1) := by decide +kernel
theorem dN_isEmpty_8 : decode cN_isEmpty 8 = .ok (.goto 4, 3) := by decide +kernel
theorem dN_isEmpty_11 : decode cN_isEmpty 11 = .ok (.iconst 0, 1) := by decide +kernel
theorem dN_isEmpty_12 : decode cN_isEmpty 12 = .ok (.ireturn, 1) := by decide +kernel
theorem dN_standsBetweenBytes_0 : decode cN_standsBetweenBytes 0 = .ok (.aload_n 0, 1) := by decide +kernel
theorem dN_standsBetweenBytes_1 : decode cN_standsBetweenBytes 1 = .ok (.getfield 15, 3) := by decide +kernel
theorem dN_standsBetweenBytes_4 : decode cN_standsBetweenBytes 4 = .ok (.ifCond .ne 14, 3) := by decide +kernel
theorem dN_standsBetweenBytes_7 : decode cN_standsBetweenBytes 7 = .ok (.aload_n 0, 1) := by decide +kernel
theorem dN_standsBetweenBytes_8 : decode cN_standsBetweenBytes 8 = .ok (.getfield 40, 3) := by decide +kernel
theorem dN_standsBetweenBytes_11 : decode cN_standsBetweenBytes 11 = .ok (.ifCond .eq 7, 3) := by decide +kernel
theorem dN_standsBetweenBytes_14 : decode cN_standsBetweenBytes 14 = .ok (.iconst 1, 1) := by decide +kernel
theorem dN_standsBetweenBytes_15 : decode cN_standsBetweenBytes 15 = .ok (.goto 4, 3) := by decide +kernel
theorem dN_standsBetweenBytes_18 : decode cN_standsBetweenBytes 18 = .ok (.iconst 0, 1) := by decide +kernel
theorem dN_standsBetweenBytes_19 : decode cN_standsBetweenBytes 19 = .ok (.ireturn, 1) := by decide +kernel
theorem dN_isPeriodic_0 : decode cN_isPeriodic 0 = .ok (.aload_n 0, 1) := by decide +kernel
theorem dN_isPeriodic_1 : decode cN_isPeriodic 1 = .ok (.getfield 15, 3) := by decide +kernel
theorem dN_isPeriodic_4 : decode cN_isPeriodic 4 = .ok (.iconst 2, 1) := by decide +kernel
theorem dN_isPeriodic_5 : decode cN_isPeriodic 5 = .ok (.if_icmp .eq 11, 3) := by decide +kernel
theorem dN_isPeriodic_8 : decode cN_isPeriodic 8 = .ok (.aload_n 0, 1) := by decide +kernel
theorem dN_isPeriodic_9 : decode cN_isPeriodic 9 = .ok (.getfield 15, 3) := by decide +kernel
theorem dN_isPeriodic_12 : decode cN_isPeriodic 12 = .ok (.iconst 3, 1) := by decide +kernel
theorem dN_isPeriodic_13 : decode cN_isPeriodic 13 = .ok (.if_icmp .ne 7, 3) := by decide +kernel
theorem dN_isPeriodic_16 : decode cN_isPeriodic 16 = .ok (.iconst 1, 1) := by decide +kernel
theorem dN_isPeriodic_17 : decode cN_isPeriodic 17 = .ok (.goto 4, 3) := by decide +kernel
theorem dN_isPeriodic_20 : decode cN_isPeriodic 20 = .ok (.iconst 0, 1) := by decide +kernel
theorem dN_isPeriodic_21 : decode cN_isPeriodic 21 = .ok (.ireturn, 1) := by decide +kernel
theorem dN_gateLoads_0 : decode cN_gateLoads 0 = .ok (.aload_n 0, 1) := by decide +kernel
theorem dN_gateLoads_1 : decode cN_gateLoads 1 = .ok (.getfield 15, 3) := by decide +kernel
theorem dN_gateLoads_4 : decode cN_gateLoads 4 = .ok (.iconst 1, 1) := by decide +kernel
theorem dN_gateLoads_5 : decode cN_gateLoads 5 = .ok (.if_icmp .eq 18, 3) := by decide +kernel
theorem dN_gateLoads_8 : decode cN_gateLoads 8 = .ok (.aload_n 0, 1) := by decide +kernel
theorem dN_gateLoads_9 : decode cN_gateLoads 9 = .ok (.getfield 15, 3) := by decide +kernel
theorem dN_gateLoads_12 : decode cN_gateLoads 12 = .ok (.iconst 5, 1) := by decide +kernel
theorem dN_gateLoads_13 : decode cN_gateLoads 13 = .ok (.if_icmp .eq 10, 3) := by decide +kernel
theorem dN_gateLoads_16 : decode cN_gateLoads 16 = .ok (.aload_n 0, 1) := by decide +kernel
theorem dN_gateLoads_17 : decode cN_gateLoads 17 = .ok (.invokevirtual 73, 3) := by decide +kernel
theorem dN_gateLoads_20 : decode cN_gateLoads 20 = .ok (.ifCond .eq 7, 3) := by decide +kernel
theorem dN_gateLoads_23 : decode cN_gateLoads 23 = .ok (.iconst 1, 1) := by decide +kernel
theorem dN_gateLoads_24 : decode cN_gateLoads 24 = .ok (.goto 4, 3) := by decide +kernel
theorem dN_gateLoads_27 : decode cN_gateLoads 27 = .ok (.iconst 0, 1) := by decide +kernel
theorem dN_gateLoads_28 : decode cN_gateLoads 28 = .ok (.ireturn, 1) := by decide +kernel
theorem dN_gateHoldsBack_0 : decode cN_gateHoldsBack 0 = .ok (.aload_n 0, 1) := by decide +kernel
theorem dN_gateHoldsBack_1 : decode cN_gateHoldsBack 1 = .ok (.getfield 15, 3) := by decide +kernel
theorem dN_gateHoldsBack_4 : decode cN_gateHoldsBack 4 = .ok (.iconst 1, 1) := by decide +kernel
theorem dN_gateHoldsBack_5 : decode cN_gateHoldsBack 5 = .ok (.if_icmp .eq 15, 3) := by decide +kernel
theorem dN_gateHoldsBack_8 : decode cN_gateHoldsBack 8 = .ok (.aload_n 0, 1) := by decide +kernel
theorem dN_gateHoldsBack_9 : decode cN_gateHoldsBack 9 = .ok (.getfield 15, 3) := by decide +kernel
theorem dN_gateHoldsBack_12 : decode cN_gateHoldsBack 12 = .ok (.iconst 5, 1) := by decide +kernel
theorem dN_gateHoldsBack_13 : decode cN_gateHoldsBack 13 = .ok (.if_icmp .eq 7, 3) := by decide +kernel
theorem dN_gateHoldsBack_16 : decode cN_gateHoldsBack 16 = .ok (.iconst 1, 1) := by decide +kernel
theorem dN_gateHoldsBack_17 : decode cN_gateHoldsBack 17 = .ok (.goto 4, 3) := by decide +kernel
theorem dN_gateHoldsBack_20 : decode cN_gateHoldsBack 20 = .ok (.iconst 0, 1) := by decide +kernel
theorem dN_gateHoldsBack_21 : decode cN_gateHoldsBack 21 = .ok (.ireturn, 1) := by decide +kernel
theorem dN_takeReload_0 : decode cN_takeReload 0 = .ok (.aload_n 0, 1) := by decide +kernel
theorem dN_takeReload_1 : decode cN_takeReload 1 = .ok (.invokevirtual 67, 3) := by decide +kernel
theorem dN_takeReload_4 : decode cN_takeReload 4 = .ok (.istore_n 2, 1) := by decide +kernel
theorem dN_takeReload_5 : decode cN_takeReload 5 = .ok (.aload_n 0, 1) := by decide +kernel
theorem dN_takeReload_6 : decode cN_takeReload 6 = .ok (.iload_n 1, 1) := by decide +kernel
theorem dN_takeReload_7 : decode cN_takeReload 7 = .ok (.ifCond .ne 8, 3) := by decide +kernel
theorem dN_takeReload_10 : decode cN_takeReload 10 = .ok (.ldc 88, 2) := by decide +kernel
theorem dN_takeReload_12 : decode cN_takeReload 12 = .ok (.goto 4, 3) := by decide +kernel
theorem dN_takeReload_15 : decode cN_takeReload 15 = .ok (.iload_n 1, 1) := by decide +kernel
theorem dN_takeReload_16 : decode cN_takeReload 16 = .ok (.putfield 28, 3) := by decide +kernel
theorem dN_takeReload_19 : decode cN_takeReload 19 = .ok (.aload_n 0, 1) := by decide +kernel
theorem dN_takeReload_20 : decode cN_takeReload 20 = .ok (.iconst 1, 1) := by decide +kernel
theorem dN_takeReload_21 : decode cN_takeReload 21 = .ok (.putfield 37, 3) := by decide +kernel
theorem dN_takeReload_24 : decode cN_takeReload 24 = .ok (.aload_n 0, 1) := by decide +kernel
theorem dN_takeReload_25 : decode cN_takeReload 25 = .ok (.getfield 15, 3) := by decide +kernel
theorem dN_takeReload_28 : decode cN_takeReload 28 = .ok (.ifCond .eq 22, 3) := by decide +kernel
theorem dN_takeReload_31 : decode cN_takeReload 31 = .ok (.aload_n 0, 1) := by decide +kernel
theorem dN_takeReload_32 : decode cN_takeReload 32 = .ok (.getfield 15, 3) := by decide +kernel
theorem dN_takeReload_35 : decode cN_takeReload 35 = .ok (.iconst 4, 1) := by decide +kernel
theorem dN_takeReload_36 : decode cN_takeReload 36 = .ok (.if_icmp .eq 14, 3) := by decide +kernel
theorem dN_takeReload_39 : decode cN_takeReload 39 = .ok (.aload_n 0, 1) := by decide +kernel
theorem dN_takeReload_40 : decode cN_takeReload 40 = .ok (.invokevirtual 73, 3) := by decide +kernel
theorem dN_takeReload_43 : decode cN_takeReload 43 = .ok (.ifCond .eq 12, 3) := by decide +kernel
theorem dN_takeReload_46 : decode cN_takeReload 46 = .ok (.iload_n 2, 1) := by decide +kernel
theorem dN_takeReload_47 : decode cN_takeReload 47 = .ok (.ifCond .eq 8, 3) := by decide +kernel
theorem dN_takeReload_50 : decode cN_takeReload 50 = .ok (.aload_n 0, 1) := by decide +kernel
theorem dN_takeReload_51 : decode cN_takeReload 51 = .ok (.iconst 1, 1) := by decide +kernel
theorem dN_takeReload_52 : decode cN_takeReload 52 = .ok (.putfield 34, 3) := by decide +kernel
theorem dN_takeReload_55 : decode cN_takeReload 55 = .ok (.aload_n 0, 1) := by decide +kernel
theorem dN_takeReload_56 : decode cN_takeReload 56 = .ok (.getfield 15, 3) := by decide +kernel
theorem dN_takeReload_59 : decode cN_takeReload 59 = .ok (.ifCond .ne 8, 3) := by decide +kernel
theorem dN_takeReload_62 : decode cN_takeReload 62 = .ok (.aload_n 0, 1) := by decide +kernel
theorem dN_takeReload_63 : decode cN_takeReload 63 = .ok (.iconst 0, 1) := by decide +kernel
theorem dN_takeReload_64 : decode cN_takeReload 64 = .ok (.putfield 46, 3) := by decide +kernel
theorem dN_takeReload_67 : decode cN_takeReload 67 = .ok (.return_, 1) := by decide +kernel
theorem dN_load_0 : decode cN_load 0 = .ok (.aload_n 0, 1) := by decide +kernel
theorem dN_load_1 : decode cN_load 1 = .ok (.iconst 0, 1) := by decide +kernel
theorem dN_load_2 : decode cN_load 2 = .ok (.putfield 34, 3) := by decide +kernel
theorem dN_load_5 : decode cN_load 5 = .ok (.aload_n 0, 1) := by decide +kernel
theorem dN_load_6 : decode cN_load 6 = .ok (.iconst 1, 1) := by decide +kernel
theorem dN_load_7 : decode cN_load 7 = .ok (.putfield 31, 3) := by decide +kernel
theorem dN_load_10 : decode cN_load 10 = .ok (.aload_n 0, 1) := by decide +kernel
theorem dN_load_11 : decode cN_load 11 = .ok (.getfield 15, 3) := by decide +kernel
theorem dN_load_14 : decode cN_load 14 = .ok (.iconst 1, 1) := by decide +kernel
theorem dN_load_15 : decode cN_load 15 = .ok (.if_icmp .ne 11, 3) := by decide +kernel
theorem dN_load_18 : decode cN_load 18 = .ok (.aload_n 0, 1) := by decide +kernel
theorem dN_load_19 : decode cN_load 19 = .ok (.iconst 0, 1) := by decide +kernel
theorem dN_load_20 : decode cN_load 20 = .ok (.putfield 46, 3) := by decide +kernel
theorem dN_load_23 : decode cN_load 23 = .ok (.goto 15, 3) := by decide +kernel
theorem dN_load_26 : decode cN_load 26 = .ok (.aload_n 0, 1) := by decide +kernel
theorem dN_load_27 : decode cN_load 27 = .ok (.invokevirtual 73, 3) := by decide +kernel
theorem dN_load_30 : decode cN_load 30 = .ok (.ifCond .eq 8, 3) := by decide +kernel
theorem dN_load_33 : decode cN_load 33 = .ok (.aload_n 0, 1) := by decide +kernel
theorem dN_load_34 : decode cN_load 34 = .ok (.iconst 1, 1) := by decide +kernel
theorem dN_load_35 : decode cN_load 35 = .ok (.putfield 46, 3) := by decide +kernel
theorem dN_load_38 : decode cN_load 38 = .ok (.aload_n 0, 1) := by decide +kernel
theorem dN_load_39 : decode cN_load 39 = .ok (.aload_n 0, 1) := by decide +kernel
theorem dN_load_40 : decode cN_load 40 = .ok (.getfield 15, 3) := by decide +kernel
theorem dN_load_43 : decode cN_load 43 = .ok (.iconst 3, 1) := by decide +kernel
theorem dN_load_44 : decode cN_load 44 = .ok (.if_icmp .ne 12, 3) := by decide +kernel
theorem dN_load_47 : decode cN_load 47 = .ok (.iconst 2, 1) := by decide +kernel
theorem dN_load_48 : decode cN_load 48 = .ok (.aload_n 0, 1) := by decide +kernel
theorem dN_load_49 : decode cN_load 49 = .ok (.invokevirtual 89, 3) := by decide +kernel
theorem dN_load_52 : decode cN_load 52 = .ok (.imul, 1) := by decide +kernel
theorem dN_load_53 : decode cN_load 53 = .ok (.goto 7, 3) := by decide +kernel
theorem dN_load_56 : decode cN_load 56 = .ok (.aload_n 0, 1) := by decide +kernel
theorem dN_load_57 : decode cN_load 57 = .ok (.getfield 28, 3) := by decide +kernel
theorem dN_load_60 : decode cN_load 60 = .ok (.invokevirtual 93, 3) := by decide +kernel
theorem dN_load_63 : decode cN_load 63 = .ok (.return_, 1) := by decide +kernel
theorem dN_partTicks_0 : decode cN_partTicks 0 = .ok (.aload_n 0, 1) := by decide +kernel
theorem dN_partTicks_1 : decode cN_partTicks 1 = .ok (.getfield 46, 3) := by decide +kernel
theorem dN_partTicks_4 : decode cN_partTicks 4 = .ok (.ifCond .eq 14, 3) := by decide +kernel
theorem dN_partTicks_7 : decode cN_partTicks 7 = .ok (.aload_n 0, 1) := by decide +kernel
theorem dN_partTicks_8 : decode cN_partTicks 8 = .ok (.getfield 28, 3) := by decide +kernel
theorem dN_partTicks_11 : decode cN_partTicks 11 = .ok (.iconst 1, 1) := by decide +kernel
theorem dN_partTicks_12 : decode cN_partTicks 12 = .ok (.iadd, 1) := by decide +kernel
theorem dN_partTicks_13 : decode cN_partTicks 13 = .ok (.iconst 2, 1) := by decide +kernel
theorem dN_partTicks_14 : decode cN_partTicks 14 = .ok (.idiv, 1) := by decide +kernel
theorem dN_partTicks_15 : decode cN_partTicks 15 = .ok (.goto 9, 3) := by decide +kernel
theorem dN_partTicks_18 : decode cN_partTicks 18 = .ok (.aload_n 0, 1) := by decide +kernel
theorem dN_partTicks_19 : decode cN_partTicks 19 = .ok (.getfield 28, 3) := by decide +kernel
theorem dN_partTicks_22 : decode cN_partTicks 22 = .ok (.iconst 2, 1) := by decide +kernel
theorem dN_partTicks_23 : decode cN_partTicks 23 = .ok (.idiv, 1) := by decide +kernel
theorem dN_partTicks_24 : decode cN_partTicks 24 = .ok (.ireturn, 1) := by decide +kernel
theorem dN_setCount_0 : decode cN_setCount 0 = .ok (.aload_n 0, 1) := by decide +kernel
theorem dN_setCount_1 : decode cN_setCount 1 = .ok (.iload_n 1, 1) := by decide +kernel
theorem dN_setCount_2 : decode cN_setCount 2 = .ok (.ldc 96, 2) := by decide +kernel
theorem dN_setCount_4 : decode cN_setCount 4 = .ok (.iand, 1) := by decide +kernel
theorem dN_setCount_5 : decode cN_setCount 5 = .ok (.putfield 53, 3) := by decide +kernel
theorem dN_setCount_8 : decode cN_setCount 8 = .ok (.aload_n 0, 1) := by decide +kernel
theorem dN_setCount_9 : decode cN_setCount 9 = .ok (.iconst 0, 1) := by decide +kernel
theorem dN_setCount_10 : decode cN_setCount 10 = .ok (.putfield 37, 3) := by decide +kernel
theorem dN_setCount_13 : decode cN_setCount 13 = .ok (.return_, 1) := by decide +kernel
theorem dN_countDown_0 : decode cN_countDown 0 = .ok (.aload_n 0, 1) := by decide +kernel
theorem dN_countDown_1 : decode cN_countDown 1 = .ok (.getfield 15, 3) := by decide +kernel
theorem dN_countDown_4 : decode cN_countDown 4 = .ok (.tableswitch 53 2 5 #[32, 39, 46, 46], 32) := by decide +kernel
theorem dN_countDown_36 : decode cN_countDown 36 = .ok (.aload_n 0, 1) := by decide +kernel
theorem dN_countDown_37 : decode cN_countDown 37 = .ok (.invokevirtual 97, 3) := by decide +kernel
theorem dN_countDown_40 : decode cN_countDown 40 = .ok (.goto 21, 3) := by decide +kernel
theorem dN_countDown_43 : decode cN_countDown 43 = .ok (.aload_n 0, 1) := by decide +kernel
theorem dN_countDown_44 : decode cN_countDown 44 = .ok (.invokevirtual 100, 3) := by decide +kernel
theorem dN_countDown_47 : decode cN_countDown 47 = .ok (.goto 14, 3) := by decide +kernel
theorem dN_countDown_50 : decode cN_countDown 50 = .ok (.aload_n 0, 1) := by decide +kernel
theorem dN_countDown_51 : decode cN_countDown 51 = .ok (.invokevirtual 103, 3) := by decide +kernel
theorem dN_countDown_54 : decode cN_countDown 54 = .ok (.goto 7, 3) := by decide +kernel
theorem dN_countDown_57 : decode cN_countDown 57 = .ok (.aload_n 0, 1) := by decide +kernel
theorem dN_countDown_58 : decode cN_countDown 58 = .ok (.invokevirtual 106, 3) := by decide +kernel
theorem dN_countDown_61 : decode cN_countDown 61 = .ok (.return_, 1) := by decide +kernel
theorem dN_lessen_0 : decode cN_lessen 0 = .ok (.aload_n 0, 1) := by decide +kernel
theorem dN_lessen_1 : decode cN_lessen 1 = .ok (.aload_n 0, 1) := by decide +kernel
theorem dN_lessen_2 : decode cN_lessen 2 = .ok (.getfield 53, 3) := by decide +kernel
theorem dN_lessen_5 : decode cN_lessen 5 = .ok (.iload_n 1, 1) := by decide +kernel
theorem dN_lessen_6 : decode cN_lessen 6 = .ok (.isub, 1) := by decide +kernel
theorem dN_lessen_7 : decode cN_lessen 7 = .ok (.ldc 96, 2) := by decide +kernel
theorem dN_lessen_9 : decode cN_lessen 9 = .ok (.iand, 1) := by decide +kernel
theorem dN_lessen_10 : decode cN_lessen 10 = .ok (.putfield 53, 3) := by decide +kernel
theorem dN_lessen_13 : decode cN_lessen 13 = .ok (.return_, 1) := by decide +kernel
theorem dN_stepOnce_0 : decode cN_stepOnce 0 = .ok (.aload_n 0, 1) := by decide +kernel
theorem dN_stepOnce_1 : decode cN_stepOnce 1 = .ok (.iconst 1, 1) := by decide +kernel
theorem dN_stepOnce_2 : decode cN_stepOnce 2 = .ok (.invokevirtual 109, 3) := by decide +kernel
theorem dN_stepOnce_5 : decode cN_stepOnce 5 = .ok (.aload_n 0, 1) := by decide +kernel
theorem dN_stepOnce_6 : decode cN_stepOnce 6 = .ok (.getfield 53, 3) := by decide +kernel
theorem dN_stepOnce_9 : decode cN_stepOnce 9 = .ok (.ifCond .ne 8, 3) := by decide +kernel
theorem dN_stepOnce_12 : decode cN_stepOnce 12 = .ok (.aload_n 0, 1) := by decide +kernel
theorem dN_stepOnce_13 : decode cN_stepOnce 13 = .ok (.iconst 1, 1) := by decide +kernel
theorem dN_stepOnce_14 : decode cN_stepOnce 14 = .ok (.putfield 46, 3) := by decide +kernel
theorem dN_stepOnce_17 : decode cN_stepOnce 17 = .ok (.return_, 1) := by decide +kernel
theorem dN_stepRate_0 : decode cN_stepRate 0 = .ok (.aload_n 0, 1) := by decide +kernel
theorem dN_stepRate_1 : decode cN_stepRate 1 = .ok (.getfield 53, 3) := by decide +kernel
theorem dN_stepRate_4 : decode cN_stepRate 4 = .ok (.iconst 1, 1) := by decide +kernel
theorem dN_stepRate_5 : decode cN_stepRate 5 = .ok (.if_icmp .ne 19, 3) := by decide +kernel
theorem dN_stepRate_8 : decode cN_stepRate 8 = .ok (.aload_n 0, 1) := by decide +kernel
theorem dN_stepRate_9 : decode cN_stepRate 9 = .ok (.aload_n 0, 1) := by decide +kernel
theorem dN_stepRate_10 : decode cN_stepRate 10 = .ok (.getfield 28, 3) := by decide +kernel
theorem dN_stepRate_13 : decode cN_stepRate 13 = .ok (.invokevirtual 93, 3) := by decide +kernel
theorem dN_stepRate_16 : decode cN_stepRate 16 = .ok (.aload_n 0, 1) := by decide +kernel
theorem dN_stepRate_17 : decode cN_stepRate 17 = .ok (.iconst 1, 1) := by decide +kernel
theorem dN_stepRate_18 : decode cN_stepRate 18 = .ok (.putfield 46, 3) := by decide +kernel
theorem dN_stepRate_21 : decode cN_stepRate 21 = .ok (.goto 8, 3) := by decide +kernel
theorem dN_stepRate_24 : decode cN_stepRate 24 = .ok (.aload_n 0, 1) := by decide +kernel
theorem dN_stepRate_25 : decode cN_stepRate 25 = .ok (.iconst 1, 1) := by decide +kernel
theorem dN_stepRate_26 : decode cN_stepRate 26 = .ok (.invokevirtual 109, 3) := by decide +kernel
theorem dN_stepRate_29 : decode cN_stepRate 29 = .ok (.aload_n 0, 1) := by decide +kernel
theorem dN_stepRate_30 : decode cN_stepRate 30 = .ok (.getfield 53, 3) := by decide +kernel
theorem dN_stepRate_33 : decode cN_stepRate 33 = .ok (.iconst 1, 1) := by decide +kernel
theorem dN_stepRate_34 : decode cN_stepRate 34 = .ok (.if_icmp .ne 8, 3) := by decide +kernel
theorem dN_stepRate_37 : decode cN_stepRate 37 = .ok (.aload_n 0, 1) := by decide +kernel
theorem dN_stepRate_38 : decode cN_stepRate 38 = .ok (.iconst 0, 1) := by decide +kernel
theorem dN_stepRate_39 : decode cN_stepRate 39 = .ok (.putfield 46, 3) := by decide +kernel
theorem dN_stepRate_42 : decode cN_stepRate 42 = .ok (.return_, 1) := by decide +kernel
theorem dN_stepSquare_0 : decode cN_stepSquare 0 = .ok (.aload_n 0, 1) := by decide +kernel
theorem dN_stepSquare_1 : decode cN_stepSquare 1 = .ok (.iconst 2, 1) := by decide +kernel
theorem dN_stepSquare_2 : decode cN_stepSquare 2 = .ok (.invokevirtual 109, 3) := by decide +kernel
theorem dN_stepSquare_5 : decode cN_stepSquare 5 = .ok (.aload_n 0, 1) := by decide +kernel
theorem dN_stepSquare_6 : decode cN_stepSquare 6 = .ok (.getfield 53, 3) := by decide +kernel
theorem dN_stepSquare_9 : decode cN_stepSquare 9 = .ok (.ifCond .ne 52, 3) := by decide +kernel
theorem dN_stepSquare_12 : decode cN_stepSquare 12 = .ok (.aload_n 0, 1) := by decide +kernel
theorem dN_stepSquare_13 : decode cN_stepSquare 13 = .ok (.aload_n 0, 1) := by decide +kernel
theorem dN_stepSquare_14 : decode cN_stepSquare 14 = .ok (.getfield 46, 3) := by decide +kernel
theorem dN_stepSquare_17 : decode cN_stepSquare 17 = .ok (.ifCond .ne 7, 3) := by decide +kernel
theorem dN_stepSquare_20 : decode cN_stepSquare 20 = .ok (.iconst 1, 1) := by decide +kernel
theorem dN_stepSquare_21 : decode cN_stepSquare 21 = .ok (.goto 4, 3) := by decide +kernel
theorem dN_stepSquare_24 : decode cN_stepSquare 24 = .ok (.iconst 0, 1) := by decide +kernel
theorem dN_stepSquare_25 : decode cN_stepSquare 25 = .ok (.putfield 46, 3) := by decide +kernel
theorem dN_stepSquare_28 : decode cN_stepSquare 28 = .ok (.aload_n 0, 1) := by decide +kernel
theorem dN_stepSquare_29 : decode cN_stepSquare 29 = .ok (.invokevirtual 89, 3) := by decide +kernel
theorem dN_stepSquare_32 : decode cN_stepSquare 32 = .ok (.ifCond .ne 19, 3) := by decide +kernel
theorem dN_stepSquare_35 : decode cN_stepSquare 35 = .ok (.aload_n 0, 1) := by decide +kernel
theorem dN_stepSquare_36 : decode cN_stepSquare 36 = .ok (.aload_n 0, 1) := by decide +kernel
theorem dN_stepSquare_37 : decode cN_stepSquare 37 = .ok (.getfield 46, 3) := by decide +kernel
theorem dN_stepSquare_40 : decode cN_stepSquare 40 = .ok (.ifCond .ne 7, 3) := by decide +kernel
theorem dN_stepSquare_43 : decode cN_stepSquare 43 = .ok (.iconst 1, 1) := by decide +kernel
theorem dN_stepSquare_44 : decode cN_stepSquare 44 = .ok (.goto 4, 3) := by decide +kernel
theorem dN_stepSquare_47 : decode cN_stepSquare 47 = .ok (.iconst 0, 1) := by decide +kernel
theorem dN_stepSquare_48 : decode cN_stepSquare 48 = .ok (.putfield 46, 3) := by decide +kernel
theorem dN_stepSquare_51 : decode cN_stepSquare 51 = .ok (.aload_n 0, 1) := by decide +kernel
theorem dN_stepSquare_52 : decode cN_stepSquare 52 = .ok (.iconst 2, 1) := by decide +kernel
theorem dN_stepSquare_53 : decode cN_stepSquare 53 = .ok (.aload_n 0, 1) := by decide +kernel
theorem dN_stepSquare_54 : decode cN_stepSquare 54 = .ok (.invokevirtual 89, 3) := by decide +kernel
theorem dN_stepSquare_57 : decode cN_stepSquare 57 = .ok (.imul, 1) := by decide +kernel
theorem dN_stepSquare_58 : decode cN_stepSquare 58 = .ok (.invokevirtual 93, 3) := by decide +kernel
theorem dN_stepSquare_61 : decode cN_stepSquare 61 = .ok (.return_, 1) := by decide +kernel
theorem dN_stepStrobe_0 : decode cN_stepStrobe 0 = .ok (.aload_n 0, 1) := by decide +kernel
theorem dN_stepStrobe_1 : decode cN_stepStrobe 1 = .ok (.iconst 1, 1) := by decide +kernel
theorem dN_stepStrobe_2 : decode cN_stepStrobe 2 = .ok (.invokevirtual 109, 3) := by decide +kernel
theorem dN_stepStrobe_5 : decode cN_stepStrobe 5 = .ok (.aload_n 0, 1) := by decide +kernel
theorem dN_stepStrobe_6 : decode cN_stepStrobe 6 = .ok (.aload_n 0, 1) := by decide +kernel
theorem dN_stepStrobe_7 : decode cN_stepStrobe 7 = .ok (.getfield 53, 3) := by decide +kernel
theorem dN_stepStrobe_10 : decode cN_stepStrobe 10 = .ok (.ifCond .eq 7, 3) := by decide +kernel
theorem dN_stepStrobe_13 : decode cN_stepStrobe 13 = .ok (.iconst 1, 1) := by decide +kernel
theorem dN_stepStrobe_14 : decode cN_stepStrobe 14 = .ok (.goto 4, 3) := by decide +kernel
theorem dN_stepStrobe_17 : decode cN_stepStrobe 17 = .ok (.iconst 0, 1) := by decide +kernel
theorem dN_stepStrobe_18 : decode cN_stepStrobe 18 = .ok (.putfield 46, 3) := by decide +kernel
theorem dN_stepStrobe_21 : decode cN_stepStrobe 21 = .ok (.return_, 1) := by decide +kernel
theorem dC_init_0 : decode cC_init 0 = .ok (.aload_n 0, 1) := by decide +kernel
theorem dC_init_1 : decode cC_init 1 = .ok (.invokespecial 3, 3) := by decide +kernel
theorem dC_init_4 : decode cC_init 4 = .ok (.aload_n 0, 1) := by decide +kernel
theorem dC_init_5 : decode cC_init 5 = .ok (.iload_n 1, 1) := by decide +kernel
theorem dC_init_6 : decode cC_init 6 = .ok (.putfield 9, 3) := by decide +kernel
theorem dC_init_9 : decode cC_init 9 = .ok (.aload_n 0, 1) := by decide +kernel
theorem dC_init_10 : decode cC_init 10 = .ok (.bipush 7, 2) := by decide +kernel
theorem dC_init_12 : decode cC_init 12 = .ok (.putfield 15, 3) := by decide +kernel
theorem dC_init_15 : decode cC_init 15 = .ok (.return_, 1) := by decide +kernel
theorem dC_setLine_0 : decode cC_setLine 0 = .ok (.iconst 1, 1) := by decide +kernel
theorem dC_setLine_1 : decode cC_setLine 1 = .ok (.iload_n 1, 1) := by decide +kernel
theorem dC_setLine_2 : decode cC_setLine 2 = .ok (.ishl, 1) := by decide +kernel
theorem dC_setLine_3 : decode cC_setLine 3 = .ok (.istore_n 3, 1) := by decide +kernel
theorem dC_setLine_4 : decode cC_setLine 4 = .ok (.iload_n 2, 1) := by decide +kernel
theorem dC_setLine_5 : decode cC_setLine 5 = .ok (.ifCond .eq 33, 3) := by decide +kernel
theorem dC_setLine_8 : decode cC_setLine 8 = .ok (.aload_n 0, 1) := by decide +kernel
theorem dC_setLine_9 : decode cC_setLine 9 = .ok (.dup, 1) := by decide +kernel
theorem dC_setLine_10 : decode cC_setLine 10 = .ok (.getfield 19, 3) := by decide +kernel
theorem dC_setLine_13 : decode cC_setLine 13 = .ok (.iload_n 3, 1) := by decide +kernel
theorem dC_setLine_14 : decode cC_setLine 14 = .ok (.aload_n 0, 1) := by decide +kernel
theorem dC_setLine_15 : decode cC_setLine 15 = .ok (.getfield 22, 3) := by decide +kernel
theorem dC_setLine_18 : decode cC_setLine 18 = .ok (.iconst (-1), 1) := by decide +kernel
theorem dC_setLine_19 : decode cC_setLine 19 = .ok (.ixor, 1) := by decide +kernel
theorem dC_setLine_20 : decode cC_setLine 20 = .ok (.iand, 1) := by decide +kernel
theorem dC_setLine_21 : decode cC_setLine 21 = .ok (.ior, 1) := by decide +kernel
theorem dC_setLine_22 : decode cC_setLine 22 = .ok (.putfield 19, 3) := by decide +kernel
theorem dC_setLine_25 : decode cC_setLine 25 = .ok (.aload_n 0, 1) := by decide +kernel
theorem dC_setLine_26 : decode cC_setLine 26 = .ok (.dup, 1) := by decide +kernel
theorem dC_setLine_27 : decode cC_setLine 27 = .ok (.getfield 22, 3) := by decide +kernel
theorem dC_setLine_30 : decode cC_setLine 30 = .ok (.iload_n 3, 1) := by decide +kernel
theorem dC_setLine_31 : decode cC_setLine 31 = .ok (.ior, 1) := by decide +kernel
theorem dC_setLine_32 : decode cC_setLine 32 = .ok (.putfield 22, 3) := by decide +kernel
theorem dC_setLine_35 : decode cC_setLine 35 = .ok (.goto 15, 3) := by decide +kernel
theorem dC_setLine_38 : decode cC_setLine 38 = .ok (.aload_n 0, 1) := by decide +kernel
theorem dC_setLine_39 : decode cC_setLine 39 = .ok (.dup, 1) := by decide +kernel
theorem dC_setLine_40 : decode cC_setLine 40 = .ok (.getfield 22, 3) := by decide +kernel
theorem dC_setLine_43 : decode cC_setLine 43 = .ok (.iload_n 3, 1) := by decide +kernel
theorem dC_setLine_44 : decode cC_setLine 44 = .ok (.iconst (-1), 1) := by decide +kernel
theorem dC_setLine_45 : decode cC_setLine 45 = .ok (.ixor, 1) := by decide +kernel
theorem dC_setLine_46 : decode cC_setLine 46 = .ok (.iand, 1) := by decide +kernel
theorem dC_setLine_47 : decode cC_setLine 47 = .ok (.putfield 22, 3) := by decide +kernel
theorem dC_setLine_50 : decode cC_setLine 50 = .ok (.return_, 1) := by decide +kernel
theorem dC_chosenLevel_0 : decode cC_chosenLevel 0 = .ok (.aload_n 0, 1) := by decide +kernel
theorem dC_chosenLevel_1 : decode cC_chosenLevel 1 = .ok (.getfield 25, 3) := by decide +kernel
theorem dC_chosenLevel_4 : decode cC_chosenLevel 4 = .ok (.ifCond .ne 5, 3) := by decide +kernel
theorem dC_chosenLevel_7 : decode cC_chosenLevel 7 = .ok (.iconst (-1), 1) := by decide +kernel
theorem dC_chosenLevel_8 : decode cC_chosenLevel 8 = .ok (.ireturn, 1) := by decide +kernel
theorem dC_chosenLevel_9 : decode cC_chosenLevel 9 = .ok (.aload_n 0, 1) := by decide +kernel
theorem dC_chosenLevel_10 : decode cC_chosenLevel 10 = .ok (.invokevirtual 28, 3) := by decide +kernel
theorem dC_chosenLevel_13 : decode cC_chosenLevel 13 = .ok (.aload_n 0, 1) := by decide +kernel
theorem dC_chosenLevel_14 : decode cC_chosenLevel 14 = .ok (.getfield 32, 3) := by decide +kernel
theorem dC_chosenLevel_17 : decode cC_chosenLevel 17 = .ok (.iconst (-1), 1) := by decide +kernel
theorem dC_chosenLevel_18 : decode cC_chosenLevel 18 = .ok (.ixor, 1) := by decide +kernel
theorem dC_chosenLevel_19 : decode cC_chosenLevel 19 = .ok (.iand, 1) := by decide +kernel
theorem dC_chosenLevel_20 : decode cC_chosenLevel 20 = .ok (.istore_n 1, 1) := by decide +kernel
theorem dC_chosenLevel_21 : decode cC_chosenLevel 21 = .ok (.aload_n 0, 1) := by decide +kernel
theorem dC_chosenLevel_22 : decode cC_chosenLevel 22 = .ok (.invokevirtual 35, 3) := by decide +kernel
theorem dC_chosenLevel_25 : decode cC_chosenLevel 25 = .ok (.istore_n 2, 1) := by decide +kernel
theorem dC_chosenLevel_26 : decode cC_chosenLevel 26 = .ok (.iconst 1, 1) := by decide +kernel
theorem dC_chosenLevel_27 : decode cC_chosenLevel 27 = .ok (.istore_n 3, 1) := by decide +kernel
theorem dC_chosenLevel_28 : decode cC_chosenLevel 28 = .ok (.iload_n 3, 1) := by decide +kernel
theorem dC_chosenLevel_29 : decode cC_chosenLevel 29 = .ok (.bipush 8, 2) := by decide +kernel
theorem dC_chosenLevel_31 : decode cC_chosenLevel 31 = .ok (.if_icmp .gt 65, 3) := by decide +kernel
theorem dC_chosenLevel_34 : decode cC_chosenLevel 34 = .ok (.aload_n 0, 1) := by decide +kernel
theorem dC_chosenLevel_35 : decode cC_chosenLevel 35 = .ok (.getfield 15, 3) := by decide +kernel
theorem dC_chosenLevel_38 : decode cC_chosenLevel 38 = .ok (.iload_n 3, 1) := by decide +kernel
theorem dC_chosenLevel_39 : decode cC_chosenLevel 39 = .ok (.iadd, 1) := by decide +kernel
theorem dC_chosenLevel_40 : decode cC_chosenLevel 40 = .ok (.bipush 7, 2) := by decide +kernel
theorem dC_chosenLevel_42 : decode cC_chosenLevel 42 = .ok (.iand, 1) := by decide +kernel
theorem dC_chosenLevel_43 : decode cC_chosenLevel 43 = .ok (.istore 4, 2) := by decide +kernel
theorem dC_chosenLevel_45 : decode cC_chosenLevel 45 = .ok (.iload_n 2, 1) := by decide +kernel
theorem dC_chosenLevel_46 : decode cC_chosenLevel 46 = .ok (.iload 4, 2) := by decide +kernel
theorem dC_chosenLevel_48 : decode cC_chosenLevel 48 = .ok (.invokestatic 38, 3) := by decide +kernel
theorem dC_chosenLevel_51 : decode cC_chosenLevel 51 = .ok (.istore 5, 2) := by decide +kernel
theorem dC_chosenLevel_53 : decode cC_chosenLevel 53 = .ok (.iload_n 1, 1) := by decide +kernel
theorem dC_chosenLevel_54 : decode cC_chosenLevel 54 = .ok (.iload 4, 2) := by decide +kernel
theorem dC_chosenLevel_56 : decode cC_chosenLevel 56 = .ok (.invokestatic 38, 3) := by decide +kernel
theorem dC_chosenLevel_59 : decode cC_chosenLevel 59 = .ok (.ifCond .eq 24, 3) := by decide +kernel
theorem dC_chosenLevel_62 : decode cC_chosenLevel 62 = .ok (.iload 5, 2) := by decide +kernel
theorem dC_chosenLevel_64 : decode cC_chosenLevel 64 = .ok (.ifCond .eq 16, 3) := by decide +kernel
theorem dC_chosenLevel_67 : decode cC_chosenLevel 67 = .ok (.aload_n 0, 1) := by decide +kernel
theorem dC_chosenLevel_68 : decode cC_chosenLevel 68 = .ok (.iload 4, 2) := by decide +kernel
theorem dC_chosenLevel_70 : decode cC_chosenLevel 70 = .ok (.invokevirtual 42, 3) := by decide +kernel
theorem dC_chosenLevel_73 : decode cC_chosenLevel 73 = .ok (.ifCond .ne 7, 3) := by decide +kernel
theorem dC_chosenLevel_76 : decode cC_chosenLevel 76 = .ok (.iconst (-1), 1) := by decide +kernel
theorem dC_chosenLevel_77 : decode cC_chosenLevel 77 = .ok (.goto 5, 3) := by decide +kernel
theorem dC_chosenLevel_80 : decode cC_chosenLevel 80 = .ok (.iload 4, 2) := by decide +kernel
theorem dC_chosenLevel_82 : decode cC_chosenLevel 82 = .ok (.ireturn, 1) := by decide +kernel
theorem dC_chosenLevel_83 : decode cC_chosenLevel 83 = .ok (.iload 5, 2) := by decide +kernel
theorem dC_chosenLevel_85 : decode cC_chosenLevel 85 = .ok (.ifCond .eq 5, 3) := by decide +kernel
theorem dC_chosenLevel_88 : decode cC_chosenLevel 88 = .ok (.iconst (-1), 1) := by decide +kernel
theorem dC_chosenLevel_89 : decode cC_chosenLevel 89 = .ok (.ireturn, 1) := by decide +kernel
theorem dC_chosenLevel_90 : decode cC_chosenLevel 90 = .ok (.iinc 3 1, 3) := by decide +kernel
theorem dC_chosenLevel_93 : decode cC_chosenLevel 93 = .ok (.goto (-65), 3) := by decide +kernel
theorem dC_chosenLevel_96 : decode cC_chosenLevel 96 = .ok (.iconst (-1), 1) := by decide +kernel
theorem dC_chosenLevel_97 : decode cC_chosenLevel 97 = .ok (.ireturn, 1) := by decide +kernel
theorem dC_serveChosen_0 : decode cC_serveChosen 0 = .ok (.aload_n 0, 1) := by decide +kernel
theorem dC_serveChosen_1 : decode cC_serveChosen 1 = .ok (.invokevirtual 46, 3) := by decide +kernel
theorem dC_serveChosen_4 : decode cC_serveChosen 4 = .ok (.istore_n 1, 1) := by decide +kernel
theorem dC_serveChosen_5 : decode cC_serveChosen 5 = .ok (.iload_n 1, 1) := by decide +kernel
theorem dC_serveChosen_6 : decode cC_serveChosen 6 = .ok (.iconst (-1), 1) := by decide +kernel
theorem dC_serveChosen_7 : decode cC_serveChosen 7 = .ok (.if_icmp .eq 8, 3) := by decide +kernel
theorem dC_serveChosen_10 : decode cC_serveChosen 10 = .ok (.aload_n 0, 1) := by decide +kernel
theorem dC_serveChosen_11 : decode cC_serveChosen 11 = .ok (.iload_n 1, 1) := by decide +kernel
theorem dC_serveChosen_12 : decode cC_serveChosen 12 = .ok (.invokevirtual 49, 3) := by decide +kernel
theorem dC_serveChosen_15 : decode cC_serveChosen 15 = .ok (.iload_n 1, 1) := by decide +kernel
theorem dC_serveChosen_16 : decode cC_serveChosen 16 = .ok (.ireturn, 1) := by decide +kernel
theorem dC_vectorOf_0 : decode cC_vectorOf 0 = .ok (.aload_n 0, 1) := by decide +kernel
theorem dC_vectorOf_1 : decode cC_vectorOf 1 = .ok (.getfield 53, 3) := by decide +kernel
theorem dC_vectorOf_4 : decode cC_vectorOf 4 = .ok (.iload_n 1, 1) := by decide +kernel
theorem dC_vectorOf_5 : decode cC_vectorOf 5 = .ok (.iconst (-1), 1) := by decide +kernel
theorem dC_vectorOf_6 : decode cC_vectorOf 6 = .ok (.if_icmp .ne 8, 3) := by decide +kernel
theorem dC_vectorOf_9 : decode cC_vectorOf 9 = .ok (.bipush 7, 2) := by decide +kernel
theorem dC_vectorOf_11 : decode cC_vectorOf 11 = .ok (.goto 4, 3) := by decide +kernel
theorem dC_vectorOf_14 : decode cC_vectorOf 14 = .ok (.iload_n 1, 1) := by decide +kernel
theorem dC_vectorOf_15 : decode cC_vectorOf 15 = .ok (.iadd, 1) := by decide +kernel
theorem dC_vectorOf_16 : decode cC_vectorOf 16 = .ok (.ireturn, 1) := by decide +kernel
theorem dC_takeSideZero_0 : decode cC_takeSideZero 0 = .ok (.iload_n 1, 1) := by decide +kernel
theorem dC_takeSideZero_1 : decode cC_takeSideZero 1 = .ok (.iconst 4, 1) := by decide +kernel
theorem dC_takeSideZero_2 : decode cC_takeSideZero 2 = .ok (.invokestatic 38, 3) := by decide +kernel
theorem dC_takeSideZero_5 : decode cC_takeSideZero 5 = .ok (.ifCond .eq 11, 3) := by decide +kernel
theorem dC_takeSideZero_8 : decode cC_takeSideZero 8 = .ok (.aload_n 0, 1) := by decide +kernel
theorem dC_takeSideZero_9 : decode cC_takeSideZero 9 = .ok (.iload_n 1, 1) := by decide +kernel
theorem dC_takeSideZero_10 : decode cC_takeSideZero 10 = .ok (.invokevirtual 56, 3) := by decide +kernel
theorem dC_takeSideZero_13 : decode cC_takeSideZero 13 = .ok (.goto 44, 3) := by decide +kernel
theorem dC_takeSideZero_16 : decode cC_takeSideZero 16 = .ok (.aload_n 0, 1) := by decide +kernel
theorem dC_takeSideZero_17 : decode cC_takeSideZero 17 = .ok (.getfield 25, 3) := by decide +kernel
theorem dC_takeSideZero_20 : decode cC_takeSideZero 20 = .ok (.ifCond .eq 19, 3) := by decide +kernel
theorem dC_takeSideZero_23 : decode cC_takeSideZero 23 = .ok (.iload_n 1, 1) := by decide +kernel
theorem dC_takeSideZero_24 : decode cC_takeSideZero 24 = .ok (.iconst 3, 1) := by decide +kernel
theorem dC_takeSideZero_25 : decode cC_takeSideZero 25 = .ok (.invokestatic 38, 3) := by decide +kernel
theorem dC_takeSideZero_28 : decode cC_takeSideZero 28 = .ok (.ifCond .eq 11, 3) := by decide +kernel
theorem dC_takeSideZero_31 : decode cC_takeSideZero 31 = .ok (.aload_n 0, 1) := by decide +kernel
theorem dC_takeSideZero_32 : decode cC_takeSideZero 32 = .ok (.iload_n 1, 1) := by decide +kernel
theorem dC_takeSideZero_33 : decode cC_takeSideZero 33 = .ok (.invokevirtual 59, 3) := by decide +kernel
theorem dC_takeSideZero_36 : decode cC_takeSideZero 36 = .ok (.goto 21, 3) := by decide +kernel
theorem dC_takeSideZero_39 : decode cC_takeSideZero 39 = .ok (.aload_n 0, 1) := by decide +kernel
theorem dC_takeSideZero_40 : decode cC_takeSideZero 40 = .ok (.getfield 25, 3) := by decide +kernel
theorem dC_takeSideZero_43 : decode cC_takeSideZero 43 = .ok (.ifCond .eq 14, 3) := by decide +kernel
theorem dC_takeSideZero_46 : decode cC_takeSideZero 46 = .ok (.aload_n 0, 1) := by decide +kernel
theorem dC_takeSideZero_47 : decode cC_takeSideZero 47 = .ok (.iload_n 1, 1) := by decide +kernel
theorem dC_takeSideZero_48 : decode cC_takeSideZero 48 = .ok (.iconst 5, 1) := by decide +kernel
theorem dC_takeSideZero_49 : decode cC_takeSideZero 49 = .ok (.ishr, 1) := by decide +kernel
theorem dC_takeSideZero_50 : decode cC_takeSideZero 50 = .ok (.iload_n 1, 1) := by decide +kernel
theorem dC_takeSideZero_51 : decode cC_takeSideZero 51 = .ok (.bipush 7, 2) := by decide +kernel
theorem dC_takeSideZero_53 : decode cC_takeSideZero 53 = .ok (.iand, 1) := by decide +kernel
theorem dC_takeSideZero_54 : decode cC_takeSideZero 54 = .ok (.invokevirtual 62, 3) := by decide +kernel
theorem dC_takeSideZero_57 : decode cC_takeSideZero 57 = .ok (.return_, 1) := by decide +kernel
theorem dC_takeSideOne_0 : decode cC_takeSideOne 0 = .ok (.aload_n 0, 1) := by decide +kernel
theorem dC_takeSideOne_1 : decode cC_takeSideOne 1 = .ok (.getfield 25, 3) := by decide +kernel
theorem dC_takeSideOne_4 : decode cC_takeSideOne 4 = .ok (.ifCond .eq 11, 3) := by decide +kernel
theorem dC_takeSideOne_7 : decode cC_takeSideOne 7 = .ok (.aload_n 0, 1) := by decide +kernel
theorem dC_takeSideOne_8 : decode cC_takeSideOne 8 = .ok (.iload_n 1, 1) := by decide +kernel
theorem dC_takeSideOne_9 : decode cC_takeSideOne 9 = .ok (.putfield 32, 3) := by decide +kernel
theorem dC_takeSideOne_12 : decode cC_takeSideOne 12 = .ok (.goto 84, 3) := by decide +kernel
theorem dC_takeSideOne_15 : decode cC_takeSideOne 15 = .ok (.aload_n 0, 1) := by decide +kernel
theorem dC_takeSideOne_16 : decode cC_takeSideOne 16 = .ok (.getfield 66, 3) := by decide +kernel
theorem dC_takeSideOne_19 : decode cC_takeSideOne 19 = .ok (.iconst 2, 1) := by decide +kernel
theorem dC_takeSideOne_20 : decode cC_takeSideOne 20 = .ok (.if_icmp .ne 30, 3) := by decide +kernel
theorem dC_takeSideOne_23 : decode cC_takeSideOne 23 = .ok (.aload_n 0, 1) := by decide +kernel
theorem dC_takeSideOne_24 : decode cC_takeSideOne 24 = .ok (.iload_n 1, 1) := by decide +kernel
theorem dC_takeSideOne_25 : decode cC_takeSideOne 25 = .ok (.bipush (-8), 2) := by decide +kernel
theorem dC_takeSideOne_27 : decode cC_takeSideOne 27 = .ok (.iand, 1) := by decide +kernel
theorem dC_takeSideOne_28 : decode cC_takeSideOne 28 = .ok (.putfield 53, 3) := by decide +kernel
theorem dC_takeSideOne_31 : decode cC_takeSideOne 31 = .ok (.aload_n 0, 1) := by decide +kernel
theorem dC_takeSideOne_32 : decode cC_takeSideOne 32 = .ok (.aload_n 0, 1) := by decide +kernel
theorem dC_takeSideOne_33 : decode cC_takeSideOne 33 = .ok (.getfield 69, 3) := by decide +kernel
theorem dC_takeSideOne_36 : decode cC_takeSideOne 36 = .ok (.ifCond .eq 7, 3) := by decide +kernel
theorem dC_takeSideOne_39 : decode cC_takeSideOne 39 = .ok (.iconst 4, 1) := by decide +kernel
theorem dC_takeSideOne_40 : decode cC_takeSideOne 40 = .ok (.goto 4, 3) := by decide +kernel
theorem dC_takeSideOne_43 : decode cC_takeSideOne 43 = .ok (.iconst 3, 1) := by decide +kernel
theorem dC_takeSideOne_44 : decode cC_takeSideOne 44 = .ok (.invokevirtual 72, 3) := by decide +kernel
theorem dC_takeSideOne_47 : decode cC_takeSideOne 47 = .ok (.goto 49, 3) := by decide +kernel
theorem dC_takeSideOne_50 : decode cC_takeSideOne 50 = .ok (.aload_n 0, 1) := by decide +kernel
theorem dC_takeSideOne_51 : decode cC_takeSideOne 51 = .ok (.getfield 66, 3) := by decide +kernel
theorem dC_takeSideOne_54 : decode cC_takeSideOne 54 = .ok (.iconst 3, 1) := by decide +kernel
theorem dC_takeSideOne_55 : decode cC_takeSideOne 55 = .ok (.if_icmp .ne 11, 3) := by decide +kernel
theorem dC_takeSideOne_58 : decode cC_takeSideOne 58 = .ok (.aload_n 0, 1) := by decide +kernel
theorem dC_takeSideOne_59 : decode cC_takeSideOne 59 = .ok (.iconst 4, 1) := by decide +kernel
theorem dC_takeSideOne_60 : decode cC_takeSideOne 60 = .ok (.invokevirtual 72, 3) := by decide +kernel
theorem dC_takeSideOne_63 : decode cC_takeSideOne 63 = .ok (.goto 33, 3) := by decide +kernel
theorem dC_takeSideOne_66 : decode cC_takeSideOne 66 = .ok (.aload_n 0, 1) := by decide +kernel
theorem dC_takeSideOne_67 : decode cC_takeSideOne 67 = .ok (.getfield 66, 3) := by decide +kernel
theorem dC_takeSideOne_70 : decode cC_takeSideOne 70 = .ok (.iconst 4, 1) := by decide +kernel
theorem dC_takeSideOne_71 : decode cC_takeSideOne 71 = .ok (.if_icmp .ne 25, 3) := by decide +kernel
theorem dC_takeSideOne_74 : decode cC_takeSideOne 74 = .ok (.aload_n 0, 1) := by decide +kernel
theorem dC_takeSideOne_75 : decode cC_takeSideOne 75 = .ok (.iload_n 1, 1) := by decide +kernel
theorem dC_takeSideOne_76 : decode cC_takeSideOne 76 = .ok (.iconst 1, 1) := by decide +kernel
theorem dC_takeSideOne_77 : decode cC_takeSideOne 77 = .ok (.invokestatic 38, 3) := by decide +kernel
theorem dC_takeSideOne_80 : decode cC_takeSideOne 80 = .ok (.putfield 75, 3) := by decide +kernel
theorem dC_takeSideOne_83 : decode cC_takeSideOne 83 = .ok (.aload_n 0, 1) := by decide +kernel
theorem dC_takeSideOne_84 : decode cC_takeSideOne 84 = .ok (.iload_n 1, 1) := by decide +kernel
theorem dC_takeSideOne_85 : decode cC_takeSideOne 85 = .ok (.iconst 4, 1) := by decide +kernel
theorem dC_takeSideOne_86 : decode cC_takeSideOne 86 = .ok (.invokestatic 38, 3) := by decide +kernel
theorem dC_takeSideOne_89 : decode cC_takeSideOne 89 = .ok (.putfield 78, 3) := by decide +kernel
theorem dC_takeSideOne_92 : decode cC_takeSideOne 92 = .ok (.aload_n 0, 1) := by decide +kernel
theorem dC_takeSideOne_93 : decode cC_takeSideOne 93 = .ok (.invokevirtual 81, 3) := by decide +kernel
theorem dC_takeSideOne_96 : decode cC_takeSideOne 96 = .ok (.return_, 1) := by decide +kernel
theorem dC_giveSideZero_0 : decode cC_giveSideZero 0 = .ok (.aload_n 0, 1) := by decide +kernel
theorem dC_giveSideZero_1 : decode cC_giveSideZero 1 = .ok (.getfield 84, 3) := by decide +kernel
theorem dC_giveSideZero_4 : decode cC_giveSideZero 4 = .ok (.ifCond .eq 28, 3) := by decide +kernel
theorem dC_giveSideZero_7 : decode cC_giveSideZero 7 = .ok (.aload_n 0, 1) := by decide +kernel
theorem dC_giveSideZero_8 : decode cC_giveSideZero 8 = .ok (.iconst 0, 1) := by decide +kernel
theorem dC_giveSideZero_9 : decode cC_giveSideZero 9 = .ok (.putfield 84, 3) := by decide +kernel
theorem dC_giveSideZero_12 : decode cC_giveSideZero 12 = .ok (.aload_n 0, 1) := by decide +kernel
theorem dC_giveSideZero_13 : decode cC_giveSideZero 13 = .ok (.invokevirtual 87, 3) := by decide +kernel
theorem dC_giveSideZero_16 : decode cC_giveSideZero 16 = .ok (.istore_n 1, 1) := by decide +kernel
theorem dC_giveSideZero_17 : decode cC_giveSideZero 17 = .ok (.iload_n 1, 1) := by decide +kernel
theorem dC_giveSideZero_18 : decode cC_giveSideZero 18 = .ok (.iconst (-1), 1) := by decide +kernel
theorem dC_giveSideZero_19 : decode cC_giveSideZero 19 = .ok (.if_icmp .ne 7, 3) := by decide +kernel
theorem dC_giveSideZero_22 : decode cC_giveSideZero 22 = .ok (.iconst 0, 1) := by decide +kernel
theorem dC_giveSideZero_23 : decode cC_giveSideZero 23 = .ok (.goto 8, 3) := by decide +kernel
theorem dC_giveSideZero_26 : decode cC_giveSideZero 26 = .ok (.sipush 128, 3) := by decide +kernel
theorem dC_giveSideZero_29 : decode cC_giveSideZero 29 = .ok (.iload_n 1, 1) := by decide +kernel
theorem dC_giveSideZero_30 : decode cC_giveSideZero 30 = .ok (.iadd, 1) := by decide +kernel
theorem dC_giveSideZero_31 : decode cC_giveSideZero 31 = .ok (.ireturn, 1) := by decide +kernel
theorem dC_giveSideZero_32 : decode cC_giveSideZero 32 = .ok (.aload_n 0, 1) := by decide +kernel
theorem dC_giveSideZero_33 : decode cC_giveSideZero 33 = .ok (.getfield 90, 3) := by decide +kernel
theorem dC_giveSideZero_36 : decode cC_giveSideZero 36 = .ok (.ifCond .eq 10, 3) := by decide +kernel
theorem dC_giveSideZero_39 : decode cC_giveSideZero 39 = .ok (.aload_n 0, 1) := by decide +kernel
theorem dC_giveSideZero_40 : decode cC_giveSideZero 40 = .ok (.getfield 93, 3) := by decide +kernel
theorem dC_giveSideZero_43 : decode cC_giveSideZero 43 = .ok (.goto 7, 3) := by decide +kernel
theorem dC_giveSideZero_46 : decode cC_giveSideZero 46 = .ok (.aload_n 0, 1) := by decide +kernel
theorem dC_giveSideZero_47 : decode cC_giveSideZero 47 = .ok (.invokevirtual 28, 3) := by decide +kernel
theorem dC_giveSideZero_50 : decode cC_giveSideZero 50 = .ok (.ireturn, 1) := by decide +kernel
theorem dC_tell_0 : decode cC_tell 0 = .ok (.iload_n 1, 1) := by decide +kernel
theorem dC_tell_1 : decode cC_tell 1 = .ok (.tableswitch 90 0 7 #[47, 52, 57, 62, 67, 72, 77, 82], 47) := by decide +kernel
theorem dC_tell_48 : decode cC_tell 48 = .ok (.aload_n 0, 1) := by decide +kernel
theorem dC_tell_49 : decode cC_tell 49 = .ok (.invokevirtual 28, 3) := by decide +kernel
theorem dC_tell_52 : decode cC_tell 52 = .ok (.ireturn, 1) := by decide +kernel
theorem dC_tell_53 : decode cC_tell 53 = .ok (.aload_n 0, 1) := by decide +kernel
theorem dC_tell_54 : decode cC_tell 54 = .ok (.getfield 93, 3) := by decide +kernel
theorem dC_tell_57 : decode cC_tell 57 = .ok (.ireturn, 1) := by decide +kernel
theorem dC_tell_58 : decode cC_tell 58 = .ok (.aload_n 0, 1) := by decide +kernel
theorem dC_tell_59 : decode cC_tell 59 = .ok (.getfield 32, 3) := by decide +kernel
theorem dC_tell_62 : decode cC_tell 62 = .ok (.ireturn, 1) := by decide +kernel
theorem dC_tell_63 : decode cC_tell 63 = .ok (.aload_n 0, 1) := by decide +kernel
theorem dC_tell_64 : decode cC_tell 64 = .ok (.getfield 15, 3) := by decide +kernel
theorem dC_tell_67 : decode cC_tell 67 = .ok (.ireturn, 1) := by decide +kernel
theorem dC_tell_68 : decode cC_tell 68 = .ok (.aload_n 0, 1) := by decide +kernel
theorem dC_tell_69 : decode cC_tell 69 = .ok (.getfield 53, 3) := by decide +kernel
theorem dC_tell_72 : decode cC_tell 72 = .ok (.ireturn, 1) := by decide +kernel
theorem dC_tell_73 : decode cC_tell 73 = .ok (.aload_n 0, 1) := by decide +kernel
theorem dC_tell_74 : decode cC_tell 74 = .ok (.getfield 22, 3) := by decide +kernel
theorem dC_tell_77 : decode cC_tell 77 = .ok (.ireturn, 1) := by decide +kernel
theorem dC_tell_78 : decode cC_tell 78 = .ok (.aload_n 0, 1) := by decide +kernel
theorem dC_tell_79 : decode cC_tell 79 = .ok (.getfield 19, 3) := by decide +kernel
theorem dC_tell_82 : decode cC_tell 82 = .ok (.ireturn, 1) := by decide +kernel
theorem dC_tell_83 : decode cC_tell 83 = .ok (.aload_n 0, 1) := by decide +kernel
theorem dC_tell_84 : decode cC_tell 84 = .ok (.getfield 25, 3) := by decide +kernel
theorem dC_tell_87 : decode cC_tell 87 = .ok (.invokestatic 96, 3) := by decide +kernel
theorem dC_tell_90 : decode cC_tell 90 = .ok (.ireturn, 1) := by decide +kernel
theorem dC_tell_91 : decode cC_tell 91 = .ok (.iconst (-1), 1) := by decide +kernel
theorem dC_tell_92 : decode cC_tell 92 = .ok (.ireturn, 1) := by decide +kernel
theorem dC_requests_0 : decode cC_requests 0 = .ok (.aload_n 0, 1) := by decide +kernel
theorem dC_requests_1 : decode cC_requests 1 = .ok (.getfield 100, 3) := by decide +kernel
theorem dC_requests_4 : decode cC_requests 4 = .ok (.ifCond .eq 10, 3) := by decide +kernel
theorem dC_requests_7 : decode cC_requests 7 = .ok (.aload_n 0, 1) := by decide +kernel
theorem dC_requests_8 : decode cC_requests 8 = .ok (.getfield 22, 3) := by decide +kernel
theorem dC_requests_11 : decode cC_requests 11 = .ok (.goto 12, 3) := by decide +kernel
theorem dC_requests_14 : decode cC_requests 14 = .ok (.aload_n 0, 1) := by decide +kernel
theorem dC_requests_15 : decode cC_requests 15 = .ok (.getfield 22, 3) := by decide +kernel
theorem dC_requests_18 : decode cC_requests 18 = .ok (.aload_n 0, 1) := by decide +kernel
theorem dC_requests_19 : decode cC_requests 19 = .ok (.getfield 19, 3) := by decide +kernel
theorem dC_requests_22 : decode cC_requests 22 = .ok (.iand, 1) := by decide +kernel
theorem dC_requests_23 : decode cC_requests 23 = .ok (.ireturn, 1) := by decide +kernel
theorem dC_holdingLevels_0 : decode cC_holdingLevels 0 = .ok (.aload_n 0, 1) := by decide +kernel
theorem dC_holdingLevels_1 : decode cC_holdingLevels 1 = .ok (.getfield 103, 3) := by decide +kernel
theorem dC_holdingLevels_4 : decode cC_holdingLevels 4 = .ok (.ifCond .eq 17, 3) := by decide +kernel
theorem dC_holdingLevels_7 : decode cC_holdingLevels 7 = .ok (.aload_n 0, 1) := by decide +kernel
theorem dC_holdingLevels_8 : decode cC_holdingLevels 8 = .ok (.getfield 93, 3) := by decide +kernel
theorem dC_holdingLevels_11 : decode cC_holdingLevels 11 = .ok (.aload_n 0, 1) := by decide +kernel
theorem dC_holdingLevels_12 : decode cC_holdingLevels 12 = .ok (.getfield 32, 3) := by decide +kernel
theorem dC_holdingLevels_15 : decode cC_holdingLevels 15 = .ok (.iconst (-1), 1) := by decide +kernel
theorem dC_holdingLevels_16 : decode cC_holdingLevels 16 = .ok (.ixor, 1) := by decide +kernel
theorem dC_holdingLevels_17 : decode cC_holdingLevels 17 = .ok (.iand, 1) := by decide +kernel
theorem dC_holdingLevels_18 : decode cC_holdingLevels 18 = .ok (.goto 7, 3) := by decide +kernel
theorem dC_holdingLevels_21 : decode cC_holdingLevels 21 = .ok (.aload_n 0, 1) := by decide +kernel
theorem dC_holdingLevels_22 : decode cC_holdingLevels 22 = .ok (.getfield 93, 3) := by decide +kernel
theorem dC_holdingLevels_25 : decode cC_holdingLevels 25 = .ok (.ireturn, 1) := by decide +kernel
theorem dC_mayNest_0 : decode cC_mayNest 0 = .ok (.aload_n 0, 1) := by decide +kernel
theorem dC_mayNest_1 : decode cC_mayNest 1 = .ok (.getfield 78, 3) := by decide +kernel
theorem dC_mayNest_4 : decode cC_mayNest 4 = .ok (.ifCond .eq 19, 3) := by decide +kernel
theorem dC_mayNest_7 : decode cC_mayNest 7 = .ok (.aload_n 0, 1) := by decide +kernel
theorem dC_mayNest_8 : decode cC_mayNest 8 = .ok (.getfield 9, 3) := by decide +kernel
theorem dC_mayNest_11 : decode cC_mayNest 11 = .ok (.ifCond .eq 12, 3) := by decide +kernel
theorem dC_mayNest_14 : decode cC_mayNest 14 = .ok (.iload_n 1, 1) := by decide +kernel
theorem dC_mayNest_15 : decode cC_mayNest 15 = .ok (.iconst 2, 1) := by decide +kernel
theorem dC_mayNest_16 : decode cC_mayNest 16 = .ok (.if_icmp .ne 7, 3) := by decide +kernel
theorem dC_mayNest_19 : decode cC_mayNest 19 = .ok (.iconst 1, 1) := by decide +kernel
theorem dC_mayNest_20 : decode cC_mayNest 20 = .ok (.goto 4, 3) := by decide +kernel
theorem dC_mayNest_23 : decode cC_mayNest 23 = .ok (.iconst 0, 1) := by decide +kernel
theorem dC_mayNest_24 : decode cC_mayNest 24 = .ok (.ireturn, 1) := by decide +kernel
theorem dC_serve_0 : decode cC_serve 0 = .ok (.aload_n 0, 1) := by decide +kernel
theorem dC_serve_1 : decode cC_serve 1 = .ok (.dup, 1) := by decide +kernel
theorem dC_serve_2 : decode cC_serve 2 = .ok (.getfield 19, 3) := by decide +kernel
theorem dC_serve_5 : decode cC_serve 5 = .ok (.iconst 1, 1) := by decide +kernel
theorem dC_serve_6 : decode cC_serve 6 = .ok (.iload_n 1, 1) := by decide +kernel
theorem dC_serve_7 : decode cC_serve 7 = .ok (.ishl, 1) := by decide +kernel
theorem dC_serve_8 : decode cC_serve 8 = .ok (.iconst (-1), 1) := by decide +kernel
theorem dC_serve_9 : decode cC_serve 9 = .ok (.ixor, 1) := by decide +kernel
theorem dC_serve_10 : decode cC_serve 10 = .ok (.iand, 1) := by decide +kernel
theorem dC_serve_11 : decode cC_serve 11 = .ok (.putfield 19, 3) := by decide +kernel
theorem dC_serve_14 : decode cC_serve 14 = .ok (.aload_n 0, 1) := by decide +kernel
theorem dC_serve_15 : decode cC_serve 15 = .ok (.getfield 75, 3) := by decide +kernel
theorem dC_serve_18 : decode cC_serve 18 = .ok (.ifCond .ne 18, 3) := by decide +kernel
theorem dC_serve_21 : decode cC_serve 21 = .ok (.aload_n 0, 1) := by decide +kernel
theorem dC_serve_22 : decode cC_serve 22 = .ok (.dup, 1) := by decide +kernel
theorem dC_serve_23 : decode cC_serve 23 = .ok (.getfield 93, 3) := by decide +kernel
theorem dC_serve_26 : decode cC_serve 26 = .ok (.iconst 1, 1) := by decide +kernel
theorem dC_serve_27 : decode cC_serve 27 = .ok (.iload_n 1, 1) := by decide +kernel
theorem dC_serve_28 : decode cC_serve 28 = .ok (.ishl, 1) := by decide +kernel
theorem dC_serve_29 : decode cC_serve 29 = .ok (.ior, 1) := by decide +kernel
theorem dC_serve_30 : decode cC_serve 30 = .ok (.putfield 93, 3) := by decide +kernel
theorem dC_serve_33 : decode cC_serve 33 = .ok (.goto 15, 3) := by decide +kernel
theorem dC_serve_36 : decode cC_serve 36 = .ok (.aload_n 0, 1) := by decide +kernel
theorem dC_serve_37 : decode cC_serve 37 = .ok (.getfield 106, 3) := by decide +kernel
theorem dC_serve_40 : decode cC_serve 40 = .ok (.ifCond .eq 8, 3) := by decide +kernel
theorem dC_serve_43 : decode cC_serve 43 = .ok (.aload_n 0, 1) := by decide +kernel
theorem dC_serve_44 : decode cC_serve 44 = .ok (.iload_n 1, 1) := by decide +kernel
theorem dC_serve_45 : decode cC_serve 45 = .ok (.putfield 15, 3) := by decide +kernel
theorem dC_serve_48 : decode cC_serve 48 = .ok (.return_, 1) := by decide +kernel
theorem dC_beginSettingUp_0 : decode cC_beginSettingUp 0 = .ok (.aload_n 0, 1) := by decide +kernel
theorem dC_beginSettingUp_1 : decode cC_beginSettingUp 1 = .ok (.iconst 0, 1) := by decide +kernel
theorem dC_beginSettingUp_2 : decode cC_beginSettingUp 2 = .ok (.putfield 25, 3) := by decide +kernel
theorem dC_beginSettingUp_5 : decode cC_beginSettingUp 5 = .ok (.aload_n 0, 1) := by decide +kernel
theorem dC_beginSettingUp_6 : decode cC_beginSettingUp 6 = .ok (.iconst 2, 1) := by decide +kernel
theorem dC_beginSettingUp_7 : decode cC_beginSettingUp 7 = .ok (.putfield 66, 3) := by decide +kernel
theorem dC_beginSettingUp_10 : decode cC_beginSettingUp 10 = .ok (.aload_n 0, 1) := by decide +kernel
theorem dC_beginSettingUp_11 : decode cC_beginSettingUp 11 = .ok (.iconst 0, 1) := by decide +kernel
theorem dC_beginSettingUp_12 : decode cC_beginSettingUp 12 = .ok (.putfield 19, 3) := by decide +kernel
theorem dC_beginSettingUp_15 : decode cC_beginSettingUp 15 = .ok (.aload_n 0, 1) := by decide +kernel
theorem dC_beginSettingUp_16 : decode cC_beginSettingUp 16 = .ok (.iconst 0, 1) := by decide +kernel
theorem dC_beginSettingUp_17 : decode cC_beginSettingUp 17 = .ok (.putfield 32, 3) := by decide +kernel
theorem dC_beginSettingUp_20 : decode cC_beginSettingUp 20 = .ok (.aload_n 0, 1) := by decide +kernel
theorem dC_beginSettingUp_21 : decode cC_beginSettingUp 21 = .ok (.iconst 0, 1) := by decide +kernel
theorem dC_beginSettingUp_22 : decode cC_beginSettingUp 22 = .ok (.putfield 93, 3) := by decide +kernel
theorem dC_beginSettingUp_25 : decode cC_beginSettingUp 25 = .ok (.aload_n 0, 1) := by decide +kernel
theorem dC_beginSettingUp_26 : decode cC_beginSettingUp 26 = .ok (.bipush 7, 2) := by decide +kernel
theorem dC_beginSettingUp_28 : decode cC_beginSettingUp 28 = .ok (.putfield 15, 3) := by decide +kernel
theorem dC_beginSettingUp_31 : decode cC_beginSettingUp 31 = .ok (.aload_n 0, 1) := by decide +kernel
theorem dC_beginSettingUp_32 : decode cC_beginSettingUp 32 = .ok (.iconst 0, 1) := by decide +kernel
theorem dC_beginSettingUp_33 : decode cC_beginSettingUp 33 = .ok (.putfield 75, 3) := by decide +kernel
theorem dC_beginSettingUp_36 : decode cC_beginSettingUp 36 = .ok (.aload_n 0, 1) := by decide +kernel
theorem dC_beginSettingUp_37 : decode cC_beginSettingUp 37 = .ok (.iconst 0, 1) := by decide +kernel
theorem dC_beginSettingUp_38 : decode cC_beginSettingUp 38 = .ok (.putfield 78, 3) := by decide +kernel
theorem dC_beginSettingUp_41 : decode cC_beginSettingUp 41 = .ok (.aload_n 0, 1) := by decide +kernel
theorem dC_beginSettingUp_42 : decode cC_beginSettingUp 42 = .ok (.iconst 0, 1) := by decide +kernel
theorem dC_beginSettingUp_43 : decode cC_beginSettingUp 43 = .ok (.putfield 103, 3) := by decide +kernel
theorem dC_beginSettingUp_46 : decode cC_beginSettingUp 46 = .ok (.aload_n 0, 1) := by decide +kernel
theorem dC_beginSettingUp_47 : decode cC_beginSettingUp 47 = .ok (.iconst 0, 1) := by decide +kernel
theorem dC_beginSettingUp_48 : decode cC_beginSettingUp 48 = .ok (.putfield 106, 3) := by decide +kernel
theorem dC_beginSettingUp_51 : decode cC_beginSettingUp 51 = .ok (.aload_n 0, 1) := by decide +kernel
theorem dC_beginSettingUp_52 : decode cC_beginSettingUp 52 = .ok (.iconst 0, 1) := by decide +kernel
theorem dC_beginSettingUp_53 : decode cC_beginSettingUp 53 = .ok (.putfield 90, 3) := by decide +kernel
theorem dC_beginSettingUp_56 : decode cC_beginSettingUp 56 = .ok (.aload_n 0, 1) := by decide +kernel
theorem dC_beginSettingUp_57 : decode cC_beginSettingUp 57 = .ok (.iconst 0, 1) := by decide +kernel
theorem dC_beginSettingUp_58 : decode cC_beginSettingUp 58 = .ok (.putfield 84, 3) := by decide +kernel
theorem dC_beginSettingUp_61 : decode cC_beginSettingUp 61 = .ok (.aload_n 0, 1) := by decide +kernel
theorem dC_beginSettingUp_62 : decode cC_beginSettingUp 62 = .ok (.iload_n 1, 1) := by decide +kernel
theorem dC_beginSettingUp_63 : decode cC_beginSettingUp 63 = .ok (.iconst 3, 1) := by decide +kernel
theorem dC_beginSettingUp_64 : decode cC_beginSettingUp 64 = .ok (.invokestatic 38, 3) := by decide +kernel
theorem dC_beginSettingUp_67 : decode cC_beginSettingUp 67 = .ok (.putfield 100, 3) := by decide +kernel
theorem dC_beginSettingUp_70 : decode cC_beginSettingUp 70 = .ok (.aload_n 0, 1) := by decide +kernel
theorem dC_beginSettingUp_71 : decode cC_beginSettingUp 71 = .ok (.iload_n 1, 1) := by decide +kernel
theorem dC_beginSettingUp_72 : decode cC_beginSettingUp 72 = .ok (.iconst 1, 1) := by decide +kernel
theorem dC_beginSettingUp_73 : decode cC_beginSettingUp 73 = .ok (.invokestatic 38, 3) := by decide +kernel
theorem dC_beginSettingUp_76 : decode cC_beginSettingUp 76 = .ok (.putfield 69, 3) := by decide +kernel
theorem dC_beginSettingUp_79 : decode cC_beginSettingUp 79 = .ok (.aload_n 0, 1) := by decide +kernel
theorem dC_beginSettingUp_80 : decode cC_beginSettingUp 80 = .ok (.iload_n 1, 1) := by decide +kernel
theorem dC_beginSettingUp_81 : decode cC_beginSettingUp 81 = .ok (.iconst 0, 1) := by decide +kernel
theorem dC_beginSettingUp_82 : decode cC_beginSettingUp 82 = .ok (.invokestatic 38, 3) := by decide +kernel
theorem dC_beginSettingUp_85 : decode cC_beginSettingUp 85 = .ok (.putfield 109, 3) := by decide +kernel
theorem dC_beginSettingUp_88 : decode cC_beginSettingUp 88 = .ok (.return_, 1) := by decide +kernel
theorem dC_awaitFrom_0 : decode cC_awaitFrom 0 = .ok (.iload_n 1, 1) := by decide +kernel
theorem dC_awaitFrom_1 : decode cC_awaitFrom 1 = .ok (.iconst 4, 1) := by decide +kernel
theorem dC_awaitFrom_2 : decode cC_awaitFrom 2 = .ok (.if_icmp .ne 17, 3) := by decide +kernel
theorem dC_awaitFrom_5 : decode cC_awaitFrom 5 = .ok (.aload_n 0, 1) := by decide +kernel
theorem dC_awaitFrom_6 : decode cC_awaitFrom 6 = .ok (.getfield 109, 3) := by decide +kernel
theorem dC_awaitFrom_9 : decode cC_awaitFrom 9 = .ok (.ifCond .ne 10, 3) := by decide +kernel
theorem dC_awaitFrom_12 : decode cC_awaitFrom 12 = .ok (.aload_n 0, 1) := by decide +kernel
theorem dC_awaitFrom_13 : decode cC_awaitFrom 13 = .ok (.invokevirtual 81, 3) := by decide +kernel
theorem dC_awaitFrom_16 : decode cC_awaitFrom 16 = .ok (.goto 8, 3) := by decide +kernel
theorem dC_awaitFrom_19 : decode cC_awaitFrom 19 = .ok (.aload_n 0, 1) := by decide +kernel
theorem dC_awaitFrom_20 : decode cC_awaitFrom 20 = .ok (.iload_n 1, 1) := by decide +kernel
theorem dC_awaitFrom_21 : decode cC_awaitFrom 21 = .ok (.putfield 66, 3) := by decide +kernel
theorem dC_awaitFrom_24 : decode cC_awaitFrom 24 = .ok (.return_, 1) := by decide +kernel
theorem dC_becomeReady_0 : decode cC_becomeReady 0 = .ok (.aload_n 0, 1) := by decide +kernel
theorem dC_becomeReady_1 : decode cC_becomeReady 1 = .ok (.iconst 0, 1) := by decide +kernel
theorem dC_becomeReady_2 : decode cC_becomeReady 2 = .ok (.putfield 66, 3) := by decide +kernel
theorem dC_becomeReady_5 : decode cC_becomeReady 5 = .ok (.aload_n 0, 1) := by decide +kernel
theorem dC_becomeReady_6 : decode cC_becomeReady 6 = .ok (.iconst 1, 1) := by decide +kernel
theorem dC_becomeReady_7 : decode cC_becomeReady 7 = .ok (.putfield 25, 3) := by decide +kernel
theorem dC_becomeReady_10 : decode cC_becomeReady 10 = .ok (.return_, 1) := by decide +kernel
theorem dC_takeServiceCommand_0 : decode cC_takeServiceCommand 0 = .ok (.iload_n 1, 1) := by decide +kernel
theorem dC_takeServiceCommand_1 : decode cC_takeServiceCommand 1 = .ok (.tableswitch 109 0 7 #[47, 55, 109, 66, 74, 82, 93, 101], 47) := by decide +kernel
theorem dC_takeServiceCommand_48 : decode cC_takeServiceCommand 48 = .ok (.aload_n 0, 1) := by decide +kernel
theorem dC_takeServiceCommand_49 : decode cC_takeServiceCommand 49 = .ok (.iconst 0, 1) := by decide +kernel
theorem dC_takeServiceCommand_50 : decode cC_takeServiceCommand 50 = .ok (.putfield 106, 3) := by decide +kernel
theorem dC_takeServiceCommand_53 : decode cC_takeServiceCommand 53 = .ok (.goto 57, 3) := by decide +kernel
theorem dC_takeServiceCommand_56 : decode cC_takeServiceCommand 56 = .ok (.aload_n 0, 1) := by decide +kernel
theorem dC_takeServiceCommand_57 : decode cC_takeServiceCommand 57 = .ok (.aload_n 0, 1) := by decide +kernel
theorem dC_takeServiceCommand_58 : decode cC_takeServiceCommand 58 = .ok (.invokevirtual 112, 3) := by decide +kernel
theorem dC_takeServiceCommand_61 : decode cC_takeServiceCommand 61 = .ok (.invokevirtual 115, 3) := by decide +kernel
theorem dC_takeServiceCommand_64 : decode cC_takeServiceCommand 64 = .ok (.goto 46, 3) := by decide +kernel
theorem dC_takeServiceCommand_67 : decode cC_takeServiceCommand 67 = .ok (.aload_n 0, 1) := by decide +kernel
theorem dC_takeServiceCommand_68 : decode cC_takeServiceCommand 68 = .ok (.iload_n 2, 1) := by decide +kernel
theorem dC_takeServiceCommand_69 : decode cC_takeServiceCommand 69 = .ok (.invokevirtual 115, 3) := by decide +kernel
theorem dC_takeServiceCommand_72 : decode cC_takeServiceCommand 72 = .ok (.goto 38, 3) := by decide +kernel
theorem dC_takeServiceCommand_75 : decode cC_takeServiceCommand 75 = .ok (.aload_n 0, 1) := by decide +kernel
theorem dC_takeServiceCommand_76 : decode cC_takeServiceCommand 76 = .ok (.iconst 1, 1) := by decide +kernel
theorem dC_takeServiceCommand_77 : decode cC_takeServiceCommand 77 = .ok (.putfield 106, 3) := by decide +kernel
theorem dC_takeServiceCommand_80 : decode cC_takeServiceCommand 80 = .ok (.goto 30, 3) := by decide +kernel
theorem dC_takeServiceCommand_83 : decode cC_takeServiceCommand 83 = .ok (.aload_n 0, 1) := by decide +kernel
theorem dC_takeServiceCommand_84 : decode cC_takeServiceCommand 84 = .ok (.aload_n 0, 1) := by decide +kernel
theorem dC_takeServiceCommand_85 : decode cC_takeServiceCommand 85 = .ok (.invokevirtual 112, 3) := by decide +kernel
theorem dC_takeServiceCommand_88 : decode cC_takeServiceCommand 88 = .ok (.invokevirtual 118, 3) := by decide +kernel
theorem dC_takeServiceCommand_91 : decode cC_takeServiceCommand 91 = .ok (.goto 19, 3) := by decide +kernel
theorem dC_takeServiceCommand_94 : decode cC_takeServiceCommand 94 = .ok (.aload_n 0, 1) := by decide +kernel
theorem dC_takeServiceCommand_95 : decode cC_takeServiceCommand 95 = .ok (.iload_n 2, 1) := by decide +kernel
theorem dC_takeServiceCommand_96 : decode cC_takeServiceCommand 96 = .ok (.putfield 15, 3) := by decide +kernel
theorem dC_takeServiceCommand_99 : decode cC_takeServiceCommand 99 = .ok (.goto 11, 3) := by decide +kernel
theorem dC_takeServiceCommand_102 : decode cC_takeServiceCommand 102 = .ok (.aload_n 0, 1) := by decide +kernel
theorem dC_takeServiceCommand_103 : decode cC_takeServiceCommand 103 = .ok (.iload_n 2, 1) := by decide +kernel
theorem dC_takeServiceCommand_104 : decode cC_takeServiceCommand 104 = .ok (.invokevirtual 118, 3) := by decide +kernel
theorem dC_takeServiceCommand_107 : decode cC_takeServiceCommand 107 = .ok (.goto 3, 3) := by decide +kernel
theorem dC_takeServiceCommand_110 : decode cC_takeServiceCommand 110 = .ok (.return_, 1) := by decide +kernel
theorem dC_takeReadingCommand_0 : decode cC_takeReadingCommand 0 = .ok (.iload_n 1, 1) := by decide +kernel
theorem dC_takeReadingCommand_1 : decode cC_takeReadingCommand 1 = .ok (.bipush 6, 2) := by decide +kernel
theorem dC_takeReadingCommand_3 : decode cC_takeReadingCommand 3 = .ok (.invokestatic 38, 3) := by decide +kernel
theorem dC_takeReadingCommand_6 : decode cC_takeReadingCommand 6 = .ok (.ifCond .eq 12, 3) := by decide +kernel
theorem dC_takeReadingCommand_9 : decode cC_takeReadingCommand 9 = .ok (.aload_n 0, 1) := by decide +kernel
theorem dC_takeReadingCommand_10 : decode cC_takeReadingCommand 10 = .ok (.iload_n 1, 1) := by decide +kernel
theorem dC_takeReadingCommand_11 : decode cC_takeReadingCommand 11 = .ok (.iconst 5, 1) := by decide +kernel
theorem dC_takeReadingCommand_12 : decode cC_takeReadingCommand 12 = .ok (.invokestatic 38, 3) := by decide +kernel
theorem dC_takeReadingCommand_15 : decode cC_takeReadingCommand 15 = .ok (.putfield 103, 3) := by decide +kernel
theorem dC_takeReadingCommand_18 : decode cC_takeReadingCommand 18 = .ok (.iload_n 1, 1) := by decide +kernel
theorem dC_takeReadingCommand_19 : decode cC_takeReadingCommand 19 = .ok (.iconst 2, 1) := by decide +kernel
theorem dC_takeReadingCommand_20 : decode cC_takeReadingCommand 20 = .ok (.invokestatic 38, 3) := by decide +kernel
theorem dC_takeReadingCommand_23 : decode cC_takeReadingCommand 23 = .ok (.ifCond .eq 11, 3) := by decide +kernel
theorem dC_takeReadingCommand_26 : decode cC_takeReadingCommand 26 = .ok (.aload_n 0, 1) := by decide +kernel
theorem dC_takeReadingCommand_27 : decode cC_takeReadingCommand 27 = .ok (.iconst 1, 1) := by decide +kernel
theorem dC_takeReadingCommand_28 : decode cC_takeReadingCommand 28 = .ok (.putfield 84, 3) := by decide +kernel
theorem dC_takeReadingCommand_31 : decode cC_takeReadingCommand 31 = .ok (.goto 20, 3) := by decide +kernel
theorem dC_takeReadingCommand_34 : decode cC_takeReadingCommand 34 = .ok (.iload_n 1, 1) := by decide +kernel
theorem dC_takeReadingCommand_35 : decode cC_takeReadingCommand 35 = .ok (.iconst 1, 1) := by decide +kernel
theorem dC_takeReadingCommand_36 : decode cC_takeReadingCommand 36 = .ok (.invokestatic 38, 3) := by decide +kernel
theorem dC_takeReadingCommand_39 : decode cC_takeReadingCommand 39 = .ok (.ifCond .eq 12, 3) := by decide +kernel
theorem dC_takeReadingCommand_42 : decode cC_takeReadingCommand 42 = .ok (.aload_n 0, 1) := by decide +kernel
theorem dC_takeReadingCommand_43 : decode cC_takeReadingCommand 43 = .ok (.iload_n 1, 1) := by decide +kernel
theorem dC_takeReadingCommand_44 : decode cC_takeReadingCommand 44 = .ok (.iconst 0, 1) := by decide +kernel
theorem dC_takeReadingCommand_45 : decode cC_takeReadingCommand 45 = .ok (.invokestatic 38, 3) := by decide +kernel
theorem dC_takeReadingCommand_48 : decode cC_takeReadingCommand 48 = .ok (.putfield 90, 3) := by decide +kernel
theorem dC_takeReadingCommand_51 : decode cC_takeReadingCommand 51 = .ok (.return_, 1) := by decide +kernel
theorem dC_firstHolding_0 : decode cC_firstHolding 0 = .ok (.aload_n 0, 1) := by decide +kernel
theorem dC_firstHolding_1 : decode cC_firstHolding 1 = .ok (.invokevirtual 35, 3) := by decide +kernel
theorem dC_firstHolding_4 : decode cC_firstHolding 4 = .ok (.istore_n 1, 1) := by decide +kernel
theorem dC_firstHolding_5 : decode cC_firstHolding 5 = .ok (.iconst 1, 1) := by decide +kernel
theorem dC_firstHolding_6 : decode cC_firstHolding 6 = .ok (.istore_n 2, 1) := by decide +kernel
theorem dC_firstHolding_7 : decode cC_firstHolding 7 = .ok (.iload_n 2, 1) := by decide +kernel
theorem dC_firstHolding_8 : decode cC_firstHolding 8 = .ok (.bipush 8, 2) := by decide +kernel
theorem dC_firstHolding_10 : decode cC_firstHolding 10 = .ok (.if_icmp .gt 29, 3) := by decide +kernel
theorem dC_firstHolding_13 : decode cC_firstHolding 13 = .ok (.aload_n 0, 1) := by decide +kernel
theorem dC_firstHolding_14 : decode cC_firstHolding 14 = .ok (.getfield 15, 3) := by decide +kernel
theorem dC_firstHolding_17 : decode cC_firstHolding 17 = .ok (.iload_n 2, 1) := by decide +kernel
theorem dC_firstHolding_18 : decode cC_firstHolding 18 = .ok (.iadd, 1) := by decide +kernel
theorem dC_firstHolding_19 : decode cC_firstHolding 19 = .ok (.bipush 7, 2) := by decide +kernel
theorem dC_firstHolding_21 : decode cC_firstHolding 21 = .ok (.iand, 1) := by decide +kernel
theorem dC_firstHolding_22 : decode cC_firstHolding 22 = .ok (.istore_n 3, 1) := by decide +kernel
theorem dC_firstHolding_23 : decode cC_firstHolding 23 = .ok (.iload_n 1, 1) := by decide +kernel
theorem dC_firstHolding_24 : decode cC_firstHolding 24 = .ok (.iload_n 3, 1) := by decide +kernel
theorem dC_firstHolding_25 : decode cC_firstHolding 25 = .ok (.invokestatic 38, 3) := by decide +kernel
theorem dC_firstHolding_28 : decode cC_firstHolding 28 = .ok (.ifCond .eq 5, 3) := by decide +kernel
theorem dC_firstHolding_31 : decode cC_firstHolding 31 = .ok (.iload_n 3, 1) := by decide +kernel
theorem dC_firstHolding_32 : decode cC_firstHolding 32 = .ok (.ireturn, 1) := by decide +kernel
theorem dC_firstHolding_33 : decode cC_firstHolding 33 = .ok (.iinc 2 1, 3) := by decide +kernel
theorem dC_firstHolding_36 : decode cC_firstHolding 36 = .ok (.goto (-29), 3) := by decide +kernel
theorem dC_firstHolding_39 : decode cC_firstHolding 39 = .ok (.iconst (-1), 1) := by decide +kernel
theorem dC_firstHolding_40 : decode cC_firstHolding 40 = .ok (.ireturn, 1) := by decide +kernel
theorem dC_endService_0 : decode cC_endService 0 = .ok (.iload_n 1, 1) := by decide +kernel
theorem dC_endService_1 : decode cC_endService 1 = .ok (.iconst (-1), 1) := by decide +kernel
theorem dC_endService_2 : decode cC_endService 2 = .ok (.if_icmp .eq 17, 3) := by decide +kernel
theorem dC_endService_5 : decode cC_endService 5 = .ok (.aload_n 0, 1) := by decide +kernel
theorem dC_endService_6 : decode cC_endService 6 = .ok (.dup, 1) := by decide +kernel
theorem dC_endService_7 : decode cC_endService 7 = .ok (.getfield 93, 3) := by decide +kernel
theorem dC_endService_10 : decode cC_endService 10 = .ok (.iconst 1, 1) := by decide +kernel
theorem dC_endService_11 : decode cC_endService 11 = .ok (.iload_n 1, 1) := by decide +kernel
theorem dC_endService_12 : decode cC_endService 12 = .ok (.ishl, 1) := by decide +kernel
theorem dC_endService_13 : decode cC_endService 13 = .ok (.iconst (-1), 1) := by decide +kernel
theorem dC_endService_14 : decode cC_endService 14 = .ok (.ixor, 1) := by decide +kernel
theorem dC_endService_15 : decode cC_endService 15 = .ok (.iand, 1) := by decide +kernel
theorem dC_endService_16 : decode cC_endService 16 = .ok (.putfield 93, 3) := by decide +kernel
theorem dC_endService_19 : decode cC_endService 19 = .ok (.return_, 1) := by decide +kernel
theorem dC_endServiceAndTurn_0 : decode cC_endServiceAndTurn 0 = .ok (.aload_n 0, 1) := by decide +kernel
theorem dC_endServiceAndTurn_1 : decode cC_endServiceAndTurn 1 = .ok (.iload_n 1, 1) := by decide +kernel
theorem dC_endServiceAndTurn_2 : decode cC_endServiceAndTurn 2 = .ok (.invokevirtual 115, 3) := by decide +kernel
theorem dC_endServiceAndTurn_5 : decode cC_endServiceAndTurn 5 = .ok (.iload_n 1, 1) := by decide +kernel
theorem dC_endServiceAndTurn_6 : decode cC_endServiceAndTurn 6 = .ok (.iconst (-1), 1) := by decide +kernel
theorem dC_endServiceAndTurn_7 : decode cC_endServiceAndTurn 7 = .ok (.if_icmp .eq 8, 3) := by decide +kernel
theorem dC_endServiceAndTurn_10 : decode cC_endServiceAndTurn 10 = .ok (.aload_n 0, 1) := by decide +kernel
theorem dC_endServiceAndTurn_11 : decode cC_endServiceAndTurn 11 = .ok (.iload_n 1, 1) := by decide +kernel
theorem dC_endServiceAndTurn_12 : decode cC_endServiceAndTurn 12 = .ok (.putfield 15, 3) := by decide +kernel
theorem dC_endServiceAndTurn_15 : decode cC_endServiceAndTurn 15 = .ok (.return_, 1) := by decide +kernel
end
section
/-- the fields of TickLines$Counter in their places: 0 gateIsOn, 1 output, 2 mode, 3 access, 4 reload, 5 count, 6 runs, 7 toBeLoaded, 8 pending, 9 lowWritten, 10 highIsWrittenNext, 11 highIsReadNext, 12 latchedCount, 13 latchedStatus -/
abbrev FN (c : Nat → Int32) : List Value := [.int (c 0), .int (c 1), .int (c 2), .int (c 3), .int (c 4), .int (c 5), .int (c 6), .int (c 7), .int (c 8), .int (c 9), .int (c 10), .int (c 11), .int (c 12), .int (c 13)]
theorem tk_ewN {h0 : Nat} {c c1 : Nat → Int32} (h : c = c1) : ([(h0, .inr (1, FN c))] : va_W) = [(h0, .inr (1, FN c1))] := by rw [h]
/-- the fields of TickLines$Controller in their places: 0 leads, 1 lines, 2 latches, 3 mask, 4 service, 5 base, 6 lowest, 7 ready, 8 awaited, 9 levelMode, 10 single, 11 fourthComes, 12 auto, 13 nested, 14 special, 15 turns, 16 serviceIsRead, 17 polled -/
abbrev FC (c : Nat → Int32) : List Value := [.int (c 0), .int (c 1), .int (c 2), .int (c 3), .int (c 4), .int (c 5), .int (c 6), .int (c 7), .int (c 8), .int (c 9), .int (c 10), .int (c 11), .int (c 12), .int (c 13), .int (c 14), .int (c 15), .int (c 16), .int (c 17)]
theorem tk_ewC {h0 : Nat} {c c1 : Nat → Int32} (h : c = c1) : ([(h0, .inr (0, FC c))] : va_W) = [(h0, .inr (0, FC c1))] := by rw [h]
def tkT_asBit_r (x0 : Int32) : Int32 :=
  if x0 = 0 then 0
  else 1
set_option maxHeartbeats 4000000 in
set_option maxRecDepth 100000 in
theorem kT_asBit (l : Launch) (D : va_G) (x0 : Int32) : tk_M l yT_asBit wsT_asBit { frames := 0, cells := 0, slots := 0, locals := 0 } D [] [.int x0] [] [] (some (.int (tkT_asBit_r x0))) := by
  refine tk_M.of (cc := cT_asBit) (maxL := 1) (ret := (some .int)) (by decide) rfl (Nat.le_of_ble_eq_true rfl) ?_
  intro p e s m below meth co A H locs ls hB hK hN hA hP hD hS hl
  obtain ⟨hx, hb, hr, hml, hown, hlk, hnm, hts⟩ := hB
  have hown : s.vm.findClass RT = some m.cls := hown
  have hl : lv_has ls 1 [(0, .int x0)] := hl
  have hw : ∀ w ∈ tkW, w.before _ s = true := fun w h => hts w (List.mem_cons_of_mem _ h)
  refine lv_iload_n hx hb dT_asBit_0 rfl (lv_at hl 0 rfl) ?_
  refine lv_if_eq (tgt := 8) hx hb dT_asBit_1 (by decide) (fun (h1_ : x0 = 0) => ?_) (fun (h1_ : ¬ (x0 = 0)) => ?_)
  · refine lv_iconst (v := 0) hx hb dT_asBit_8 (by decide) ?_
    exact tk_iret hx hb hr hlk hP hD hS dT_asBit_9 (by unfold tkT_asBit_r; rw [if_pos h1_]) rfl
  · refine lv_iconst (v := 1) hx hb dT_asBit_4 (by decide) ?_
    refine lv_goto (tgt := 9) hx hb dT_asBit_5 (by decide) ?_
    exact tk_iret hx hb hr hlk hP hD hS dT_asBit_9 (by unfold tkT_asBit_r; rw [if_neg h1_]) rfl
def tkT_hasBit_r (x0 x1 : Int32) : Int32 :=
  if (x0 >>> (x1 &&& 31)) &&& 1 = 0 then 0
  else 1
theorem tkT_hasBit_b (x0 x1 : Int32) : tkT_hasBit_r x0 x1 = 0 ∨ tkT_hasBit_r x0 x1 = 1 := by
  unfold tkT_hasBit_r
  repeat' split
  all_goals first | exact Or.inl rfl | exact Or.inr rfl
set_option maxHeartbeats 4000000 in
set_option maxRecDepth 100000 in
theorem kT_hasBit (l : Launch) (D : va_G) (x0 x1 : Int32) : tk_M l yT_hasBit wsT_hasBit { frames := 0, cells := 0, slots := 0, locals := 0 } D [] [.int x0, .int x1] [] [] (some (.int (tkT_hasBit_r x0 x1))) := by
  refine tk_M.of (cc := cT_hasBit) (maxL := 2) (ret := (some .boolean)) (by decide) rfl (Nat.le_of_ble_eq_true rfl) ?_
  intro p e s m below meth co A H locs ls hB hK hN hA hP hD hS hl
  obtain ⟨hx, hb, hr, hml, hown, hlk, hnm, hts⟩ := hB
  have hown : s.vm.findClass RT = some m.cls := hown
  have hl : lv_has ls 2 [(0, .int x0), (1, .int x1)] := hl
  have hw : ∀ w ∈ tkW, w.before _ s = true := fun w h => hts w (List.mem_cons_of_mem _ h)
  refine lv_iload_n hx hb dT_hasBit_0 rfl (lv_at hl 0 rfl) ?_
  refine lv_iload_n hx hb dT_hasBit_1 rfl (lv_at hl 1 rfl) ?_
  refine lv_ishr hx hb dT_hasBit_2 ?_
  refine lv_iconst (v := 1) hx hb dT_hasBit_3 (by decide) ?_
  refine lv_iand hx hb dT_hasBit_4 ?_
  refine lv_if_eq (tgt := 12) hx hb dT_hasBit_5 (by decide) (fun (h1_ : (x0 >>> (x1 &&& 31)) &&& 1 = 0) => ?_) (fun (h1_ : ¬ ((x0 >>> (x1 &&& 31)) &&& 1 = 0)) => ?_)
  · refine lv_iconst (v := 0) hx hb dT_hasBit_12 (by decide) ?_
    exact tk_zret hx hb hr hlk hP hD hS dT_hasBit_13 rfl (by unfold tkT_hasBit_r; rw [if_pos h1_]) rfl
  · refine lv_iconst (v := 1) hx hb dT_hasBit_8 (by decide) ?_
    refine lv_goto (tgt := 13) hx hb dT_hasBit_9 (by decide) ?_
    exact tk_zret hx hb hr hlk hP hD hS dT_hasBit_13 rfl (by unfold tkT_hasBit_r; rw [if_neg h1_]) rfl
def tkT_isPort_r (x0 : Int32) : Int32 :=
  if x0 < 0 then 0
  else if 7 < x0 then 0
    else 1
theorem tkT_isPort_b (x0 : Int32) : tkT_isPort_r x0 = 0 ∨ tkT_isPort_r x0 = 1 := by
  unfold tkT_isPort_r
  repeat' split
  all_goals first | exact Or.inl rfl | exact Or.inr rfl
set_option maxHeartbeats 4000000 in
set_option maxRecDepth 100000 in
theorem kT_isPort (l : Launch) (D : va_G) (x0 : Int32) : tk_M l yT_isPort wsT_isPort { frames := 0, cells := 0, slots := 0, locals := 0 } D [] [.int x0] [] [] (some (.int (tkT_isPort_r x0))) := by
  refine tk_M.of (cc := cT_isPort) (maxL := 1) (ret := (some .boolean)) (by decide) rfl (Nat.le_of_ble_eq_true rfl) ?_
  intro p e s m below meth co A H locs ls hB hK hN hA hP hD hS hl
  obtain ⟨hx, hb, hr, hml, hown, hlk, hnm, hts⟩ := hB
  have hown : s.vm.findClass RT = some m.cls := hown
  have hl : lv_has ls 1 [(0, .int x0)] := hl
  have hw : ∀ w ∈ tkW, w.before _ s = true := fun w h => hts w (List.mem_cons_of_mem _ h)
  refine lv_iload_n hx hb dT_isPort_0 rfl (lv_at hl 0 rfl) ?_
  refine lv_if_lt (tgt := 14) hx hb dT_isPort_1 (by decide) (fun (h1_ : x0 < 0) => ?_) (fun (h1_ : ¬ (x0 < 0)) => ?_)
  · refine lv_iconst (v := 0) hx hb dT_isPort_14 (by decide) ?_
    exact tk_zret hx hb hr hlk hP hD hS dT_isPort_15 rfl (by unfold tkT_isPort_r; rw [if_pos h1_]) rfl
  · refine lv_iload_n hx hb dT_isPort_4 rfl (lv_at hl 0 rfl) ?_
    refine lv_bipush (v := 7) hx hb dT_isPort_5 (by decide) ?_
    refine lv_icmp_gt (tgt := 14) hx hb dT_isPort_7 (by decide) (fun (h2_ : 7 < x0) => ?_) (fun (h2_ : ¬ (7 < x0)) => ?_)
    · refine lv_iconst (v := 0) hx hb dT_isPort_14 (by decide) ?_
      exact tk_zret hx hb hr hlk hP hD hS dT_isPort_15 rfl (by unfold tkT_isPort_r; rw [if_neg h1_, if_pos h2_]) rfl
    · refine lv_iconst (v := 1) hx hb dT_isPort_10 (by decide) ?_
      refine lv_goto (tgt := 15) hx hb dT_isPort_11 (by decide) ?_
      exact tk_zret hx hb hr hlk hP hD hS dT_isPort_15 rfl (by unfold tkT_isPort_r; rw [if_neg h1_, if_neg h2_]) rfl
def tkT_isController_r (x0 : Int32) : Int32 :=
  if x0 < 0 then 0
  else if 2 ≤ x0 then 0
    else 1
theorem tkT_isController_b (x0 : Int32) : tkT_isController_r x0 = 0 ∨ tkT_isController_r x0 = 1 := by
  unfold tkT_isController_r
  repeat' split
  all_goals first | exact Or.inl rfl | exact Or.inr rfl
set_option maxHeartbeats 4000000 in
set_option maxRecDepth 100000 in
theorem kT_isController (l : Launch) (D : va_G) (x0 : Int32) : tk_M l yT_isController wsT_isController { frames := 0, cells := 0, slots := 0, locals := 0 } D [] [.int x0] [] [] (some (.int (tkT_isController_r x0))) := by
  refine tk_M.of (cc := cT_isController) (maxL := 1) (ret := (some .boolean)) (by decide) rfl (Nat.le_of_ble_eq_true rfl) ?_
  intro p e s m below meth co A H locs ls hB hK hN hA hP hD hS hl
  obtain ⟨hx, hb, hr, hml, hown, hlk, hnm, hts⟩ := hB
  have hown : s.vm.findClass RT = some m.cls := hown
  have hl : lv_has ls 1 [(0, .int x0)] := hl
  have hw : ∀ w ∈ tkW, w.before _ s = true := fun w h => hts w (List.mem_cons_of_mem _ h)
  refine lv_iload_n hx hb dT_isController_0 rfl (lv_at hl 0 rfl) ?_
  refine lv_if_lt (tgt := 13) hx hb dT_isController_1 (by decide) (fun (h1_ : x0 < 0) => ?_) (fun (h1_ : ¬ (x0 < 0)) => ?_)
  · refine lv_iconst (v := 0) hx hb dT_isController_13 (by decide) ?_
    exact tk_zret hx hb hr hlk hP hD hS dT_isController_14 rfl (by unfold tkT_isController_r; rw [if_pos h1_]) rfl
  · refine lv_iload_n hx hb dT_isController_4 rfl (lv_at hl 0 rfl) ?_
    refine lv_iconst (v := 2) hx hb dT_isController_5 (by decide) ?_
    refine lv_icmp_ge (tgt := 13) hx hb dT_isController_6 (by decide) (fun (h2_ : 2 ≤ x0) => ?_) (fun (h2_ : ¬ (2 ≤ x0)) => ?_)
    · refine lv_iconst (v := 0) hx hb dT_isController_13 (by decide) ?_
      exact tk_zret hx hb hr hlk hP hD hS dT_isController_14 rfl (by unfold tkT_isController_r; rw [if_neg h1_, if_pos h2_]) rfl
    · refine lv_iconst (v := 1) hx hb dT_isController_9 (by decide) ?_
      refine lv_goto (tgt := 14) hx hb dT_isController_10 (by decide) ?_
      exact tk_zret hx hb hr hlk hP hD hS dT_isController_14 rfl (by unfold tkT_isController_r; rw [if_neg h1_, if_neg h2_]) rfl
def tkT_isCounter_r (x0 : Int32) : Int32 :=
  if x0 < 0 then 0
  else if 3 ≤ x0 then 0
    else 1
theorem tkT_isCounter_b (x0 : Int32) : tkT_isCounter_r x0 = 0 ∨ tkT_isCounter_r x0 = 1 := by
  unfold tkT_isCounter_r
  repeat' split
  all_goals first | exact Or.inl rfl | exact Or.inr rfl
set_option maxHeartbeats 4000000 in
set_option maxRecDepth 100000 in
theorem kT_isCounter (l : Launch) (D : va_G) (x0 : Int32) : tk_M l yT_isCounter wsT_isCounter { frames := 0, cells := 0, slots := 0, locals := 0 } D [] [.int x0] [] [] (some (.int (tkT_isCounter_r x0))) := by
  refine tk_M.of (cc := cT_isCounter) (maxL := 1) (ret := (some .boolean)) (by decide) rfl (Nat.le_of_ble_eq_true rfl) ?_
  intro p e s m below meth co A H locs ls hB hK hN hA hP hD hS hl
  obtain ⟨hx, hb, hr, hml, hown, hlk, hnm, hts⟩ := hB
  have hown : s.vm.findClass RT = some m.cls := hown
  have hl : lv_has ls 1 [(0, .int x0)] := hl
  have hw : ∀ w ∈ tkW, w.before _ s = true := fun w h => hts w (List.mem_cons_of_mem _ h)
  refine lv_iload_n hx hb dT_isCounter_0 rfl (lv_at hl 0 rfl) ?_
  refine lv_if_lt (tgt := 13) hx hb dT_isCounter_1 (by decide) (fun (h1_ : x0 < 0) => ?_) (fun (h1_ : ¬ (x0 < 0)) => ?_)
  · refine lv_iconst (v := 0) hx hb dT_isCounter_13 (by decide) ?_
    exact tk_zret hx hb hr hlk hP hD hS dT_isCounter_14 rfl (by unfold tkT_isCounter_r; rw [if_pos h1_]) rfl
  · refine lv_iload_n hx hb dT_isCounter_4 rfl (lv_at hl 0 rfl) ?_
    refine lv_iconst (v := 3) hx hb dT_isCounter_5 (by decide) ?_
    refine lv_icmp_ge (tgt := 13) hx hb dT_isCounter_6 (by decide) (fun (h2_ : 3 ≤ x0) => ?_) (fun (h2_ : ¬ (3 ≤ x0)) => ?_)
    · refine lv_iconst (v := 0) hx hb dT_isCounter_13 (by decide) ?_
      exact tk_zret hx hb hr hlk hP hD hS dT_isCounter_14 rfl (by unfold tkT_isCounter_r; rw [if_neg h1_, if_pos h2_]) rfl
    · refine lv_iconst (v := 1) hx hb dT_isCounter_9 (by decide) ?_
      refine lv_goto (tgt := 14) hx hb dT_isCounter_10 (by decide) ?_
      exact tk_zret hx hb hr hlk hP hD hS dT_isCounter_14 rfl (by unfold tkT_isCounter_r; rw [if_neg h1_, if_neg h2_]) rfl
def tkT_isCounterPort_r (x0 : Int32) : Int32 :=
  tkT_isCounter_r (x0 - 4)
set_option maxHeartbeats 4000000 in
set_option maxRecDepth 100000 in
theorem kT_isCounterPort (l : Launch) (D : va_G) (x0 : Int32) : tk_M l yT_isCounterPort wsT_isCounterPort { frames := 1, cells := 0, slots := 0, locals := 20 } D [] [.int x0] [] [] (some (.int (tkT_isCounterPort_r x0))) := by
  refine tk_M.of (cc := cT_isCounterPort) (maxL := 1) (ret := (some .boolean)) (by decide) rfl (Nat.le_of_ble_eq_true rfl) ?_
  intro p e s m below meth co A H locs ls hB hK hN hA hP hD hS hl
  obtain ⟨hx, hb, hr, hml, hown, hlk, hnm, hts⟩ := hB
  have hown : s.vm.findClass RT = some m.cls := hown
  have hl : lv_has ls 1 [(0, .int x0)] := hl
  have hw : ∀ w ∈ tkW, w.before _ s = true := fun w h => hts w (List.mem_cons_of_mem _ h)
  refine lv_iload_n hx hb dT_isCounterPort_0 rfl (lv_at hl 0 rfl) ?_
  refine lv_iconst (v := 4) hx hb dT_isCounterPort_1 (by decide) ?_
  refine lv_isub hx hb dT_isCounterPort_2 ?_
  refine tk_call0 hP hD hS hA (va_runS (As := [.int (x0 - 4)]) (rest := []) ⟨hx, hb, hml, hown, hw⟩ (kT_isCounter l D (x0 - 4) H.size) (va_cwS 1 hw (tk_gS tkW_good wM_T_80 wT_T_isCounter wZ_T wC_T_isCounter) rfl rfl rfl (by decide +kernel) ⟨Nat.le_of_ble_eq_true rfl, Nat.le_of_ble_eq_true rfl⟩) (tk_preS hK hN hP hD [] [] rfl rfl rfl) rfl rfl hl.1 rfl (lv_room (Nat.le_of_ble_eq_true rfl)) dT_isCounterPort_3 ⟨Nat.zero_le _, Nat.zero_le _⟩) (fun H locs hP hD hS => ?_)
  refine W.eq (g2 := F0 m 6 ls [.int (tkT_isCounter_r (x0 - 4))]) rfl ?_
  exact tk_zret hx hb hr hlk hP hD hS dT_isCounterPort_6 (tk_nb (tkT_isCounter_b (x0 - 4))) rfl rfl
end
section
def tkN_hasMode_r (c : Nat → Int32) : Int32 :=
  if c 2 = (-1) then 0
  else 1
set_option maxHeartbeats 1000000 in
set_option maxRecDepth 100000 in
theorem kN_hasMode (l : Launch) (D : va_G) (h0 : Nat) (c : Nat → Int32) : tk_M l yN_hasMode wsN_hasMode { frames := 0, cells := 0, slots := 0, locals := 0 } D [] [.ref h0] [(h0, .inr (1, FN c))] [(h0, .inr (1, FN c))] (some (.int (tkN_hasMode_r c))) := by
  refine tk_M.of (cc := cN_hasMode) (maxL := 1) (ret := (some .boolean)) (by decide) rfl (Nat.le_of_ble_eq_true rfl) ?_
  intro p e s m below meth co A H locs ls hB hK hN hA hP hD hS hl
  obtain ⟨hx, hb, hr, hml, hown, hlk, hnm, hts⟩ := hB
  have hown : s.vm.findClass RN = some m.cls := hown
  have hl : lv_has ls 1 [(0, .ref h0)] := hl
  have hw : ∀ w ∈ tkW, w.before _ s = true := fun w h => hts w (List.mem_cons_of_mem _ h)
  have f15 := hw _ wF_N_15
  refine lv_aload_n hx hb dN_hasMode_0 rfl (lv_at hl 0 rfl) ?_
  refine va_get (D := D) (ci := 1) (v := .int (c 2)) (C := RN) (T := TN) (N := 14) hx hb hw inN hown hK hP 0 rfl rfl 2 (by decide) f15 (fun _ h9 => h9) rfl dN_hasMode_1 ?_
  refine lv_iconst (v := -1) hx hb dN_hasMode_4 (by decide) ?_
  refine lv_icmp_eq (tgt := 12) hx hb dN_hasMode_5 (by decide) (fun (h1_ : c 2 = (-1)) => ?_) (fun (h1_ : ¬ (c 2 = (-1))) => ?_)
  · refine lv_iconst (v := 0) hx hb dN_hasMode_12 (by decide) ?_
    exact tk_zret hx hb hr hlk hP hD hS dN_hasMode_13 rfl (by unfold tkN_hasMode_r; rw [if_pos h1_]) rfl
  · refine lv_iconst (v := 1) hx hb dN_hasMode_8 (by decide) ?_
    refine lv_goto (tgt := 13) hx hb dN_hasMode_9 (by decide) ?_
    exact tk_zret hx hb hr hlk hP hD hS dN_hasMode_13 rfl (by unfold tkN_hasMode_r; rw [if_neg h1_]) rfl
def tkN_setMode_s (c : Nat → Int32) (x0 x1 : Int32) : Nat → Int32 :=
  if x1 ≤ 5 then (if x1 = 0 then tk_up (tk_up (tk_up (tk_up (tk_up (tk_up (tk_up (tk_up (tk_up (tk_up (tk_up c 3 x0) 2 x1) 4 0) 6 0) 7 0) 8 1) 10 0) 11 0) 12 (-1)) 13 (-1)) 1 0
    else tk_up (tk_up (tk_up (tk_up (tk_up (tk_up (tk_up (tk_up (tk_up (tk_up (tk_up c 3 x0) 2 x1) 4 0) 6 0) 7 0) 8 1) 10 0) 11 0) 12 (-1)) 13 (-1)) 1 1)
  else if x1 - 4 = 0 then tk_up (tk_up (tk_up (tk_up (tk_up (tk_up (tk_up (tk_up (tk_up (tk_up (tk_up c 3 x0) 2 (x1 - 4)) 4 0) 6 0) 7 0) 8 1) 10 0) 11 0) 12 (-1)) 13 (-1)) 1 0
    else tk_up (tk_up (tk_up (tk_up (tk_up (tk_up (tk_up (tk_up (tk_up (tk_up (tk_up c 3 x0) 2 (x1 - 4)) 4 0) 6 0) 7 0) 8 1) 10 0) 11 0) 12 (-1)) 13 (-1)) 1 1
set_option maxHeartbeats 1000000 in
set_option maxRecDepth 100000 in
theorem kN_setMode (l : Launch) (D : va_G) (h0 : Nat) (c : Nat → Int32) (x0 x1 : Int32) : tk_M l yN_setMode wsN_setMode { frames := 0, cells := 0, slots := 0, locals := 0 } D [] [.ref h0, .int x0, .int x1] [(h0, .inr (1, FN c))] [(h0, .inr (1, FN (tkN_setMode_s c x0 x1)))] none := by
  refine tk_M.of (cc := cN_setMode) (maxL := 3) (ret := none) (by decide) rfl (Nat.le_of_ble_eq_true rfl) ?_
  intro p e s m below meth co A H locs ls hB hK hN hA hP hD hS hl
  obtain ⟨hx, hb, hr, hml, hown, hlk, hnm, hts⟩ := hB
  have hown : s.vm.findClass RN = some m.cls := hown
  have hl : lv_has ls 3 [(0, .ref h0), (1, .int x0), (2, .int x1)] := hl
  have hw : ∀ w ∈ tkW, w.before _ s = true := fun w h => hts w (List.mem_cons_of_mem _ h)
  have f25 := hw _ wF_N_25
  have f15 := hw _ wF_N_15
  have f28 := hw _ wF_N_28
  have f31 := hw _ wF_N_31
  have f34 := hw _ wF_N_34
  have f37 := hw _ wF_N_37
  have f40 := hw _ wF_N_40
  have f43 := hw _ wF_N_43
  have f19 := hw _ wF_N_19
  have f22 := hw _ wF_N_22
  have f46 := hw _ wF_N_46
  refine lv_aload_n hx hb dN_setMode_0 rfl (lv_at hl 0 rfl) ?_
  refine lv_iload_n hx hb dN_setMode_1 rfl (lv_at hl 1 rfl) ?_
  refine va_put (D := D) (ci := 1) (v := .int x0) (ty := .int) (C := RN) (T := TN) (N := 14) hx hb hw inN tyN tyN_ok nmN hown hK hP hD hS 0 rfl rfl 3 (by decide) f25 (fun _ h9 => h9) rfl (tyN_ok 3 (by decide)) rfl rfl (Nat.le_of_ble_eq_true rfl) dN_setMode_2 (fun H locs hP hD hS => ?_)
  have hP : va_P D vwCl [(h0, .inr (1, FN (tk_up c 3 x0)))] H := hP
  have hD : va_D A [(h0, .inr (1, FN (tk_up c 3 x0)))] := hD
  refine lv_aload_n hx hb dN_setMode_5 rfl (lv_at hl 0 rfl) ?_
  refine lv_iload_n hx hb dN_setMode_6 rfl (lv_at hl 2 rfl) ?_
  refine lv_iconst (v := 5) hx hb dN_setMode_7 (by decide) ?_
  refine lv_icmp_le (tgt := 17) hx hb dN_setMode_8 (by decide) (fun (h1_ : x1 ≤ 5) => ?_) (fun (h1_ : ¬ (x1 ≤ 5)) => ?_)
  · refine lv_iload_n hx hb dN_setMode_17 rfl (lv_at hl 2 rfl) ?_
    refine va_put (D := D) (ci := 1) (v := .int x1) (ty := .int) (C := RN) (T := TN) (N := 14) hx hb hw inN tyN tyN_ok nmN hown hK hP hD hS 0 rfl rfl 2 (by decide) f15 (fun _ h9 => h9) rfl (tyN_ok 2 (by decide)) rfl rfl (Nat.le_of_ble_eq_true rfl) dN_setMode_18 (fun H locs hP hD hS => ?_)
    have hP : va_P D vwCl [(h0, .inr (1, FN (tk_up (tk_up c 3 x0) 2 x1)))] H := hP
    have hD : va_D A [(h0, .inr (1, FN (tk_up (tk_up c 3 x0) 2 x1)))] := hD
    refine lv_aload_n hx hb dN_setMode_21 rfl (lv_at hl 0 rfl) ?_
    refine lv_iconst (v := 0) hx hb dN_setMode_22 (by decide) ?_
    refine va_put (D := D) (ci := 1) (v := .int 0) (ty := .int) (C := RN) (T := TN) (N := 14) hx hb hw inN tyN tyN_ok nmN hown hK hP hD hS 0 rfl rfl 4 (by decide) f28 (fun _ h9 => h9) rfl (tyN_ok 4 (by decide)) rfl rfl (Nat.le_of_ble_eq_true rfl) dN_setMode_23 (fun H locs hP hD hS => ?_)
    have hP : va_P D vwCl [(h0, .inr (1, FN (tk_up (tk_up (tk_up c 3 x0) 2 x1) 4 0)))] H := hP
    have hD : va_D A [(h0, .inr (1, FN (tk_up (tk_up (tk_up c 3 x0) 2 x1) 4 0)))] := hD
    refine lv_aload_n hx hb dN_setMode_26 rfl (lv_at hl 0 rfl) ?_
    refine lv_iconst (v := 0) hx hb dN_setMode_27 (by decide) ?_
    refine va_put (D := D) (ci := 1) (v := .int 0) (ty := .boolean) (C := RN) (T := TN) (N := 14) hx hb hw inN tyN tyN_ok nmN hown hK hP hD hS 0 rfl rfl 6 (by decide) f31 (fun _ h9 => h9) rfl (tyN_ok 6 (by decide)) rfl rfl (Nat.le_of_ble_eq_true rfl) dN_setMode_28 (fun H locs hP hD hS => ?_)
    have hP : va_P D vwCl [(h0, .inr (1, FN (tk_up (tk_up (tk_up (tk_up c 3 x0) 2 x1) 4 0) 6 0)))] H := hP
    have hD : va_D A [(h0, .inr (1, FN (tk_up (tk_up (tk_up (tk_up c 3 x0) 2 x1) 4 0) 6 0)))] := hD
    refine lv_aload_n hx hb dN_setMode_31 rfl (lv_at hl 0 rfl) ?_
    refine lv_iconst (v := 0) hx hb dN_setMode_32 (by decide) ?_
    refine va_put (D := D) (ci := 1) (v := .int 0) (ty := .boolean) (C := RN) (T := TN) (N := 14) hx hb hw inN tyN tyN_ok nmN hown hK hP hD hS 0 rfl rfl 7 (by decide) f34 (fun _ h9 => h9) rfl (tyN_ok 7 (by decide)) rfl rfl (Nat.le_of_ble_eq_true rfl) dN_setMode_33 (fun H locs hP hD hS => ?_)
    have hP : va_P D vwCl [(h0, .inr (1, FN (tk_up (tk_up (tk_up (tk_up (tk_up c 3 x0) 2 x1) 4 0) 6 0) 7 0)))] H := hP
    have hD : va_D A [(h0, .inr (1, FN (tk_up (tk_up (tk_up (tk_up (tk_up c 3 x0) 2 x1) 4 0) 6 0) 7 0)))] := hD
    refine lv_aload_n hx hb dN_setMode_36 rfl (lv_at hl 0 rfl) ?_
    refine lv_iconst (v := 1) hx hb dN_setMode_37 (by decide) ?_
    refine va_put (D := D) (ci := 1) (v := .int 1) (ty := .boolean) (C := RN) (T := TN) (N := 14) hx hb hw inN tyN tyN_ok nmN hown hK hP hD hS 0 rfl rfl 8 (by decide) f37 (fun _ h9 => h9) rfl (tyN_ok 8 (by decide)) rfl rfl (Nat.le_of_ble_eq_true rfl) dN_setMode_38 (fun H locs hP hD hS => ?_)
    have hP : va_P D vwCl [(h0, .inr (1, FN (tk_up (tk_up (tk_up (tk_up (tk_up (tk_up c 3 x0) 2 x1) 4 0) 6 0) 7 0) 8 1)))] H := hP
    have hD : va_D A [(h0, .inr (1, FN (tk_up (tk_up (tk_up (tk_up (tk_up (tk_up c 3 x0) 2 x1) 4 0) 6 0) 7 0) 8 1)))] := hD
    refine lv_aload_n hx hb dN_setMode_41 rfl (lv_at hl 0 rfl) ?_
    refine lv_iconst (v := 0) hx hb dN_setMode_42 (by decide) ?_
    refine va_put (D := D) (ci := 1) (v := .int 0) (ty := .boolean) (C := RN) (T := TN) (N := 14) hx hb hw inN tyN tyN_ok nmN hown hK hP hD hS 0 rfl rfl 10 (by decide) f40 (fun _ h9 => h9) rfl (tyN_ok 10 (by decide)) rfl rfl (Nat.le_of_ble_eq_true rfl) dN_setMode_43 (fun H locs hP hD hS => ?_)
    have hP : va_P D vwCl [(h0, .inr (1, FN (tk_up (tk_up (tk_up (tk_up (tk_up (tk_up (tk_up c 3 x0) 2 x1) 4 0) 6 0) 7 0) 8 1) 10 0)))] H := hP
    have hD : va_D A [(h0, .inr (1, FN (tk_up (tk_up (tk_up (tk_up (tk_up (tk_up (tk_up c 3 x0) 2 x1) 4 0) 6 0) 7 0) 8 1) 10 0)))] := hD
    refine lv_aload_n hx hb dN_setMode_46 rfl (lv_at hl 0 rfl) ?_
    refine lv_iconst (v := 0) hx hb dN_setMode_47 (by decide) ?_
    refine va_put (D := D) (ci := 1) (v := .int 0) (ty := .boolean) (C := RN) (T := TN) (N := 14) hx hb hw inN tyN tyN_ok nmN hown hK hP hD hS 0 rfl rfl 11 (by decide) f43 (fun _ h9 => h9) rfl (tyN_ok 11 (by decide)) rfl rfl (Nat.le_of_ble_eq_true rfl) dN_setMode_48 (fun H locs hP hD hS => ?_)
    have hP : va_P D vwCl [(h0, .inr (1, FN (tk_up (tk_up (tk_up (tk_up (tk_up (tk_up (tk_up (tk_up c 3 x0) 2 x1) 4 0) 6 0) 7 0) 8 1) 10 0) 11 0)))] H := hP
    have hD : va_D A [(h0, .inr (1, FN (tk_up (tk_up (tk_up (tk_up (tk_up (tk_up (tk_up (tk_up c 3 x0) 2 x1) 4 0) 6 0) 7 0) 8 1) 10 0) 11 0)))] := hD
    refine lv_aload_n hx hb dN_setMode_51 rfl (lv_at hl 0 rfl) ?_
    refine lv_iconst (v := -1) hx hb dN_setMode_52 (by decide) ?_
    refine va_put (D := D) (ci := 1) (v := .int (-1)) (ty := .int) (C := RN) (T := TN) (N := 14) hx hb hw inN tyN tyN_ok nmN hown hK hP hD hS 0 rfl rfl 12 (by decide) f19 (fun _ h9 => h9) rfl (tyN_ok 12 (by decide)) rfl rfl (Nat.le_of_ble_eq_true rfl) dN_setMode_53 (fun H locs hP hD hS => ?_)
    have hP : va_P D vwCl [(h0, .inr (1, FN (tk_up (tk_up (tk_up (tk_up (tk_up (tk_up (tk_up (tk_up (tk_up c 3 x0) 2 x1) 4 0) 6 0) 7 0) 8 1) 10 0) 11 0) 12 (-1))))] H := hP
    have hD : va_D A [(h0, .inr (1, FN (tk_up (tk_up (tk_up (tk_up (tk_up (tk_up (tk_up (tk_up (tk_up c 3 x0) 2 x1) 4 0) 6 0) 7 0) 8 1) 10 0) 11 0) 12 (-1))))] := hD
    refine lv_aload_n hx hb dN_setMode_56 rfl (lv_at hl 0 rfl) ?_
    refine lv_iconst (v := -1) hx hb dN_setMode_57 (by decide) ?_
    refine va_put (D := D) (ci := 1) (v := .int (-1)) (ty := .int) (C := RN) (T := TN) (N := 14) hx hb hw inN tyN tyN_ok nmN hown hK hP hD hS 0 rfl rfl 13 (by decide) f22 (fun _ h9 => h9) rfl (tyN_ok 13 (by decide)) rfl rfl (Nat.le_of_ble_eq_true rfl) dN_setMode_58 (fun H locs hP hD hS => ?_)
    have hP : va_P D vwCl [(h0, .inr (1, FN (tk_up (tk_up (tk_up (tk_up (tk_up (tk_up (tk_up (tk_up (tk_up (tk_up c 3 x0) 2 x1) 4 0) 6 0) 7 0) 8 1) 10 0) 11 0) 12 (-1)) 13 (-1))))] H := hP
    have hD : va_D A [(h0, .inr (1, FN (tk_up (tk_up (tk_up (tk_up (tk_up (tk_up (tk_up (tk_up (tk_up (tk_up c 3 x0) 2 x1) 4 0) 6 0) 7 0) 8 1) 10 0) 11 0) 12 (-1)) 13 (-1))))] := hD
    refine lv_aload_n hx hb dN_setMode_61 rfl (lv_at hl 0 rfl) ?_
    refine lv_aload_n hx hb dN_setMode_62 rfl (lv_at hl 0 rfl) ?_
    refine va_get (D := D) (ci := 1) (v := .int x1) (C := RN) (T := TN) (N := 14) hx hb hw inN hown hK hP 0 rfl rfl 2 (by decide) f15 (fun _ h9 => h9) rfl dN_setMode_63 ?_
    refine lv_if_eq (tgt := 73) hx hb dN_setMode_66 (by decide) (fun (h2_ : x1 = 0) => ?_) (fun (h2_ : ¬ (x1 = 0)) => ?_)
    · refine lv_iconst (v := 0) hx hb dN_setMode_73 (by decide) ?_
      refine va_put (D := D) (ci := 1) (v := .int 0) (ty := .boolean) (C := RN) (T := TN) (N := 14) hx hb hw inN tyN tyN_ok nmN hown hK hP hD hS 0 rfl rfl 1 (by decide) f46 (fun _ h9 => h9) rfl (tyN_ok 1 (by decide)) rfl rfl (Nat.le_of_ble_eq_true rfl) dN_setMode_74 (fun H locs hP hD hS => ?_)
      have hP : va_P D vwCl [(h0, .inr (1, FN (tk_up (tk_up (tk_up (tk_up (tk_up (tk_up (tk_up (tk_up (tk_up (tk_up (tk_up c 3 x0) 2 x1) 4 0) 6 0) 7 0) 8 1) 10 0) 11 0) 12 (-1)) 13 (-1)) 1 0)))] H := hP
      have hD : va_D A [(h0, .inr (1, FN (tk_up (tk_up (tk_up (tk_up (tk_up (tk_up (tk_up (tk_up (tk_up (tk_up (tk_up c 3 x0) 2 x1) 4 0) 6 0) 7 0) 8 1) 10 0) 11 0) 12 (-1)) 13 (-1)) 1 0)))] := hD
      exact tk_vret hx hb hr hlk hP hD hS dN_setMode_77 (tk_ewN (by unfold tkN_setMode_s; rw [if_pos h1_, if_pos h2_]))
    · refine lv_iconst (v := 1) hx hb dN_setMode_69 (by decide) ?_
      refine lv_goto (tgt := 74) hx hb dN_setMode_70 (by decide) ?_
      refine va_put (D := D) (ci := 1) (v := .int 1) (ty := .boolean) (C := RN) (T := TN) (N := 14) hx hb hw inN tyN tyN_ok nmN hown hK hP hD hS 0 rfl rfl 1 (by decide) f46 (fun _ h9 => h9) rfl (tyN_ok 1 (by decide)) rfl rfl (Nat.le_of_ble_eq_true rfl) dN_setMode_74 (fun H locs hP hD hS => ?_)
      have hP : va_P D vwCl [(h0, .inr (1, FN (tk_up (tk_up (tk_up (tk_up (tk_up (tk_up (tk_up (tk_up (tk_up (tk_up (tk_up c 3 x0) 2 x1) 4 0) 6 0) 7 0) 8 1) 10 0) 11 0) 12 (-1)) 13 (-1)) 1 1)))] H := hP
      have hD : va_D A [(h0, .inr (1, FN (tk_up (tk_up (tk_up (tk_up (tk_up (tk_up (tk_up (tk_up (tk_up (tk_up (tk_up c 3 x0) 2 x1) 4 0) 6 0) 7 0) 8 1) 10 0) 11 0) 12 (-1)) 13 (-1)) 1 1)))] := hD
      exact tk_vret hx hb hr hlk hP hD hS dN_setMode_77 (tk_ewN (by unfold tkN_setMode_s; rw [if_pos h1_, if_neg h2_]))
  · refine lv_iload_n hx hb dN_setMode_11 rfl (lv_at hl 2 rfl) ?_
    refine lv_iconst (v := 4) hx hb dN_setMode_12 (by decide) ?_
    refine lv_isub hx hb dN_setMode_13 ?_
    refine lv_goto (tgt := 18) hx hb dN_setMode_14 (by decide) ?_
    refine va_put (D := D) (ci := 1) (v := .int (x1 - 4)) (ty := .int) (C := RN) (T := TN) (N := 14) hx hb hw inN tyN tyN_ok nmN hown hK hP hD hS 0 rfl rfl 2 (by decide) f15 (fun _ h9 => h9) rfl (tyN_ok 2 (by decide)) rfl rfl (Nat.le_of_ble_eq_true rfl) dN_setMode_18 (fun H locs hP hD hS => ?_)
    have hP : va_P D vwCl [(h0, .inr (1, FN (tk_up (tk_up c 3 x0) 2 (x1 - 4))))] H := hP
    have hD : va_D A [(h0, .inr (1, FN (tk_up (tk_up c 3 x0) 2 (x1 - 4))))] := hD
    refine lv_aload_n hx hb dN_setMode_21 rfl (lv_at hl 0 rfl) ?_
    refine lv_iconst (v := 0) hx hb dN_setMode_22 (by decide) ?_
    refine va_put (D := D) (ci := 1) (v := .int 0) (ty := .int) (C := RN) (T := TN) (N := 14) hx hb hw inN tyN tyN_ok nmN hown hK hP hD hS 0 rfl rfl 4 (by decide) f28 (fun _ h9 => h9) rfl (tyN_ok 4 (by decide)) rfl rfl (Nat.le_of_ble_eq_true rfl) dN_setMode_23 (fun H locs hP hD hS => ?_)
    have hP : va_P D vwCl [(h0, .inr (1, FN (tk_up (tk_up (tk_up c 3 x0) 2 (x1 - 4)) 4 0)))] H := hP
    have hD : va_D A [(h0, .inr (1, FN (tk_up (tk_up (tk_up c 3 x0) 2 (x1 - 4)) 4 0)))] := hD
    refine lv_aload_n hx hb dN_setMode_26 rfl (lv_at hl 0 rfl) ?_
    refine lv_iconst (v := 0) hx hb dN_setMode_27 (by decide) ?_
    refine va_put (D := D) (ci := 1) (v := .int 0) (ty := .boolean) (C := RN) (T := TN) (N := 14) hx hb hw inN tyN tyN_ok nmN hown hK hP hD hS 0 rfl rfl 6 (by decide) f31 (fun _ h9 => h9) rfl (tyN_ok 6 (by decide)) rfl rfl (Nat.le_of_ble_eq_true rfl) dN_setMode_28 (fun H locs hP hD hS => ?_)
    have hP : va_P D vwCl [(h0, .inr (1, FN (tk_up (tk_up (tk_up (tk_up c 3 x0) 2 (x1 - 4)) 4 0) 6 0)))] H := hP
    have hD : va_D A [(h0, .inr (1, FN (tk_up (tk_up (tk_up (tk_up c 3 x0) 2 (x1 - 4)) 4 0) 6 0)))] := hD
    refine lv_aload_n hx hb dN_setMode_31 rfl (lv_at hl 0 rfl) ?_
    refine lv_iconst (v := 0) hx hb dN_setMode_32 (by decide) ?_
    refine va_put (D := D) (ci := 1) (v := .int 0) (ty := .boolean) (C := RN) (T := TN) (N := 14) hx hb hw inN tyN tyN_ok nmN hown hK hP hD hS 0 rfl rfl 7 (by decide) f34 (fun _ h9 => h9) rfl (tyN_ok 7 (by decide)) rfl rfl (Nat.le_of_ble_eq_true rfl) dN_setMode_33 (fun H locs hP hD hS => ?_)
    have hP : va_P D vwCl [(h0, .inr (1, FN (tk_up (tk_up (tk_up (tk_up (tk_up c 3 x0) 2 (x1 - 4)) 4 0) 6 0) 7 0)))] H := hP
    have hD : va_D A [(h0, .inr (1, FN (tk_up (tk_up (tk_up (tk_up (tk_up c 3 x0) 2 (x1 - 4)) 4 0) 6 0) 7 0)))] := hD
    refine lv_aload_n hx hb dN_setMode_36 rfl (lv_at hl 0 rfl) ?_
    refine lv_iconst (v := 1) hx hb dN_setMode_37 (by decide) ?_
    refine va_put (D := D) (ci := 1) (v := .int 1) (ty := .boolean) (C := RN) (T := TN) (N := 14) hx hb hw inN tyN tyN_ok nmN hown hK hP hD hS 0 rfl rfl 8 (by decide) f37 (fun _ h9 => h9) rfl (tyN_ok 8 (by decide)) rfl rfl (Nat.le_of_ble_eq_true rfl) dN_setMode_38 (fun H locs hP hD hS => ?_)
    have hP : va_P D vwCl [(h0, .inr (1, FN (tk_up (tk_up (tk_up (tk_up (tk_up (tk_up c 3 x0) 2 (x1 - 4)) 4 0) 6 0) 7 0) 8 1)))] H := hP
    have hD : va_D A [(h0, .inr (1, FN (tk_up (tk_up (tk_up (tk_up (tk_up (tk_up c 3 x0) 2 (x1 - 4)) 4 0) 6 0) 7 0) 8 1)))] := hD
    refine lv_aload_n hx hb dN_setMode_41 rfl (lv_at hl 0 rfl) ?_
    refine lv_iconst (v := 0) hx hb dN_setMode_42 (by decide) ?_
    refine va_put (D := D) (ci := 1) (v := .int 0) (ty := .boolean) (C := RN) (T := TN) (N := 14) hx hb hw inN tyN tyN_ok nmN hown hK hP hD hS 0 rfl rfl 10 (by decide) f40 (fun _ h9 => h9) rfl (tyN_ok 10 (by decide)) rfl rfl (Nat.le_of_ble_eq_true rfl) dN_setMode_43 (fun H locs hP hD hS => ?_)
    have hP : va_P D vwCl [(h0, .inr (1, FN (tk_up (tk_up (tk_up (tk_up (tk_up (tk_up (tk_up c 3 x0) 2 (x1 - 4)) 4 0) 6 0) 7 0) 8 1) 10 0)))] H := hP
    have hD : va_D A [(h0, .inr (1, FN (tk_up (tk_up (tk_up (tk_up (tk_up (tk_up (tk_up c 3 x0) 2 (x1 - 4)) 4 0) 6 0) 7 0) 8 1) 10 0)))] := hD
    refine lv_aload_n hx hb dN_setMode_46 rfl (lv_at hl 0 rfl) ?_
    refine lv_iconst (v := 0) hx hb dN_setMode_47 (by decide) ?_
    refine va_put (D := D) (ci := 1) (v := .int 0) (ty := .boolean) (C := RN) (T := TN) (N := 14) hx hb hw inN tyN tyN_ok nmN hown hK hP hD hS 0 rfl rfl 11 (by decide) f43 (fun _ h9 => h9) rfl (tyN_ok 11 (by decide)) rfl rfl (Nat.le_of_ble_eq_true rfl) dN_setMode_48 (fun H locs hP hD hS => ?_)
    have hP : va_P D vwCl [(h0, .inr (1, FN (tk_up (tk_up (tk_up (tk_up (tk_up (tk_up (tk_up (tk_up c 3 x0) 2 (x1 - 4)) 4 0) 6 0) 7 0) 8 1) 10 0) 11 0)))] H := hP
    have hD : va_D A [(h0, .inr (1, FN (tk_up (tk_up (tk_up (tk_up (tk_up (tk_up (tk_up (tk_up c 3 x0) 2 (x1 - 4)) 4 0) 6 0) 7 0) 8 1) 10 0) 11 0)))] := hD
    refine lv_aload_n hx hb dN_setMode_51 rfl (lv_at hl 0 rfl) ?_
    refine lv_iconst (v := -1) hx hb dN_setMode_52 (by decide) ?_
    refine va_put (D := D) (ci := 1) (v := .int (-1)) (ty := .int) (C := RN) (T := TN) (N := 14) hx hb hw inN tyN tyN_ok nmN hown hK hP hD hS 0 rfl rfl 12 (by decide) f19 (fun _ h9 => h9) rfl (tyN_ok 12 (by decide)) rfl rfl (Nat.le_of_ble_eq_true rfl) dN_setMode_53 (fun H locs hP hD hS => ?_)
    have hP : va_P D vwCl [(h0, .inr (1, FN (tk_up (tk_up (tk_up (tk_up (tk_up (tk_up (tk_up (tk_up (tk_up c 3 x0) 2 (x1 - 4)) 4 0) 6 0) 7 0) 8 1) 10 0) 11 0) 12 (-1))))] H := hP
    have hD : va_D A [(h0, .inr (1, FN (tk_up (tk_up (tk_up (tk_up (tk_up (tk_up (tk_up (tk_up (tk_up c 3 x0) 2 (x1 - 4)) 4 0) 6 0) 7 0) 8 1) 10 0) 11 0) 12 (-1))))] := hD
    refine lv_aload_n hx hb dN_setMode_56 rfl (lv_at hl 0 rfl) ?_
    refine lv_iconst (v := -1) hx hb dN_setMode_57 (by decide) ?_
    refine va_put (D := D) (ci := 1) (v := .int (-1)) (ty := .int) (C := RN) (T := TN) (N := 14) hx hb hw inN tyN tyN_ok nmN hown hK hP hD hS 0 rfl rfl 13 (by decide) f22 (fun _ h9 => h9) rfl (tyN_ok 13 (by decide)) rfl rfl (Nat.le_of_ble_eq_true rfl) dN_setMode_58 (fun H locs hP hD hS => ?_)
    have hP : va_P D vwCl [(h0, .inr (1, FN (tk_up (tk_up (tk_up (tk_up (tk_up (tk_up (tk_up (tk_up (tk_up (tk_up c 3 x0) 2 (x1 - 4)) 4 0) 6 0) 7 0) 8 1) 10 0) 11 0) 12 (-1)) 13 (-1))))] H := hP
    have hD : va_D A [(h0, .inr (1, FN (tk_up (tk_up (tk_up (tk_up (tk_up (tk_up (tk_up (tk_up (tk_up (tk_up c 3 x0) 2 (x1 - 4)) 4 0) 6 0) 7 0) 8 1) 10 0) 11 0) 12 (-1)) 13 (-1))))] := hD
    refine lv_aload_n hx hb dN_setMode_61 rfl (lv_at hl 0 rfl) ?_
    refine lv_aload_n hx hb dN_setMode_62 rfl (lv_at hl 0 rfl) ?_
    refine va_get (D := D) (ci := 1) (v := .int (x1 - 4)) (C := RN) (T := TN) (N := 14) hx hb hw inN hown hK hP 0 rfl rfl 2 (by decide) f15 (fun _ h9 => h9) rfl dN_setMode_63 ?_
    refine lv_if_eq (tgt := 73) hx hb dN_setMode_66 (by decide) (fun (h3_ : x1 - 4 = 0) => ?_) (fun (h3_ : ¬ (x1 - 4 = 0)) => ?_)
    · refine lv_iconst (v := 0) hx hb dN_setMode_73 (by decide) ?_
      refine va_put (D := D) (ci := 1) (v := .int 0) (ty := .boolean) (C := RN) (T := TN) (N := 14) hx hb hw inN tyN tyN_ok nmN hown hK hP hD hS 0 rfl rfl 1 (by decide) f46 (fun _ h9 => h9) rfl (tyN_ok 1 (by decide)) rfl rfl (Nat.le_of_ble_eq_true rfl) dN_setMode_74 (fun H locs hP hD hS => ?_)
      have hP : va_P D vwCl [(h0, .inr (1, FN (tk_up (tk_up (tk_up (tk_up (tk_up (tk_up (tk_up (tk_up (tk_up (tk_up (tk_up c 3 x0) 2 (x1 - 4)) 4 0) 6 0) 7 0) 8 1) 10 0) 11 0) 12 (-1)) 13 (-1)) 1 0)))] H := hP
      have hD : va_D A [(h0, .inr (1, FN (tk_up (tk_up (tk_up (tk_up (tk_up (tk_up (tk_up (tk_up (tk_up (tk_up (tk_up c 3 x0) 2 (x1 - 4)) 4 0) 6 0) 7 0) 8 1) 10 0) 11 0) 12 (-1)) 13 (-1)) 1 0)))] := hD
      exact tk_vret hx hb hr hlk hP hD hS dN_setMode_77 (tk_ewN (by unfold tkN_setMode_s; rw [if_neg h1_, if_pos h3_]))
    · refine lv_iconst (v := 1) hx hb dN_setMode_69 (by decide) ?_
      refine lv_goto (tgt := 74) hx hb dN_setMode_70 (by decide) ?_
      refine va_put (D := D) (ci := 1) (v := .int 1) (ty := .boolean) (C := RN) (T := TN) (N := 14) hx hb hw inN tyN tyN_ok nmN hown hK hP hD hS 0 rfl rfl 1 (by decide) f46 (fun _ h9 => h9) rfl (tyN_ok 1 (by decide)) rfl rfl (Nat.le_of_ble_eq_true rfl) dN_setMode_74 (fun H locs hP hD hS => ?_)
      have hP : va_P D vwCl [(h0, .inr (1, FN (tk_up (tk_up (tk_up (tk_up (tk_up (tk_up (tk_up (tk_up (tk_up (tk_up (tk_up c 3 x0) 2 (x1 - 4)) 4 0) 6 0) 7 0) 8 1) 10 0) 11 0) 12 (-1)) 13 (-1)) 1 1)))] H := hP
      have hD : va_D A [(h0, .inr (1, FN (tk_up (tk_up (tk_up (tk_up (tk_up (tk_up (tk_up (tk_up (tk_up (tk_up (tk_up c 3 x0) 2 (x1 - 4)) 4 0) 6 0) 7 0) 8 1) 10 0) 11 0) 12 (-1)) 13 (-1)) 1 1)))] := hD
      exact tk_vret hx hb hr hlk hP hD hS dN_setMode_77 (tk_ewN (by unfold tkN_setMode_s; rw [if_neg h1_, if_neg h3_]))
def tkN_latchCount_s (c : Nat → Int32) : Nat → Int32 :=
  if tkN_hasMode_r c = 0 then c
  else if c 12 = (-1) then tk_up c 12 (c 5)
    else c
set_option maxHeartbeats 1000000 in
set_option maxRecDepth 100000 in
theorem kN_latchCount (l : Launch) (D : va_G) (h0 : Nat) (c : Nat → Int32) : tk_M l yN_latchCount wsN_latchCount { frames := 1, cells := 0, slots := 0, locals := 20 } D [] [.ref h0] [(h0, .inr (1, FN c))] [(h0, .inr (1, FN (tkN_latchCount_s c)))] none := by
  refine tk_M.of (cc := cN_latchCount) (maxL := 1) (ret := none) (by decide) rfl (Nat.le_of_ble_eq_true rfl) ?_
  intro p e s m below meth co A H locs ls hB hK hN hA hP hD hS hl
  obtain ⟨hx, hb, hr, hml, hown, hlk, hnm, hts⟩ := hB
  have hown : s.vm.findClass RN = some m.cls := hown
  have hl : lv_has ls 1 [(0, .ref h0)] := hl
  have hw : ∀ w ∈ tkW, w.before _ s = true := fun w h => hts w (List.mem_cons_of_mem _ h)
  have f19 := hw _ wF_N_19
  have f53 := hw _ wF_N_53
  refine lv_aload_n hx hb dN_latchCount_0 rfl (lv_at hl 0 rfl) ?_
  refine tk_callA hD hS hA (va_runV (As := []) (rest := []) ⟨hx, hb, hml, hown, hw⟩ (kN_hasMode l D h0 c H.size) (cwV 0 hw (tk_gV tkW_good wM_N_49 wI_N_hasMode wS_N_hasMode wZ_N wC_N_hasMode) rfl rfl rfl (by decide +kernel) ⟨Nat.le_of_ble_eq_true rfl, Nat.le_of_ble_eq_true rfl⟩) (tk_preV (q0 := 0) hK hN hP hD [0] [] rfl rfl rfl rfl rfl) rfl rfl hl.1 rfl (lv_room (Nat.le_of_ble_eq_true rfl)) dN_latchCount_1 ⟨Nat.zero_le _, Nat.zero_le _⟩) (fun H locs hP hD hS => ?_)
  refine W.eq (g2 := F0 m 4 ls [.int (tkN_hasMode_r c)]) rfl ?_
  refine lv_if_eq (tgt := 23) hx hb dN_latchCount_4 (by decide) (fun (h1_ : tkN_hasMode_r c = 0) => ?_) (fun (h1_ : ¬ (tkN_hasMode_r c = 0)) => ?_)
  · exact tk_vret hx hb hr hlk hP hD hS dN_latchCount_23 (tk_ewN (by unfold tkN_latchCount_s; rw [if_pos h1_]))
  · refine lv_aload_n hx hb dN_latchCount_7 rfl (lv_at hl 0 rfl) ?_
    refine va_get (D := D) (ci := 1) (v := .int (c 12)) (C := RN) (T := TN) (N := 14) hx hb hw inN hown hK hP 0 rfl rfl 12 (by decide) f19 (fun _ h9 => h9) rfl dN_latchCount_8 ?_
    refine lv_iconst (v := -1) hx hb dN_latchCount_11 (by decide) ?_
    refine lv_icmp_ne (tgt := 23) hx hb dN_latchCount_12 (by decide) (fun (h2_ : ¬ (c 12 = (-1))) => ?_) (fun (h2_ : c 12 = (-1)) => ?_)
    · exact tk_vret hx hb hr hlk hP hD hS dN_latchCount_23 (tk_ewN (by unfold tkN_latchCount_s; rw [if_neg h1_, if_neg h2_]))
    · refine lv_aload_n hx hb dN_latchCount_15 rfl (lv_at hl 0 rfl) ?_
      refine lv_aload_n hx hb dN_latchCount_16 rfl (lv_at hl 0 rfl) ?_
      refine va_get (D := D) (ci := 1) (v := .int (c 5)) (C := RN) (T := TN) (N := 14) hx hb hw inN hown hK hP 0 rfl rfl 5 (by decide) f53 (fun _ h9 => h9) rfl dN_latchCount_17 ?_
      refine va_put (D := D) (ci := 1) (v := .int (c 5)) (ty := .int) (C := RN) (T := TN) (N := 14) hx hb hw inN tyN tyN_ok nmN hown hK hP hD hS 0 rfl rfl 12 (by decide) f19 (fun _ h9 => h9) rfl (tyN_ok 12 (by decide)) rfl rfl (Nat.le_of_ble_eq_true rfl) dN_latchCount_20 (fun H locs hP hD hS => ?_)
      have hP : va_P D vwCl [(h0, .inr (1, FN (tk_up c 12 (c 5))))] H := hP
      have hD : va_D A [(h0, .inr (1, FN (tk_up c 12 (c 5))))] := hD
      exact tk_vret hx hb hr hlk hP hD hS dN_latchCount_23 (tk_ewN (by unfold tkN_latchCount_s; rw [if_neg h1_, if_pos h2_]))
def tkN_latchStatus_s (c : Nat → Int32) : Nat → Int32 :=
  if tkN_hasMode_r c = 0 then c
  else if c 13 = (-1) then tk_up c 13 ((((128 * (tkT_asBit_r (c 1))) + (64 * (tkT_asBit_r (c 8)))) + (16 * (c 3))) + (2 * (c 2)))
    else c
set_option maxHeartbeats 1000000 in
set_option maxRecDepth 100000 in
theorem kN_latchStatus (l : Launch) (D : va_G) (h0 : Nat) (c : Nat → Int32) : tk_M l yN_latchStatus wsN_latchStatus { frames := 1, cells := 0, slots := 0, locals := 20 } D [] [.ref h0] [(h0, .inr (1, FN c))] [(h0, .inr (1, FN (tkN_latchStatus_s c)))] none := by
  refine tk_M.of (cc := cN_latchStatus) (maxL := 1) (ret := none) (by decide) rfl (Nat.le_of_ble_eq_true rfl) ?_
  intro p e s m below meth co A H locs ls hB hK hN hA hP hD hS hl
  obtain ⟨hx, hb, hr, hml, hown, hlk, hnm, hts⟩ := hB
  have hown : s.vm.findClass RN = some m.cls := hown
  have hl : lv_has ls 1 [(0, .ref h0)] := hl
  have hw : ∀ w ∈ tkW, w.before _ s = true := fun w h => hts w (List.mem_cons_of_mem _ h)
  have f22 := hw _ wF_N_22
  have f46 := hw _ wF_N_46
  have f37 := hw _ wF_N_37
  have f25 := hw _ wF_N_25
  have f15 := hw _ wF_N_15
  refine lv_aload_n hx hb dN_latchStatus_0 rfl (lv_at hl 0 rfl) ?_
  refine tk_callA hD hS hA (va_runV (As := []) (rest := []) ⟨hx, hb, hml, hown, hw⟩ (kN_hasMode l D h0 c H.size) (cwV 0 hw (tk_gV tkW_good wM_N_49 wI_N_hasMode wS_N_hasMode wZ_N wC_N_hasMode) rfl rfl rfl (by decide +kernel) ⟨Nat.le_of_ble_eq_true rfl, Nat.le_of_ble_eq_true rfl⟩) (tk_preV (q0 := 0) hK hN hP hD [0] [] rfl rfl rfl rfl rfl) rfl rfl hl.1 rfl (lv_room (Nat.le_of_ble_eq_true rfl)) dN_latchStatus_1 ⟨Nat.zero_le _, Nat.zero_le _⟩) (fun H locs hP hD hS => ?_)
  refine W.eq (g2 := F0 m 4 ls [.int (tkN_hasMode_r c)]) rfl ?_
  refine lv_if_eq (tgt := 56) hx hb dN_latchStatus_4 (by decide) (fun (h1_ : tkN_hasMode_r c = 0) => ?_) (fun (h1_ : ¬ (tkN_hasMode_r c = 0)) => ?_)
  · exact tk_vret hx hb hr hlk hP hD hS dN_latchStatus_56 (tk_ewN (by unfold tkN_latchStatus_s; rw [if_pos h1_]))
  · refine lv_aload_n hx hb dN_latchStatus_7 rfl (lv_at hl 0 rfl) ?_
    refine va_get (D := D) (ci := 1) (v := .int (c 13)) (C := RN) (T := TN) (N := 14) hx hb hw inN hown hK hP 0 rfl rfl 13 (by decide) f22 (fun _ h9 => h9) rfl dN_latchStatus_8 ?_
    refine lv_iconst (v := -1) hx hb dN_latchStatus_11 (by decide) ?_
    refine lv_icmp_ne (tgt := 56) hx hb dN_latchStatus_12 (by decide) (fun (h2_ : ¬ (c 13 = (-1))) => ?_) (fun (h2_ : c 13 = (-1)) => ?_)
    · exact tk_vret hx hb hr hlk hP hD hS dN_latchStatus_56 (tk_ewN (by unfold tkN_latchStatus_s; rw [if_neg h1_, if_neg h2_]))
    · refine lv_aload_n hx hb dN_latchStatus_15 rfl (lv_at hl 0 rfl) ?_
      refine lv_sipush (v := 128) hx hb dN_latchStatus_16 (by decide) ?_
      refine lv_aload_n hx hb dN_latchStatus_19 rfl (lv_at hl 0 rfl) ?_
      refine va_get (D := D) (ci := 1) (v := .int (c 1)) (C := RN) (T := TN) (N := 14) hx hb hw inN hown hK hP 0 rfl rfl 1 (by decide) f46 (fun _ h9 => h9) rfl dN_latchStatus_20 ?_
      refine tk_call0 hP hD hS hA (va_runSN (As := [.int (c 1)]) (rest := [.int 128, .ref h0]) ⟨hx, hb, hml, hown, hw⟩ (kT_asBit l D (c 1) H.size) ⟨va_cnB 1 hw (tk_g0 tkW_good wC_T_asBit) rfl rfl rfl (hN (.methodLinkNest RN 56 yT_asBit "TickLines") (by decide +kernel)) (hw _ wZ_T) (by decide +kernel) ⟨Nat.le_of_ble_eq_true rfl, Nat.le_of_ble_eq_true rfl⟩, hw _ wT_T_asBit, trivial⟩ (tk_preS hK hN hP hD [] [] rfl rfl rfl) rfl rfl hl.1 rfl (lv_room (Nat.le_of_ble_eq_true rfl)) dN_latchStatus_23 ⟨Nat.zero_le _, Nat.zero_le _⟩) (fun H locs hP hD hS => ?_)
      refine W.eq (g2 := F0 m 26 ls [.int (tkT_asBit_r (c 1)), .int 128, .ref h0]) rfl ?_
      refine lv_imul hx hb dN_latchStatus_26 ?_
      refine lv_bipush (v := 64) hx hb dN_latchStatus_27 (by decide) ?_
      refine lv_aload_n hx hb dN_latchStatus_29 rfl (lv_at hl 0 rfl) ?_
      refine va_get (D := D) (ci := 1) (v := .int (c 8)) (C := RN) (T := TN) (N := 14) hx hb hw inN hown hK hP 0 rfl rfl 8 (by decide) f37 (fun _ h9 => h9) rfl dN_latchStatus_30 ?_
      refine tk_call0 hP hD hS hA (va_runSN (As := [.int (c 8)]) (rest := [.int 64, .int (128 * (tkT_asBit_r (c 1))), .ref h0]) ⟨hx, hb, hml, hown, hw⟩ (kT_asBit l D (c 8) H.size) ⟨va_cnB 1 hw (tk_g0 tkW_good wC_T_asBit) rfl rfl rfl (hN (.methodLinkNest RN 56 yT_asBit "TickLines") (by decide +kernel)) (hw _ wZ_T) (by decide +kernel) ⟨Nat.le_of_ble_eq_true rfl, Nat.le_of_ble_eq_true rfl⟩, hw _ wT_T_asBit, trivial⟩ (tk_preS hK hN hP hD [] [] rfl rfl rfl) rfl rfl hl.1 rfl (lv_room (Nat.le_of_ble_eq_true rfl)) dN_latchStatus_33 ⟨Nat.zero_le _, Nat.zero_le _⟩) (fun H locs hP hD hS => ?_)
      refine W.eq (g2 := F0 m 36 ls [.int (tkT_asBit_r (c 8)), .int 64, .int (128 * (tkT_asBit_r (c 1))), .ref h0]) rfl ?_
      refine lv_imul hx hb dN_latchStatus_36 ?_
      refine lv_iadd hx hb dN_latchStatus_37 ?_
      refine lv_bipush (v := 16) hx hb dN_latchStatus_38 (by decide) ?_
      refine lv_aload_n hx hb dN_latchStatus_40 rfl (lv_at hl 0 rfl) ?_
      refine va_get (D := D) (ci := 1) (v := .int (c 3)) (C := RN) (T := TN) (N := 14) hx hb hw inN hown hK hP 0 rfl rfl 3 (by decide) f25 (fun _ h9 => h9) rfl dN_latchStatus_41 ?_
      refine lv_imul hx hb dN_latchStatus_44 ?_
      refine lv_iadd hx hb dN_latchStatus_45 ?_
      refine lv_iconst (v := 2) hx hb dN_latchStatus_46 (by decide) ?_
      refine lv_aload_n hx hb dN_latchStatus_47 rfl (lv_at hl 0 rfl) ?_
      refine va_get (D := D) (ci := 1) (v := .int (c 2)) (C := RN) (T := TN) (N := 14) hx hb hw inN hown hK hP 0 rfl rfl 2 (by decide) f15 (fun _ h9 => h9) rfl dN_latchStatus_48 ?_
      refine lv_imul hx hb dN_latchStatus_51 ?_
      refine lv_iadd hx hb dN_latchStatus_52 ?_
      refine va_put (D := D) (ci := 1) (v := .int ((((128 * (tkT_asBit_r (c 1))) + (64 * (tkT_asBit_r (c 8)))) + (16 * (c 3))) + (2 * (c 2)))) (ty := .int) (C := RN) (T := TN) (N := 14) hx hb hw inN tyN tyN_ok nmN hown hK hP hD hS 0 rfl rfl 13 (by decide) f22 (fun _ h9 => h9) rfl (tyN_ok 13 (by decide)) rfl rfl (Nat.le_of_ble_eq_true rfl) dN_latchStatus_53 (fun H locs hP hD hS => ?_)
      have hP : va_P D vwCl [(h0, .inr (1, FN (tk_up c 13 ((((128 * (tkT_asBit_r (c 1))) + (64 * (tkT_asBit_r (c 8)))) + (16 * (c 3))) + (2 * (c 2))))))] H := hP
      have hD : va_D A [(h0, .inr (1, FN (tk_up c 13 ((((128 * (tkT_asBit_r (c 1))) + (64 * (tkT_asBit_r (c 8)))) + (16 * (c 3))) + (2 * (c 2))))))] := hD
      exact tk_vret hx hb hr hlk hP hD hS dN_latchStatus_56 (tk_ewN (by unfold tkN_latchStatus_s; rw [if_neg h1_, if_pos h2_]))
def tkN_isEmpty_r (c : Nat → Int32) : Int32 :=
  if c 4 = 0 then 1
  else 0
set_option maxHeartbeats 1000000 in
set_option maxRecDepth 100000 in
theorem kN_isEmpty (l : Launch) (D : va_G) (h0 : Nat) (c : Nat → Int32) : tk_M l yN_isEmpty wsN_isEmpty { frames := 0, cells := 0, slots := 0, locals := 0 } D [] [.ref h0] [(h0, .inr (1, FN c))] [(h0, .inr (1, FN c))] (some (.int (tkN_isEmpty_r c))) := by
  refine tk_M.of (cc := cN_isEmpty) (maxL := 1) (ret := (some .boolean)) (by decide) rfl (Nat.le_of_ble_eq_true rfl) ?_
  intro p e s m below meth co A H locs ls hB hK hN hA hP hD hS hl
  obtain ⟨hx, hb, hr, hml, hown, hlk, hnm, hts⟩ := hB
  have hown : s.vm.findClass RN = some m.cls := hown
  have hl : lv_has ls 1 [(0, .ref h0)] := hl
  have hw : ∀ w ∈ tkW, w.before _ s = true := fun w h => hts w (List.mem_cons_of_mem _ h)
  have f28 := hw _ wF_N_28
  refine lv_aload_n hx hb dN_isEmpty_0 rfl (lv_at hl 0 rfl) ?_
  refine va_get (D := D) (ci := 1) (v := .int (c 4)) (C := RN) (T := TN) (N := 14) hx hb hw inN hown hK hP 0 rfl rfl 4 (by decide) f28 (fun _ h9 => h9) rfl dN_isEmpty_1 ?_
  refine lv_if_ne (tgt := 11) hx hb dN_isEmpty_4 (by decide) (fun (h1_ : ¬ (c 4 = 0)) => ?_) (fun (h1_ : c 4 = 0) => ?_)
  · refine lv_iconst (v := 0) hx hb dN_isEmpty_11 (by decide) ?_
    exact tk_zret hx hb hr hlk hP hD hS dN_isEmpty_12 rfl (by unfold tkN_isEmpty_r; rw [if_neg h1_]) rfl
  · refine lv_iconst (v := 1) hx hb dN_isEmpty_7 (by decide) ?_
    refine lv_goto (tgt := 12) hx hb dN_isEmpty_8 (by decide) ?_
    exact tk_zret hx hb hr hlk hP hD hS dN_isEmpty_12 rfl (by unfold tkN_isEmpty_r; rw [if_pos h1_]) rfl
def tkN_isPeriodic_r (c : Nat → Int32) : Int32 :=
  if c 2 = 2 then 1
  else if c 2 = 3 then 1
    else 0
set_option maxHeartbeats 1000000 in
set_option maxRecDepth 100000 in
theorem kN_isPeriodic (l : Launch) (D : va_G) (h0 : Nat) (c : Nat → Int32) : tk_M l yN_isPeriodic wsN_isPeriodic { frames := 0, cells := 0, slots := 0, locals := 0 } D [] [.ref h0] [(h0, .inr (1, FN c))] [(h0, .inr (1, FN c))] (some (.int (tkN_isPeriodic_r c))) := by
  refine tk_M.of (cc := cN_isPeriodic) (maxL := 1) (ret := (some .boolean)) (by decide) rfl (Nat.le_of_ble_eq_true rfl) ?_
  intro p e s m below meth co A H locs ls hB hK hN hA hP hD hS hl
  obtain ⟨hx, hb, hr, hml, hown, hlk, hnm, hts⟩ := hB
  have hown : s.vm.findClass RN = some m.cls := hown
  have hl : lv_has ls 1 [(0, .ref h0)] := hl
  have hw : ∀ w ∈ tkW, w.before _ s = true := fun w h => hts w (List.mem_cons_of_mem _ h)
  have f15 := hw _ wF_N_15
  refine lv_aload_n hx hb dN_isPeriodic_0 rfl (lv_at hl 0 rfl) ?_
  refine va_get (D := D) (ci := 1) (v := .int (c 2)) (C := RN) (T := TN) (N := 14) hx hb hw inN hown hK hP 0 rfl rfl 2 (by decide) f15 (fun _ h9 => h9) rfl dN_isPeriodic_1 ?_
  refine lv_iconst (v := 2) hx hb dN_isPeriodic_4 (by decide) ?_
  refine lv_icmp_eq (tgt := 16) hx hb dN_isPeriodic_5 (by decide) (fun (h1_ : c 2 = 2) => ?_) (fun (h1_ : ¬ (c 2 = 2)) => ?_)
  · refine lv_iconst (v := 1) hx hb dN_isPeriodic_16 (by decide) ?_
    refine lv_goto (tgt := 21) hx hb dN_isPeriodic_17 (by decide) ?_
    exact tk_zret hx hb hr hlk hP hD hS dN_isPeriodic_21 rfl (by unfold tkN_isPeriodic_r; rw [if_pos h1_]) rfl
  · refine lv_aload_n hx hb dN_isPeriodic_8 rfl (lv_at hl 0 rfl) ?_
    refine va_get (D := D) (ci := 1) (v := .int (c 2)) (C := RN) (T := TN) (N := 14) hx hb hw inN hown hK hP 0 rfl rfl 2 (by decide) f15 (fun _ h9 => h9) rfl dN_isPeriodic_9 ?_
    refine lv_iconst (v := 3) hx hb dN_isPeriodic_12 (by decide) ?_
    refine lv_icmp_ne (tgt := 20) hx hb dN_isPeriodic_13 (by decide) (fun (h2_ : ¬ (c 2 = 3)) => ?_) (fun (h2_ : c 2 = 3) => ?_)
    · refine lv_iconst (v := 0) hx hb dN_isPeriodic_20 (by decide) ?_
      exact tk_zret hx hb hr hlk hP hD hS dN_isPeriodic_21 rfl (by unfold tkN_isPeriodic_r; rw [if_neg h1_, if_neg h2_]) rfl
    · refine lv_iconst (v := 1) hx hb dN_isPeriodic_16 (by decide) ?_
      refine lv_goto (tgt := 21) hx hb dN_isPeriodic_17 (by decide) ?_
      exact tk_zret hx hb hr hlk hP hD hS dN_isPeriodic_21 rfl (by unfold tkN_isPeriodic_r; rw [if_neg h1_, if_pos h2_]) rfl
def tkN_takeReload_s (c : Nat → Int32) (x0 : Int32) : Nat → Int32 :=
  if x0 = 0 then (if c 2 = 0 then tk_up (tk_up (tk_up (tk_up c 4 65536) 8 1) 7 1) 1 0
    else if c 2 = 4 then tk_up (tk_up (tk_up c 4 65536) 8 1) 7 1
      else if tkN_isPeriodic_r (tk_up (tk_up c 4 65536) 8 1) = 0 then tk_up (tk_up c 4 65536) 8 1
        else if tkN_isEmpty_r c = 0 then tk_up (tk_up c 4 65536) 8 1
          else tk_up (tk_up (tk_up c 4 65536) 8 1) 7 1)
  else if c 2 = 0 then tk_up (tk_up (tk_up (tk_up c 4 x0) 8 1) 7 1) 1 0
    else if c 2 = 4 then tk_up (tk_up (tk_up c 4 x0) 8 1) 7 1
      else if tkN_isPeriodic_r (tk_up (tk_up c 4 x0) 8 1) = 0 then tk_up (tk_up c 4 x0) 8 1
        else if tkN_isEmpty_r c = 0 then tk_up (tk_up c 4 x0) 8 1
          else tk_up (tk_up (tk_up c 4 x0) 8 1) 7 1
set_option maxHeartbeats 1000000 in
set_option maxRecDepth 100000 in
theorem kN_takeReload (l : Launch) (D : va_G) (h0 : Nat) (c : Nat → Int32) (x0 : Int32) : tk_M l yN_takeReload wsN_takeReload { frames := 1, cells := 0, slots := 0, locals := 20 } D [] [.ref h0, .int x0] [(h0, .inr (1, FN c))] [(h0, .inr (1, FN (tkN_takeReload_s c x0)))] none := by
  refine tk_M.of (cc := cN_takeReload) (maxL := 3) (ret := none) (by decide) rfl (Nat.le_of_ble_eq_true rfl) ?_
  intro p e s m below meth co A H locs ls hB hK hN hA hP hD hS hl
  obtain ⟨hx, hb, hr, hml, hown, hlk, hnm, hts⟩ := hB
  have hown : s.vm.findClass RN = some m.cls := hown
  have hl : lv_has ls 3 [(0, .ref h0), (1, .int x0)] := hl
  have hw : ∀ w ∈ tkW, w.before _ s = true := fun w h => hts w (List.mem_cons_of_mem _ h)
  have f28 := hw _ wF_N_28
  have f37 := hw _ wF_N_37
  have f15 := hw _ wF_N_15
  have f34 := hw _ wF_N_34
  have f46 := hw _ wF_N_46
  refine lv_aload_n hx hb dN_takeReload_0 rfl (lv_at hl 0 rfl) ?_
  refine tk_callA hD hS hA (va_runV (As := []) (rest := []) ⟨hx, hb, hml, hown, hw⟩ (kN_isEmpty l D h0 c H.size) (cwV 0 hw (tk_gV tkW_good wM_N_67 wI_N_isEmpty wS_N_isEmpty wZ_N wC_N_isEmpty) rfl rfl rfl (by decide +kernel) ⟨Nat.le_of_ble_eq_true rfl, Nat.le_of_ble_eq_true rfl⟩) (tk_preV (q0 := 0) hK hN hP hD [0] [] rfl rfl rfl rfl rfl) rfl rfl hl.1 rfl (lv_room (Nat.le_of_ble_eq_true rfl)) dN_takeReload_1 ⟨Nat.zero_le _, Nat.zero_le _⟩) (fun H locs hP hD hS => ?_)
  refine W.eq (g2 := F0 m 4 ls [.int (tkN_isEmpty_r c)]) rfl ?_
  refine lv_istore_n hx hb dN_takeReload_4 rfl hl (by decide) rfl (fun ls hl => ?_)
  have hl : lv_has ls 3 [(2, .int (tkN_isEmpty_r c)), (0, .ref h0), (1, .int x0)] := hl
  refine lv_aload_n hx hb dN_takeReload_5 rfl (lv_at hl 1 rfl) ?_
  refine lv_iload_n hx hb dN_takeReload_6 rfl (lv_at hl 2 rfl) ?_
  refine lv_if_ne (tgt := 15) hx hb dN_takeReload_7 (by decide) (fun (h1_ : ¬ (x0 = 0)) => ?_) (fun (h1_ : x0 = 0) => ?_)
  · refine lv_iload_n hx hb dN_takeReload_15 rfl (lv_at hl 2 rfl) ?_
    refine va_put (D := D) (ci := 1) (v := .int x0) (ty := .int) (C := RN) (T := TN) (N := 14) hx hb hw inN tyN tyN_ok nmN hown hK hP hD hS 0 rfl rfl 4 (by decide) f28 (fun _ h9 => h9) rfl (tyN_ok 4 (by decide)) rfl rfl (Nat.le_of_ble_eq_true rfl) dN_takeReload_16 (fun H locs hP hD hS => ?_)
    have hP : va_P D vwCl [(h0, .inr (1, FN (tk_up c 4 x0)))] H := hP
    have hD : va_D A [(h0, .inr (1, FN (tk_up c 4 x0)))] := hD
    refine lv_aload_n hx hb dN_takeReload_19 rfl (lv_at hl 1 rfl) ?_
    refine lv_iconst (v := 1) hx hb dN_takeReload_20 (by decide) ?_
    refine va_put (D := D) (ci := 1) (v := .int 1) (ty := .boolean) (C := RN) (T := TN) (N := 14) hx hb hw inN tyN tyN_ok nmN hown hK hP hD hS 0 rfl rfl 8 (by decide) f37 (fun _ h9 => h9) rfl (tyN_ok 8 (by decide)) rfl rfl (Nat.le_of_ble_eq_true rfl) dN_takeReload_21 (fun H locs hP hD hS => ?_)
    have hP : va_P D vwCl [(h0, .inr (1, FN (tk_up (tk_up c 4 x0) 8 1)))] H := hP
    have hD : va_D A [(h0, .inr (1, FN (tk_up (tk_up c 4 x0) 8 1)))] := hD
    refine lv_aload_n hx hb dN_takeReload_24 rfl (lv_at hl 1 rfl) ?_
    refine va_get (D := D) (ci := 1) (v := .int (c 2)) (C := RN) (T := TN) (N := 14) hx hb hw inN hown hK hP 0 rfl rfl 2 (by decide) f15 (fun _ h9 => h9) rfl dN_takeReload_25 ?_
    refine lv_if_eq (tgt := 50) hx hb dN_takeReload_28 (by decide) (fun (h2_ : c 2 = 0) => ?_) (fun (h2_ : ¬ (c 2 = 0)) => ?_)
    · refine lv_aload_n hx hb dN_takeReload_50 rfl (lv_at hl 1 rfl) ?_
      refine lv_iconst (v := 1) hx hb dN_takeReload_51 (by decide) ?_
      refine va_put (D := D) (ci := 1) (v := .int 1) (ty := .boolean) (C := RN) (T := TN) (N := 14) hx hb hw inN tyN tyN_ok nmN hown hK hP hD hS 0 rfl rfl 7 (by decide) f34 (fun _ h9 => h9) rfl (tyN_ok 7 (by decide)) rfl rfl (Nat.le_of_ble_eq_true rfl) dN_takeReload_52 (fun H locs hP hD hS => ?_)
      have hP : va_P D vwCl [(h0, .inr (1, FN (tk_up (tk_up (tk_up c 4 x0) 8 1) 7 1)))] H := hP
      have hD : va_D A [(h0, .inr (1, FN (tk_up (tk_up (tk_up c 4 x0) 8 1) 7 1)))] := hD
      refine lv_aload_n hx hb dN_takeReload_55 rfl (lv_at hl 1 rfl) ?_
      refine va_get (D := D) (ci := 1) (v := .int (c 2)) (C := RN) (T := TN) (N := 14) hx hb hw inN hown hK hP 0 rfl rfl 2 (by decide) f15 (fun _ h9 => h9) rfl dN_takeReload_56 ?_
      refine lv_if_ne (tgt := 67) hx hb dN_takeReload_59 (by decide) (fun h => absurd h2_ h) (fun _ => ?_)
      refine lv_aload_n hx hb dN_takeReload_62 rfl (lv_at hl 1 rfl) ?_
      refine lv_iconst (v := 0) hx hb dN_takeReload_63 (by decide) ?_
      refine va_put (D := D) (ci := 1) (v := .int 0) (ty := .boolean) (C := RN) (T := TN) (N := 14) hx hb hw inN tyN tyN_ok nmN hown hK hP hD hS 0 rfl rfl 1 (by decide) f46 (fun _ h9 => h9) rfl (tyN_ok 1 (by decide)) rfl rfl (Nat.le_of_ble_eq_true rfl) dN_takeReload_64 (fun H locs hP hD hS => ?_)
      have hP : va_P D vwCl [(h0, .inr (1, FN (tk_up (tk_up (tk_up (tk_up c 4 x0) 8 1) 7 1) 1 0)))] H := hP
      have hD : va_D A [(h0, .inr (1, FN (tk_up (tk_up (tk_up (tk_up c 4 x0) 8 1) 7 1) 1 0)))] := hD
      exact tk_vret hx hb hr hlk hP hD hS dN_takeReload_67 (tk_ewN (by unfold tkN_takeReload_s; rw [if_neg h1_, if_pos h2_]))
    · refine lv_aload_n hx hb dN_takeReload_31 rfl (lv_at hl 1 rfl) ?_
      refine va_get (D := D) (ci := 1) (v := .int (c 2)) (C := RN) (T := TN) (N := 14) hx hb hw inN hown hK hP 0 rfl rfl 2 (by decide) f15 (fun _ h9 => h9) rfl dN_takeReload_32 ?_
      refine lv_iconst (v := 4) hx hb dN_takeReload_35 (by decide) ?_
      refine lv_icmp_eq (tgt := 50) hx hb dN_takeReload_36 (by decide) (fun (h3_ : c 2 = 4) => ?_) (fun (h3_ : ¬ (c 2 = 4)) => ?_)
      · refine lv_aload_n hx hb dN_takeReload_50 rfl (lv_at hl 1 rfl) ?_
        refine lv_iconst (v := 1) hx hb dN_takeReload_51 (by decide) ?_
        refine va_put (D := D) (ci := 1) (v := .int 1) (ty := .boolean) (C := RN) (T := TN) (N := 14) hx hb hw inN tyN tyN_ok nmN hown hK hP hD hS 0 rfl rfl 7 (by decide) f34 (fun _ h9 => h9) rfl (tyN_ok 7 (by decide)) rfl rfl (Nat.le_of_ble_eq_true rfl) dN_takeReload_52 (fun H locs hP hD hS => ?_)
        have hP : va_P D vwCl [(h0, .inr (1, FN (tk_up (tk_up (tk_up c 4 x0) 8 1) 7 1)))] H := hP
        have hD : va_D A [(h0, .inr (1, FN (tk_up (tk_up (tk_up c 4 x0) 8 1) 7 1)))] := hD
        refine lv_aload_n hx hb dN_takeReload_55 rfl (lv_at hl 1 rfl) ?_
        refine va_get (D := D) (ci := 1) (v := .int (c 2)) (C := RN) (T := TN) (N := 14) hx hb hw inN hown hK hP 0 rfl rfl 2 (by decide) f15 (fun _ h9 => h9) rfl dN_takeReload_56 ?_
        refine lv_if_ne (tgt := 67) hx hb dN_takeReload_59 (by decide) (fun _ => ?_) (fun h => absurd h h2_)
        exact tk_vret hx hb hr hlk hP hD hS dN_takeReload_67 (tk_ewN (by unfold tkN_takeReload_s; rw [if_neg h1_, if_neg h2_, if_pos h3_]))
      · refine lv_aload_n hx hb dN_takeReload_39 rfl (lv_at hl 1 rfl) ?_
        refine tk_callA hD hS hA (va_runV (As := []) (rest := []) ⟨hx, hb, hml, hown, hw⟩ (kN_isPeriodic l D h0 (tk_up (tk_up c 4 x0) 8 1) H.size) (cwV 0 hw (tk_gV tkW_good wM_N_73 wI_N_isPeriodic wS_N_isPeriodic wZ_N wC_N_isPeriodic) rfl rfl rfl (by decide +kernel) ⟨Nat.le_of_ble_eq_true rfl, Nat.le_of_ble_eq_true rfl⟩) (tk_preV (q0 := 0) hK hN hP hD [0] [] rfl rfl rfl rfl rfl) rfl rfl hl.1 rfl (lv_room (Nat.le_of_ble_eq_true rfl)) dN_takeReload_40 ⟨Nat.zero_le _, Nat.zero_le _⟩) (fun H locs hP hD hS => ?_)
        refine W.eq (g2 := F0 m 43 ls [.int (tkN_isPeriodic_r (tk_up (tk_up c 4 x0) 8 1))]) rfl ?_
        refine lv_if_eq (tgt := 55) hx hb dN_takeReload_43 (by decide) (fun (h4_ : tkN_isPeriodic_r (tk_up (tk_up c 4 x0) 8 1) = 0) => ?_) (fun (h4_ : ¬ (tkN_isPeriodic_r (tk_up (tk_up c 4 x0) 8 1) = 0)) => ?_)
        · refine lv_aload_n hx hb dN_takeReload_55 rfl (lv_at hl 1 rfl) ?_
          refine va_get (D := D) (ci := 1) (v := .int (c 2)) (C := RN) (T := TN) (N := 14) hx hb hw inN hown hK hP 0 rfl rfl 2 (by decide) f15 (fun _ h9 => h9) rfl dN_takeReload_56 ?_
          refine lv_if_ne (tgt := 67) hx hb dN_takeReload_59 (by decide) (fun _ => ?_) (fun h => absurd h h2_)
          exact tk_vret hx hb hr hlk hP hD hS dN_takeReload_67 (tk_ewN (by unfold tkN_takeReload_s; rw [if_neg h1_, if_neg h2_, if_neg h3_, if_pos h4_]))
        · refine lv_iload_n hx hb dN_takeReload_46 rfl (lv_at hl 0 rfl) ?_
          refine lv_if_eq (tgt := 55) hx hb dN_takeReload_47 (by decide) (fun (h5_ : tkN_isEmpty_r c = 0) => ?_) (fun (h5_ : ¬ (tkN_isEmpty_r c = 0)) => ?_)
          · refine lv_aload_n hx hb dN_takeReload_55 rfl (lv_at hl 1 rfl) ?_
            refine va_get (D := D) (ci := 1) (v := .int (c 2)) (C := RN) (T := TN) (N := 14) hx hb hw inN hown hK hP 0 rfl rfl 2 (by decide) f15 (fun _ h9 => h9) rfl dN_takeReload_56 ?_
            refine lv_if_ne (tgt := 67) hx hb dN_takeReload_59 (by decide) (fun _ => ?_) (fun h => absurd h h2_)
            exact tk_vret hx hb hr hlk hP hD hS dN_takeReload_67 (tk_ewN (by unfold tkN_takeReload_s; rw [if_neg h1_, if_neg h2_, if_neg h3_, if_neg h4_, if_pos h5_]))
          · refine lv_aload_n hx hb dN_takeReload_50 rfl (lv_at hl 1 rfl) ?_
            refine lv_iconst (v := 1) hx hb dN_takeReload_51 (by decide) ?_
            refine va_put (D := D) (ci := 1) (v := .int 1) (ty := .boolean) (C := RN) (T := TN) (N := 14) hx hb hw inN tyN tyN_ok nmN hown hK hP hD hS 0 rfl rfl 7 (by decide) f34 (fun _ h9 => h9) rfl (tyN_ok 7 (by decide)) rfl rfl (Nat.le_of_ble_eq_true rfl) dN_takeReload_52 (fun H locs hP hD hS => ?_)
            have hP : va_P D vwCl [(h0, .inr (1, FN (tk_up (tk_up (tk_up c 4 x0) 8 1) 7 1)))] H := hP
            have hD : va_D A [(h0, .inr (1, FN (tk_up (tk_up (tk_up c 4 x0) 8 1) 7 1)))] := hD
            refine lv_aload_n hx hb dN_takeReload_55 rfl (lv_at hl 1 rfl) ?_
            refine va_get (D := D) (ci := 1) (v := .int (c 2)) (C := RN) (T := TN) (N := 14) hx hb hw inN hown hK hP 0 rfl rfl 2 (by decide) f15 (fun _ h9 => h9) rfl dN_takeReload_56 ?_
            refine lv_if_ne (tgt := 67) hx hb dN_takeReload_59 (by decide) (fun _ => ?_) (fun h => absurd h h2_)
            exact tk_vret hx hb hr hlk hP hD hS dN_takeReload_67 (tk_ewN (by unfold tkN_takeReload_s; rw [if_neg h1_, if_neg h2_, if_neg h3_, if_neg h4_, if_neg h5_]))
  · refine lv_ldc (v := 65536) hx hb hown (hw _ wK_N_88) dN_takeReload_10 ?_
    refine lv_goto (tgt := 16) hx hb dN_takeReload_12 (by decide) ?_
    refine va_put (D := D) (ci := 1) (v := .int 65536) (ty := .int) (C := RN) (T := TN) (N := 14) hx hb hw inN tyN tyN_ok nmN hown hK hP hD hS 0 rfl rfl 4 (by decide) f28 (fun _ h9 => h9) rfl (tyN_ok 4 (by decide)) rfl rfl (Nat.le_of_ble_eq_true rfl) dN_takeReload_16 (fun H locs hP hD hS => ?_)
    have hP : va_P D vwCl [(h0, .inr (1, FN (tk_up c 4 65536)))] H := hP
    have hD : va_D A [(h0, .inr (1, FN (tk_up c 4 65536)))] := hD
    refine lv_aload_n hx hb dN_takeReload_19 rfl (lv_at hl 1 rfl) ?_
    refine lv_iconst (v := 1) hx hb dN_takeReload_20 (by decide) ?_
    refine va_put (D := D) (ci := 1) (v := .int 1) (ty := .boolean) (C := RN) (T := TN) (N := 14) hx hb hw inN tyN tyN_ok nmN hown hK hP hD hS 0 rfl rfl 8 (by decide) f37 (fun _ h9 => h9) rfl (tyN_ok 8 (by decide)) rfl rfl (Nat.le_of_ble_eq_true rfl) dN_takeReload_21 (fun H locs hP hD hS => ?_)
    have hP : va_P D vwCl [(h0, .inr (1, FN (tk_up (tk_up c 4 65536) 8 1)))] H := hP
    have hD : va_D A [(h0, .inr (1, FN (tk_up (tk_up c 4 65536) 8 1)))] := hD
    refine lv_aload_n hx hb dN_takeReload_24 rfl (lv_at hl 1 rfl) ?_
    refine va_get (D := D) (ci := 1) (v := .int (c 2)) (C := RN) (T := TN) (N := 14) hx hb hw inN hown hK hP 0 rfl rfl 2 (by decide) f15 (fun _ h9 => h9) rfl dN_takeReload_25 ?_
    refine lv_if_eq (tgt := 50) hx hb dN_takeReload_28 (by decide) (fun (h6_ : c 2 = 0) => ?_) (fun (h6_ : ¬ (c 2 = 0)) => ?_)
    · refine lv_aload_n hx hb dN_takeReload_50 rfl (lv_at hl 1 rfl) ?_
      refine lv_iconst (v := 1) hx hb dN_takeReload_51 (by decide) ?_
      refine va_put (D := D) (ci := 1) (v := .int 1) (ty := .boolean) (C := RN) (T := TN) (N := 14) hx hb hw inN tyN tyN_ok nmN hown hK hP hD hS 0 rfl rfl 7 (by decide) f34 (fun _ h9 => h9) rfl (tyN_ok 7 (by decide)) rfl rfl (Nat.le_of_ble_eq_true rfl) dN_takeReload_52 (fun H locs hP hD hS => ?_)
      have hP : va_P D vwCl [(h0, .inr (1, FN (tk_up (tk_up (tk_up c 4 65536) 8 1) 7 1)))] H := hP
      have hD : va_D A [(h0, .inr (1, FN (tk_up (tk_up (tk_up c 4 65536) 8 1) 7 1)))] := hD
      refine lv_aload_n hx hb dN_takeReload_55 rfl (lv_at hl 1 rfl) ?_
      refine va_get (D := D) (ci := 1) (v := .int (c 2)) (C := RN) (T := TN) (N := 14) hx hb hw inN hown hK hP 0 rfl rfl 2 (by decide) f15 (fun _ h9 => h9) rfl dN_takeReload_56 ?_
      refine lv_if_ne (tgt := 67) hx hb dN_takeReload_59 (by decide) (fun h => absurd h6_ h) (fun _ => ?_)
      refine lv_aload_n hx hb dN_takeReload_62 rfl (lv_at hl 1 rfl) ?_
      refine lv_iconst (v := 0) hx hb dN_takeReload_63 (by decide) ?_
      refine va_put (D := D) (ci := 1) (v := .int 0) (ty := .boolean) (C := RN) (T := TN) (N := 14) hx hb hw inN tyN tyN_ok nmN hown hK hP hD hS 0 rfl rfl 1 (by decide) f46 (fun _ h9 => h9) rfl (tyN_ok 1 (by decide)) rfl rfl (Nat.le_of_ble_eq_true rfl) dN_takeReload_64 (fun H locs hP hD hS => ?_)
      have hP : va_P D vwCl [(h0, .inr (1, FN (tk_up (tk_up (tk_up (tk_up c 4 65536) 8 1) 7 1) 1 0)))] H := hP
      have hD : va_D A [(h0, .inr (1, FN (tk_up (tk_up (tk_up (tk_up c 4 65536) 8 1) 7 1) 1 0)))] := hD
      exact tk_vret hx hb hr hlk hP hD hS dN_takeReload_67 (tk_ewN (by unfold tkN_takeReload_s; rw [if_pos h1_, if_pos h6_]))
    · refine lv_aload_n hx hb dN_takeReload_31 rfl (lv_at hl 1 rfl) ?_
      refine va_get (D := D) (ci := 1) (v := .int (c 2)) (C := RN) (T := TN) (N := 14) hx hb hw inN hown hK hP 0 rfl rfl 2 (by decide) f15 (fun _ h9 => h9) rfl dN_takeReload_32 ?_
      refine lv_iconst (v := 4) hx hb dN_takeReload_35 (by decide) ?_
      refine lv_icmp_eq (tgt := 50) hx hb dN_takeReload_36 (by decide) (fun (h7_ : c 2 = 4) => ?_) (fun (h7_ : ¬ (c 2 = 4)) => ?_)
      · refine lv_aload_n hx hb dN_takeReload_50 rfl (lv_at hl 1 rfl) ?_
        refine lv_iconst (v := 1) hx hb dN_takeReload_51 (by decide) ?_
        refine va_put (D := D) (ci := 1) (v := .int 1) (ty := .boolean) (C := RN) (T := TN) (N := 14) hx hb hw inN tyN tyN_ok nmN hown hK hP hD hS 0 rfl rfl 7 (by decide) f34 (fun _ h9 => h9) rfl (tyN_ok 7 (by decide)) rfl rfl (Nat.le_of_ble_eq_true rfl) dN_takeReload_52 (fun H locs hP hD hS => ?_)
        have hP : va_P D vwCl [(h0, .inr (1, FN (tk_up (tk_up (tk_up c 4 65536) 8 1) 7 1)))] H := hP
        have hD : va_D A [(h0, .inr (1, FN (tk_up (tk_up (tk_up c 4 65536) 8 1) 7 1)))] := hD
        refine lv_aload_n hx hb dN_takeReload_55 rfl (lv_at hl 1 rfl) ?_
        refine va_get (D := D) (ci := 1) (v := .int (c 2)) (C := RN) (T := TN) (N := 14) hx hb hw inN hown hK hP 0 rfl rfl 2 (by decide) f15 (fun _ h9 => h9) rfl dN_takeReload_56 ?_
        refine lv_if_ne (tgt := 67) hx hb dN_takeReload_59 (by decide) (fun _ => ?_) (fun h => absurd h h6_)
        exact tk_vret hx hb hr hlk hP hD hS dN_takeReload_67 (tk_ewN (by unfold tkN_takeReload_s; rw [if_pos h1_, if_neg h6_, if_pos h7_]))
      · refine lv_aload_n hx hb dN_takeReload_39 rfl (lv_at hl 1 rfl) ?_
        refine tk_callA hD hS hA (va_runV (As := []) (rest := []) ⟨hx, hb, hml, hown, hw⟩ (kN_isPeriodic l D h0 (tk_up (tk_up c 4 65536) 8 1) H.size) (cwV 0 hw (tk_gV tkW_good wM_N_73 wI_N_isPeriodic wS_N_isPeriodic wZ_N wC_N_isPeriodic) rfl rfl rfl (by decide +kernel) ⟨Nat.le_of_ble_eq_true rfl, Nat.le_of_ble_eq_true rfl⟩) (tk_preV (q0 := 0) hK hN hP hD [0] [] rfl rfl rfl rfl rfl) rfl rfl hl.1 rfl (lv_room (Nat.le_of_ble_eq_true rfl)) dN_takeReload_40 ⟨Nat.zero_le _, Nat.zero_le _⟩) (fun H locs hP hD hS => ?_)
        refine W.eq (g2 := F0 m 43 ls [.int (tkN_isPeriodic_r (tk_up (tk_up c 4 65536) 8 1))]) rfl ?_
        refine lv_if_eq (tgt := 55) hx hb dN_takeReload_43 (by decide) (fun (h8_ : tkN_isPeriodic_r (tk_up (tk_up c 4 65536) 8 1) = 0) => ?_) (fun (h8_ : ¬ (tkN_isPeriodic_r (tk_up (tk_up c 4 65536) 8 1) = 0)) => ?_)
        · refine lv_aload_n hx hb dN_takeReload_55 rfl (lv_at hl 1 rfl) ?_
          refine va_get (D := D) (ci := 1) (v := .int (c 2)) (C := RN) (T := TN) (N := 14) hx hb hw inN hown hK hP 0 rfl rfl 2 (by decide) f15 (fun _ h9 => h9) rfl dN_takeReload_56 ?_
          refine lv_if_ne (tgt := 67) hx hb dN_takeReload_59 (by decide) (fun _ => ?_) (fun h => absurd h h6_)
          exact tk_vret hx hb hr hlk hP hD hS dN_takeReload_67 (tk_ewN (by unfold tkN_takeReload_s; rw [if_pos h1_, if_neg h6_, if_neg h7_, if_pos h8_]))
        · refine lv_iload_n hx hb dN_takeReload_46 rfl (lv_at hl 0 rfl) ?_
          refine lv_if_eq (tgt := 55) hx hb dN_takeReload_47 (by decide) (fun (h9_ : tkN_isEmpty_r c = 0) => ?_) (fun (h9_ : ¬ (tkN_isEmpty_r c = 0)) => ?_)
          · refine lv_aload_n hx hb dN_takeReload_55 rfl (lv_at hl 1 rfl) ?_
            refine va_get (D := D) (ci := 1) (v := .int (c 2)) (C := RN) (T := TN) (N := 14) hx hb hw inN hown hK hP 0 rfl rfl 2 (by decide) f15 (fun _ h9 => h9) rfl dN_takeReload_56 ?_
            refine lv_if_ne (tgt := 67) hx hb dN_takeReload_59 (by decide) (fun _ => ?_) (fun h => absurd h h6_)
            exact tk_vret hx hb hr hlk hP hD hS dN_takeReload_67 (tk_ewN (by unfold tkN_takeReload_s; rw [if_pos h1_, if_neg h6_, if_neg h7_, if_neg h8_, if_pos h9_]))
          · refine lv_aload_n hx hb dN_takeReload_50 rfl (lv_at hl 1 rfl) ?_
            refine lv_iconst (v := 1) hx hb dN_takeReload_51 (by decide) ?_
            refine va_put (D := D) (ci := 1) (v := .int 1) (ty := .boolean) (C := RN) (T := TN) (N := 14) hx hb hw inN tyN tyN_ok nmN hown hK hP hD hS 0 rfl rfl 7 (by decide) f34 (fun _ h9 => h9) rfl (tyN_ok 7 (by decide)) rfl rfl (Nat.le_of_ble_eq_true rfl) dN_takeReload_52 (fun H locs hP hD hS => ?_)
            have hP : va_P D vwCl [(h0, .inr (1, FN (tk_up (tk_up (tk_up c 4 65536) 8 1) 7 1)))] H := hP
            have hD : va_D A [(h0, .inr (1, FN (tk_up (tk_up (tk_up c 4 65536) 8 1) 7 1)))] := hD
            refine lv_aload_n hx hb dN_takeReload_55 rfl (lv_at hl 1 rfl) ?_
            refine va_get (D := D) (ci := 1) (v := .int (c 2)) (C := RN) (T := TN) (N := 14) hx hb hw inN hown hK hP 0 rfl rfl 2 (by decide) f15 (fun _ h9 => h9) rfl dN_takeReload_56 ?_
            refine lv_if_ne (tgt := 67) hx hb dN_takeReload_59 (by decide) (fun _ => ?_) (fun h => absurd h h6_)
            exact tk_vret hx hb hr hlk hP hD hS dN_takeReload_67 (tk_ewN (by unfold tkN_takeReload_s; rw [if_pos h1_, if_neg h6_, if_neg h7_, if_neg h8_, if_neg h9_]))
def tkN_takeByte_s (c : Nat → Int32) (x0 : Int32) : Nat → Int32 :=
  if c 3 = 1 then tkN_takeReload_s c x0
  else if c 3 = 2 then tkN_takeReload_s c (x0 <<< ((8 : Int32) &&& 31))
    else if c 10 = 0 then tk_up (tk_up c 10 1) 9 x0
      else tkN_takeReload_s (tk_up c 10 0) ((x0 <<< ((8 : Int32) &&& 31)) ||| (c 9))
set_option maxHeartbeats 1000000 in
set_option maxRecDepth 100000 in
theorem kN_takeByte (l : Launch) (D : va_G) (h0 : Nat) (c : Nat → Int32) (x0 : Int32) : tk_M l yN_takeByte wsN_takeByte { frames := 2, cells := 0, slots := 0, locals := 42 } D [] [.ref h0, .int x0] [(h0, .inr (1, FN c))] [(h0, .inr (1, FN (tkN_takeByte_s c x0)))] none := by
  refine tk_M.of (cc := cN_takeByte) (maxL := 2) (ret := none) (by decide) rfl (Nat.le_of_ble_eq_true rfl) ?_
  intro p e s m below meth co A H locs ls hB hK hN hA hP hD hS hl
  obtain ⟨hx, hb, hr, hml, hown, hlk, hnm, hts⟩ := hB
  have hown : s.vm.findClass RN = some m.cls := hown
  have hl : lv_has ls 2 [(0, .ref h0), (1, .int x0)] := hl
  have hw : ∀ w ∈ tkW, w.before _ s = true := fun w h => hts w (List.mem_cons_of_mem _ h)
  have f25 := hw _ wF_N_25
  have f40 := hw _ wF_N_40
  have f64 := hw _ wF_N_64
  refine lv_aload_n hx hb dN_takeByte_0 rfl (lv_at hl 0 rfl) ?_
  refine va_get (D := D) (ci := 1) (v := .int (c 3)) (C := RN) (T := TN) (N := 14) hx hb hw inN hown hK hP 0 rfl rfl 3 (by decide) f25 (fun _ h9 => h9) rfl dN_takeByte_1 ?_
  refine lv_iconst (v := 1) hx hb dN_takeByte_4 (by decide) ?_
  refine lv_icmp_ne (tgt := 16) hx hb dN_takeByte_5 (by decide) (fun (h1_ : ¬ (c 3 = 1)) => ?_) (fun (h1_ : c 3 = 1) => ?_)
  · refine lv_aload_n hx hb dN_takeByte_16 rfl (lv_at hl 0 rfl) ?_
    refine va_get (D := D) (ci := 1) (v := .int (c 3)) (C := RN) (T := TN) (N := 14) hx hb hw inN hown hK hP 0 rfl rfl 3 (by decide) f25 (fun _ h9 => h9) rfl dN_takeByte_17 ?_
    refine lv_iconst (v := 2) hx hb dN_takeByte_20 (by decide) ?_
    refine lv_icmp_ne (tgt := 35) hx hb dN_takeByte_21 (by decide) (fun (h2_ : ¬ (c 3 = 2)) => ?_) (fun (h2_ : c 3 = 2) => ?_)
    · refine lv_aload_n hx hb dN_takeByte_35 rfl (lv_at hl 0 rfl) ?_
      refine va_get (D := D) (ci := 1) (v := .int (c 10)) (C := RN) (T := TN) (N := 14) hx hb hw inN hown hK hP 0 rfl rfl 10 (by decide) f40 (fun _ h9 => h9) rfl dN_takeByte_36 ?_
      refine lv_if_eq (tgt := 63) hx hb dN_takeByte_39 (by decide) (fun (h3_ : c 10 = 0) => ?_) (fun (h3_ : ¬ (c 10 = 0)) => ?_)
      · refine lv_aload_n hx hb dN_takeByte_63 rfl (lv_at hl 0 rfl) ?_
        refine lv_iconst (v := 1) hx hb dN_takeByte_64 (by decide) ?_
        refine va_put (D := D) (ci := 1) (v := .int 1) (ty := .boolean) (C := RN) (T := TN) (N := 14) hx hb hw inN tyN tyN_ok nmN hown hK hP hD hS 0 rfl rfl 10 (by decide) f40 (fun _ h9 => h9) rfl (tyN_ok 10 (by decide)) rfl rfl (Nat.le_of_ble_eq_true rfl) dN_takeByte_65 (fun H locs hP hD hS => ?_)
        have hP : va_P D vwCl [(h0, .inr (1, FN (tk_up c 10 1)))] H := hP
        have hD : va_D A [(h0, .inr (1, FN (tk_up c 10 1)))] := hD
        refine lv_aload_n hx hb dN_takeByte_68 rfl (lv_at hl 0 rfl) ?_
        refine lv_iload_n hx hb dN_takeByte_69 rfl (lv_at hl 1 rfl) ?_
        refine va_put (D := D) (ci := 1) (v := .int x0) (ty := .int) (C := RN) (T := TN) (N := 14) hx hb hw inN tyN tyN_ok nmN hown hK hP hD hS 0 rfl rfl 9 (by decide) f64 (fun _ h9 => h9) rfl (tyN_ok 9 (by decide)) rfl rfl (Nat.le_of_ble_eq_true rfl) dN_takeByte_70 (fun H locs hP hD hS => ?_)
        have hP : va_P D vwCl [(h0, .inr (1, FN (tk_up (tk_up c 10 1) 9 x0)))] H := hP
        have hD : va_D A [(h0, .inr (1, FN (tk_up (tk_up c 10 1) 9 x0)))] := hD
        exact tk_vret hx hb hr hlk hP hD hS dN_takeByte_73 (tk_ewN (by unfold tkN_takeByte_s; rw [if_neg h1_, if_neg h2_, if_pos h3_]))
      · refine lv_aload_n hx hb dN_takeByte_42 rfl (lv_at hl 0 rfl) ?_
        refine lv_iconst (v := 0) hx hb dN_takeByte_43 (by decide) ?_
        refine va_put (D := D) (ci := 1) (v := .int 0) (ty := .boolean) (C := RN) (T := TN) (N := 14) hx hb hw inN tyN tyN_ok nmN hown hK hP hD hS 0 rfl rfl 10 (by decide) f40 (fun _ h9 => h9) rfl (tyN_ok 10 (by decide)) rfl rfl (Nat.le_of_ble_eq_true rfl) dN_takeByte_44 (fun H locs hP hD hS => ?_)
        have hP : va_P D vwCl [(h0, .inr (1, FN (tk_up c 10 0)))] H := hP
        have hD : va_D A [(h0, .inr (1, FN (tk_up c 10 0)))] := hD
        refine lv_aload_n hx hb dN_takeByte_47 rfl (lv_at hl 0 rfl) ?_
        refine lv_iload_n hx hb dN_takeByte_48 rfl (lv_at hl 1 rfl) ?_
        refine lv_bipush (v := 8) hx hb dN_takeByte_49 (by decide) ?_
        refine lv_ishl hx hb dN_takeByte_51 ?_
        refine lv_aload_n hx hb dN_takeByte_52 rfl (lv_at hl 0 rfl) ?_
        refine va_get (D := D) (ci := 1) (v := .int (c 9)) (C := RN) (T := TN) (N := 14) hx hb hw inN hown hK hP 0 rfl rfl 9 (by decide) f64 (fun _ h9 => h9) rfl dN_takeByte_53 ?_
        refine lv_ior hx hb dN_takeByte_56 ?_
        refine tk_callA hD hS hA (va_runV (As := [.int ((x0 <<< ((8 : Int32) &&& 31)) ||| (c 9))]) (rest := []) ⟨hx, hb, hml, hown, hw⟩ (kN_takeReload l D h0 (tk_up c 10 0) ((x0 <<< ((8 : Int32) &&& 31)) ||| (c 9)) H.size) (cwV 1 hw (tk_gV tkW_good wM_N_60 wI_N_takeReload wS_N_takeReload wZ_N wC_N_takeReload) rfl rfl rfl (by decide +kernel) ⟨Nat.le_of_ble_eq_true rfl, Nat.le_of_ble_eq_true rfl⟩) (tk_preV (q0 := 0) hK hN hP hD [0] [] rfl rfl rfl rfl rfl) rfl rfl hl.1 rfl (lv_room (Nat.le_of_ble_eq_true rfl)) dN_takeByte_57 ⟨Nat.zero_le _, Nat.zero_le _⟩) (fun H locs hP hD hS => ?_)
        refine W.eq (g2 := F0 m 60 ls []) rfl ?_
        refine lv_goto (tgt := 73) hx hb dN_takeByte_60 (by decide) ?_
        exact tk_vret hx hb hr hlk hP hD hS dN_takeByte_73 (tk_ewN (by unfold tkN_takeByte_s; rw [if_neg h1_, if_neg h2_, if_neg h3_]))
    · refine lv_aload_n hx hb dN_takeByte_24 rfl (lv_at hl 0 rfl) ?_
      refine lv_iload_n hx hb dN_takeByte_25 rfl (lv_at hl 1 rfl) ?_
      refine lv_bipush (v := 8) hx hb dN_takeByte_26 (by decide) ?_
      refine lv_ishl hx hb dN_takeByte_28 ?_
      refine tk_callA hD hS hA (va_runV (As := [.int (x0 <<< ((8 : Int32) &&& 31))]) (rest := []) ⟨hx, hb, hml, hown, hw⟩ (kN_takeReload l D h0 c (x0 <<< ((8 : Int32) &&& 31)) H.size) (cwV 1 hw (tk_gV tkW_good wM_N_60 wI_N_takeReload wS_N_takeReload wZ_N wC_N_takeReload) rfl rfl rfl (by decide +kernel) ⟨Nat.le_of_ble_eq_true rfl, Nat.le_of_ble_eq_true rfl⟩) (tk_preV (q0 := 0) hK hN hP hD [0] [] rfl rfl rfl rfl rfl) rfl rfl hl.1 rfl (lv_room (Nat.le_of_ble_eq_true rfl)) dN_takeByte_29 ⟨Nat.zero_le _, Nat.zero_le _⟩) (fun H locs hP hD hS => ?_)
      refine W.eq (g2 := F0 m 32 ls []) rfl ?_
      refine lv_goto (tgt := 73) hx hb dN_takeByte_32 (by decide) ?_
      exact tk_vret hx hb hr hlk hP hD hS dN_takeByte_73 (tk_ewN (by unfold tkN_takeByte_s; rw [if_neg h1_, if_pos h2_]))
  · refine lv_aload_n hx hb dN_takeByte_8 rfl (lv_at hl 0 rfl) ?_
    refine lv_iload_n hx hb dN_takeByte_9 rfl (lv_at hl 1 rfl) ?_
    refine tk_callA hD hS hA (va_runV (As := [.int x0]) (rest := []) ⟨hx, hb, hml, hown, hw⟩ (kN_takeReload l D h0 c x0 H.size) (cwV 1 hw (tk_gV tkW_good wM_N_60 wI_N_takeReload wS_N_takeReload wZ_N wC_N_takeReload) rfl rfl rfl (by decide +kernel) ⟨Nat.le_of_ble_eq_true rfl, Nat.le_of_ble_eq_true rfl⟩) (tk_preV (q0 := 0) hK hN hP hD [0] [] rfl rfl rfl rfl rfl) rfl rfl hl.1 rfl (lv_room (Nat.le_of_ble_eq_true rfl)) dN_takeByte_10 ⟨Nat.zero_le _, Nat.zero_le _⟩) (fun H locs hP hD hS => ?_)
    refine W.eq (g2 := F0 m 13 ls []) rfl ?_
    refine lv_goto (tgt := 73) hx hb dN_takeByte_13 (by decide) ?_
    exact tk_vret hx hb hr hlk hP hD hS dN_takeByte_73 (tk_ewN (by unfold tkN_takeByte_s; rw [if_pos h1_]))
def tkN_giveByte_r (c : Nat → Int32) : Int32 :=
  if c 13 = (-1) then (if c 12 = (-1) then (if c 3 = 2 then (c 5) >>> ((8 : Int32) &&& 31)
      else if c 11 = 0 then (c 5) &&& 255
        else (c 5) >>> ((8 : Int32) &&& 31))
    else if c 3 = 2 then (c 12) >>> ((8 : Int32) &&& 31)
      else if c 11 = 0 then (c 12) &&& 255
        else (c 12) >>> ((8 : Int32) &&& 31))
  else c 13
def tkN_giveByte_s (c : Nat → Int32) : Nat → Int32 :=
  if c 13 = (-1) then (if c 3 = 2 then tk_up c 12 (-1)
    else if c 11 = 0 then (if c 3 = 3 then tk_up c 11 1
        else if c 3 = 1 then tk_up c 12 (-1)
          else c)
      else if c 3 = 3 then tk_up (tk_up c 11 0) 12 (-1)
        else tk_up c 12 (-1))
  else tk_up c 13 (-1)
set_option maxHeartbeats 1000000 in
set_option maxRecDepth 100000 in
theorem kN_giveByte (l : Launch) (D : va_G) (h0 : Nat) (c : Nat → Int32) : tk_M l yN_giveByte wsN_giveByte { frames := 0, cells := 0, slots := 0, locals := 0 } D [] [.ref h0] [(h0, .inr (1, FN c))] [(h0, .inr (1, FN (tkN_giveByte_s c)))] (some (.int (tkN_giveByte_r c))) := by
  refine tk_M.of (cc := cN_giveByte) (maxL := 3) (ret := (some .int)) (by decide) rfl (Nat.le_of_ble_eq_true rfl) ?_
  intro p e s m below meth co A H locs ls hB hK hN hA hP hD hS hl
  obtain ⟨hx, hb, hr, hml, hown, hlk, hnm, hts⟩ := hB
  have hown : s.vm.findClass RN = some m.cls := hown
  have hl : lv_has ls 3 [(0, .ref h0)] := hl
  have hw : ∀ w ∈ tkW, w.before _ s = true := fun w h => hts w (List.mem_cons_of_mem _ h)
  have f22 := hw _ wF_N_22
  have f19 := hw _ wF_N_19
  have f53 := hw _ wF_N_53
  have f25 := hw _ wF_N_25
  have f43 := hw _ wF_N_43
  refine lv_aload_n hx hb dN_giveByte_0 rfl (lv_at hl 0 rfl) ?_
  refine va_get (D := D) (ci := 1) (v := .int (c 13)) (C := RN) (T := TN) (N := 14) hx hb hw inN hown hK hP 0 rfl rfl 13 (by decide) f22 (fun _ h9 => h9) rfl dN_giveByte_1 ?_
  refine lv_iconst (v := -1) hx hb dN_giveByte_4 (by decide) ?_
  refine lv_icmp_eq (tgt := 20) hx hb dN_giveByte_5 (by decide) (fun (h1_ : c 13 = (-1)) => ?_) (fun (h1_ : ¬ (c 13 = (-1))) => ?_)
  · refine lv_aload_n hx hb dN_giveByte_20 rfl (lv_at hl 0 rfl) ?_
    refine va_get (D := D) (ci := 1) (v := .int (c 12)) (C := RN) (T := TN) (N := 14) hx hb hw inN hown hK hP 0 rfl rfl 12 (by decide) f19 (fun _ h9 => h9) rfl dN_giveByte_21 ?_
    refine lv_iconst (v := -1) hx hb dN_giveByte_24 (by decide) ?_
    refine lv_icmp_eq (tgt := 35) hx hb dN_giveByte_25 (by decide) (fun (h2_ : c 12 = (-1)) => ?_) (fun (h2_ : ¬ (c 12 = (-1))) => ?_)
    · refine lv_aload_n hx hb dN_giveByte_35 rfl (lv_at hl 0 rfl) ?_
      refine va_get (D := D) (ci := 1) (v := .int (c 5)) (C := RN) (T := TN) (N := 14) hx hb hw inN hown hK hP 0 rfl rfl 5 (by decide) f53 (fun _ h9 => h9) rfl dN_giveByte_36 ?_
      refine lv_istore_n hx hb dN_giveByte_39 rfl hl (by decide) rfl (fun ls hl => ?_)
      have hl : lv_has ls 3 [(1, .int (c 5)), (0, .ref h0)] := hl
      refine lv_aload_n hx hb dN_giveByte_40 rfl (lv_at hl 1 rfl) ?_
      refine va_get (D := D) (ci := 1) (v := .int (c 3)) (C := RN) (T := TN) (N := 14) hx hb hw inN hown hK hP 0 rfl rfl 3 (by decide) f25 (fun _ h9 => h9) rfl dN_giveByte_41 ?_
      refine lv_iconst (v := 2) hx hb dN_giveByte_44 (by decide) ?_
      refine lv_icmp_eq (tgt := 55) hx hb dN_giveByte_45 (by decide) (fun (h3_ : c 3 = 2) => ?_) (fun (h3_ : ¬ (c 3 = 2)) => ?_)
      · refine lv_iconst (v := 1) hx hb dN_giveByte_55 (by decide) ?_
        refine lv_goto (tgt := 60) hx hb dN_giveByte_56 (by decide) ?_
        refine lv_istore_n hx hb dN_giveByte_60 rfl hl (by decide) rfl (fun ls hl => ?_)
        have hl : lv_has ls 3 [(2, .int 1), (1, .int (c 5)), (0, .ref h0)] := hl
        refine lv_aload_n hx hb dN_giveByte_61 rfl (lv_at hl 2 rfl) ?_
        refine va_get (D := D) (ci := 1) (v := .int (c 3)) (C := RN) (T := TN) (N := 14) hx hb hw inN hown hK hP 0 rfl rfl 3 (by decide) f25 (fun _ h9 => h9) rfl dN_giveByte_62 ?_
        refine lv_iconst (v := 3) hx hb dN_giveByte_65 (by decide) ?_
        refine lv_icmp_ne (tgt := 82) hx hb dN_giveByte_66 (by decide) (fun _ => ?_) (fun h => absurd (h.symm.trans h3_) (by decide))
        refine lv_iload_n hx hb dN_giveByte_82 rfl (lv_at hl 0 rfl) ?_
        refine lv_if_ne (tgt := 94) hx hb dN_giveByte_83 (by decide) (fun _ => ?_) (fun h => absurd h (by decide))
        refine lv_aload_n hx hb dN_giveByte_94 rfl (lv_at hl 2 rfl) ?_
        refine lv_iconst (v := -1) hx hb dN_giveByte_95 (by decide) ?_
        refine va_put (D := D) (ci := 1) (v := .int (-1)) (ty := .int) (C := RN) (T := TN) (N := 14) hx hb hw inN tyN tyN_ok nmN hown hK hP hD hS 0 rfl rfl 12 (by decide) f19 (fun _ h9 => h9) rfl (tyN_ok 12 (by decide)) rfl rfl (Nat.le_of_ble_eq_true rfl) dN_giveByte_96 (fun H locs hP hD hS => ?_)
        have hP : va_P D vwCl [(h0, .inr (1, FN (tk_up c 12 (-1))))] H := hP
        have hD : va_D A [(h0, .inr (1, FN (tk_up c 12 (-1))))] := hD
        refine lv_iload_n hx hb dN_giveByte_99 rfl (lv_at hl 0 rfl) ?_
        refine lv_if_eq (tgt := 110) hx hb dN_giveByte_100 (by decide) (fun h => absurd h (by decide)) (fun _ => ?_)
        refine lv_iload_n hx hb dN_giveByte_103 rfl (lv_at hl 1 rfl) ?_
        refine lv_bipush (v := 8) hx hb dN_giveByte_104 (by decide) ?_
        refine lv_ishr hx hb dN_giveByte_106 ?_
        refine lv_goto (tgt := 115) hx hb dN_giveByte_107 (by decide) ?_
        exact tk_iret hx hb hr hlk hP hD hS dN_giveByte_115 (by unfold tkN_giveByte_r; rw [if_pos h1_, if_pos h2_, if_pos h3_]) (tk_ewN (by unfold tkN_giveByte_s; rw [if_pos h1_, if_pos h3_]))
      · refine lv_aload_n hx hb dN_giveByte_48 rfl (lv_at hl 1 rfl) ?_
        refine va_get (D := D) (ci := 1) (v := .int (c 11)) (C := RN) (T := TN) (N := 14) hx hb hw inN hown hK hP 0 rfl rfl 11 (by decide) f43 (fun _ h9 => h9) rfl dN_giveByte_49 ?_
        refine lv_if_eq (tgt := 59) hx hb dN_giveByte_52 (by decide) (fun (h4_ : c 11 = 0) => ?_) (fun (h4_ : ¬ (c 11 = 0)) => ?_)
        · refine lv_iconst (v := 0) hx hb dN_giveByte_59 (by decide) ?_
          refine lv_istore_n hx hb dN_giveByte_60 rfl hl (by decide) rfl (fun ls hl => ?_)
          have hl : lv_has ls 3 [(2, .int 0), (1, .int (c 5)), (0, .ref h0)] := hl
          refine lv_aload_n hx hb dN_giveByte_61 rfl (lv_at hl 2 rfl) ?_
          refine va_get (D := D) (ci := 1) (v := .int (c 3)) (C := RN) (T := TN) (N := 14) hx hb hw inN hown hK hP 0 rfl rfl 3 (by decide) f25 (fun _ h9 => h9) rfl dN_giveByte_62 ?_
          refine lv_iconst (v := 3) hx hb dN_giveByte_65 (by decide) ?_
          refine lv_icmp_ne (tgt := 82) hx hb dN_giveByte_66 (by decide) (fun (h5_ : ¬ (c 3 = 3)) => ?_) (fun (h5_ : c 3 = 3) => ?_)
          · refine lv_iload_n hx hb dN_giveByte_82 rfl (lv_at hl 0 rfl) ?_
            refine lv_if_ne (tgt := 94) hx hb dN_giveByte_83 (by decide) (fun h => absurd (by decide) h) (fun _ => ?_)
            refine lv_aload_n hx hb dN_giveByte_86 rfl (lv_at hl 2 rfl) ?_
            refine va_get (D := D) (ci := 1) (v := .int (c 3)) (C := RN) (T := TN) (N := 14) hx hb hw inN hown hK hP 0 rfl rfl 3 (by decide) f25 (fun _ h9 => h9) rfl dN_giveByte_87 ?_
            refine lv_iconst (v := 1) hx hb dN_giveByte_90 (by decide) ?_
            refine lv_icmp_ne (tgt := 99) hx hb dN_giveByte_91 (by decide) (fun (h6_ : ¬ (c 3 = 1)) => ?_) (fun (h6_ : c 3 = 1) => ?_)
            · refine lv_iload_n hx hb dN_giveByte_99 rfl (lv_at hl 0 rfl) ?_
              refine lv_if_eq (tgt := 110) hx hb dN_giveByte_100 (by decide) (fun _ => ?_) (fun h => absurd (by decide) h)
              refine lv_iload_n hx hb dN_giveByte_110 rfl (lv_at hl 1 rfl) ?_
              refine lv_sipush (v := 255) hx hb dN_giveByte_111 (by decide) ?_
              refine lv_iand hx hb dN_giveByte_114 ?_
              exact tk_iret hx hb hr hlk hP hD hS dN_giveByte_115 (by unfold tkN_giveByte_r; rw [if_pos h1_, if_pos h2_, if_neg h3_, if_pos h4_]) (tk_ewN (by unfold tkN_giveByte_s; rw [if_pos h1_, if_neg h3_, if_pos h4_, if_neg h5_, if_neg h6_]))
            · refine lv_aload_n hx hb dN_giveByte_94 rfl (lv_at hl 2 rfl) ?_
              refine lv_iconst (v := -1) hx hb dN_giveByte_95 (by decide) ?_
              refine va_put (D := D) (ci := 1) (v := .int (-1)) (ty := .int) (C := RN) (T := TN) (N := 14) hx hb hw inN tyN tyN_ok nmN hown hK hP hD hS 0 rfl rfl 12 (by decide) f19 (fun _ h9 => h9) rfl (tyN_ok 12 (by decide)) rfl rfl (Nat.le_of_ble_eq_true rfl) dN_giveByte_96 (fun H locs hP hD hS => ?_)
              have hP : va_P D vwCl [(h0, .inr (1, FN (tk_up c 12 (-1))))] H := hP
              have hD : va_D A [(h0, .inr (1, FN (tk_up c 12 (-1))))] := hD
              refine lv_iload_n hx hb dN_giveByte_99 rfl (lv_at hl 0 rfl) ?_
              refine lv_if_eq (tgt := 110) hx hb dN_giveByte_100 (by decide) (fun _ => ?_) (fun h => absurd (by decide) h)
              refine lv_iload_n hx hb dN_giveByte_110 rfl (lv_at hl 1 rfl) ?_
              refine lv_sipush (v := 255) hx hb dN_giveByte_111 (by decide) ?_
              refine lv_iand hx hb dN_giveByte_114 ?_
              exact tk_iret hx hb hr hlk hP hD hS dN_giveByte_115 (by unfold tkN_giveByte_r; rw [if_pos h1_, if_pos h2_, if_neg h3_, if_pos h4_]) (tk_ewN (by unfold tkN_giveByte_s; rw [if_pos h1_, if_neg h3_, if_pos h4_, if_neg h5_, if_pos h6_]))
          · refine lv_aload_n hx hb dN_giveByte_69 rfl (lv_at hl 2 rfl) ?_
            refine lv_iload_n hx hb dN_giveByte_70 rfl (lv_at hl 0 rfl) ?_
            refine lv_if_ne (tgt := 78) hx hb dN_giveByte_71 (by decide) (fun h => absurd (by decide) h) (fun _ => ?_)
            refine lv_iconst (v := 1) hx hb dN_giveByte_74 (by decide) ?_
            refine lv_goto (tgt := 79) hx hb dN_giveByte_75 (by decide) ?_
            refine va_put (D := D) (ci := 1) (v := .int 1) (ty := .boolean) (C := RN) (T := TN) (N := 14) hx hb hw inN tyN tyN_ok nmN hown hK hP hD hS 0 rfl rfl 11 (by decide) f43 (fun _ h9 => h9) rfl (tyN_ok 11 (by decide)) rfl rfl (Nat.le_of_ble_eq_true rfl) dN_giveByte_79 (fun H locs hP hD hS => ?_)
            have hP : va_P D vwCl [(h0, .inr (1, FN (tk_up c 11 1)))] H := hP
            have hD : va_D A [(h0, .inr (1, FN (tk_up c 11 1)))] := hD
            refine lv_iload_n hx hb dN_giveByte_82 rfl (lv_at hl 0 rfl) ?_
            refine lv_if_ne (tgt := 94) hx hb dN_giveByte_83 (by decide) (fun h => absurd (by decide) h) (fun _ => ?_)
            refine lv_aload_n hx hb dN_giveByte_86 rfl (lv_at hl 2 rfl) ?_
            refine va_get (D := D) (ci := 1) (v := .int (c 3)) (C := RN) (T := TN) (N := 14) hx hb hw inN hown hK hP 0 rfl rfl 3 (by decide) f25 (fun _ h9 => h9) rfl dN_giveByte_87 ?_
            refine lv_iconst (v := 1) hx hb dN_giveByte_90 (by decide) ?_
            refine lv_icmp_ne (tgt := 99) hx hb dN_giveByte_91 (by decide) (fun _ => ?_) (fun h => absurd (h.symm.trans h5_) (by decide))
            refine lv_iload_n hx hb dN_giveByte_99 rfl (lv_at hl 0 rfl) ?_
            refine lv_if_eq (tgt := 110) hx hb dN_giveByte_100 (by decide) (fun _ => ?_) (fun h => absurd (by decide) h)
            refine lv_iload_n hx hb dN_giveByte_110 rfl (lv_at hl 1 rfl) ?_
            refine lv_sipush (v := 255) hx hb dN_giveByte_111 (by decide) ?_
            refine lv_iand hx hb dN_giveByte_114 ?_
            exact tk_iret hx hb hr hlk hP hD hS dN_giveByte_115 (by unfold tkN_giveByte_r; rw [if_pos h1_, if_pos h2_, if_neg h3_, if_pos h4_]) (tk_ewN (by unfold tkN_giveByte_s; rw [if_pos h1_, if_neg h3_, if_pos h4_, if_pos h5_]))
        · refine lv_iconst (v := 1) hx hb dN_giveByte_55 (by decide) ?_
          refine lv_goto (tgt := 60) hx hb dN_giveByte_56 (by decide) ?_
          refine lv_istore_n hx hb dN_giveByte_60 rfl hl (by decide) rfl (fun ls hl => ?_)
          have hl : lv_has ls 3 [(2, .int 1), (1, .int (c 5)), (0, .ref h0)] := hl
          refine lv_aload_n hx hb dN_giveByte_61 rfl (lv_at hl 2 rfl) ?_
          refine va_get (D := D) (ci := 1) (v := .int (c 3)) (C := RN) (T := TN) (N := 14) hx hb hw inN hown hK hP 0 rfl rfl 3 (by decide) f25 (fun _ h9 => h9) rfl dN_giveByte_62 ?_
          refine lv_iconst (v := 3) hx hb dN_giveByte_65 (by decide) ?_
          refine lv_icmp_ne (tgt := 82) hx hb dN_giveByte_66 (by decide) (fun (h7_ : ¬ (c 3 = 3)) => ?_) (fun (h7_ : c 3 = 3) => ?_)
          · refine lv_iload_n hx hb dN_giveByte_82 rfl (lv_at hl 0 rfl) ?_
            refine lv_if_ne (tgt := 94) hx hb dN_giveByte_83 (by decide) (fun _ => ?_) (fun h => absurd h (by decide))
            refine lv_aload_n hx hb dN_giveByte_94 rfl (lv_at hl 2 rfl) ?_
            refine lv_iconst (v := -1) hx hb dN_giveByte_95 (by decide) ?_
            refine va_put (D := D) (ci := 1) (v := .int (-1)) (ty := .int) (C := RN) (T := TN) (N := 14) hx hb hw inN tyN tyN_ok nmN hown hK hP hD hS 0 rfl rfl 12 (by decide) f19 (fun _ h9 => h9) rfl (tyN_ok 12 (by decide)) rfl rfl (Nat.le_of_ble_eq_true rfl) dN_giveByte_96 (fun H locs hP hD hS => ?_)
            have hP : va_P D vwCl [(h0, .inr (1, FN (tk_up c 12 (-1))))] H := hP
            have hD : va_D A [(h0, .inr (1, FN (tk_up c 12 (-1))))] := hD
            refine lv_iload_n hx hb dN_giveByte_99 rfl (lv_at hl 0 rfl) ?_
            refine lv_if_eq (tgt := 110) hx hb dN_giveByte_100 (by decide) (fun h => absurd h (by decide)) (fun _ => ?_)
            refine lv_iload_n hx hb dN_giveByte_103 rfl (lv_at hl 1 rfl) ?_
            refine lv_bipush (v := 8) hx hb dN_giveByte_104 (by decide) ?_
            refine lv_ishr hx hb dN_giveByte_106 ?_
            refine lv_goto (tgt := 115) hx hb dN_giveByte_107 (by decide) ?_
            exact tk_iret hx hb hr hlk hP hD hS dN_giveByte_115 (by unfold tkN_giveByte_r; rw [if_pos h1_, if_pos h2_, if_neg h3_, if_neg h4_]) (tk_ewN (by unfold tkN_giveByte_s; rw [if_pos h1_, if_neg h3_, if_neg h4_, if_neg h7_]))
          · refine lv_aload_n hx hb dN_giveByte_69 rfl (lv_at hl 2 rfl) ?_
            refine lv_iload_n hx hb dN_giveByte_70 rfl (lv_at hl 0 rfl) ?_
            refine lv_if_ne (tgt := 78) hx hb dN_giveByte_71 (by decide) (fun _ => ?_) (fun h => absurd h (by decide))
            refine lv_iconst (v := 0) hx hb dN_giveByte_78 (by decide) ?_
            refine va_put (D := D) (ci := 1) (v := .int 0) (ty := .boolean) (C := RN) (T := TN) (N := 14) hx hb hw inN tyN tyN_ok nmN hown hK hP hD hS 0 rfl rfl 11 (by decide) f43 (fun _ h9 => h9) rfl (tyN_ok 11 (by decide)) rfl rfl (Nat.le_of_ble_eq_true rfl) dN_giveByte_79 (fun H locs hP hD hS => ?_)
            have hP : va_P D vwCl [(h0, .inr (1, FN (tk_up c 11 0)))] H := hP
            have hD : va_D A [(h0, .inr (1, FN (tk_up c 11 0)))] := hD
            refine lv_iload_n hx hb dN_giveByte_82 rfl (lv_at hl 0 rfl) ?_
            refine lv_if_ne (tgt := 94) hx hb dN_giveByte_83 (by decide) (fun _ => ?_) (fun h => absurd h (by decide))
            refine lv_aload_n hx hb dN_giveByte_94 rfl (lv_at hl 2 rfl) ?_
            refine lv_iconst (v := -1) hx hb dN_giveByte_95 (by decide) ?_
            refine va_put (D := D) (ci := 1) (v := .int (-1)) (ty := .int) (C := RN) (T := TN) (N := 14) hx hb hw inN tyN tyN_ok nmN hown hK hP hD hS 0 rfl rfl 12 (by decide) f19 (fun _ h9 => h9) rfl (tyN_ok 12 (by decide)) rfl rfl (Nat.le_of_ble_eq_true rfl) dN_giveByte_96 (fun H locs hP hD hS => ?_)
            have hP : va_P D vwCl [(h0, .inr (1, FN (tk_up (tk_up c 11 0) 12 (-1))))] H := hP
            have hD : va_D A [(h0, .inr (1, FN (tk_up (tk_up c 11 0) 12 (-1))))] := hD
            refine lv_iload_n hx hb dN_giveByte_99 rfl (lv_at hl 0 rfl) ?_
            refine lv_if_eq (tgt := 110) hx hb dN_giveByte_100 (by decide) (fun h => absurd h (by decide)) (fun _ => ?_)
            refine lv_iload_n hx hb dN_giveByte_103 rfl (lv_at hl 1 rfl) ?_
            refine lv_bipush (v := 8) hx hb dN_giveByte_104 (by decide) ?_
            refine lv_ishr hx hb dN_giveByte_106 ?_
            refine lv_goto (tgt := 115) hx hb dN_giveByte_107 (by decide) ?_
            exact tk_iret hx hb hr hlk hP hD hS dN_giveByte_115 (by unfold tkN_giveByte_r; rw [if_pos h1_, if_pos h2_, if_neg h3_, if_neg h4_]) (tk_ewN (by unfold tkN_giveByte_s; rw [if_pos h1_, if_neg h3_, if_neg h4_, if_pos h7_]))
    · refine lv_aload_n hx hb dN_giveByte_28 rfl (lv_at hl 0 rfl) ?_
      refine va_get (D := D) (ci := 1) (v := .int (c 12)) (C := RN) (T := TN) (N := 14) hx hb hw inN hown hK hP 0 rfl rfl 12 (by decide) f19 (fun _ h9 => h9) rfl dN_giveByte_29 ?_
      refine lv_goto (tgt := 39) hx hb dN_giveByte_32 (by decide) ?_
      refine lv_istore_n hx hb dN_giveByte_39 rfl hl (by decide) rfl (fun ls hl => ?_)
      have hl : lv_has ls 3 [(1, .int (c 12)), (0, .ref h0)] := hl
      refine lv_aload_n hx hb dN_giveByte_40 rfl (lv_at hl 1 rfl) ?_
      refine va_get (D := D) (ci := 1) (v := .int (c 3)) (C := RN) (T := TN) (N := 14) hx hb hw inN hown hK hP 0 rfl rfl 3 (by decide) f25 (fun _ h9 => h9) rfl dN_giveByte_41 ?_
      refine lv_iconst (v := 2) hx hb dN_giveByte_44 (by decide) ?_
      refine lv_icmp_eq (tgt := 55) hx hb dN_giveByte_45 (by decide) (fun (h8_ : c 3 = 2) => ?_) (fun (h8_ : ¬ (c 3 = 2)) => ?_)
      · refine lv_iconst (v := 1) hx hb dN_giveByte_55 (by decide) ?_
        refine lv_goto (tgt := 60) hx hb dN_giveByte_56 (by decide) ?_
        refine lv_istore_n hx hb dN_giveByte_60 rfl hl (by decide) rfl (fun ls hl => ?_)
        have hl : lv_has ls 3 [(2, .int 1), (1, .int (c 12)), (0, .ref h0)] := hl
        refine lv_aload_n hx hb dN_giveByte_61 rfl (lv_at hl 2 rfl) ?_
        refine va_get (D := D) (ci := 1) (v := .int (c 3)) (C := RN) (T := TN) (N := 14) hx hb hw inN hown hK hP 0 rfl rfl 3 (by decide) f25 (fun _ h9 => h9) rfl dN_giveByte_62 ?_
        refine lv_iconst (v := 3) hx hb dN_giveByte_65 (by decide) ?_
        refine lv_icmp_ne (tgt := 82) hx hb dN_giveByte_66 (by decide) (fun _ => ?_) (fun h => absurd (h.symm.trans h8_) (by decide))
        refine lv_iload_n hx hb dN_giveByte_82 rfl (lv_at hl 0 rfl) ?_
        refine lv_if_ne (tgt := 94) hx hb dN_giveByte_83 (by decide) (fun _ => ?_) (fun h => absurd h (by decide))
        refine lv_aload_n hx hb dN_giveByte_94 rfl (lv_at hl 2 rfl) ?_
        refine lv_iconst (v := -1) hx hb dN_giveByte_95 (by decide) ?_
        refine va_put (D := D) (ci := 1) (v := .int (-1)) (ty := .int) (C := RN) (T := TN) (N := 14) hx hb hw inN tyN tyN_ok nmN hown hK hP hD hS 0 rfl rfl 12 (by decide) f19 (fun _ h9 => h9) rfl (tyN_ok 12 (by decide)) rfl rfl (Nat.le_of_ble_eq_true rfl) dN_giveByte_96 (fun H locs hP hD hS => ?_)
        have hP : va_P D vwCl [(h0, .inr (1, FN (tk_up c 12 (-1))))] H := hP
        have hD : va_D A [(h0, .inr (1, FN (tk_up c 12 (-1))))] := hD
        refine lv_iload_n hx hb dN_giveByte_99 rfl (lv_at hl 0 rfl) ?_
        refine lv_if_eq (tgt := 110) hx hb dN_giveByte_100 (by decide) (fun h => absurd h (by decide)) (fun _ => ?_)
        refine lv_iload_n hx hb dN_giveByte_103 rfl (lv_at hl 1 rfl) ?_
        refine lv_bipush (v := 8) hx hb dN_giveByte_104 (by decide) ?_
        refine lv_ishr hx hb dN_giveByte_106 ?_
        refine lv_goto (tgt := 115) hx hb dN_giveByte_107 (by decide) ?_
        exact tk_iret hx hb hr hlk hP hD hS dN_giveByte_115 (by unfold tkN_giveByte_r; rw [if_pos h1_, if_neg h2_, if_pos h8_]) (tk_ewN (by unfold tkN_giveByte_s; rw [if_pos h1_, if_pos h8_]))
      · refine lv_aload_n hx hb dN_giveByte_48 rfl (lv_at hl 1 rfl) ?_
        refine va_get (D := D) (ci := 1) (v := .int (c 11)) (C := RN) (T := TN) (N := 14) hx hb hw inN hown hK hP 0 rfl rfl 11 (by decide) f43 (fun _ h9 => h9) rfl dN_giveByte_49 ?_
        refine lv_if_eq (tgt := 59) hx hb dN_giveByte_52 (by decide) (fun (h9_ : c 11 = 0) => ?_) (fun (h9_ : ¬ (c 11 = 0)) => ?_)
        · refine lv_iconst (v := 0) hx hb dN_giveByte_59 (by decide) ?_
          refine lv_istore_n hx hb dN_giveByte_60 rfl hl (by decide) rfl (fun ls hl => ?_)
          have hl : lv_has ls 3 [(2, .int 0), (1, .int (c 12)), (0, .ref h0)] := hl
          refine lv_aload_n hx hb dN_giveByte_61 rfl (lv_at hl 2 rfl) ?_
          refine va_get (D := D) (ci := 1) (v := .int (c 3)) (C := RN) (T := TN) (N := 14) hx hb hw inN hown hK hP 0 rfl rfl 3 (by decide) f25 (fun _ h9 => h9) rfl dN_giveByte_62 ?_
          refine lv_iconst (v := 3) hx hb dN_giveByte_65 (by decide) ?_
          refine lv_icmp_ne (tgt := 82) hx hb dN_giveByte_66 (by decide) (fun (h10_ : ¬ (c 3 = 3)) => ?_) (fun (h10_ : c 3 = 3) => ?_)
          · refine lv_iload_n hx hb dN_giveByte_82 rfl (lv_at hl 0 rfl) ?_
            refine lv_if_ne (tgt := 94) hx hb dN_giveByte_83 (by decide) (fun h => absurd (by decide) h) (fun _ => ?_)
            refine lv_aload_n hx hb dN_giveByte_86 rfl (lv_at hl 2 rfl) ?_
            refine va_get (D := D) (ci := 1) (v := .int (c 3)) (C := RN) (T := TN) (N := 14) hx hb hw inN hown hK hP 0 rfl rfl 3 (by decide) f25 (fun _ h9 => h9) rfl dN_giveByte_87 ?_
            refine lv_iconst (v := 1) hx hb dN_giveByte_90 (by decide) ?_
            refine lv_icmp_ne (tgt := 99) hx hb dN_giveByte_91 (by decide) (fun (h11_ : ¬ (c 3 = 1)) => ?_) (fun (h11_ : c 3 = 1) => ?_)
            · refine lv_iload_n hx hb dN_giveByte_99 rfl (lv_at hl 0 rfl) ?_
              refine lv_if_eq (tgt := 110) hx hb dN_giveByte_100 (by decide) (fun _ => ?_) (fun h => absurd (by decide) h)
              refine lv_iload_n hx hb dN_giveByte_110 rfl (lv_at hl 1 rfl) ?_
              refine lv_sipush (v := 255) hx hb dN_giveByte_111 (by decide) ?_
              refine lv_iand hx hb dN_giveByte_114 ?_
              exact tk_iret hx hb hr hlk hP hD hS dN_giveByte_115 (by unfold tkN_giveByte_r; rw [if_pos h1_, if_neg h2_, if_neg h8_, if_pos h9_]) (tk_ewN (by unfold tkN_giveByte_s; rw [if_pos h1_, if_neg h8_, if_pos h9_, if_neg h10_, if_neg h11_]))
            · refine lv_aload_n hx hb dN_giveByte_94 rfl (lv_at hl 2 rfl) ?_
              refine lv_iconst (v := -1) hx hb dN_giveByte_95 (by decide) ?_
              refine va_put (D := D) (ci := 1) (v := .int (-1)) (ty := .int) (C := RN) (T := TN) (N := 14) hx hb hw inN tyN tyN_ok nmN hown hK hP hD hS 0 rfl rfl 12 (by decide) f19 (fun _ h9 => h9) rfl (tyN_ok 12 (by decide)) rfl rfl (Nat.le_of_ble_eq_true rfl) dN_giveByte_96 (fun H locs hP hD hS => ?_)
              have hP : va_P D vwCl [(h0, .inr (1, FN (tk_up c 12 (-1))))] H := hP
              have hD : va_D A [(h0, .inr (1, FN (tk_up c 12 (-1))))] := hD
              refine lv_iload_n hx hb dN_giveByte_99 rfl (lv_at hl 0 rfl) ?_
              refine lv_if_eq (tgt := 110) hx hb dN_giveByte_100 (by decide) (fun _ => ?_) (fun h => absurd (by decide) h)
              refine lv_iload_n hx hb dN_giveByte_110 rfl (lv_at hl 1 rfl) ?_
              refine lv_sipush (v := 255) hx hb dN_giveByte_111 (by decide) ?_
              refine lv_iand hx hb dN_giveByte_114 ?_
              exact tk_iret hx hb hr hlk hP hD hS dN_giveByte_115 (by unfold tkN_giveByte_r; rw [if_pos h1_, if_neg h2_, if_neg h8_, if_pos h9_]) (tk_ewN (by unfold tkN_giveByte_s; rw [if_pos h1_, if_neg h8_, if_pos h9_, if_neg h10_, if_pos h11_]))
          · refine lv_aload_n hx hb dN_giveByte_69 rfl (lv_at hl 2 rfl) ?_
            refine lv_iload_n hx hb dN_giveByte_70 rfl (lv_at hl 0 rfl) ?_
            refine lv_if_ne (tgt := 78) hx hb dN_giveByte_71 (by decide) (fun h => absurd (by decide) h) (fun _ => ?_)
            refine lv_iconst (v := 1) hx hb dN_giveByte_74 (by decide) ?_
            refine lv_goto (tgt := 79) hx hb dN_giveByte_75 (by decide) ?_
            refine va_put (D := D) (ci := 1) (v := .int 1) (ty := .boolean) (C := RN) (T := TN) (N := 14) hx hb hw inN tyN tyN_ok nmN hown hK hP hD hS 0 rfl rfl 11 (by decide) f43 (fun _ h9 => h9) rfl (tyN_ok 11 (by decide)) rfl rfl (Nat.le_of_ble_eq_true rfl) dN_giveByte_79 (fun H locs hP hD hS => ?_)
            have hP : va_P D vwCl [(h0, .inr (1, FN (tk_up c 11 1)))] H := hP
            have hD : va_D A [(h0, .inr (1, FN (tk_up c 11 1)))] := hD
            refine lv_iload_n hx hb dN_giveByte_82 rfl (lv_at hl 0 rfl) ?_
            refine lv_if_ne (tgt := 94) hx hb dN_giveByte_83 (by decide) (fun h => absurd (by decide) h) (fun _ => ?_)
            refine lv_aload_n hx hb dN_giveByte_86 rfl (lv_at hl 2 rfl) ?_
            refine va_get (D := D) (ci := 1) (v := .int (c 3)) (C := RN) (T := TN) (N := 14) hx hb hw inN hown hK hP 0 rfl rfl 3 (by decide) f25 (fun _ h9 => h9) rfl dN_giveByte_87 ?_
            refine lv_iconst (v := 1) hx hb dN_giveByte_90 (by decide) ?_
            refine lv_icmp_ne (tgt := 99) hx hb dN_giveByte_91 (by decide) (fun _ => ?_) (fun h => absurd (h.symm.trans h10_) (by decide))
            refine lv_iload_n hx hb dN_giveByte_99 rfl (lv_at hl 0 rfl) ?_
            refine lv_if_eq (tgt := 110) hx hb dN_giveByte_100 (by decide) (fun _ => ?_) (fun h => absurd (by decide) h)
            refine lv_iload_n hx hb dN_giveByte_110 rfl (lv_at hl 1 rfl) ?_
            refine lv_sipush (v := 255) hx hb dN_giveByte_111 (by decide) ?_
            refine lv_iand hx hb dN_giveByte_114 ?_
            exact tk_iret hx hb hr hlk hP hD hS dN_giveByte_115 (by unfold tkN_giveByte_r; rw [if_pos h1_, if_neg h2_, if_neg h8_, if_pos h9_]) (tk_ewN (by unfold tkN_giveByte_s; rw [if_pos h1_, if_neg h8_, if_pos h9_, if_pos h10_]))
        · refine lv_iconst (v := 1) hx hb dN_giveByte_55 (by decide) ?_
          refine lv_goto (tgt := 60) hx hb dN_giveByte_56 (by decide) ?_
          refine lv_istore_n hx hb dN_giveByte_60 rfl hl (by decide) rfl (fun ls hl => ?_)
          have hl : lv_has ls 3 [(2, .int 1), (1, .int (c 12)), (0, .ref h0)] := hl
          refine lv_aload_n hx hb dN_giveByte_61 rfl (lv_at hl 2 rfl) ?_
          refine va_get (D := D) (ci := 1) (v := .int (c 3)) (C := RN) (T := TN) (N := 14) hx hb hw inN hown hK hP 0 rfl rfl 3 (by decide) f25 (fun _ h9 => h9) rfl dN_giveByte_62 ?_
          refine lv_iconst (v := 3) hx hb dN_giveByte_65 (by decide) ?_
          refine lv_icmp_ne (tgt := 82) hx hb dN_giveByte_66 (by decide) (fun (h12_ : ¬ (c 3 = 3)) => ?_) (fun (h12_ : c 3 = 3) => ?_)
          · refine lv_iload_n hx hb dN_giveByte_82 rfl (lv_at hl 0 rfl) ?_
            refine lv_if_ne (tgt := 94) hx hb dN_giveByte_83 (by decide) (fun _ => ?_) (fun h => absurd h (by decide))
            refine lv_aload_n hx hb dN_giveByte_94 rfl (lv_at hl 2 rfl) ?_
            refine lv_iconst (v := -1) hx hb dN_giveByte_95 (by decide) ?_
            refine va_put (D := D) (ci := 1) (v := .int (-1)) (ty := .int) (C := RN) (T := TN) (N := 14) hx hb hw inN tyN tyN_ok nmN hown hK hP hD hS 0 rfl rfl 12 (by decide) f19 (fun _ h9 => h9) rfl (tyN_ok 12 (by decide)) rfl rfl (Nat.le_of_ble_eq_true rfl) dN_giveByte_96 (fun H locs hP hD hS => ?_)
            have hP : va_P D vwCl [(h0, .inr (1, FN (tk_up c 12 (-1))))] H := hP
            have hD : va_D A [(h0, .inr (1, FN (tk_up c 12 (-1))))] := hD
            refine lv_iload_n hx hb dN_giveByte_99 rfl (lv_at hl 0 rfl) ?_
            refine lv_if_eq (tgt := 110) hx hb dN_giveByte_100 (by decide) (fun h => absurd h (by decide)) (fun _ => ?_)
            refine lv_iload_n hx hb dN_giveByte_103 rfl (lv_at hl 1 rfl) ?_
            refine lv_bipush (v := 8) hx hb dN_giveByte_104 (by decide) ?_
            refine lv_ishr hx hb dN_giveByte_106 ?_
            refine lv_goto (tgt := 115) hx hb dN_giveByte_107 (by decide) ?_
            exact tk_iret hx hb hr hlk hP hD hS dN_giveByte_115 (by unfold tkN_giveByte_r; rw [if_pos h1_, if_neg h2_, if_neg h8_, if_neg h9_]) (tk_ewN (by unfold tkN_giveByte_s; rw [if_pos h1_, if_neg h8_, if_neg h9_, if_neg h12_]))
          · refine lv_aload_n hx hb dN_giveByte_69 rfl (lv_at hl 2 rfl) ?_
            refine lv_iload_n hx hb dN_giveByte_70 rfl (lv_at hl 0 rfl) ?_
            refine lv_if_ne (tgt := 78) hx hb dN_giveByte_71 (by decide) (fun _ => ?_) (fun h => absurd h (by decide))
            refine lv_iconst (v := 0) hx hb dN_giveByte_78 (by decide) ?_
            refine va_put (D := D) (ci := 1) (v := .int 0) (ty := .boolean) (C := RN) (T := TN) (N := 14) hx hb hw inN tyN tyN_ok nmN hown hK hP hD hS 0 rfl rfl 11 (by decide) f43 (fun _ h9 => h9) rfl (tyN_ok 11 (by decide)) rfl rfl (Nat.le_of_ble_eq_true rfl) dN_giveByte_79 (fun H locs hP hD hS => ?_)
            have hP : va_P D vwCl [(h0, .inr (1, FN (tk_up c 11 0)))] H := hP
            have hD : va_D A [(h0, .inr (1, FN (tk_up c 11 0)))] := hD
            refine lv_iload_n hx hb dN_giveByte_82 rfl (lv_at hl 0 rfl) ?_
            refine lv_if_ne (tgt := 94) hx hb dN_giveByte_83 (by decide) (fun _ => ?_) (fun h => absurd h (by decide))
            refine lv_aload_n hx hb dN_giveByte_94 rfl (lv_at hl 2 rfl) ?_
            refine lv_iconst (v := -1) hx hb dN_giveByte_95 (by decide) ?_
            refine va_put (D := D) (ci := 1) (v := .int (-1)) (ty := .int) (C := RN) (T := TN) (N := 14) hx hb hw inN tyN tyN_ok nmN hown hK hP hD hS 0 rfl rfl 12 (by decide) f19 (fun _ h9 => h9) rfl (tyN_ok 12 (by decide)) rfl rfl (Nat.le_of_ble_eq_true rfl) dN_giveByte_96 (fun H locs hP hD hS => ?_)
            have hP : va_P D vwCl [(h0, .inr (1, FN (tk_up (tk_up c 11 0) 12 (-1))))] H := hP
            have hD : va_D A [(h0, .inr (1, FN (tk_up (tk_up c 11 0) 12 (-1))))] := hD
            refine lv_iload_n hx hb dN_giveByte_99 rfl (lv_at hl 0 rfl) ?_
            refine lv_if_eq (tgt := 110) hx hb dN_giveByte_100 (by decide) (fun h => absurd h (by decide)) (fun _ => ?_)
            refine lv_iload_n hx hb dN_giveByte_103 rfl (lv_at hl 1 rfl) ?_
            refine lv_bipush (v := 8) hx hb dN_giveByte_104 (by decide) ?_
            refine lv_ishr hx hb dN_giveByte_106 ?_
            refine lv_goto (tgt := 115) hx hb dN_giveByte_107 (by decide) ?_
            exact tk_iret hx hb hr hlk hP hD hS dN_giveByte_115 (by unfold tkN_giveByte_r; rw [if_pos h1_, if_neg h2_, if_neg h8_, if_neg h9_]) (tk_ewN (by unfold tkN_giveByte_s; rw [if_pos h1_, if_neg h8_, if_neg h9_, if_pos h12_]))
  · refine lv_aload_n hx hb dN_giveByte_8 rfl (lv_at hl 0 rfl) ?_
    refine va_get (D := D) (ci := 1) (v := .int (c 13)) (C := RN) (T := TN) (N := 14) hx hb hw inN hown hK hP 0 rfl rfl 13 (by decide) f22 (fun _ h9 => h9) rfl dN_giveByte_9 ?_
    refine lv_istore_n hx hb dN_giveByte_12 rfl hl (by decide) rfl (fun ls hl => ?_)
    have hl : lv_has ls 3 [(1, .int (c 13)), (0, .ref h0)] := hl
    refine lv_aload_n hx hb dN_giveByte_13 rfl (lv_at hl 1 rfl) ?_
    refine lv_iconst (v := -1) hx hb dN_giveByte_14 (by decide) ?_
    refine va_put (D := D) (ci := 1) (v := .int (-1)) (ty := .int) (C := RN) (T := TN) (N := 14) hx hb hw inN tyN tyN_ok nmN hown hK hP hD hS 0 rfl rfl 13 (by decide) f22 (fun _ h9 => h9) rfl (tyN_ok 13 (by decide)) rfl rfl (Nat.le_of_ble_eq_true rfl) dN_giveByte_15 (fun H locs hP hD hS => ?_)
    have hP : va_P D vwCl [(h0, .inr (1, FN (tk_up c 13 (-1))))] H := hP
    have hD : va_D A [(h0, .inr (1, FN (tk_up c 13 (-1))))] := hD
    refine lv_iload_n hx hb dN_giveByte_18 rfl (lv_at hl 0 rfl) ?_
    exact tk_iret hx hb hr hlk hP hD hS dN_giveByte_19 (by unfold tkN_giveByte_r; rw [if_neg h1_]) (tk_ewN (by unfold tkN_giveByte_s; rw [if_neg h1_]))
def tkN_gateLoads_r (c : Nat → Int32) : Int32 :=
  if c 2 = 1 then 1
  else if c 2 = 5 then 1
    else if tkN_isPeriodic_r c = 0 then 0
      else 1
set_option maxHeartbeats 1000000 in
set_option maxRecDepth 100000 in
theorem kN_gateLoads (l : Launch) (D : va_G) (h0 : Nat) (c : Nat → Int32) : tk_M l yN_gateLoads wsN_gateLoads { frames := 1, cells := 0, slots := 0, locals := 20 } D [] [.ref h0] [(h0, .inr (1, FN c))] [(h0, .inr (1, FN c))] (some (.int (tkN_gateLoads_r c))) := by
  refine tk_M.of (cc := cN_gateLoads) (maxL := 1) (ret := (some .boolean)) (by decide) rfl (Nat.le_of_ble_eq_true rfl) ?_
  intro p e s m below meth co A H locs ls hB hK hN hA hP hD hS hl
  obtain ⟨hx, hb, hr, hml, hown, hlk, hnm, hts⟩ := hB
  have hown : s.vm.findClass RN = some m.cls := hown
  have hl : lv_has ls 1 [(0, .ref h0)] := hl
  have hw : ∀ w ∈ tkW, w.before _ s = true := fun w h => hts w (List.mem_cons_of_mem _ h)
  have f15 := hw _ wF_N_15
  refine lv_aload_n hx hb dN_gateLoads_0 rfl (lv_at hl 0 rfl) ?_
  refine va_get (D := D) (ci := 1) (v := .int (c 2)) (C := RN) (T := TN) (N := 14) hx hb hw inN hown hK hP 0 rfl rfl 2 (by decide) f15 (fun _ h9 => h9) rfl dN_gateLoads_1 ?_
  refine lv_iconst (v := 1) hx hb dN_gateLoads_4 (by decide) ?_
  refine lv_icmp_eq (tgt := 23) hx hb dN_gateLoads_5 (by decide) (fun (h1_ : c 2 = 1) => ?_) (fun (h1_ : ¬ (c 2 = 1)) => ?_)
  · refine lv_iconst (v := 1) hx hb dN_gateLoads_23 (by decide) ?_
    refine lv_goto (tgt := 28) hx hb dN_gateLoads_24 (by decide) ?_
    exact tk_zret hx hb hr hlk hP hD hS dN_gateLoads_28 rfl (by unfold tkN_gateLoads_r; rw [if_pos h1_]) rfl
  · refine lv_aload_n hx hb dN_gateLoads_8 rfl (lv_at hl 0 rfl) ?_
    refine va_get (D := D) (ci := 1) (v := .int (c 2)) (C := RN) (T := TN) (N := 14) hx hb hw inN hown hK hP 0 rfl rfl 2 (by decide) f15 (fun _ h9 => h9) rfl dN_gateLoads_9 ?_
    refine lv_iconst (v := 5) hx hb dN_gateLoads_12 (by decide) ?_
    refine lv_icmp_eq (tgt := 23) hx hb dN_gateLoads_13 (by decide) (fun (h2_ : c 2 = 5) => ?_) (fun (h2_ : ¬ (c 2 = 5)) => ?_)
    · refine lv_iconst (v := 1) hx hb dN_gateLoads_23 (by decide) ?_
      refine lv_goto (tgt := 28) hx hb dN_gateLoads_24 (by decide) ?_
      exact tk_zret hx hb hr hlk hP hD hS dN_gateLoads_28 rfl (by unfold tkN_gateLoads_r; rw [if_neg h1_, if_pos h2_]) rfl
    · refine lv_aload_n hx hb dN_gateLoads_16 rfl (lv_at hl 0 rfl) ?_
      refine tk_callA hD hS hA (va_runV (As := []) (rest := []) ⟨hx, hb, hml, hown, hw⟩ (kN_isPeriodic l D h0 c H.size) (cwV 0 hw (tk_gV tkW_good wM_N_73 wI_N_isPeriodic wS_N_isPeriodic wZ_N wC_N_isPeriodic) rfl rfl rfl (by decide +kernel) ⟨Nat.le_of_ble_eq_true rfl, Nat.le_of_ble_eq_true rfl⟩) (tk_preV (q0 := 0) hK hN hP hD [0] [] rfl rfl rfl rfl rfl) rfl rfl hl.1 rfl (lv_room (Nat.le_of_ble_eq_true rfl)) dN_gateLoads_17 ⟨Nat.zero_le _, Nat.zero_le _⟩) (fun H locs hP hD hS => ?_)
      refine W.eq (g2 := F0 m 20 ls [.int (tkN_isPeriodic_r c)]) rfl ?_
      refine lv_if_eq (tgt := 27) hx hb dN_gateLoads_20 (by decide) (fun (h3_ : tkN_isPeriodic_r c = 0) => ?_) (fun (h3_ : ¬ (tkN_isPeriodic_r c = 0)) => ?_)
      · refine lv_iconst (v := 0) hx hb dN_gateLoads_27 (by decide) ?_
        exact tk_zret hx hb hr hlk hP hD hS dN_gateLoads_28 rfl (by unfold tkN_gateLoads_r; rw [if_neg h1_, if_neg h2_, if_pos h3_]) rfl
      · refine lv_iconst (v := 1) hx hb dN_gateLoads_23 (by decide) ?_
        refine lv_goto (tgt := 28) hx hb dN_gateLoads_24 (by decide) ?_
        exact tk_zret hx hb hr hlk hP hD hS dN_gateLoads_28 rfl (by unfold tkN_gateLoads_r; rw [if_neg h1_, if_neg h2_, if_neg h3_]) rfl
def tkN_setGate_s (c : Nat → Int32) (x0 : Int32) : Nat → Int32 :=
  if x0 = 0 then (if c 0 = 0 then tk_up c 0 x0
    else if tkN_isPeriodic_r (tk_up c 0 x0) = 0 then tk_up c 0 x0
      else tk_up (tk_up c 0 x0) 1 1)
  else if c 0 = 0 then (if tkN_isEmpty_r (tk_up c 0 x0) = 0 then (if tkN_gateLoads_r (tk_up c 0 x0) = 0 then tk_up c 0 x0
        else tk_up (tk_up c 0 x0) 7 1)
      else tk_up c 0 x0)
    else tk_up c 0 x0
set_option maxHeartbeats 1000000 in
set_option maxRecDepth 100000 in
theorem kN_setGate (l : Launch) (D : va_G) (h0 : Nat) (c : Nat → Int32) (x0 : Int32) (hb0 : x0 = 0 ∨ x0 = 1) : tk_M l yN_setGate wsN_setGate { frames := 2, cells := 0, slots := 0, locals := 40 } D [] [.ref h0, .int x0] [(h0, .inr (1, FN c))] [(h0, .inr (1, FN (tkN_setGate_s c x0)))] none := by
  refine tk_M.of (cc := cN_setGate) (maxL := 4) (ret := none) (by decide) rfl (Nat.le_of_ble_eq_true rfl) ?_
  intro p e s m below meth co A H locs ls hB hK hN hA hP hD hS hl
  obtain ⟨hx, hb, hr, hml, hown, hlk, hnm, hts⟩ := hB
  have hown : s.vm.findClass RN = some m.cls := hown
  have hl : lv_has ls 4 [(0, .ref h0), (1, .int x0)] := hl
  have hw : ∀ w ∈ tkW, w.before _ s = true := fun w h => hts w (List.mem_cons_of_mem _ h)
  have f9 := hw _ wF_N_9
  have f46 := hw _ wF_N_46
  have f34 := hw _ wF_N_34
  refine lv_iload_n hx hb dN_setGate_0 rfl (lv_at hl 1 rfl) ?_
  refine lv_if_eq (tgt := 15) hx hb dN_setGate_1 (by decide) (fun (h1_ : x0 = 0) => ?_) (fun (h1_ : ¬ (x0 = 0)) => ?_)
  · refine lv_iconst (v := 0) hx hb dN_setGate_15 (by decide) ?_
    refine lv_istore_n hx hb dN_setGate_16 rfl hl (by decide) rfl (fun ls hl => ?_)
    have hl : lv_has ls 4 [(2, .int 0), (0, .ref h0), (1, .int x0)] := hl
    refine lv_iload_n hx hb dN_setGate_17 rfl (lv_at hl 2 rfl) ?_
    refine lv_if_ne (tgt := 32) hx hb dN_setGate_18 (by decide) (fun h => absurd h1_ h) (fun _ => ?_)
    refine lv_aload_n hx hb dN_setGate_21 rfl (lv_at hl 1 rfl) ?_
    refine va_get (D := D) (ci := 1) (v := .int (c 0)) (C := RN) (T := TN) (N := 14) hx hb hw inN hown hK hP 0 rfl rfl 0 (by decide) f9 (fun _ h9 => h9) rfl dN_setGate_22 ?_
    refine lv_if_eq (tgt := 32) hx hb dN_setGate_25 (by decide) (fun (h2_ : c 0 = 0) => ?_) (fun (h2_ : ¬ (c 0 = 0)) => ?_)
    · refine lv_iconst (v := 0) hx hb dN_setGate_32 (by decide) ?_
      refine lv_istore_n hx hb dN_setGate_33 rfl hl (by decide) rfl (fun ls hl => ?_)
      have hl : lv_has ls 4 [(3, .int 0), (2, .int 0), (0, .ref h0), (1, .int x0)] := hl
      refine lv_aload_n hx hb dN_setGate_34 rfl (lv_at hl 2 rfl) ?_
      refine lv_iload_n hx hb dN_setGate_35 rfl (lv_at hl 3 rfl) ?_
      refine va_put (D := D) (ci := 1) (v := .int x0) (ty := .boolean) (C := RN) (T := TN) (N := 14) hx hb hw inN tyN tyN_ok nmN hown hK hP hD hS 0 rfl rfl 0 (by decide) f9 (fun _ h9 => h9) rfl (tyN_ok 0 (by decide)) (tk_nb hb0) (tk_fb hb0) (Nat.le_of_ble_eq_true rfl) dN_setGate_36 (fun H locs hP hD hS => ?_)
      have hP : va_P D vwCl [(h0, .inr (1, FN (tk_up c 0 x0)))] H := hP
      have hD : va_D A [(h0, .inr (1, FN (tk_up c 0 x0)))] := hD
      refine lv_iload_n hx hb dN_setGate_39 rfl (lv_at hl 1 rfl) ?_
      refine lv_if_eq (tgt := 62) hx hb dN_setGate_40 (by decide) (fun _ => ?_) (fun h => absurd (by decide) h)
      refine lv_iload_n hx hb dN_setGate_62 rfl (lv_at hl 0 rfl) ?_
      refine lv_if_eq (tgt := 78) hx hb dN_setGate_63 (by decide) (fun _ => ?_) (fun h => absurd (by decide) h)
      exact tk_vret hx hb hr hlk hP hD hS dN_setGate_78 (tk_ewN (by unfold tkN_setGate_s; rw [if_pos h1_, if_pos h2_]))
    · refine lv_iconst (v := 1) hx hb dN_setGate_28 (by decide) ?_
      refine lv_goto (tgt := 33) hx hb dN_setGate_29 (by decide) ?_
      refine lv_istore_n hx hb dN_setGate_33 rfl hl (by decide) rfl (fun ls hl => ?_)
      have hl : lv_has ls 4 [(3, .int 1), (2, .int 0), (0, .ref h0), (1, .int x0)] := hl
      refine lv_aload_n hx hb dN_setGate_34 rfl (lv_at hl 2 rfl) ?_
      refine lv_iload_n hx hb dN_setGate_35 rfl (lv_at hl 3 rfl) ?_
      refine va_put (D := D) (ci := 1) (v := .int x0) (ty := .boolean) (C := RN) (T := TN) (N := 14) hx hb hw inN tyN tyN_ok nmN hown hK hP hD hS 0 rfl rfl 0 (by decide) f9 (fun _ h9 => h9) rfl (tyN_ok 0 (by decide)) (tk_nb hb0) (tk_fb hb0) (Nat.le_of_ble_eq_true rfl) dN_setGate_36 (fun H locs hP hD hS => ?_)
      have hP : va_P D vwCl [(h0, .inr (1, FN (tk_up c 0 x0)))] H := hP
      have hD : va_D A [(h0, .inr (1, FN (tk_up c 0 x0)))] := hD
      refine lv_iload_n hx hb dN_setGate_39 rfl (lv_at hl 1 rfl) ?_
      refine lv_if_eq (tgt := 62) hx hb dN_setGate_40 (by decide) (fun _ => ?_) (fun h => absurd (by decide) h)
      refine lv_iload_n hx hb dN_setGate_62 rfl (lv_at hl 0 rfl) ?_
      refine lv_if_eq (tgt := 78) hx hb dN_setGate_63 (by decide) (fun h => absurd h (by decide)) (fun _ => ?_)
      refine lv_aload_n hx hb dN_setGate_66 rfl (lv_at hl 2 rfl) ?_
      refine tk_callA hD hS hA (va_runV (As := []) (rest := []) ⟨hx, hb, hml, hown, hw⟩ (kN_isPeriodic l D h0 (tk_up c 0 x0) H.size) (cwV 0 hw (tk_gV tkW_good wM_N_73 wI_N_isPeriodic wS_N_isPeriodic wZ_N wC_N_isPeriodic) rfl rfl rfl (by decide +kernel) ⟨Nat.le_of_ble_eq_true rfl, Nat.le_of_ble_eq_true rfl⟩) (tk_preV (q0 := 0) hK hN hP hD [0] [] rfl rfl rfl rfl rfl) rfl rfl hl.1 rfl (lv_room (Nat.le_of_ble_eq_true rfl)) dN_setGate_67 ⟨Nat.zero_le _, Nat.zero_le _⟩) (fun H locs hP hD hS => ?_)
      refine W.eq (g2 := F0 m 70 ls [.int (tkN_isPeriodic_r (tk_up c 0 x0))]) rfl ?_
      refine lv_if_eq (tgt := 78) hx hb dN_setGate_70 (by decide) (fun (h3_ : tkN_isPeriodic_r (tk_up c 0 x0) = 0) => ?_) (fun (h3_ : ¬ (tkN_isPeriodic_r (tk_up c 0 x0) = 0)) => ?_)
      · exact tk_vret hx hb hr hlk hP hD hS dN_setGate_78 (tk_ewN (by unfold tkN_setGate_s; rw [if_pos h1_, if_neg h2_, if_pos h3_]))
      · refine lv_aload_n hx hb dN_setGate_73 rfl (lv_at hl 2 rfl) ?_
        refine lv_iconst (v := 1) hx hb dN_setGate_74 (by decide) ?_
        refine va_put (D := D) (ci := 1) (v := .int 1) (ty := .boolean) (C := RN) (T := TN) (N := 14) hx hb hw inN tyN tyN_ok nmN hown hK hP hD hS 0 rfl rfl 1 (by decide) f46 (fun _ h9 => h9) rfl (tyN_ok 1 (by decide)) rfl rfl (Nat.le_of_ble_eq_true rfl) dN_setGate_75 (fun H locs hP hD hS => ?_)
        have hP : va_P D vwCl [(h0, .inr (1, FN (tk_up (tk_up c 0 x0) 1 1)))] H := hP
        have hD : va_D A [(h0, .inr (1, FN (tk_up (tk_up c 0 x0) 1 1)))] := hD
        exact tk_vret hx hb hr hlk hP hD hS dN_setGate_78 (tk_ewN (by unfold tkN_setGate_s; rw [if_pos h1_, if_neg h2_, if_neg h3_]))
  · refine lv_aload_n hx hb dN_setGate_4 rfl (lv_at hl 0 rfl) ?_
    refine va_get (D := D) (ci := 1) (v := .int (c 0)) (C := RN) (T := TN) (N := 14) hx hb hw inN hown hK hP 0 rfl rfl 0 (by decide) f9 (fun _ h9 => h9) rfl dN_setGate_5 ?_
    refine lv_if_ne (tgt := 15) hx hb dN_setGate_8 (by decide) (fun (h4_ : ¬ (c 0 = 0)) => ?_) (fun (h4_ : c 0 = 0) => ?_)
    · refine lv_iconst (v := 0) hx hb dN_setGate_15 (by decide) ?_
      refine lv_istore_n hx hb dN_setGate_16 rfl hl (by decide) rfl (fun ls hl => ?_)
      have hl : lv_has ls 4 [(2, .int 0), (0, .ref h0), (1, .int x0)] := hl
      refine lv_iload_n hx hb dN_setGate_17 rfl (lv_at hl 2 rfl) ?_
      refine lv_if_ne (tgt := 32) hx hb dN_setGate_18 (by decide) (fun _ => ?_) (fun h => absurd h h1_)
      refine lv_iconst (v := 0) hx hb dN_setGate_32 (by decide) ?_
      refine lv_istore_n hx hb dN_setGate_33 rfl hl (by decide) rfl (fun ls hl => ?_)
      have hl : lv_has ls 4 [(3, .int 0), (2, .int 0), (0, .ref h0), (1, .int x0)] := hl
      refine lv_aload_n hx hb dN_setGate_34 rfl (lv_at hl 2 rfl) ?_
      refine lv_iload_n hx hb dN_setGate_35 rfl (lv_at hl 3 rfl) ?_
      refine va_put (D := D) (ci := 1) (v := .int x0) (ty := .boolean) (C := RN) (T := TN) (N := 14) hx hb hw inN tyN tyN_ok nmN hown hK hP hD hS 0 rfl rfl 0 (by decide) f9 (fun _ h9 => h9) rfl (tyN_ok 0 (by decide)) (tk_nb hb0) (tk_fb hb0) (Nat.le_of_ble_eq_true rfl) dN_setGate_36 (fun H locs hP hD hS => ?_)
      have hP : va_P D vwCl [(h0, .inr (1, FN (tk_up c 0 x0)))] H := hP
      have hD : va_D A [(h0, .inr (1, FN (tk_up c 0 x0)))] := hD
      refine lv_iload_n hx hb dN_setGate_39 rfl (lv_at hl 1 rfl) ?_
      refine lv_if_eq (tgt := 62) hx hb dN_setGate_40 (by decide) (fun _ => ?_) (fun h => absurd (by decide) h)
      refine lv_iload_n hx hb dN_setGate_62 rfl (lv_at hl 0 rfl) ?_
      refine lv_if_eq (tgt := 78) hx hb dN_setGate_63 (by decide) (fun _ => ?_) (fun h => absurd (by decide) h)
      exact tk_vret hx hb hr hlk hP hD hS dN_setGate_78 (tk_ewN (by unfold tkN_setGate_s; rw [if_neg h1_, if_neg h4_]))
    · refine lv_iconst (v := 1) hx hb dN_setGate_11 (by decide) ?_
      refine lv_goto (tgt := 16) hx hb dN_setGate_12 (by decide) ?_
      refine lv_istore_n hx hb dN_setGate_16 rfl hl (by decide) rfl (fun ls hl => ?_)
      have hl : lv_has ls 4 [(2, .int 1), (0, .ref h0), (1, .int x0)] := hl
      refine lv_iload_n hx hb dN_setGate_17 rfl (lv_at hl 2 rfl) ?_
      refine lv_if_ne (tgt := 32) hx hb dN_setGate_18 (by decide) (fun _ => ?_) (fun h => absurd h h1_)
      refine lv_iconst (v := 0) hx hb dN_setGate_32 (by decide) ?_
      refine lv_istore_n hx hb dN_setGate_33 rfl hl (by decide) rfl (fun ls hl => ?_)
      have hl : lv_has ls 4 [(3, .int 0), (2, .int 1), (0, .ref h0), (1, .int x0)] := hl
      refine lv_aload_n hx hb dN_setGate_34 rfl (lv_at hl 2 rfl) ?_
      refine lv_iload_n hx hb dN_setGate_35 rfl (lv_at hl 3 rfl) ?_
      refine va_put (D := D) (ci := 1) (v := .int x0) (ty := .boolean) (C := RN) (T := TN) (N := 14) hx hb hw inN tyN tyN_ok nmN hown hK hP hD hS 0 rfl rfl 0 (by decide) f9 (fun _ h9 => h9) rfl (tyN_ok 0 (by decide)) (tk_nb hb0) (tk_fb hb0) (Nat.le_of_ble_eq_true rfl) dN_setGate_36 (fun H locs hP hD hS => ?_)
      have hP : va_P D vwCl [(h0, .inr (1, FN (tk_up c 0 x0)))] H := hP
      have hD : va_D A [(h0, .inr (1, FN (tk_up c 0 x0)))] := hD
      refine lv_iload_n hx hb dN_setGate_39 rfl (lv_at hl 1 rfl) ?_
      refine lv_if_eq (tgt := 62) hx hb dN_setGate_40 (by decide) (fun h => absurd h (by decide)) (fun _ => ?_)
      refine lv_aload_n hx hb dN_setGate_43 rfl (lv_at hl 2 rfl) ?_
      refine tk_callA hD hS hA (va_runV (As := []) (rest := []) ⟨hx, hb, hml, hown, hw⟩ (kN_isEmpty l D h0 (tk_up c 0 x0) H.size) (cwV 0 hw (tk_gV tkW_good wM_N_67 wI_N_isEmpty wS_N_isEmpty wZ_N wC_N_isEmpty) rfl rfl rfl (by decide +kernel) ⟨Nat.le_of_ble_eq_true rfl, Nat.le_of_ble_eq_true rfl⟩) (tk_preV (q0 := 0) hK hN hP hD [0] [] rfl rfl rfl rfl rfl) rfl rfl hl.1 rfl (lv_room (Nat.le_of_ble_eq_true rfl)) dN_setGate_44 ⟨Nat.zero_le _, Nat.zero_le _⟩) (fun H locs hP hD hS => ?_)
      refine W.eq (g2 := F0 m 47 ls [.int (tkN_isEmpty_r (tk_up c 0 x0))]) rfl ?_
      refine lv_if_ne (tgt := 62) hx hb dN_setGate_47 (by decide) (fun (h5_ : ¬ (tkN_isEmpty_r (tk_up c 0 x0) = 0)) => ?_) (fun (h5_ : tkN_isEmpty_r (tk_up c 0 x0) = 0) => ?_)
      · refine lv_iload_n hx hb dN_setGate_62 rfl (lv_at hl 0 rfl) ?_
        refine lv_if_eq (tgt := 78) hx hb dN_setGate_63 (by decide) (fun _ => ?_) (fun h => absurd (by decide) h)
        exact tk_vret hx hb hr hlk hP hD hS dN_setGate_78 (tk_ewN (by unfold tkN_setGate_s; rw [if_neg h1_, if_pos h4_, if_neg h5_]))
      · refine lv_aload_n hx hb dN_setGate_50 rfl (lv_at hl 2 rfl) ?_
        refine tk_callA hD hS hA (va_runV (As := []) (rest := []) ⟨hx, hb, hml, hown, hw⟩ (kN_gateLoads l D h0 (tk_up c 0 x0) H.size) (cwV 0 hw (tk_gV tkW_good wM_N_70 wI_N_gateLoads wS_N_gateLoads wZ_N wC_N_gateLoads) rfl rfl rfl (by decide +kernel) ⟨Nat.le_of_ble_eq_true rfl, Nat.le_of_ble_eq_true rfl⟩) (tk_preV (q0 := 0) hK hN hP hD [0] [] rfl rfl rfl rfl rfl) rfl rfl hl.1 rfl (lv_room (Nat.le_of_ble_eq_true rfl)) dN_setGate_51 ⟨Nat.zero_le _, Nat.zero_le _⟩) (fun H locs hP hD hS => ?_)
        refine W.eq (g2 := F0 m 54 ls [.int (tkN_gateLoads_r (tk_up c 0 x0))]) rfl ?_
        refine lv_if_eq (tgt := 62) hx hb dN_setGate_54 (by decide) (fun (h6_ : tkN_gateLoads_r (tk_up c 0 x0) = 0) => ?_) (fun (h6_ : ¬ (tkN_gateLoads_r (tk_up c 0 x0) = 0)) => ?_)
        · refine lv_iload_n hx hb dN_setGate_62 rfl (lv_at hl 0 rfl) ?_
          refine lv_if_eq (tgt := 78) hx hb dN_setGate_63 (by decide) (fun _ => ?_) (fun h => absurd (by decide) h)
          exact tk_vret hx hb hr hlk hP hD hS dN_setGate_78 (tk_ewN (by unfold tkN_setGate_s; rw [if_neg h1_, if_pos h4_, if_pos h5_, if_pos h6_]))
        · refine lv_aload_n hx hb dN_setGate_57 rfl (lv_at hl 2 rfl) ?_
          refine lv_iconst (v := 1) hx hb dN_setGate_58 (by decide) ?_
          refine va_put (D := D) (ci := 1) (v := .int 1) (ty := .boolean) (C := RN) (T := TN) (N := 14) hx hb hw inN tyN tyN_ok nmN hown hK hP hD hS 0 rfl rfl 7 (by decide) f34 (fun _ h9 => h9) rfl (tyN_ok 7 (by decide)) rfl rfl (Nat.le_of_ble_eq_true rfl) dN_setGate_59 (fun H locs hP hD hS => ?_)
          have hP : va_P D vwCl [(h0, .inr (1, FN (tk_up (tk_up c 0 x0) 7 1)))] H := hP
          have hD : va_D A [(h0, .inr (1, FN (tk_up (tk_up c 0 x0) 7 1)))] := hD
          refine lv_iload_n hx hb dN_setGate_62 rfl (lv_at hl 0 rfl) ?_
          refine lv_if_eq (tgt := 78) hx hb dN_setGate_63 (by decide) (fun _ => ?_) (fun h => absurd (by decide) h)
          exact tk_vret hx hb hr hlk hP hD hS dN_setGate_78 (tk_ewN (by unfold tkN_setGate_s; rw [if_neg h1_, if_pos h4_, if_pos h5_, if_neg h6_]))
def tkN_standsBetweenBytes_r (c : Nat → Int32) : Int32 :=
  if c 2 = 0 then (if c 10 = 0 then 0
    else 1)
  else 0
set_option maxHeartbeats 1000000 in
set_option maxRecDepth 100000 in
theorem kN_standsBetweenBytes (l : Launch) (D : va_G) (h0 : Nat) (c : Nat → Int32) : tk_M l yN_standsBetweenBytes wsN_standsBetweenBytes { frames := 0, cells := 0, slots := 0, locals := 0 } D [] [.ref h0] [(h0, .inr (1, FN c))] [(h0, .inr (1, FN c))] (some (.int (tkN_standsBetweenBytes_r c))) := by
  refine tk_M.of (cc := cN_standsBetweenBytes) (maxL := 1) (ret := (some .boolean)) (by decide) rfl (Nat.le_of_ble_eq_true rfl) ?_
  intro p e s m below meth co A H locs ls hB hK hN hA hP hD hS hl
  obtain ⟨hx, hb, hr, hml, hown, hlk, hnm, hts⟩ := hB
  have hown : s.vm.findClass RN = some m.cls := hown
  have hl : lv_has ls 1 [(0, .ref h0)] := hl
  have hw : ∀ w ∈ tkW, w.before _ s = true := fun w h => hts w (List.mem_cons_of_mem _ h)
  have f15 := hw _ wF_N_15
  have f40 := hw _ wF_N_40
  refine lv_aload_n hx hb dN_standsBetweenBytes_0 rfl (lv_at hl 0 rfl) ?_
  refine va_get (D := D) (ci := 1) (v := .int (c 2)) (C := RN) (T := TN) (N := 14) hx hb hw inN hown hK hP 0 rfl rfl 2 (by decide) f15 (fun _ h9 => h9) rfl dN_standsBetweenBytes_1 ?_
  refine lv_if_ne (tgt := 18) hx hb dN_standsBetweenBytes_4 (by decide) (fun (h1_ : ¬ (c 2 = 0)) => ?_) (fun (h1_ : c 2 = 0) => ?_)
  · refine lv_iconst (v := 0) hx hb dN_standsBetweenBytes_18 (by decide) ?_
    exact tk_zret hx hb hr hlk hP hD hS dN_standsBetweenBytes_19 rfl (by unfold tkN_standsBetweenBytes_r; rw [if_neg h1_]) rfl
  · refine lv_aload_n hx hb dN_standsBetweenBytes_7 rfl (lv_at hl 0 rfl) ?_
    refine va_get (D := D) (ci := 1) (v := .int (c 10)) (C := RN) (T := TN) (N := 14) hx hb hw inN hown hK hP 0 rfl rfl 10 (by decide) f40 (fun _ h9 => h9) rfl dN_standsBetweenBytes_8 ?_
    refine lv_if_eq (tgt := 18) hx hb dN_standsBetweenBytes_11 (by decide) (fun (h2_ : c 10 = 0) => ?_) (fun (h2_ : ¬ (c 10 = 0)) => ?_)
    · refine lv_iconst (v := 0) hx hb dN_standsBetweenBytes_18 (by decide) ?_
      exact tk_zret hx hb hr hlk hP hD hS dN_standsBetweenBytes_19 rfl (by unfold tkN_standsBetweenBytes_r; rw [if_pos h1_, if_pos h2_]) rfl
    · refine lv_iconst (v := 1) hx hb dN_standsBetweenBytes_14 (by decide) ?_
      refine lv_goto (tgt := 19) hx hb dN_standsBetweenBytes_15 (by decide) ?_
      exact tk_zret hx hb hr hlk hP hD hS dN_standsBetweenBytes_19 rfl (by unfold tkN_standsBetweenBytes_r; rw [if_pos h1_, if_neg h2_]) rfl
def tkN_partTicks_r (c : Nat → Int32) : Int32 :=
  if c 1 = 0 then (c 4) / 2
  else ((c 4) + 1) / 2
set_option maxHeartbeats 1000000 in
set_option maxRecDepth 100000 in
theorem kN_partTicks (l : Launch) (D : va_G) (h0 : Nat) (c : Nat → Int32) : tk_M l yN_partTicks wsN_partTicks { frames := 0, cells := 0, slots := 0, locals := 0 } D [] [.ref h0] [(h0, .inr (1, FN c))] [(h0, .inr (1, FN c))] (some (.int (tkN_partTicks_r c))) := by
  refine tk_M.of (cc := cN_partTicks) (maxL := 1) (ret := (some .int)) (by decide) rfl (Nat.le_of_ble_eq_true rfl) ?_
  intro p e s m below meth co A H locs ls hB hK hN hA hP hD hS hl
  obtain ⟨hx, hb, hr, hml, hown, hlk, hnm, hts⟩ := hB
  have hown : s.vm.findClass RN = some m.cls := hown
  have hl : lv_has ls 1 [(0, .ref h0)] := hl
  have hw : ∀ w ∈ tkW, w.before _ s = true := fun w h => hts w (List.mem_cons_of_mem _ h)
  have f46 := hw _ wF_N_46
  have f28 := hw _ wF_N_28
  refine lv_aload_n hx hb dN_partTicks_0 rfl (lv_at hl 0 rfl) ?_
  refine va_get (D := D) (ci := 1) (v := .int (c 1)) (C := RN) (T := TN) (N := 14) hx hb hw inN hown hK hP 0 rfl rfl 1 (by decide) f46 (fun _ h9 => h9) rfl dN_partTicks_1 ?_
  refine lv_if_eq (tgt := 18) hx hb dN_partTicks_4 (by decide) (fun (h1_ : c 1 = 0) => ?_) (fun (h1_ : ¬ (c 1 = 0)) => ?_)
  · refine lv_aload_n hx hb dN_partTicks_18 rfl (lv_at hl 0 rfl) ?_
    refine va_get (D := D) (ci := 1) (v := .int (c 4)) (C := RN) (T := TN) (N := 14) hx hb hw inN hown hK hP 0 rfl rfl 4 (by decide) f28 (fun _ h9 => h9) rfl dN_partTicks_19 ?_
    refine lv_iconst (v := 2) hx hb dN_partTicks_22 (by decide) ?_
    refine lv_idiv hx hb dN_partTicks_23 (by decide) ?_
    exact tk_iret hx hb hr hlk hP hD hS dN_partTicks_24 (by unfold tkN_partTicks_r; rw [if_pos h1_]) rfl
  · refine lv_aload_n hx hb dN_partTicks_7 rfl (lv_at hl 0 rfl) ?_
    refine va_get (D := D) (ci := 1) (v := .int (c 4)) (C := RN) (T := TN) (N := 14) hx hb hw inN hown hK hP 0 rfl rfl 4 (by decide) f28 (fun _ h9 => h9) rfl dN_partTicks_8 ?_
    refine lv_iconst (v := 1) hx hb dN_partTicks_11 (by decide) ?_
    refine lv_iadd hx hb dN_partTicks_12 ?_
    refine lv_iconst (v := 2) hx hb dN_partTicks_13 (by decide) ?_
    refine lv_idiv hx hb dN_partTicks_14 (by decide) ?_
    refine lv_goto (tgt := 24) hx hb dN_partTicks_15 (by decide) ?_
    exact tk_iret hx hb hr hlk hP hD hS dN_partTicks_24 (by unfold tkN_partTicks_r; rw [if_neg h1_]) rfl
def tkN_setCount_s (c : Nat → Int32) (x0 : Int32) : Nat → Int32 :=
  tk_up (tk_up c 5 (x0 &&& 65535)) 8 0
set_option maxHeartbeats 1000000 in
set_option maxRecDepth 100000 in
theorem kN_setCount (l : Launch) (D : va_G) (h0 : Nat) (c : Nat → Int32) (x0 : Int32) : tk_M l yN_setCount wsN_setCount { frames := 0, cells := 0, slots := 0, locals := 0 } D [] [.ref h0, .int x0] [(h0, .inr (1, FN c))] [(h0, .inr (1, FN (tkN_setCount_s c x0)))] none := by
  refine tk_M.of (cc := cN_setCount) (maxL := 2) (ret := none) (by decide) rfl (Nat.le_of_ble_eq_true rfl) ?_
  intro p e s m below meth co A H locs ls hB hK hN hA hP hD hS hl
  obtain ⟨hx, hb, hr, hml, hown, hlk, hnm, hts⟩ := hB
  have hown : s.vm.findClass RN = some m.cls := hown
  have hl : lv_has ls 2 [(0, .ref h0), (1, .int x0)] := hl
  have hw : ∀ w ∈ tkW, w.before _ s = true := fun w h => hts w (List.mem_cons_of_mem _ h)
  have f53 := hw _ wF_N_53
  have f37 := hw _ wF_N_37
  refine lv_aload_n hx hb dN_setCount_0 rfl (lv_at hl 0 rfl) ?_
  refine lv_iload_n hx hb dN_setCount_1 rfl (lv_at hl 1 rfl) ?_
  refine lv_ldc (v := 65535) hx hb hown (hw _ wK_N_96) dN_setCount_2 ?_
  refine lv_iand hx hb dN_setCount_4 ?_
  refine va_put (D := D) (ci := 1) (v := .int (x0 &&& 65535)) (ty := .int) (C := RN) (T := TN) (N := 14) hx hb hw inN tyN tyN_ok nmN hown hK hP hD hS 0 rfl rfl 5 (by decide) f53 (fun _ h9 => h9) rfl (tyN_ok 5 (by decide)) rfl rfl (Nat.le_of_ble_eq_true rfl) dN_setCount_5 (fun H locs hP hD hS => ?_)
  have hP : va_P D vwCl [(h0, .inr (1, FN (tk_up c 5 (x0 &&& 65535))))] H := hP
  have hD : va_D A [(h0, .inr (1, FN (tk_up c 5 (x0 &&& 65535))))] := hD
  refine lv_aload_n hx hb dN_setCount_8 rfl (lv_at hl 0 rfl) ?_
  refine lv_iconst (v := 0) hx hb dN_setCount_9 (by decide) ?_
  refine va_put (D := D) (ci := 1) (v := .int 0) (ty := .boolean) (C := RN) (T := TN) (N := 14) hx hb hw inN tyN tyN_ok nmN hown hK hP hD hS 0 rfl rfl 8 (by decide) f37 (fun _ h9 => h9) rfl (tyN_ok 8 (by decide)) rfl rfl (Nat.le_of_ble_eq_true rfl) dN_setCount_10 (fun H locs hP hD hS => ?_)
  have hP : va_P D vwCl [(h0, .inr (1, FN (tk_up (tk_up c 5 (x0 &&& 65535)) 8 0)))] H := hP
  have hD : va_D A [(h0, .inr (1, FN (tk_up (tk_up c 5 (x0 &&& 65535)) 8 0)))] := hD
  exact tk_vret hx hb hr hlk hP hD hS dN_setCount_13 (tk_ewN rfl)
def tkN_load_s (c : Nat → Int32) : Nat → Int32 :=
  if c 2 = 1 then tkN_setCount_s (tk_up (tk_up (tk_up c 7 0) 6 1) 1 0) (c 4)
  else if tkN_isPeriodic_r (tk_up (tk_up c 7 0) 6 1) = 0 then (if c 2 = 3 then tkN_setCount_s (tk_up (tk_up c 7 0) 6 1) (2 * (tkN_partTicks_r (tk_up (tk_up c 7 0) 6 1)))
      else tkN_setCount_s (tk_up (tk_up c 7 0) 6 1) (c 4))
    else if c 2 = 3 then tkN_setCount_s (tk_up (tk_up (tk_up c 7 0) 6 1) 1 1) (2 * (tkN_partTicks_r (tk_up (tk_up (tk_up c 7 0) 6 1) 1 1)))
      else tkN_setCount_s (tk_up (tk_up (tk_up c 7 0) 6 1) 1 1) (c 4)
set_option maxHeartbeats 1000000 in
set_option maxRecDepth 100000 in
theorem kN_load (l : Launch) (D : va_G) (h0 : Nat) (c : Nat → Int32) : tk_M l yN_load wsN_load { frames := 1, cells := 0, slots := 0, locals := 21 } D [] [.ref h0] [(h0, .inr (1, FN c))] [(h0, .inr (1, FN (tkN_load_s c)))] none := by
  refine tk_M.of (cc := cN_load) (maxL := 1) (ret := none) (by decide) rfl (Nat.le_of_ble_eq_true rfl) ?_
  intro p e s m below meth co A H locs ls hB hK hN hA hP hD hS hl
  obtain ⟨hx, hb, hr, hml, hown, hlk, hnm, hts⟩ := hB
  have hown : s.vm.findClass RN = some m.cls := hown
  have hl : lv_has ls 1 [(0, .ref h0)] := hl
  have hw : ∀ w ∈ tkW, w.before _ s = true := fun w h => hts w (List.mem_cons_of_mem _ h)
  have f34 := hw _ wF_N_34
  have f31 := hw _ wF_N_31
  have f15 := hw _ wF_N_15
  have f28 := hw _ wF_N_28
  have f46 := hw _ wF_N_46
  refine lv_aload_n hx hb dN_load_0 rfl (lv_at hl 0 rfl) ?_
  refine lv_iconst (v := 0) hx hb dN_load_1 (by decide) ?_
  refine va_put (D := D) (ci := 1) (v := .int 0) (ty := .boolean) (C := RN) (T := TN) (N := 14) hx hb hw inN tyN tyN_ok nmN hown hK hP hD hS 0 rfl rfl 7 (by decide) f34 (fun _ h9 => h9) rfl (tyN_ok 7 (by decide)) rfl rfl (Nat.le_of_ble_eq_true rfl) dN_load_2 (fun H locs hP hD hS => ?_)
  have hP : va_P D vwCl [(h0, .inr (1, FN (tk_up c 7 0)))] H := hP
  have hD : va_D A [(h0, .inr (1, FN (tk_up c 7 0)))] := hD
  refine lv_aload_n hx hb dN_load_5 rfl (lv_at hl 0 rfl) ?_
  refine lv_iconst (v := 1) hx hb dN_load_6 (by decide) ?_
  refine va_put (D := D) (ci := 1) (v := .int 1) (ty := .boolean) (C := RN) (T := TN) (N := 14) hx hb hw inN tyN tyN_ok nmN hown hK hP hD hS 0 rfl rfl 6 (by decide) f31 (fun _ h9 => h9) rfl (tyN_ok 6 (by decide)) rfl rfl (Nat.le_of_ble_eq_true rfl) dN_load_7 (fun H locs hP hD hS => ?_)
  have hP : va_P D vwCl [(h0, .inr (1, FN (tk_up (tk_up c 7 0) 6 1)))] H := hP
  have hD : va_D A [(h0, .inr (1, FN (tk_up (tk_up c 7 0) 6 1)))] := hD
  refine lv_aload_n hx hb dN_load_10 rfl (lv_at hl 0 rfl) ?_
  refine va_get (D := D) (ci := 1) (v := .int (c 2)) (C := RN) (T := TN) (N := 14) hx hb hw inN hown hK hP 0 rfl rfl 2 (by decide) f15 (fun _ h9 => h9) rfl dN_load_11 ?_
  refine lv_iconst (v := 1) hx hb dN_load_14 (by decide) ?_
  refine lv_icmp_ne (tgt := 26) hx hb dN_load_15 (by decide) (fun (h1_ : ¬ (c 2 = 1)) => ?_) (fun (h1_ : c 2 = 1) => ?_)
  · refine lv_aload_n hx hb dN_load_26 rfl (lv_at hl 0 rfl) ?_
    refine tk_callA hD hS hA (va_runV (As := []) (rest := []) ⟨hx, hb, hml, hown, hw⟩ (kN_isPeriodic l D h0 (tk_up (tk_up c 7 0) 6 1) H.size) (cwV 0 hw (tk_gV tkW_good wM_N_73 wI_N_isPeriodic wS_N_isPeriodic wZ_N wC_N_isPeriodic) rfl rfl rfl (by decide +kernel) ⟨Nat.le_of_ble_eq_true rfl, Nat.le_of_ble_eq_true rfl⟩) (tk_preV (q0 := 0) hK hN hP hD [0] [] rfl rfl rfl rfl rfl) rfl rfl hl.1 rfl (lv_room (Nat.le_of_ble_eq_true rfl)) dN_load_27 ⟨Nat.zero_le _, Nat.zero_le _⟩) (fun H locs hP hD hS => ?_)
    refine W.eq (g2 := F0 m 30 ls [.int (tkN_isPeriodic_r (tk_up (tk_up c 7 0) 6 1))]) rfl ?_
    refine lv_if_eq (tgt := 38) hx hb dN_load_30 (by decide) (fun (h2_ : tkN_isPeriodic_r (tk_up (tk_up c 7 0) 6 1) = 0) => ?_) (fun (h2_ : ¬ (tkN_isPeriodic_r (tk_up (tk_up c 7 0) 6 1) = 0)) => ?_)
    · refine lv_aload_n hx hb dN_load_38 rfl (lv_at hl 0 rfl) ?_
      refine lv_aload_n hx hb dN_load_39 rfl (lv_at hl 0 rfl) ?_
      refine va_get (D := D) (ci := 1) (v := .int (c 2)) (C := RN) (T := TN) (N := 14) hx hb hw inN hown hK hP 0 rfl rfl 2 (by decide) f15 (fun _ h9 => h9) rfl dN_load_40 ?_
      refine lv_iconst (v := 3) hx hb dN_load_43 (by decide) ?_
      refine lv_icmp_ne (tgt := 56) hx hb dN_load_44 (by decide) (fun (h3_ : ¬ (c 2 = 3)) => ?_) (fun (h3_ : c 2 = 3) => ?_)
      · refine lv_aload_n hx hb dN_load_56 rfl (lv_at hl 0 rfl) ?_
        refine va_get (D := D) (ci := 1) (v := .int (c 4)) (C := RN) (T := TN) (N := 14) hx hb hw inN hown hK hP 0 rfl rfl 4 (by decide) f28 (fun _ h9 => h9) rfl dN_load_57 ?_
        refine tk_callA hD hS hA (va_runV (As := [.int (c 4)]) (rest := []) ⟨hx, hb, hml, hown, hw⟩ (kN_setCount l D h0 (tk_up (tk_up c 7 0) 6 1) (c 4) H.size) (cwV 1 hw (tk_gV tkW_good wM_N_93 wI_N_setCount wS_N_setCount wZ_N wC_N_setCount) rfl rfl rfl (by decide +kernel) ⟨Nat.le_of_ble_eq_true rfl, Nat.le_of_ble_eq_true rfl⟩) (tk_preV (q0 := 0) hK hN hP hD [0] [] rfl rfl rfl rfl rfl) rfl rfl hl.1 rfl (lv_room (Nat.le_of_ble_eq_true rfl)) dN_load_60 ⟨Nat.zero_le _, Nat.zero_le _⟩) (fun H locs hP hD hS => ?_)
        refine W.eq (g2 := F0 m 63 ls []) rfl ?_
        exact tk_vret hx hb hr hlk hP hD hS dN_load_63 (tk_ewN (by unfold tkN_load_s; rw [if_neg h1_, if_pos h2_, if_neg h3_]))
      · refine lv_iconst (v := 2) hx hb dN_load_47 (by decide) ?_
        refine lv_aload_n hx hb dN_load_48 rfl (lv_at hl 0 rfl) ?_
        refine tk_callA hD hS hA (va_runV (As := []) (rest := [.int 2, .ref h0]) ⟨hx, hb, hml, hown, hw⟩ (kN_partTicks l D h0 (tk_up (tk_up c 7 0) 6 1) H.size) (cwV 0 hw (tk_gV tkW_good wM_N_89 wI_N_partTicks wS_N_partTicks wZ_N wC_N_partTicks) rfl rfl rfl (by decide +kernel) ⟨Nat.le_of_ble_eq_true rfl, Nat.le_of_ble_eq_true rfl⟩) (tk_preV (q0 := 0) hK hN hP hD [0] [] rfl rfl rfl rfl rfl) rfl rfl hl.1 rfl (lv_room (Nat.le_of_ble_eq_true rfl)) dN_load_49 ⟨Nat.zero_le _, Nat.zero_le _⟩) (fun H locs hP hD hS => ?_)
        refine W.eq (g2 := F0 m 52 ls [.int (tkN_partTicks_r (tk_up (tk_up c 7 0) 6 1)), .int 2, .ref h0]) rfl ?_
        refine lv_imul hx hb dN_load_52 ?_
        refine lv_goto (tgt := 60) hx hb dN_load_53 (by decide) ?_
        refine tk_callA hD hS hA (va_runV (As := [.int (2 * (tkN_partTicks_r (tk_up (tk_up c 7 0) 6 1)))]) (rest := []) ⟨hx, hb, hml, hown, hw⟩ (kN_setCount l D h0 (tk_up (tk_up c 7 0) 6 1) (2 * (tkN_partTicks_r (tk_up (tk_up c 7 0) 6 1))) H.size) (cwV 1 hw (tk_gV tkW_good wM_N_93 wI_N_setCount wS_N_setCount wZ_N wC_N_setCount) rfl rfl rfl (by decide +kernel) ⟨Nat.le_of_ble_eq_true rfl, Nat.le_of_ble_eq_true rfl⟩) (tk_preV (q0 := 0) hK hN hP hD [0] [] rfl rfl rfl rfl rfl) rfl rfl hl.1 rfl (lv_room (Nat.le_of_ble_eq_true rfl)) dN_load_60 ⟨Nat.zero_le _, Nat.zero_le _⟩) (fun H locs hP hD hS => ?_)
        refine W.eq (g2 := F0 m 63 ls []) rfl ?_
        exact tk_vret hx hb hr hlk hP hD hS dN_load_63 (tk_ewN (by unfold tkN_load_s; rw [if_neg h1_, if_pos h2_, if_pos h3_]))
    · refine lv_aload_n hx hb dN_load_33 rfl (lv_at hl 0 rfl) ?_
      refine lv_iconst (v := 1) hx hb dN_load_34 (by decide) ?_
      refine va_put (D := D) (ci := 1) (v := .int 1) (ty := .boolean) (C := RN) (T := TN) (N := 14) hx hb hw inN tyN tyN_ok nmN hown hK hP hD hS 0 rfl rfl 1 (by decide) f46 (fun _ h9 => h9) rfl (tyN_ok 1 (by decide)) rfl rfl (Nat.le_of_ble_eq_true rfl) dN_load_35 (fun H locs hP hD hS => ?_)
      have hP : va_P D vwCl [(h0, .inr (1, FN (tk_up (tk_up (tk_up c 7 0) 6 1) 1 1)))] H := hP
      have hD : va_D A [(h0, .inr (1, FN (tk_up (tk_up (tk_up c 7 0) 6 1) 1 1)))] := hD
      refine lv_aload_n hx hb dN_load_38 rfl (lv_at hl 0 rfl) ?_
      refine lv_aload_n hx hb dN_load_39 rfl (lv_at hl 0 rfl) ?_
      refine va_get (D := D) (ci := 1) (v := .int (c 2)) (C := RN) (T := TN) (N := 14) hx hb hw inN hown hK hP 0 rfl rfl 2 (by decide) f15 (fun _ h9 => h9) rfl dN_load_40 ?_
      refine lv_iconst (v := 3) hx hb dN_load_43 (by decide) ?_
      refine lv_icmp_ne (tgt := 56) hx hb dN_load_44 (by decide) (fun (h4_ : ¬ (c 2 = 3)) => ?_) (fun (h4_ : c 2 = 3) => ?_)
      · refine lv_aload_n hx hb dN_load_56 rfl (lv_at hl 0 rfl) ?_
        refine va_get (D := D) (ci := 1) (v := .int (c 4)) (C := RN) (T := TN) (N := 14) hx hb hw inN hown hK hP 0 rfl rfl 4 (by decide) f28 (fun _ h9 => h9) rfl dN_load_57 ?_
        refine tk_callA hD hS hA (va_runV (As := [.int (c 4)]) (rest := []) ⟨hx, hb, hml, hown, hw⟩ (kN_setCount l D h0 (tk_up (tk_up (tk_up c 7 0) 6 1) 1 1) (c 4) H.size) (cwV 1 hw (tk_gV tkW_good wM_N_93 wI_N_setCount wS_N_setCount wZ_N wC_N_setCount) rfl rfl rfl (by decide +kernel) ⟨Nat.le_of_ble_eq_true rfl, Nat.le_of_ble_eq_true rfl⟩) (tk_preV (q0 := 0) hK hN hP hD [0] [] rfl rfl rfl rfl rfl) rfl rfl hl.1 rfl (lv_room (Nat.le_of_ble_eq_true rfl)) dN_load_60 ⟨Nat.zero_le _, Nat.zero_le _⟩) (fun H locs hP hD hS => ?_)
        refine W.eq (g2 := F0 m 63 ls []) rfl ?_
        exact tk_vret hx hb hr hlk hP hD hS dN_load_63 (tk_ewN (by unfold tkN_load_s; rw [if_neg h1_, if_neg h2_, if_neg h4_]))
      · refine lv_iconst (v := 2) hx hb dN_load_47 (by decide) ?_
        refine lv_aload_n hx hb dN_load_48 rfl (lv_at hl 0 rfl) ?_
        refine tk_callA hD hS hA (va_runV (As := []) (rest := [.int 2, .ref h0]) ⟨hx, hb, hml, hown, hw⟩ (kN_partTicks l D h0 (tk_up (tk_up (tk_up c 7 0) 6 1) 1 1) H.size) (cwV 0 hw (tk_gV tkW_good wM_N_89 wI_N_partTicks wS_N_partTicks wZ_N wC_N_partTicks) rfl rfl rfl (by decide +kernel) ⟨Nat.le_of_ble_eq_true rfl, Nat.le_of_ble_eq_true rfl⟩) (tk_preV (q0 := 0) hK hN hP hD [0] [] rfl rfl rfl rfl rfl) rfl rfl hl.1 rfl (lv_room (Nat.le_of_ble_eq_true rfl)) dN_load_49 ⟨Nat.zero_le _, Nat.zero_le _⟩) (fun H locs hP hD hS => ?_)
        refine W.eq (g2 := F0 m 52 ls [.int (tkN_partTicks_r (tk_up (tk_up (tk_up c 7 0) 6 1) 1 1)), .int 2, .ref h0]) rfl ?_
        refine lv_imul hx hb dN_load_52 ?_
        refine lv_goto (tgt := 60) hx hb dN_load_53 (by decide) ?_
        refine tk_callA hD hS hA (va_runV (As := [.int (2 * (tkN_partTicks_r (tk_up (tk_up (tk_up c 7 0) 6 1) 1 1)))]) (rest := []) ⟨hx, hb, hml, hown, hw⟩ (kN_setCount l D h0 (tk_up (tk_up (tk_up c 7 0) 6 1) 1 1) (2 * (tkN_partTicks_r (tk_up (tk_up (tk_up c 7 0) 6 1) 1 1))) H.size) (cwV 1 hw (tk_gV tkW_good wM_N_93 wI_N_setCount wS_N_setCount wZ_N wC_N_setCount) rfl rfl rfl (by decide +kernel) ⟨Nat.le_of_ble_eq_true rfl, Nat.le_of_ble_eq_true rfl⟩) (tk_preV (q0 := 0) hK hN hP hD [0] [] rfl rfl rfl rfl rfl) rfl rfl hl.1 rfl (lv_room (Nat.le_of_ble_eq_true rfl)) dN_load_60 ⟨Nat.zero_le _, Nat.zero_le _⟩) (fun H locs hP hD hS => ?_)
        refine W.eq (g2 := F0 m 63 ls []) rfl ?_
        exact tk_vret hx hb hr hlk hP hD hS dN_load_63 (tk_ewN (by unfold tkN_load_s; rw [if_neg h1_, if_neg h2_, if_pos h4_]))
  · refine lv_aload_n hx hb dN_load_18 rfl (lv_at hl 0 rfl) ?_
    refine lv_iconst (v := 0) hx hb dN_load_19 (by decide) ?_
    refine va_put (D := D) (ci := 1) (v := .int 0) (ty := .boolean) (C := RN) (T := TN) (N := 14) hx hb hw inN tyN tyN_ok nmN hown hK hP hD hS 0 rfl rfl 1 (by decide) f46 (fun _ h9 => h9) rfl (tyN_ok 1 (by decide)) rfl rfl (Nat.le_of_ble_eq_true rfl) dN_load_20 (fun H locs hP hD hS => ?_)
    have hP : va_P D vwCl [(h0, .inr (1, FN (tk_up (tk_up (tk_up c 7 0) 6 1) 1 0)))] H := hP
    have hD : va_D A [(h0, .inr (1, FN (tk_up (tk_up (tk_up c 7 0) 6 1) 1 0)))] := hD
    refine lv_goto (tgt := 38) hx hb dN_load_23 (by decide) ?_
    refine lv_aload_n hx hb dN_load_38 rfl (lv_at hl 0 rfl) ?_
    refine lv_aload_n hx hb dN_load_39 rfl (lv_at hl 0 rfl) ?_
    refine va_get (D := D) (ci := 1) (v := .int (c 2)) (C := RN) (T := TN) (N := 14) hx hb hw inN hown hK hP 0 rfl rfl 2 (by decide) f15 (fun _ h9 => h9) rfl dN_load_40 ?_
    refine lv_iconst (v := 3) hx hb dN_load_43 (by decide) ?_
    refine lv_icmp_ne (tgt := 56) hx hb dN_load_44 (by decide) (fun _ => ?_) (fun h => absurd (h.symm.trans h1_) (by decide))
    refine lv_aload_n hx hb dN_load_56 rfl (lv_at hl 0 rfl) ?_
    refine va_get (D := D) (ci := 1) (v := .int (c 4)) (C := RN) (T := TN) (N := 14) hx hb hw inN hown hK hP 0 rfl rfl 4 (by decide) f28 (fun _ h9 => h9) rfl dN_load_57 ?_
    refine tk_callA hD hS hA (va_runV (As := [.int (c 4)]) (rest := []) ⟨hx, hb, hml, hown, hw⟩ (kN_setCount l D h0 (tk_up (tk_up (tk_up c 7 0) 6 1) 1 0) (c 4) H.size) (cwV 1 hw (tk_gV tkW_good wM_N_93 wI_N_setCount wS_N_setCount wZ_N wC_N_setCount) rfl rfl rfl (by decide +kernel) ⟨Nat.le_of_ble_eq_true rfl, Nat.le_of_ble_eq_true rfl⟩) (tk_preV (q0 := 0) hK hN hP hD [0] [] rfl rfl rfl rfl rfl) rfl rfl hl.1 rfl (lv_room (Nat.le_of_ble_eq_true rfl)) dN_load_60 ⟨Nat.zero_le _, Nat.zero_le _⟩) (fun H locs hP hD hS => ?_)
    refine W.eq (g2 := F0 m 63 ls []) rfl ?_
    exact tk_vret hx hb hr hlk hP hD hS dN_load_63 (tk_ewN (by unfold tkN_load_s; rw [if_pos h1_]))
def tkN_gateHoldsBack_r (c : Nat → Int32) : Int32 :=
  if c 2 = 1 then 0
  else if c 2 = 5 then 0
    else 1
set_option maxHeartbeats 1000000 in
set_option maxRecDepth 100000 in
theorem kN_gateHoldsBack (l : Launch) (D : va_G) (h0 : Nat) (c : Nat → Int32) : tk_M l yN_gateHoldsBack wsN_gateHoldsBack { frames := 0, cells := 0, slots := 0, locals := 0 } D [] [.ref h0] [(h0, .inr (1, FN c))] [(h0, .inr (1, FN c))] (some (.int (tkN_gateHoldsBack_r c))) := by
  refine tk_M.of (cc := cN_gateHoldsBack) (maxL := 1) (ret := (some .boolean)) (by decide) rfl (Nat.le_of_ble_eq_true rfl) ?_
  intro p e s m below meth co A H locs ls hB hK hN hA hP hD hS hl
  obtain ⟨hx, hb, hr, hml, hown, hlk, hnm, hts⟩ := hB
  have hown : s.vm.findClass RN = some m.cls := hown
  have hl : lv_has ls 1 [(0, .ref h0)] := hl
  have hw : ∀ w ∈ tkW, w.before _ s = true := fun w h => hts w (List.mem_cons_of_mem _ h)
  have f15 := hw _ wF_N_15
  refine lv_aload_n hx hb dN_gateHoldsBack_0 rfl (lv_at hl 0 rfl) ?_
  refine va_get (D := D) (ci := 1) (v := .int (c 2)) (C := RN) (T := TN) (N := 14) hx hb hw inN hown hK hP 0 rfl rfl 2 (by decide) f15 (fun _ h9 => h9) rfl dN_gateHoldsBack_1 ?_
  refine lv_iconst (v := 1) hx hb dN_gateHoldsBack_4 (by decide) ?_
  refine lv_icmp_eq (tgt := 20) hx hb dN_gateHoldsBack_5 (by decide) (fun (h1_ : c 2 = 1) => ?_) (fun (h1_ : ¬ (c 2 = 1)) => ?_)
  · refine lv_iconst (v := 0) hx hb dN_gateHoldsBack_20 (by decide) ?_
    exact tk_zret hx hb hr hlk hP hD hS dN_gateHoldsBack_21 rfl (by unfold tkN_gateHoldsBack_r; rw [if_pos h1_]) rfl
  · refine lv_aload_n hx hb dN_gateHoldsBack_8 rfl (lv_at hl 0 rfl) ?_
    refine va_get (D := D) (ci := 1) (v := .int (c 2)) (C := RN) (T := TN) (N := 14) hx hb hw inN hown hK hP 0 rfl rfl 2 (by decide) f15 (fun _ h9 => h9) rfl dN_gateHoldsBack_9 ?_
    refine lv_iconst (v := 5) hx hb dN_gateHoldsBack_12 (by decide) ?_
    refine lv_icmp_eq (tgt := 20) hx hb dN_gateHoldsBack_13 (by decide) (fun (h2_ : c 2 = 5) => ?_) (fun (h2_ : ¬ (c 2 = 5)) => ?_)
    · refine lv_iconst (v := 0) hx hb dN_gateHoldsBack_20 (by decide) ?_
      exact tk_zret hx hb hr hlk hP hD hS dN_gateHoldsBack_21 rfl (by unfold tkN_gateHoldsBack_r; rw [if_neg h1_, if_pos h2_]) rfl
    · refine lv_iconst (v := 1) hx hb dN_gateHoldsBack_16 (by decide) ?_
      refine lv_goto (tgt := 21) hx hb dN_gateHoldsBack_17 (by decide) ?_
      exact tk_zret hx hb hr hlk hP hD hS dN_gateHoldsBack_21 rfl (by unfold tkN_gateHoldsBack_r; rw [if_neg h1_, if_neg h2_]) rfl
def tkN_lessen_s (c : Nat → Int32) (x0 : Int32) : Nat → Int32 :=
  tk_up c 5 (((c 5) - x0) &&& 65535)
set_option maxHeartbeats 1000000 in
set_option maxRecDepth 100000 in
theorem kN_lessen (l : Launch) (D : va_G) (h0 : Nat) (c : Nat → Int32) (x0 : Int32) : tk_M l yN_lessen wsN_lessen { frames := 0, cells := 0, slots := 0, locals := 0 } D [] [.ref h0, .int x0] [(h0, .inr (1, FN c))] [(h0, .inr (1, FN (tkN_lessen_s c x0)))] none := by
  refine tk_M.of (cc := cN_lessen) (maxL := 2) (ret := none) (by decide) rfl (Nat.le_of_ble_eq_true rfl) ?_
  intro p e s m below meth co A H locs ls hB hK hN hA hP hD hS hl
  obtain ⟨hx, hb, hr, hml, hown, hlk, hnm, hts⟩ := hB
  have hown : s.vm.findClass RN = some m.cls := hown
  have hl : lv_has ls 2 [(0, .ref h0), (1, .int x0)] := hl
  have hw : ∀ w ∈ tkW, w.before _ s = true := fun w h => hts w (List.mem_cons_of_mem _ h)
  have f53 := hw _ wF_N_53
  refine lv_aload_n hx hb dN_lessen_0 rfl (lv_at hl 0 rfl) ?_
  refine lv_aload_n hx hb dN_lessen_1 rfl (lv_at hl 0 rfl) ?_
  refine va_get (D := D) (ci := 1) (v := .int (c 5)) (C := RN) (T := TN) (N := 14) hx hb hw inN hown hK hP 0 rfl rfl 5 (by decide) f53 (fun _ h9 => h9) rfl dN_lessen_2 ?_
  refine lv_iload_n hx hb dN_lessen_5 rfl (lv_at hl 1 rfl) ?_
  refine lv_isub hx hb dN_lessen_6 ?_
  refine lv_ldc (v := 65535) hx hb hown (hw _ wK_N_96) dN_lessen_7 ?_
  refine lv_iand hx hb dN_lessen_9 ?_
  refine va_put (D := D) (ci := 1) (v := .int (((c 5) - x0) &&& 65535)) (ty := .int) (C := RN) (T := TN) (N := 14) hx hb hw inN tyN tyN_ok nmN hown hK hP hD hS 0 rfl rfl 5 (by decide) f53 (fun _ h9 => h9) rfl (tyN_ok 5 (by decide)) rfl rfl (Nat.le_of_ble_eq_true rfl) dN_lessen_10 (fun H locs hP hD hS => ?_)
  have hP : va_P D vwCl [(h0, .inr (1, FN (tk_up c 5 (((c 5) - x0) &&& 65535))))] H := hP
  have hD : va_D A [(h0, .inr (1, FN (tk_up c 5 (((c 5) - x0) &&& 65535))))] := hD
  exact tk_vret hx hb hr hlk hP hD hS dN_lessen_13 (tk_ewN rfl)
def tkN_stepRate_s (c : Nat → Int32) : Nat → Int32 :=
  if c 5 = 1 then (if (tkN_setCount_s c (c 4)) 5 = 1 then tk_up (tkN_setCount_s c (c 4)) 1 0
    else tk_up (tkN_setCount_s c (c 4)) 1 1)
  else if (tkN_lessen_s c 1) 5 = 1 then tk_up (tkN_lessen_s c 1) 1 0
    else tkN_lessen_s c 1
set_option maxHeartbeats 1000000 in
set_option maxRecDepth 100000 in
theorem kN_stepRate (l : Launch) (D : va_G) (h0 : Nat) (c : Nat → Int32) : tk_M l yN_stepRate wsN_stepRate { frames := 1, cells := 0, slots := 0, locals := 21 } D [] [.ref h0] [(h0, .inr (1, FN c))] [(h0, .inr (1, FN (tkN_stepRate_s c)))] none := by
  refine tk_M.of (cc := cN_stepRate) (maxL := 1) (ret := none) (by decide) rfl (Nat.le_of_ble_eq_true rfl) ?_
  intro p e s m below meth co A H locs ls hB hK hN hA hP hD hS hl
  obtain ⟨hx, hb, hr, hml, hown, hlk, hnm, hts⟩ := hB
  have hown : s.vm.findClass RN = some m.cls := hown
  have hl : lv_has ls 1 [(0, .ref h0)] := hl
  have hw : ∀ w ∈ tkW, w.before _ s = true := fun w h => hts w (List.mem_cons_of_mem _ h)
  have f53 := hw _ wF_N_53
  have f46 := hw _ wF_N_46
  have f28 := hw _ wF_N_28
  refine lv_aload_n hx hb dN_stepRate_0 rfl (lv_at hl 0 rfl) ?_
  refine va_get (D := D) (ci := 1) (v := .int (c 5)) (C := RN) (T := TN) (N := 14) hx hb hw inN hown hK hP 0 rfl rfl 5 (by decide) f53 (fun _ h9 => h9) rfl dN_stepRate_1 ?_
  refine lv_iconst (v := 1) hx hb dN_stepRate_4 (by decide) ?_
  refine lv_icmp_ne (tgt := 24) hx hb dN_stepRate_5 (by decide) (fun (h1_ : ¬ (c 5 = 1)) => ?_) (fun (h1_ : c 5 = 1) => ?_)
  · refine lv_aload_n hx hb dN_stepRate_24 rfl (lv_at hl 0 rfl) ?_
    refine lv_iconst (v := 1) hx hb dN_stepRate_25 (by decide) ?_
    refine tk_callA hD hS hA (va_runV (As := [.int 1]) (rest := []) ⟨hx, hb, hml, hown, hw⟩ (kN_lessen l D h0 c 1 H.size) (cwV 1 hw (tk_gV tkW_good wM_N_109 wI_N_lessen wS_N_lessen wZ_N wC_N_lessen) rfl rfl rfl (by decide +kernel) ⟨Nat.le_of_ble_eq_true rfl, Nat.le_of_ble_eq_true rfl⟩) (tk_preV (q0 := 0) hK hN hP hD [0] [] rfl rfl rfl rfl rfl) rfl rfl hl.1 rfl (lv_room (Nat.le_of_ble_eq_true rfl)) dN_stepRate_26 ⟨Nat.zero_le _, Nat.zero_le _⟩) (fun H locs hP hD hS => ?_)
    refine W.eq (g2 := F0 m 29 ls []) rfl ?_
    refine lv_aload_n hx hb dN_stepRate_29 rfl (lv_at hl 0 rfl) ?_
    refine va_get (D := D) (ci := 1) (v := .int ((tkN_lessen_s c 1) 5)) (C := RN) (T := TN) (N := 14) hx hb hw inN hown hK hP 0 rfl rfl 5 (by decide) f53 (fun _ h9 => h9) rfl dN_stepRate_30 ?_
    refine lv_iconst (v := 1) hx hb dN_stepRate_33 (by decide) ?_
    refine lv_icmp_ne (tgt := 42) hx hb dN_stepRate_34 (by decide) (fun (h2_ : ¬ ((tkN_lessen_s c 1) 5 = 1)) => ?_) (fun (h2_ : (tkN_lessen_s c 1) 5 = 1) => ?_)
    · exact tk_vret hx hb hr hlk hP hD hS dN_stepRate_42 (tk_ewN (by unfold tkN_stepRate_s; rw [if_neg h1_, if_neg h2_]))
    · refine lv_aload_n hx hb dN_stepRate_37 rfl (lv_at hl 0 rfl) ?_
      refine lv_iconst (v := 0) hx hb dN_stepRate_38 (by decide) ?_
      refine va_put (D := D) (ci := 1) (v := .int 0) (ty := .boolean) (C := RN) (T := TN) (N := 14) hx hb hw inN tyN tyN_ok nmN hown hK hP hD hS 0 rfl rfl 1 (by decide) f46 (fun _ h9 => h9) rfl (tyN_ok 1 (by decide)) rfl rfl (Nat.le_of_ble_eq_true rfl) dN_stepRate_39 (fun H locs hP hD hS => ?_)
      have hP : va_P D vwCl [(h0, .inr (1, FN (tk_up (tkN_lessen_s c 1) 1 0)))] H := hP
      have hD : va_D A [(h0, .inr (1, FN (tk_up (tkN_lessen_s c 1) 1 0)))] := hD
      exact tk_vret hx hb hr hlk hP hD hS dN_stepRate_42 (tk_ewN (by unfold tkN_stepRate_s; rw [if_neg h1_, if_pos h2_]))
  · refine lv_aload_n hx hb dN_stepRate_8 rfl (lv_at hl 0 rfl) ?_
    refine lv_aload_n hx hb dN_stepRate_9 rfl (lv_at hl 0 rfl) ?_
    refine va_get (D := D) (ci := 1) (v := .int (c 4)) (C := RN) (T := TN) (N := 14) hx hb hw inN hown hK hP 0 rfl rfl 4 (by decide) f28 (fun _ h9 => h9) rfl dN_stepRate_10 ?_
    refine tk_callA hD hS hA (va_runV (As := [.int (c 4)]) (rest := []) ⟨hx, hb, hml, hown, hw⟩ (kN_setCount l D h0 c (c 4) H.size) (cwV 1 hw (tk_gV tkW_good wM_N_93 wI_N_setCount wS_N_setCount wZ_N wC_N_setCount) rfl rfl rfl (by decide +kernel) ⟨Nat.le_of_ble_eq_true rfl, Nat.le_of_ble_eq_true rfl⟩) (tk_preV (q0 := 0) hK hN hP hD [0] [] rfl rfl rfl rfl rfl) rfl rfl hl.1 rfl (lv_room (Nat.le_of_ble_eq_true rfl)) dN_stepRate_13 ⟨Nat.zero_le _, Nat.zero_le _⟩) (fun H locs hP hD hS => ?_)
    refine W.eq (g2 := F0 m 16 ls []) rfl ?_
    refine lv_aload_n hx hb dN_stepRate_16 rfl (lv_at hl 0 rfl) ?_
    refine lv_iconst (v := 1) hx hb dN_stepRate_17 (by decide) ?_
    refine va_put (D := D) (ci := 1) (v := .int 1) (ty := .boolean) (C := RN) (T := TN) (N := 14) hx hb hw inN tyN tyN_ok nmN hown hK hP hD hS 0 rfl rfl 1 (by decide) f46 (fun _ h9 => h9) rfl (tyN_ok 1 (by decide)) rfl rfl (Nat.le_of_ble_eq_true rfl) dN_stepRate_18 (fun H locs hP hD hS => ?_)
    have hP : va_P D vwCl [(h0, .inr (1, FN (tk_up (tkN_setCount_s c (c 4)) 1 1)))] H := hP
    have hD : va_D A [(h0, .inr (1, FN (tk_up (tkN_setCount_s c (c 4)) 1 1)))] := hD
    refine lv_goto (tgt := 29) hx hb dN_stepRate_21 (by decide) ?_
    refine lv_aload_n hx hb dN_stepRate_29 rfl (lv_at hl 0 rfl) ?_
    refine va_get (D := D) (ci := 1) (v := .int ((tkN_setCount_s c (c 4)) 5)) (C := RN) (T := TN) (N := 14) hx hb hw inN hown hK hP 0 rfl rfl 5 (by decide) f53 (fun _ h9 => h9) rfl dN_stepRate_30 ?_
    refine lv_iconst (v := 1) hx hb dN_stepRate_33 (by decide) ?_
    refine lv_icmp_ne (tgt := 42) hx hb dN_stepRate_34 (by decide) (fun (h3_ : ¬ ((tkN_setCount_s c (c 4)) 5 = 1)) => ?_) (fun (h3_ : (tkN_setCount_s c (c 4)) 5 = 1) => ?_)
    · exact tk_vret hx hb hr hlk hP hD hS dN_stepRate_42 (tk_ewN (by unfold tkN_stepRate_s; rw [if_pos h1_, if_neg h3_]))
    · refine lv_aload_n hx hb dN_stepRate_37 rfl (lv_at hl 0 rfl) ?_
      refine lv_iconst (v := 0) hx hb dN_stepRate_38 (by decide) ?_
      refine va_put (D := D) (ci := 1) (v := .int 0) (ty := .boolean) (C := RN) (T := TN) (N := 14) hx hb hw inN tyN tyN_ok nmN hown hK hP hD hS 0 rfl rfl 1 (by decide) f46 (fun _ h9 => h9) rfl (tyN_ok 1 (by decide)) rfl rfl (Nat.le_of_ble_eq_true rfl) dN_stepRate_39 (fun H locs hP hD hS => ?_)
      have hP : va_P D vwCl [(h0, .inr (1, FN (tk_up (tkN_setCount_s c (c 4)) 1 0)))] H := hP
      have hD : va_D A [(h0, .inr (1, FN (tk_up (tkN_setCount_s c (c 4)) 1 0)))] := hD
      exact tk_vret hx hb hr hlk hP hD hS dN_stepRate_42 (tk_ewN (by unfold tkN_stepRate_s; rw [if_pos h1_, if_pos h3_]))
def tkN_stepSquare_s (c : Nat → Int32) : Nat → Int32 :=
  if (tkN_lessen_s c 2) 5 = 0 then (if (tkN_lessen_s c 2) 1 = 0 then (if tkN_partTicks_r (tk_up (tkN_lessen_s c 2) 1 1) = 0 then tkN_setCount_s (tk_up (tkN_lessen_s c 2) 1 0) (2 * (tkN_partTicks_r (tk_up (tkN_lessen_s c 2) 1 0)))
      else tkN_setCount_s (tk_up (tkN_lessen_s c 2) 1 1) (2 * (tkN_partTicks_r (tk_up (tkN_lessen_s c 2) 1 1))))
    else if tkN_partTicks_r (tk_up (tkN_lessen_s c 2) 1 0) = 0 then tkN_setCount_s (tk_up (tkN_lessen_s c 2) 1 1) (2 * (tkN_partTicks_r (tk_up (tkN_lessen_s c 2) 1 1)))
      else tkN_setCount_s (tk_up (tkN_lessen_s c 2) 1 0) (2 * (tkN_partTicks_r (tk_up (tkN_lessen_s c 2) 1 0))))
  else tkN_lessen_s c 2
set_option maxHeartbeats 1000000 in
set_option maxRecDepth 100000 in
theorem kN_stepSquare (l : Launch) (D : va_G) (h0 : Nat) (c : Nat → Int32) : tk_M l yN_stepSquare wsN_stepSquare { frames := 1, cells := 0, slots := 0, locals := 21 } D [] [.ref h0] [(h0, .inr (1, FN c))] [(h0, .inr (1, FN (tkN_stepSquare_s c)))] none := by
  refine tk_M.of (cc := cN_stepSquare) (maxL := 1) (ret := none) (by decide) rfl (Nat.le_of_ble_eq_true rfl) ?_
  intro p e s m below meth co A H locs ls hB hK hN hA hP hD hS hl
  obtain ⟨hx, hb, hr, hml, hown, hlk, hnm, hts⟩ := hB
  have hown : s.vm.findClass RN = some m.cls := hown
  have hl : lv_has ls 1 [(0, .ref h0)] := hl
  have hw : ∀ w ∈ tkW, w.before _ s = true := fun w h => hts w (List.mem_cons_of_mem _ h)
  have f53 := hw _ wF_N_53
  have f46 := hw _ wF_N_46
  refine lv_aload_n hx hb dN_stepSquare_0 rfl (lv_at hl 0 rfl) ?_
  refine lv_iconst (v := 2) hx hb dN_stepSquare_1 (by decide) ?_
  refine tk_callA hD hS hA (va_runV (As := [.int 2]) (rest := []) ⟨hx, hb, hml, hown, hw⟩ (kN_lessen l D h0 c 2 H.size) (cwV 1 hw (tk_gV tkW_good wM_N_109 wI_N_lessen wS_N_lessen wZ_N wC_N_lessen) rfl rfl rfl (by decide +kernel) ⟨Nat.le_of_ble_eq_true rfl, Nat.le_of_ble_eq_true rfl⟩) (tk_preV (q0 := 0) hK hN hP hD [0] [] rfl rfl rfl rfl rfl) rfl rfl hl.1 rfl (lv_room (Nat.le_of_ble_eq_true rfl)) dN_stepSquare_2 ⟨Nat.zero_le _, Nat.zero_le _⟩) (fun H locs hP hD hS => ?_)
  refine W.eq (g2 := F0 m 5 ls []) rfl ?_
  refine lv_aload_n hx hb dN_stepSquare_5 rfl (lv_at hl 0 rfl) ?_
  refine va_get (D := D) (ci := 1) (v := .int ((tkN_lessen_s c 2) 5)) (C := RN) (T := TN) (N := 14) hx hb hw inN hown hK hP 0 rfl rfl 5 (by decide) f53 (fun _ h9 => h9) rfl dN_stepSquare_6 ?_
  refine lv_if_ne (tgt := 61) hx hb dN_stepSquare_9 (by decide) (fun (h1_ : ¬ ((tkN_lessen_s c 2) 5 = 0)) => ?_) (fun (h1_ : (tkN_lessen_s c 2) 5 = 0) => ?_)
  · exact tk_vret hx hb hr hlk hP hD hS dN_stepSquare_61 (tk_ewN (by unfold tkN_stepSquare_s; rw [if_neg h1_]))
  · refine lv_aload_n hx hb dN_stepSquare_12 rfl (lv_at hl 0 rfl) ?_
    refine lv_aload_n hx hb dN_stepSquare_13 rfl (lv_at hl 0 rfl) ?_
    refine va_get (D := D) (ci := 1) (v := .int ((tkN_lessen_s c 2) 1)) (C := RN) (T := TN) (N := 14) hx hb hw inN hown hK hP 0 rfl rfl 1 (by decide) f46 (fun _ h9 => h9) rfl dN_stepSquare_14 ?_
    refine lv_if_ne (tgt := 24) hx hb dN_stepSquare_17 (by decide) (fun (h2_ : ¬ ((tkN_lessen_s c 2) 1 = 0)) => ?_) (fun (h2_ : (tkN_lessen_s c 2) 1 = 0) => ?_)
    · refine lv_iconst (v := 0) hx hb dN_stepSquare_24 (by decide) ?_
      refine va_put (D := D) (ci := 1) (v := .int 0) (ty := .boolean) (C := RN) (T := TN) (N := 14) hx hb hw inN tyN tyN_ok nmN hown hK hP hD hS 0 rfl rfl 1 (by decide) f46 (fun _ h9 => h9) rfl (tyN_ok 1 (by decide)) rfl rfl (Nat.le_of_ble_eq_true rfl) dN_stepSquare_25 (fun H locs hP hD hS => ?_)
      have hP : va_P D vwCl [(h0, .inr (1, FN (tk_up (tkN_lessen_s c 2) 1 0)))] H := hP
      have hD : va_D A [(h0, .inr (1, FN (tk_up (tkN_lessen_s c 2) 1 0)))] := hD
      refine lv_aload_n hx hb dN_stepSquare_28 rfl (lv_at hl 0 rfl) ?_
      refine tk_callA hD hS hA (va_runV (As := []) (rest := []) ⟨hx, hb, hml, hown, hw⟩ (kN_partTicks l D h0 (tk_up (tkN_lessen_s c 2) 1 0) H.size) (cwV 0 hw (tk_gV tkW_good wM_N_89 wI_N_partTicks wS_N_partTicks wZ_N wC_N_partTicks) rfl rfl rfl (by decide +kernel) ⟨Nat.le_of_ble_eq_true rfl, Nat.le_of_ble_eq_true rfl⟩) (tk_preV (q0 := 0) hK hN hP hD [0] [] rfl rfl rfl rfl rfl) rfl rfl hl.1 rfl (lv_room (Nat.le_of_ble_eq_true rfl)) dN_stepSquare_29 ⟨Nat.zero_le _, Nat.zero_le _⟩) (fun H locs hP hD hS => ?_)
      refine W.eq (g2 := F0 m 32 ls [.int (tkN_partTicks_r (tk_up (tkN_lessen_s c 2) 1 0))]) rfl ?_
      refine lv_if_ne (tgt := 51) hx hb dN_stepSquare_32 (by decide) (fun (h3_ : ¬ (tkN_partTicks_r (tk_up (tkN_lessen_s c 2) 1 0) = 0)) => ?_) (fun (h3_ : tkN_partTicks_r (tk_up (tkN_lessen_s c 2) 1 0) = 0) => ?_)
      · refine lv_aload_n hx hb dN_stepSquare_51 rfl (lv_at hl 0 rfl) ?_
        refine lv_iconst (v := 2) hx hb dN_stepSquare_52 (by decide) ?_
        refine lv_aload_n hx hb dN_stepSquare_53 rfl (lv_at hl 0 rfl) ?_
        refine tk_callA hD hS hA (va_runV (As := []) (rest := [.int 2, .ref h0]) ⟨hx, hb, hml, hown, hw⟩ (kN_partTicks l D h0 (tk_up (tkN_lessen_s c 2) 1 0) H.size) (cwV 0 hw (tk_gV tkW_good wM_N_89 wI_N_partTicks wS_N_partTicks wZ_N wC_N_partTicks) rfl rfl rfl (by decide +kernel) ⟨Nat.le_of_ble_eq_true rfl, Nat.le_of_ble_eq_true rfl⟩) (tk_preV (q0 := 0) hK hN hP hD [0] [] rfl rfl rfl rfl rfl) rfl rfl hl.1 rfl (lv_room (Nat.le_of_ble_eq_true rfl)) dN_stepSquare_54 ⟨Nat.zero_le _, Nat.zero_le _⟩) (fun H locs hP hD hS => ?_)
        refine W.eq (g2 := F0 m 57 ls [.int (tkN_partTicks_r (tk_up (tkN_lessen_s c 2) 1 0)), .int 2, .ref h0]) rfl ?_
        refine lv_imul hx hb dN_stepSquare_57 ?_
        refine tk_callA hD hS hA (va_runV (As := [.int (2 * (tkN_partTicks_r (tk_up (tkN_lessen_s c 2) 1 0)))]) (rest := []) ⟨hx, hb, hml, hown, hw⟩ (kN_setCount l D h0 (tk_up (tkN_lessen_s c 2) 1 0) (2 * (tkN_partTicks_r (tk_up (tkN_lessen_s c 2) 1 0))) H.size) (cwV 1 hw (tk_gV tkW_good wM_N_93 wI_N_setCount wS_N_setCount wZ_N wC_N_setCount) rfl rfl rfl (by decide +kernel) ⟨Nat.le_of_ble_eq_true rfl, Nat.le_of_ble_eq_true rfl⟩) (tk_preV (q0 := 0) hK hN hP hD [0] [] rfl rfl rfl rfl rfl) rfl rfl hl.1 rfl (lv_room (Nat.le_of_ble_eq_true rfl)) dN_stepSquare_58 ⟨Nat.zero_le _, Nat.zero_le _⟩) (fun H locs hP hD hS => ?_)
        refine W.eq (g2 := F0 m 61 ls []) rfl ?_
        exact tk_vret hx hb hr hlk hP hD hS dN_stepSquare_61 (tk_ewN (by unfold tkN_stepSquare_s; rw [if_pos h1_, if_neg h2_, if_neg h3_]))
      · refine lv_aload_n hx hb dN_stepSquare_35 rfl (lv_at hl 0 rfl) ?_
        refine lv_aload_n hx hb dN_stepSquare_36 rfl (lv_at hl 0 rfl) ?_
        refine va_get (D := D) (ci := 1) (v := .int 0) (C := RN) (T := TN) (N := 14) hx hb hw inN hown hK hP 0 rfl rfl 1 (by decide) f46 (fun _ h9 => h9) rfl dN_stepSquare_37 ?_
        refine lv_if_ne (tgt := 47) hx hb dN_stepSquare_40 (by decide) (fun h => absurd (by decide) h) (fun _ => ?_)
        refine lv_iconst (v := 1) hx hb dN_stepSquare_43 (by decide) ?_
        refine lv_goto (tgt := 48) hx hb dN_stepSquare_44 (by decide) ?_
        refine va_put (D := D) (ci := 1) (v := .int 1) (ty := .boolean) (C := RN) (T := TN) (N := 14) hx hb hw inN tyN tyN_ok nmN hown hK hP hD hS 0 rfl rfl 1 (by decide) f46 (fun _ h9 => h9) rfl (tyN_ok 1 (by decide)) rfl rfl (Nat.le_of_ble_eq_true rfl) dN_stepSquare_48 (fun H locs hP hD hS => ?_)
        have hP : va_P D vwCl [(h0, .inr (1, FN (tk_up (tkN_lessen_s c 2) 1 1)))] H := hP
        have hD : va_D A [(h0, .inr (1, FN (tk_up (tkN_lessen_s c 2) 1 1)))] := hD
        refine lv_aload_n hx hb dN_stepSquare_51 rfl (lv_at hl 0 rfl) ?_
        refine lv_iconst (v := 2) hx hb dN_stepSquare_52 (by decide) ?_
        refine lv_aload_n hx hb dN_stepSquare_53 rfl (lv_at hl 0 rfl) ?_
        refine tk_callA hD hS hA (va_runV (As := []) (rest := [.int 2, .ref h0]) ⟨hx, hb, hml, hown, hw⟩ (kN_partTicks l D h0 (tk_up (tkN_lessen_s c 2) 1 1) H.size) (cwV 0 hw (tk_gV tkW_good wM_N_89 wI_N_partTicks wS_N_partTicks wZ_N wC_N_partTicks) rfl rfl rfl (by decide +kernel) ⟨Nat.le_of_ble_eq_true rfl, Nat.le_of_ble_eq_true rfl⟩) (tk_preV (q0 := 0) hK hN hP hD [0] [] rfl rfl rfl rfl rfl) rfl rfl hl.1 rfl (lv_room (Nat.le_of_ble_eq_true rfl)) dN_stepSquare_54 ⟨Nat.zero_le _, Nat.zero_le _⟩) (fun H locs hP hD hS => ?_)
        refine W.eq (g2 := F0 m 57 ls [.int (tkN_partTicks_r (tk_up (tkN_lessen_s c 2) 1 1)), .int 2, .ref h0]) rfl ?_
        refine lv_imul hx hb dN_stepSquare_57 ?_
        refine tk_callA hD hS hA (va_runV (As := [.int (2 * (tkN_partTicks_r (tk_up (tkN_lessen_s c 2) 1 1)))]) (rest := []) ⟨hx, hb, hml, hown, hw⟩ (kN_setCount l D h0 (tk_up (tkN_lessen_s c 2) 1 1) (2 * (tkN_partTicks_r (tk_up (tkN_lessen_s c 2) 1 1))) H.size) (cwV 1 hw (tk_gV tkW_good wM_N_93 wI_N_setCount wS_N_setCount wZ_N wC_N_setCount) rfl rfl rfl (by decide +kernel) ⟨Nat.le_of_ble_eq_true rfl, Nat.le_of_ble_eq_true rfl⟩) (tk_preV (q0 := 0) hK hN hP hD [0] [] rfl rfl rfl rfl rfl) rfl rfl hl.1 rfl (lv_room (Nat.le_of_ble_eq_true rfl)) dN_stepSquare_58 ⟨Nat.zero_le _, Nat.zero_le _⟩) (fun H locs hP hD hS => ?_)
        refine W.eq (g2 := F0 m 61 ls []) rfl ?_
        exact tk_vret hx hb hr hlk hP hD hS dN_stepSquare_61 (tk_ewN (by unfold tkN_stepSquare_s; rw [if_pos h1_, if_neg h2_, if_pos h3_]))
    · refine lv_iconst (v := 1) hx hb dN_stepSquare_20 (by decide) ?_
      refine lv_goto (tgt := 25) hx hb dN_stepSquare_21 (by decide) ?_
      refine va_put (D := D) (ci := 1) (v := .int 1) (ty := .boolean) (C := RN) (T := TN) (N := 14) hx hb hw inN tyN tyN_ok nmN hown hK hP hD hS 0 rfl rfl 1 (by decide) f46 (fun _ h9 => h9) rfl (tyN_ok 1 (by decide)) rfl rfl (Nat.le_of_ble_eq_true rfl) dN_stepSquare_25 (fun H locs hP hD hS => ?_)
      have hP : va_P D vwCl [(h0, .inr (1, FN (tk_up (tkN_lessen_s c 2) 1 1)))] H := hP
      have hD : va_D A [(h0, .inr (1, FN (tk_up (tkN_lessen_s c 2) 1 1)))] := hD
      refine lv_aload_n hx hb dN_stepSquare_28 rfl (lv_at hl 0 rfl) ?_
      refine tk_callA hD hS hA (va_runV (As := []) (rest := []) ⟨hx, hb, hml, hown, hw⟩ (kN_partTicks l D h0 (tk_up (tkN_lessen_s c 2) 1 1) H.size) (cwV 0 hw (tk_gV tkW_good wM_N_89 wI_N_partTicks wS_N_partTicks wZ_N wC_N_partTicks) rfl rfl rfl (by decide +kernel) ⟨Nat.le_of_ble_eq_true rfl, Nat.le_of_ble_eq_true rfl⟩) (tk_preV (q0 := 0) hK hN hP hD [0] [] rfl rfl rfl rfl rfl) rfl rfl hl.1 rfl (lv_room (Nat.le_of_ble_eq_true rfl)) dN_stepSquare_29 ⟨Nat.zero_le _, Nat.zero_le _⟩) (fun H locs hP hD hS => ?_)
      refine W.eq (g2 := F0 m 32 ls [.int (tkN_partTicks_r (tk_up (tkN_lessen_s c 2) 1 1))]) rfl ?_
      refine lv_if_ne (tgt := 51) hx hb dN_stepSquare_32 (by decide) (fun (h4_ : ¬ (tkN_partTicks_r (tk_up (tkN_lessen_s c 2) 1 1) = 0)) => ?_) (fun (h4_ : tkN_partTicks_r (tk_up (tkN_lessen_s c 2) 1 1) = 0) => ?_)
      · refine lv_aload_n hx hb dN_stepSquare_51 rfl (lv_at hl 0 rfl) ?_
        refine lv_iconst (v := 2) hx hb dN_stepSquare_52 (by decide) ?_
        refine lv_aload_n hx hb dN_stepSquare_53 rfl (lv_at hl 0 rfl) ?_
        refine tk_callA hD hS hA (va_runV (As := []) (rest := [.int 2, .ref h0]) ⟨hx, hb, hml, hown, hw⟩ (kN_partTicks l D h0 (tk_up (tkN_lessen_s c 2) 1 1) H.size) (cwV 0 hw (tk_gV tkW_good wM_N_89 wI_N_partTicks wS_N_partTicks wZ_N wC_N_partTicks) rfl rfl rfl (by decide +kernel) ⟨Nat.le_of_ble_eq_true rfl, Nat.le_of_ble_eq_true rfl⟩) (tk_preV (q0 := 0) hK hN hP hD [0] [] rfl rfl rfl rfl rfl) rfl rfl hl.1 rfl (lv_room (Nat.le_of_ble_eq_true rfl)) dN_stepSquare_54 ⟨Nat.zero_le _, Nat.zero_le _⟩) (fun H locs hP hD hS => ?_)
        refine W.eq (g2 := F0 m 57 ls [.int (tkN_partTicks_r (tk_up (tkN_lessen_s c 2) 1 1)), .int 2, .ref h0]) rfl ?_
        refine lv_imul hx hb dN_stepSquare_57 ?_
        refine tk_callA hD hS hA (va_runV (As := [.int (2 * (tkN_partTicks_r (tk_up (tkN_lessen_s c 2) 1 1)))]) (rest := []) ⟨hx, hb, hml, hown, hw⟩ (kN_setCount l D h0 (tk_up (tkN_lessen_s c 2) 1 1) (2 * (tkN_partTicks_r (tk_up (tkN_lessen_s c 2) 1 1))) H.size) (cwV 1 hw (tk_gV tkW_good wM_N_93 wI_N_setCount wS_N_setCount wZ_N wC_N_setCount) rfl rfl rfl (by decide +kernel) ⟨Nat.le_of_ble_eq_true rfl, Nat.le_of_ble_eq_true rfl⟩) (tk_preV (q0 := 0) hK hN hP hD [0] [] rfl rfl rfl rfl rfl) rfl rfl hl.1 rfl (lv_room (Nat.le_of_ble_eq_true rfl)) dN_stepSquare_58 ⟨Nat.zero_le _, Nat.zero_le _⟩) (fun H locs hP hD hS => ?_)
        refine W.eq (g2 := F0 m 61 ls []) rfl ?_
        exact tk_vret hx hb hr hlk hP hD hS dN_stepSquare_61 (tk_ewN (by unfold tkN_stepSquare_s; rw [if_pos h1_, if_pos h2_, if_neg h4_]))
      · refine lv_aload_n hx hb dN_stepSquare_35 rfl (lv_at hl 0 rfl) ?_
        refine lv_aload_n hx hb dN_stepSquare_36 rfl (lv_at hl 0 rfl) ?_
        refine va_get (D := D) (ci := 1) (v := .int 1) (C := RN) (T := TN) (N := 14) hx hb hw inN hown hK hP 0 rfl rfl 1 (by decide) f46 (fun _ h9 => h9) rfl dN_stepSquare_37 ?_
        refine lv_if_ne (tgt := 47) hx hb dN_stepSquare_40 (by decide) (fun _ => ?_) (fun h => absurd h (by decide))
        refine lv_iconst (v := 0) hx hb dN_stepSquare_47 (by decide) ?_
        refine va_put (D := D) (ci := 1) (v := .int 0) (ty := .boolean) (C := RN) (T := TN) (N := 14) hx hb hw inN tyN tyN_ok nmN hown hK hP hD hS 0 rfl rfl 1 (by decide) f46 (fun _ h9 => h9) rfl (tyN_ok 1 (by decide)) rfl rfl (Nat.le_of_ble_eq_true rfl) dN_stepSquare_48 (fun H locs hP hD hS => ?_)
        have hP : va_P D vwCl [(h0, .inr (1, FN (tk_up (tkN_lessen_s c 2) 1 0)))] H := hP
        have hD : va_D A [(h0, .inr (1, FN (tk_up (tkN_lessen_s c 2) 1 0)))] := hD
        refine lv_aload_n hx hb dN_stepSquare_51 rfl (lv_at hl 0 rfl) ?_
        refine lv_iconst (v := 2) hx hb dN_stepSquare_52 (by decide) ?_
        refine lv_aload_n hx hb dN_stepSquare_53 rfl (lv_at hl 0 rfl) ?_
        refine tk_callA hD hS hA (va_runV (As := []) (rest := [.int 2, .ref h0]) ⟨hx, hb, hml, hown, hw⟩ (kN_partTicks l D h0 (tk_up (tkN_lessen_s c 2) 1 0) H.size) (cwV 0 hw (tk_gV tkW_good wM_N_89 wI_N_partTicks wS_N_partTicks wZ_N wC_N_partTicks) rfl rfl rfl (by decide +kernel) ⟨Nat.le_of_ble_eq_true rfl, Nat.le_of_ble_eq_true rfl⟩) (tk_preV (q0 := 0) hK hN hP hD [0] [] rfl rfl rfl rfl rfl) rfl rfl hl.1 rfl (lv_room (Nat.le_of_ble_eq_true rfl)) dN_stepSquare_54 ⟨Nat.zero_le _, Nat.zero_le _⟩) (fun H locs hP hD hS => ?_)
        refine W.eq (g2 := F0 m 57 ls [.int (tkN_partTicks_r (tk_up (tkN_lessen_s c 2) 1 0)), .int 2, .ref h0]) rfl ?_
        refine lv_imul hx hb dN_stepSquare_57 ?_
        refine tk_callA hD hS hA (va_runV (As := [.int (2 * (tkN_partTicks_r (tk_up (tkN_lessen_s c 2) 1 0)))]) (rest := []) ⟨hx, hb, hml, hown, hw⟩ (kN_setCount l D h0 (tk_up (tkN_lessen_s c 2) 1 0) (2 * (tkN_partTicks_r (tk_up (tkN_lessen_s c 2) 1 0))) H.size) (cwV 1 hw (tk_gV tkW_good wM_N_93 wI_N_setCount wS_N_setCount wZ_N wC_N_setCount) rfl rfl rfl (by decide +kernel) ⟨Nat.le_of_ble_eq_true rfl, Nat.le_of_ble_eq_true rfl⟩) (tk_preV (q0 := 0) hK hN hP hD [0] [] rfl rfl rfl rfl rfl) rfl rfl hl.1 rfl (lv_room (Nat.le_of_ble_eq_true rfl)) dN_stepSquare_58 ⟨Nat.zero_le _, Nat.zero_le _⟩) (fun H locs hP hD hS => ?_)
        refine W.eq (g2 := F0 m 61 ls []) rfl ?_
        exact tk_vret hx hb hr hlk hP hD hS dN_stepSquare_61 (tk_ewN (by unfold tkN_stepSquare_s; rw [if_pos h1_, if_pos h2_, if_pos h4_]))
def tkN_stepStrobe_s (c : Nat → Int32) : Nat → Int32 :=
  if (tkN_lessen_s c 1) 5 = 0 then tk_up (tkN_lessen_s c 1) 1 0
  else tk_up (tkN_lessen_s c 1) 1 1
set_option maxHeartbeats 1000000 in
set_option maxRecDepth 100000 in
theorem kN_stepStrobe (l : Launch) (D : va_G) (h0 : Nat) (c : Nat → Int32) : tk_M l yN_stepStrobe wsN_stepStrobe { frames := 1, cells := 0, slots := 0, locals := 21 } D [] [.ref h0] [(h0, .inr (1, FN c))] [(h0, .inr (1, FN (tkN_stepStrobe_s c)))] none := by
  refine tk_M.of (cc := cN_stepStrobe) (maxL := 1) (ret := none) (by decide) rfl (Nat.le_of_ble_eq_true rfl) ?_
  intro p e s m below meth co A H locs ls hB hK hN hA hP hD hS hl
  obtain ⟨hx, hb, hr, hml, hown, hlk, hnm, hts⟩ := hB
  have hown : s.vm.findClass RN = some m.cls := hown
  have hl : lv_has ls 1 [(0, .ref h0)] := hl
  have hw : ∀ w ∈ tkW, w.before _ s = true := fun w h => hts w (List.mem_cons_of_mem _ h)
  have f53 := hw _ wF_N_53
  have f46 := hw _ wF_N_46
  refine lv_aload_n hx hb dN_stepStrobe_0 rfl (lv_at hl 0 rfl) ?_
  refine lv_iconst (v := 1) hx hb dN_stepStrobe_1 (by decide) ?_
  refine tk_callA hD hS hA (va_runV (As := [.int 1]) (rest := []) ⟨hx, hb, hml, hown, hw⟩ (kN_lessen l D h0 c 1 H.size) (cwV 1 hw (tk_gV tkW_good wM_N_109 wI_N_lessen wS_N_lessen wZ_N wC_N_lessen) rfl rfl rfl (by decide +kernel) ⟨Nat.le_of_ble_eq_true rfl, Nat.le_of_ble_eq_true rfl⟩) (tk_preV (q0 := 0) hK hN hP hD [0] [] rfl rfl rfl rfl rfl) rfl rfl hl.1 rfl (lv_room (Nat.le_of_ble_eq_true rfl)) dN_stepStrobe_2 ⟨Nat.zero_le _, Nat.zero_le _⟩) (fun H locs hP hD hS => ?_)
  refine W.eq (g2 := F0 m 5 ls []) rfl ?_
  refine lv_aload_n hx hb dN_stepStrobe_5 rfl (lv_at hl 0 rfl) ?_
  refine lv_aload_n hx hb dN_stepStrobe_6 rfl (lv_at hl 0 rfl) ?_
  refine va_get (D := D) (ci := 1) (v := .int ((tkN_lessen_s c 1) 5)) (C := RN) (T := TN) (N := 14) hx hb hw inN hown hK hP 0 rfl rfl 5 (by decide) f53 (fun _ h9 => h9) rfl dN_stepStrobe_7 ?_
  refine lv_if_eq (tgt := 17) hx hb dN_stepStrobe_10 (by decide) (fun (h1_ : (tkN_lessen_s c 1) 5 = 0) => ?_) (fun (h1_ : ¬ ((tkN_lessen_s c 1) 5 = 0)) => ?_)
  · refine lv_iconst (v := 0) hx hb dN_stepStrobe_17 (by decide) ?_
    refine va_put (D := D) (ci := 1) (v := .int 0) (ty := .boolean) (C := RN) (T := TN) (N := 14) hx hb hw inN tyN tyN_ok nmN hown hK hP hD hS 0 rfl rfl 1 (by decide) f46 (fun _ h9 => h9) rfl (tyN_ok 1 (by decide)) rfl rfl (Nat.le_of_ble_eq_true rfl) dN_stepStrobe_18 (fun H locs hP hD hS => ?_)
    have hP : va_P D vwCl [(h0, .inr (1, FN (tk_up (tkN_lessen_s c 1) 1 0)))] H := hP
    have hD : va_D A [(h0, .inr (1, FN (tk_up (tkN_lessen_s c 1) 1 0)))] := hD
    exact tk_vret hx hb hr hlk hP hD hS dN_stepStrobe_21 (tk_ewN (by unfold tkN_stepStrobe_s; rw [if_pos h1_]))
  · refine lv_iconst (v := 1) hx hb dN_stepStrobe_13 (by decide) ?_
    refine lv_goto (tgt := 18) hx hb dN_stepStrobe_14 (by decide) ?_
    refine va_put (D := D) (ci := 1) (v := .int 1) (ty := .boolean) (C := RN) (T := TN) (N := 14) hx hb hw inN tyN tyN_ok nmN hown hK hP hD hS 0 rfl rfl 1 (by decide) f46 (fun _ h9 => h9) rfl (tyN_ok 1 (by decide)) rfl rfl (Nat.le_of_ble_eq_true rfl) dN_stepStrobe_18 (fun H locs hP hD hS => ?_)
    have hP : va_P D vwCl [(h0, .inr (1, FN (tk_up (tkN_lessen_s c 1) 1 1)))] H := hP
    have hD : va_D A [(h0, .inr (1, FN (tk_up (tkN_lessen_s c 1) 1 1)))] := hD
    exact tk_vret hx hb hr hlk hP hD hS dN_stepStrobe_21 (tk_ewN (by unfold tkN_stepStrobe_s; rw [if_neg h1_]))
def tkN_stepOnce_s (c : Nat → Int32) : Nat → Int32 :=
  if (tkN_lessen_s c 1) 5 = 0 then tk_up (tkN_lessen_s c 1) 1 1
  else tkN_lessen_s c 1
set_option maxHeartbeats 1000000 in
set_option maxRecDepth 100000 in
theorem kN_stepOnce (l : Launch) (D : va_G) (h0 : Nat) (c : Nat → Int32) : tk_M l yN_stepOnce wsN_stepOnce { frames := 1, cells := 0, slots := 0, locals := 21 } D [] [.ref h0] [(h0, .inr (1, FN c))] [(h0, .inr (1, FN (tkN_stepOnce_s c)))] none := by
  refine tk_M.of (cc := cN_stepOnce) (maxL := 1) (ret := none) (by decide) rfl (Nat.le_of_ble_eq_true rfl) ?_
  intro p e s m below meth co A H locs ls hB hK hN hA hP hD hS hl
  obtain ⟨hx, hb, hr, hml, hown, hlk, hnm, hts⟩ := hB
  have hown : s.vm.findClass RN = some m.cls := hown
  have hl : lv_has ls 1 [(0, .ref h0)] := hl
  have hw : ∀ w ∈ tkW, w.before _ s = true := fun w h => hts w (List.mem_cons_of_mem _ h)
  have f53 := hw _ wF_N_53
  have f46 := hw _ wF_N_46
  refine lv_aload_n hx hb dN_stepOnce_0 rfl (lv_at hl 0 rfl) ?_
  refine lv_iconst (v := 1) hx hb dN_stepOnce_1 (by decide) ?_
  refine tk_callA hD hS hA (va_runV (As := [.int 1]) (rest := []) ⟨hx, hb, hml, hown, hw⟩ (kN_lessen l D h0 c 1 H.size) (cwV 1 hw (tk_gV tkW_good wM_N_109 wI_N_lessen wS_N_lessen wZ_N wC_N_lessen) rfl rfl rfl (by decide +kernel) ⟨Nat.le_of_ble_eq_true rfl, Nat.le_of_ble_eq_true rfl⟩) (tk_preV (q0 := 0) hK hN hP hD [0] [] rfl rfl rfl rfl rfl) rfl rfl hl.1 rfl (lv_room (Nat.le_of_ble_eq_true rfl)) dN_stepOnce_2 ⟨Nat.zero_le _, Nat.zero_le _⟩) (fun H locs hP hD hS => ?_)
  refine W.eq (g2 := F0 m 5 ls []) rfl ?_
  refine lv_aload_n hx hb dN_stepOnce_5 rfl (lv_at hl 0 rfl) ?_
  refine va_get (D := D) (ci := 1) (v := .int ((tkN_lessen_s c 1) 5)) (C := RN) (T := TN) (N := 14) hx hb hw inN hown hK hP 0 rfl rfl 5 (by decide) f53 (fun _ h9 => h9) rfl dN_stepOnce_6 ?_
  refine lv_if_ne (tgt := 17) hx hb dN_stepOnce_9 (by decide) (fun (h1_ : ¬ ((tkN_lessen_s c 1) 5 = 0)) => ?_) (fun (h1_ : (tkN_lessen_s c 1) 5 = 0) => ?_)
  · exact tk_vret hx hb hr hlk hP hD hS dN_stepOnce_17 (tk_ewN (by unfold tkN_stepOnce_s; rw [if_neg h1_]))
  · refine lv_aload_n hx hb dN_stepOnce_12 rfl (lv_at hl 0 rfl) ?_
    refine lv_iconst (v := 1) hx hb dN_stepOnce_13 (by decide) ?_
    refine va_put (D := D) (ci := 1) (v := .int 1) (ty := .boolean) (C := RN) (T := TN) (N := 14) hx hb hw inN tyN tyN_ok nmN hown hK hP hD hS 0 rfl rfl 1 (by decide) f46 (fun _ h9 => h9) rfl (tyN_ok 1 (by decide)) rfl rfl (Nat.le_of_ble_eq_true rfl) dN_stepOnce_14 (fun H locs hP hD hS => ?_)
    have hP : va_P D vwCl [(h0, .inr (1, FN (tk_up (tkN_lessen_s c 1) 1 1)))] H := hP
    have hD : va_D A [(h0, .inr (1, FN (tk_up (tkN_lessen_s c 1) 1 1)))] := hD
    exact tk_vret hx hb hr hlk hP hD hS dN_stepOnce_17 (tk_ewN (by unfold tkN_stepOnce_s; rw [if_pos h1_]))
def tkN_countDown_s (c : Nat → Int32) : Nat → Int32 :=
  if c 2 = 2 then tkN_stepRate_s c
  else if c 2 = 3 then tkN_stepSquare_s c
    else if c 2 = 4 then tkN_stepStrobe_s c
      else if c 2 = 5 then tkN_stepStrobe_s c
        else tkN_stepOnce_s c
set_option maxHeartbeats 1000000 in
set_option maxRecDepth 100000 in
theorem kN_countDown (l : Launch) (D : va_G) (h0 : Nat) (c : Nat → Int32) : tk_M l yN_countDown wsN_countDown { frames := 2, cells := 0, slots := 0, locals := 41 } D [] [.ref h0] [(h0, .inr (1, FN c))] [(h0, .inr (1, FN (tkN_countDown_s c)))] none := by
  refine tk_M.of (cc := cN_countDown) (maxL := 1) (ret := none) (by decide) rfl (Nat.le_of_ble_eq_true rfl) ?_
  intro p e s m below meth co A H locs ls hB hK hN hA hP hD hS hl
  obtain ⟨hx, hb, hr, hml, hown, hlk, hnm, hts⟩ := hB
  have hown : s.vm.findClass RN = some m.cls := hown
  have hl : lv_has ls 1 [(0, .ref h0)] := hl
  have hw : ∀ w ∈ tkW, w.before _ s = true := fun w h => hts w (List.mem_cons_of_mem _ h)
  have f15 := hw _ wF_N_15
  refine lv_aload_n hx hb dN_countDown_0 rfl (lv_at hl 0 rfl) ?_
  refine va_get (D := D) (ci := 1) (v := .int (c 2)) (C := RN) (T := TN) (N := 14) hx hb hw inN hown hK hP 0 rfl rfl 2 (by decide) f15 (fun _ h9 => h9) rfl dN_countDown_1 ?_
  by_cases h1_ : c 2 = 2
  · refine lv_tableIn (tgt := 36) hx hb dN_countDown_4 (by rw [h1_]; decide) (by rw [h1_]; decide) (by rw [h1_]; rfl) (by decide) ?_
    refine lv_aload_n hx hb dN_countDown_36 rfl (lv_at hl 0 rfl) ?_
    refine tk_callA hD hS hA (va_runV (As := []) (rest := []) ⟨hx, hb, hml, hown, hw⟩ (kN_stepRate l D h0 c H.size) (cwV 0 hw (tk_gV tkW_good wM_N_97 wI_N_stepRate wS_N_stepRate wZ_N wC_N_stepRate) rfl rfl rfl (by decide +kernel) ⟨Nat.le_of_ble_eq_true rfl, Nat.le_of_ble_eq_true rfl⟩) (tk_preV (q0 := 0) hK hN hP hD [0] [] rfl rfl rfl rfl rfl) rfl rfl hl.1 rfl (lv_room (Nat.le_of_ble_eq_true rfl)) dN_countDown_37 ⟨Nat.zero_le _, Nat.zero_le _⟩) (fun H locs hP hD hS => ?_)
    refine W.eq (g2 := F0 m 40 ls []) rfl ?_
    refine lv_goto (tgt := 61) hx hb dN_countDown_40 (by decide) ?_
    exact tk_vret hx hb hr hlk hP hD hS dN_countDown_61 (tk_ewN (by unfold tkN_countDown_s; rw [if_pos h1_]))
  by_cases h2_ : c 2 = 3
  · refine lv_tableIn (tgt := 43) hx hb dN_countDown_4 (by rw [h2_]; decide) (by rw [h2_]; decide) (by rw [h2_]; rfl) (by decide) ?_
    refine lv_aload_n hx hb dN_countDown_43 rfl (lv_at hl 0 rfl) ?_
    refine tk_callA hD hS hA (va_runV (As := []) (rest := []) ⟨hx, hb, hml, hown, hw⟩ (kN_stepSquare l D h0 c H.size) (cwV 0 hw (tk_gV tkW_good wM_N_100 wI_N_stepSquare wS_N_stepSquare wZ_N wC_N_stepSquare) rfl rfl rfl (by decide +kernel) ⟨Nat.le_of_ble_eq_true rfl, Nat.le_of_ble_eq_true rfl⟩) (tk_preV (q0 := 0) hK hN hP hD [0] [] rfl rfl rfl rfl rfl) rfl rfl hl.1 rfl (lv_room (Nat.le_of_ble_eq_true rfl)) dN_countDown_44 ⟨Nat.zero_le _, Nat.zero_le _⟩) (fun H locs hP hD hS => ?_)
    refine W.eq (g2 := F0 m 47 ls []) rfl ?_
    refine lv_goto (tgt := 61) hx hb dN_countDown_47 (by decide) ?_
    exact tk_vret hx hb hr hlk hP hD hS dN_countDown_61 (tk_ewN (by unfold tkN_countDown_s; rw [if_neg h1_, if_pos h2_]))
  by_cases h3_ : c 2 = 4
  · refine lv_tableIn (tgt := 50) hx hb dN_countDown_4 (by rw [h3_]; decide) (by rw [h3_]; decide) (by rw [h3_]; rfl) (by decide) ?_
    refine lv_aload_n hx hb dN_countDown_50 rfl (lv_at hl 0 rfl) ?_
    refine tk_callA hD hS hA (va_runV (As := []) (rest := []) ⟨hx, hb, hml, hown, hw⟩ (kN_stepStrobe l D h0 c H.size) (cwV 0 hw (tk_gV tkW_good wM_N_103 wI_N_stepStrobe wS_N_stepStrobe wZ_N wC_N_stepStrobe) rfl rfl rfl (by decide +kernel) ⟨Nat.le_of_ble_eq_true rfl, Nat.le_of_ble_eq_true rfl⟩) (tk_preV (q0 := 0) hK hN hP hD [0] [] rfl rfl rfl rfl rfl) rfl rfl hl.1 rfl (lv_room (Nat.le_of_ble_eq_true rfl)) dN_countDown_51 ⟨Nat.zero_le _, Nat.zero_le _⟩) (fun H locs hP hD hS => ?_)
    refine W.eq (g2 := F0 m 54 ls []) rfl ?_
    refine lv_goto (tgt := 61) hx hb dN_countDown_54 (by decide) ?_
    exact tk_vret hx hb hr hlk hP hD hS dN_countDown_61 (tk_ewN (by unfold tkN_countDown_s; rw [if_neg h1_, if_neg h2_, if_pos h3_]))
  by_cases h4_ : c 2 = 5
  · refine lv_tableIn (tgt := 50) hx hb dN_countDown_4 (by rw [h4_]; decide) (by rw [h4_]; decide) (by rw [h4_]; rfl) (by decide) ?_
    refine lv_aload_n hx hb dN_countDown_50 rfl (lv_at hl 0 rfl) ?_
    refine tk_callA hD hS hA (va_runV (As := []) (rest := []) ⟨hx, hb, hml, hown, hw⟩ (kN_stepStrobe l D h0 c H.size) (cwV 0 hw (tk_gV tkW_good wM_N_103 wI_N_stepStrobe wS_N_stepStrobe wZ_N wC_N_stepStrobe) rfl rfl rfl (by decide +kernel) ⟨Nat.le_of_ble_eq_true rfl, Nat.le_of_ble_eq_true rfl⟩) (tk_preV (q0 := 0) hK hN hP hD [0] [] rfl rfl rfl rfl rfl) rfl rfl hl.1 rfl (lv_room (Nat.le_of_ble_eq_true rfl)) dN_countDown_51 ⟨Nat.zero_le _, Nat.zero_le _⟩) (fun H locs hP hD hS => ?_)
    refine W.eq (g2 := F0 m 54 ls []) rfl ?_
    refine lv_goto (tgt := 61) hx hb dN_countDown_54 (by decide) ?_
    exact tk_vret hx hb hr hlk hP hD hS dN_countDown_61 (tk_ewN (by unfold tkN_countDown_s; rw [if_neg h1_, if_neg h2_, if_neg h3_, if_pos h4_]))
  have ho : (c 2).toInt < 2 ∨ 5 < (c 2).toInt := by
    refine tk_out (fun k h1 h2 => ?_)
    rcases (show k = 2 ∨ k = 3 ∨ k = 4 ∨ k = 5 by omega) with rfl | rfl | rfl | rfl
    · exact h1_
    · exact h2_
    · exact h3_
    · exact h4_
  refine lv_tableOut (tgt := 57) hx hb dN_countDown_4 ho (by decide) ?_
  refine lv_aload_n hx hb dN_countDown_57 rfl (lv_at hl 0 rfl) ?_
  refine tk_callA hD hS hA (va_runV (As := []) (rest := []) ⟨hx, hb, hml, hown, hw⟩ (kN_stepOnce l D h0 c H.size) (cwV 0 hw (tk_gV tkW_good wM_N_106 wI_N_stepOnce wS_N_stepOnce wZ_N wC_N_stepOnce) rfl rfl rfl (by decide +kernel) ⟨Nat.le_of_ble_eq_true rfl, Nat.le_of_ble_eq_true rfl⟩) (tk_preV (q0 := 0) hK hN hP hD [0] [] rfl rfl rfl rfl rfl) rfl rfl hl.1 rfl (lv_room (Nat.le_of_ble_eq_true rfl)) dN_countDown_58 ⟨Nat.zero_le _, Nat.zero_le _⟩) (fun H locs hP hD hS => ?_)
  refine W.eq (g2 := F0 m 61 ls []) rfl ?_
  exact tk_vret hx hb hr hlk hP hD hS dN_countDown_61 (tk_ewN (by unfold tkN_countDown_s; rw [if_neg h1_, if_neg h2_, if_neg h3_, if_neg h4_]))
def tkN_step_s (c : Nat → Int32) : Nat → Int32 :=
  if tkN_isEmpty_r c = 0 then (if tkN_standsBetweenBytes_r c = 0 then (if c 7 = 0 then (if c 6 = 0 then c
        else if c 0 = 0 then (if tkN_gateHoldsBack_r c = 0 then tkN_countDown_s c
            else c)
          else tkN_countDown_s c)
      else tkN_load_s c)
    else c)
  else c
set_option maxHeartbeats 1000000 in
set_option maxRecDepth 100000 in
theorem kN_step (l : Launch) (D : va_G) (h0 : Nat) (c : Nat → Int32) : tk_M l yN_step wsN_step { frames := 3, cells := 0, slots := 0, locals := 61 } D [] [.ref h0] [(h0, .inr (1, FN c))] [(h0, .inr (1, FN (tkN_step_s c)))] none := by
  refine tk_M.of (cc := cN_step) (maxL := 1) (ret := none) (by decide) rfl (Nat.le_of_ble_eq_true rfl) ?_
  intro p e s m below meth co A H locs ls hB hK hN hA hP hD hS hl
  obtain ⟨hx, hb, hr, hml, hown, hlk, hnm, hts⟩ := hB
  have hown : s.vm.findClass RN = some m.cls := hown
  have hl : lv_has ls 1 [(0, .ref h0)] := hl
  have hw : ∀ w ∈ tkW, w.before _ s = true := fun w h => hts w (List.mem_cons_of_mem _ h)
  have f34 := hw _ wF_N_34
  have f31 := hw _ wF_N_31
  have f9 := hw _ wF_N_9
  refine lv_aload_n hx hb dN_step_0 rfl (lv_at hl 0 rfl) ?_
  refine tk_callA hD hS hA (va_runV (As := []) (rest := []) ⟨hx, hb, hml, hown, hw⟩ (kN_isEmpty l D h0 c H.size) (cwV 0 hw (tk_gV tkW_good wM_N_67 wI_N_isEmpty wS_N_isEmpty wZ_N wC_N_isEmpty) rfl rfl rfl (by decide +kernel) ⟨Nat.le_of_ble_eq_true rfl, Nat.le_of_ble_eq_true rfl⟩) (tk_preV (q0 := 0) hK hN hP hD [0] [] rfl rfl rfl rfl rfl) rfl rfl hl.1 rfl (lv_room (Nat.le_of_ble_eq_true rfl)) dN_step_1 ⟨Nat.zero_le _, Nat.zero_le _⟩) (fun H locs hP hD hS => ?_)
  refine W.eq (g2 := F0 m 4 ls [.int (tkN_isEmpty_r c)]) rfl ?_
  refine lv_if_ne (tgt := 14) hx hb dN_step_4 (by decide) (fun (h1_ : ¬ (tkN_isEmpty_r c = 0)) => ?_) (fun (h1_ : tkN_isEmpty_r c = 0) => ?_)
  · exact tk_vret hx hb hr hlk hP hD hS dN_step_14 (tk_ewN (by unfold tkN_step_s; rw [if_neg h1_]))
  · refine lv_aload_n hx hb dN_step_7 rfl (lv_at hl 0 rfl) ?_
    refine tk_callA hD hS hA (va_runV (As := []) (rest := []) ⟨hx, hb, hml, hown, hw⟩ (kN_standsBetweenBytes l D h0 c H.size) (cwV 0 hw (tk_gV tkW_good wM_N_76 wI_N_standsBetweenBytes wS_N_standsBetweenBytes wZ_N wC_N_standsBetweenBytes) rfl rfl rfl (by decide +kernel) ⟨Nat.le_of_ble_eq_true rfl, Nat.le_of_ble_eq_true rfl⟩) (tk_preV (q0 := 0) hK hN hP hD [0] [] rfl rfl rfl rfl rfl) rfl rfl hl.1 rfl (lv_room (Nat.le_of_ble_eq_true rfl)) dN_step_8 ⟨Nat.zero_le _, Nat.zero_le _⟩) (fun H locs hP hD hS => ?_)
    refine W.eq (g2 := F0 m 11 ls [.int (tkN_standsBetweenBytes_r c)]) rfl ?_
    refine lv_if_eq (tgt := 15) hx hb dN_step_11 (by decide) (fun (h2_ : tkN_standsBetweenBytes_r c = 0) => ?_) (fun (h2_ : ¬ (tkN_standsBetweenBytes_r c = 0)) => ?_)
    · refine lv_aload_n hx hb dN_step_15 rfl (lv_at hl 0 rfl) ?_
      refine va_get (D := D) (ci := 1) (v := .int (c 7)) (C := RN) (T := TN) (N := 14) hx hb hw inN hown hK hP 0 rfl rfl 7 (by decide) f34 (fun _ h9 => h9) rfl dN_step_16 ?_
      refine lv_if_eq (tgt := 29) hx hb dN_step_19 (by decide) (fun (h3_ : c 7 = 0) => ?_) (fun (h3_ : ¬ (c 7 = 0)) => ?_)
      · refine lv_aload_n hx hb dN_step_29 rfl (lv_at hl 0 rfl) ?_
        refine va_get (D := D) (ci := 1) (v := .int (c 6)) (C := RN) (T := TN) (N := 14) hx hb hw inN hown hK hP 0 rfl rfl 6 (by decide) f31 (fun _ h9 => h9) rfl dN_step_30 ?_
        refine lv_if_eq (tgt := 54) hx hb dN_step_33 (by decide) (fun (h4_ : c 6 = 0) => ?_) (fun (h4_ : ¬ (c 6 = 0)) => ?_)
        · exact tk_vret hx hb hr hlk hP hD hS dN_step_54 (tk_ewN (by unfold tkN_step_s; rw [if_pos h1_, if_pos h2_, if_pos h3_, if_pos h4_]))
        · refine lv_aload_n hx hb dN_step_36 rfl (lv_at hl 0 rfl) ?_
          refine va_get (D := D) (ci := 1) (v := .int (c 0)) (C := RN) (T := TN) (N := 14) hx hb hw inN hown hK hP 0 rfl rfl 0 (by decide) f9 (fun _ h9 => h9) rfl dN_step_37 ?_
          refine lv_if_ne (tgt := 50) hx hb dN_step_40 (by decide) (fun (h5_ : ¬ (c 0 = 0)) => ?_) (fun (h5_ : c 0 = 0) => ?_)
          · refine lv_aload_n hx hb dN_step_50 rfl (lv_at hl 0 rfl) ?_
            refine tk_callA hD hS hA (va_runV (As := []) (rest := []) ⟨hx, hb, hml, hown, hw⟩ (kN_countDown l D h0 c H.size) (cwV 0 hw (tk_gV tkW_good wM_N_85 wI_N_countDown wS_N_countDown wZ_N wC_N_countDown) rfl rfl rfl (by decide +kernel) ⟨Nat.le_of_ble_eq_true rfl, Nat.le_of_ble_eq_true rfl⟩) (tk_preV (q0 := 0) hK hN hP hD [0] [] rfl rfl rfl rfl rfl) rfl rfl hl.1 rfl (lv_room (Nat.le_of_ble_eq_true rfl)) dN_step_51 ⟨Nat.zero_le _, Nat.zero_le _⟩) (fun H locs hP hD hS => ?_)
            refine W.eq (g2 := F0 m 54 ls []) rfl ?_
            exact tk_vret hx hb hr hlk hP hD hS dN_step_54 (tk_ewN (by unfold tkN_step_s; rw [if_pos h1_, if_pos h2_, if_pos h3_, if_neg h4_, if_neg h5_]))
          · refine lv_aload_n hx hb dN_step_43 rfl (lv_at hl 0 rfl) ?_
            refine tk_callA hD hS hA (va_runV (As := []) (rest := []) ⟨hx, hb, hml, hown, hw⟩ (kN_gateHoldsBack l D h0 c H.size) (cwV 0 hw (tk_gV tkW_good wM_N_82 wI_N_gateHoldsBack wS_N_gateHoldsBack wZ_N wC_N_gateHoldsBack) rfl rfl rfl (by decide +kernel) ⟨Nat.le_of_ble_eq_true rfl, Nat.le_of_ble_eq_true rfl⟩) (tk_preV (q0 := 0) hK hN hP hD [0] [] rfl rfl rfl rfl rfl) rfl rfl hl.1 rfl (lv_room (Nat.le_of_ble_eq_true rfl)) dN_step_44 ⟨Nat.zero_le _, Nat.zero_le _⟩) (fun H locs hP hD hS => ?_)
            refine W.eq (g2 := F0 m 47 ls [.int (tkN_gateHoldsBack_r c)]) rfl ?_
            refine lv_if_ne (tgt := 54) hx hb dN_step_47 (by decide) (fun (h6_ : ¬ (tkN_gateHoldsBack_r c = 0)) => ?_) (fun (h6_ : tkN_gateHoldsBack_r c = 0) => ?_)
            · exact tk_vret hx hb hr hlk hP hD hS dN_step_54 (tk_ewN (by unfold tkN_step_s; rw [if_pos h1_, if_pos h2_, if_pos h3_, if_neg h4_, if_pos h5_, if_neg h6_]))
            · refine lv_aload_n hx hb dN_step_50 rfl (lv_at hl 0 rfl) ?_
              refine tk_callA hD hS hA (va_runV (As := []) (rest := []) ⟨hx, hb, hml, hown, hw⟩ (kN_countDown l D h0 c H.size) (cwV 0 hw (tk_gV tkW_good wM_N_85 wI_N_countDown wS_N_countDown wZ_N wC_N_countDown) rfl rfl rfl (by decide +kernel) ⟨Nat.le_of_ble_eq_true rfl, Nat.le_of_ble_eq_true rfl⟩) (tk_preV (q0 := 0) hK hN hP hD [0] [] rfl rfl rfl rfl rfl) rfl rfl hl.1 rfl (lv_room (Nat.le_of_ble_eq_true rfl)) dN_step_51 ⟨Nat.zero_le _, Nat.zero_le _⟩) (fun H locs hP hD hS => ?_)
              refine W.eq (g2 := F0 m 54 ls []) rfl ?_
              exact tk_vret hx hb hr hlk hP hD hS dN_step_54 (tk_ewN (by unfold tkN_step_s; rw [if_pos h1_, if_pos h2_, if_pos h3_, if_neg h4_, if_pos h5_, if_pos h6_]))
      · refine lv_aload_n hx hb dN_step_22 rfl (lv_at hl 0 rfl) ?_
        refine tk_callA hD hS hA (va_runV (As := []) (rest := []) ⟨hx, hb, hml, hown, hw⟩ (kN_load l D h0 c H.size) (cwV 0 hw (tk_gV tkW_good wM_N_79 wI_N_load wS_N_load wZ_N wC_N_load) rfl rfl rfl (by decide +kernel) ⟨Nat.le_of_ble_eq_true rfl, Nat.le_of_ble_eq_true rfl⟩) (tk_preV (q0 := 0) hK hN hP hD [0] [] rfl rfl rfl rfl rfl) rfl rfl hl.1 rfl (lv_room (Nat.le_of_ble_eq_true rfl)) dN_step_23 ⟨Nat.zero_le _, Nat.zero_le _⟩) (fun H locs hP hD hS => ?_)
        refine W.eq (g2 := F0 m 26 ls []) rfl ?_
        refine lv_goto (tgt := 54) hx hb dN_step_26 (by decide) ?_
        exact tk_vret hx hb hr hlk hP hD hS dN_step_54 (tk_ewN (by unfold tkN_step_s; rw [if_pos h1_, if_pos h2_, if_neg h3_]))
    · exact tk_vret hx hb hr hlk hP hD hS dN_step_14 (tk_ewN (by unfold tkN_step_s; rw [if_pos h1_, if_neg h2_]))
def tkN_tell_r (c : Nat → Int32) (x0 : Int32) : Int32 :=
  if x0 = 0 then c 5
  else if x0 = 1 then tkT_asBit_r (c 1)
    else if x0 = 2 then tkT_asBit_r (c 0)
      else if x0 = 3 then c 2
        else if x0 = 4 then c 4
          else if x0 = 5 then tkT_asBit_r (c 6)
            else if x0 = 6 then tkT_asBit_r (c 7)
              else (-1)
set_option maxHeartbeats 1000000 in
set_option maxRecDepth 100000 in
theorem kN_tell (l : Launch) (D : va_G) (h0 : Nat) (c : Nat → Int32) (x0 : Int32) : tk_M l yN_tell wsN_tell { frames := 1, cells := 0, slots := 0, locals := 20 } D [] [.ref h0, .int x0] [(h0, .inr (1, FN c))] [(h0, .inr (1, FN c))] (some (.int (tkN_tell_r c x0))) := by
  refine tk_M.of (cc := cN_tell) (maxL := 2) (ret := (some .int)) (by decide) rfl (Nat.le_of_ble_eq_true rfl) ?_
  intro p e s m below meth co A H locs ls hB hK hN hA hP hD hS hl
  obtain ⟨hx, hb, hr, hml, hown, hlk, hnm, hts⟩ := hB
  have hown : s.vm.findClass RN = some m.cls := hown
  have hl : lv_has ls 2 [(0, .ref h0), (1, .int x0)] := hl
  have hw : ∀ w ∈ tkW, w.before _ s = true := fun w h => hts w (List.mem_cons_of_mem _ h)
  have f53 := hw _ wF_N_53
  have f46 := hw _ wF_N_46
  have f9 := hw _ wF_N_9
  have f15 := hw _ wF_N_15
  have f28 := hw _ wF_N_28
  have f31 := hw _ wF_N_31
  have f34 := hw _ wF_N_34
  refine lv_iload_n hx hb dN_tell_0 rfl (lv_at hl 1 rfl) ?_
  by_cases h1_ : x0 = 0
  · refine lv_tableIn (tgt := 44) hx hb dN_tell_1 (by rw [h1_]; decide) (by rw [h1_]; decide) (by rw [h1_]; rfl) (by decide) ?_
    refine lv_aload_n hx hb dN_tell_44 rfl (lv_at hl 0 rfl) ?_
    refine va_get (D := D) (ci := 1) (v := .int (c 5)) (C := RN) (T := TN) (N := 14) hx hb hw inN hown hK hP 0 rfl rfl 5 (by decide) f53 (fun _ h9 => h9) rfl dN_tell_45 ?_
    exact tk_iret hx hb hr hlk hP hD hS dN_tell_48 (by unfold tkN_tell_r; rw [if_pos h1_]) rfl
  by_cases h2_ : x0 = 1
  · refine lv_tableIn (tgt := 49) hx hb dN_tell_1 (by rw [h2_]; decide) (by rw [h2_]; decide) (by rw [h2_]; rfl) (by decide) ?_
    refine lv_aload_n hx hb dN_tell_49 rfl (lv_at hl 0 rfl) ?_
    refine va_get (D := D) (ci := 1) (v := .int (c 1)) (C := RN) (T := TN) (N := 14) hx hb hw inN hown hK hP 0 rfl rfl 1 (by decide) f46 (fun _ h9 => h9) rfl dN_tell_50 ?_
    refine tk_call0 hP hD hS hA (va_runSN (As := [.int (c 1)]) (rest := []) ⟨hx, hb, hml, hown, hw⟩ (kT_asBit l D (c 1) H.size) ⟨va_cnB 1 hw (tk_g0 tkW_good wC_T_asBit) rfl rfl rfl (hN (.methodLinkNest RN 56 yT_asBit "TickLines") (by decide +kernel)) (hw _ wZ_T) (by decide +kernel) ⟨Nat.le_of_ble_eq_true rfl, Nat.le_of_ble_eq_true rfl⟩, hw _ wT_T_asBit, trivial⟩ (tk_preS hK hN hP hD [] [] rfl rfl rfl) rfl rfl hl.1 rfl (lv_room (Nat.le_of_ble_eq_true rfl)) dN_tell_53 ⟨Nat.zero_le _, Nat.zero_le _⟩) (fun H locs hP hD hS => ?_)
    refine W.eq (g2 := F0 m 56 ls [.int (tkT_asBit_r (c 1))]) rfl ?_
    exact tk_iret hx hb hr hlk hP hD hS dN_tell_56 (by unfold tkN_tell_r; rw [if_neg h1_, if_pos h2_]) rfl
  by_cases h3_ : x0 = 2
  · refine lv_tableIn (tgt := 57) hx hb dN_tell_1 (by rw [h3_]; decide) (by rw [h3_]; decide) (by rw [h3_]; rfl) (by decide) ?_
    refine lv_aload_n hx hb dN_tell_57 rfl (lv_at hl 0 rfl) ?_
    refine va_get (D := D) (ci := 1) (v := .int (c 0)) (C := RN) (T := TN) (N := 14) hx hb hw inN hown hK hP 0 rfl rfl 0 (by decide) f9 (fun _ h9 => h9) rfl dN_tell_58 ?_
    refine tk_call0 hP hD hS hA (va_runSN (As := [.int (c 0)]) (rest := []) ⟨hx, hb, hml, hown, hw⟩ (kT_asBit l D (c 0) H.size) ⟨va_cnB 1 hw (tk_g0 tkW_good wC_T_asBit) rfl rfl rfl (hN (.methodLinkNest RN 56 yT_asBit "TickLines") (by decide +kernel)) (hw _ wZ_T) (by decide +kernel) ⟨Nat.le_of_ble_eq_true rfl, Nat.le_of_ble_eq_true rfl⟩, hw _ wT_T_asBit, trivial⟩ (tk_preS hK hN hP hD [] [] rfl rfl rfl) rfl rfl hl.1 rfl (lv_room (Nat.le_of_ble_eq_true rfl)) dN_tell_61 ⟨Nat.zero_le _, Nat.zero_le _⟩) (fun H locs hP hD hS => ?_)
    refine W.eq (g2 := F0 m 64 ls [.int (tkT_asBit_r (c 0))]) rfl ?_
    exact tk_iret hx hb hr hlk hP hD hS dN_tell_64 (by unfold tkN_tell_r; rw [if_neg h1_, if_neg h2_, if_pos h3_]) rfl
  by_cases h4_ : x0 = 3
  · refine lv_tableIn (tgt := 65) hx hb dN_tell_1 (by rw [h4_]; decide) (by rw [h4_]; decide) (by rw [h4_]; rfl) (by decide) ?_
    refine lv_aload_n hx hb dN_tell_65 rfl (lv_at hl 0 rfl) ?_
    refine va_get (D := D) (ci := 1) (v := .int (c 2)) (C := RN) (T := TN) (N := 14) hx hb hw inN hown hK hP 0 rfl rfl 2 (by decide) f15 (fun _ h9 => h9) rfl dN_tell_66 ?_
    exact tk_iret hx hb hr hlk hP hD hS dN_tell_69 (by unfold tkN_tell_r; rw [if_neg h1_, if_neg h2_, if_neg h3_, if_pos h4_]) rfl
  by_cases h5_ : x0 = 4
  · refine lv_tableIn (tgt := 70) hx hb dN_tell_1 (by rw [h5_]; decide) (by rw [h5_]; decide) (by rw [h5_]; rfl) (by decide) ?_
    refine lv_aload_n hx hb dN_tell_70 rfl (lv_at hl 0 rfl) ?_
    refine va_get (D := D) (ci := 1) (v := .int (c 4)) (C := RN) (T := TN) (N := 14) hx hb hw inN hown hK hP 0 rfl rfl 4 (by decide) f28 (fun _ h9 => h9) rfl dN_tell_71 ?_
    exact tk_iret hx hb hr hlk hP hD hS dN_tell_74 (by unfold tkN_tell_r; rw [if_neg h1_, if_neg h2_, if_neg h3_, if_neg h4_, if_pos h5_]) rfl
  by_cases h6_ : x0 = 5
  · refine lv_tableIn (tgt := 75) hx hb dN_tell_1 (by rw [h6_]; decide) (by rw [h6_]; decide) (by rw [h6_]; rfl) (by decide) ?_
    refine lv_aload_n hx hb dN_tell_75 rfl (lv_at hl 0 rfl) ?_
    refine va_get (D := D) (ci := 1) (v := .int (c 6)) (C := RN) (T := TN) (N := 14) hx hb hw inN hown hK hP 0 rfl rfl 6 (by decide) f31 (fun _ h9 => h9) rfl dN_tell_76 ?_
    refine tk_call0 hP hD hS hA (va_runSN (As := [.int (c 6)]) (rest := []) ⟨hx, hb, hml, hown, hw⟩ (kT_asBit l D (c 6) H.size) ⟨va_cnB 1 hw (tk_g0 tkW_good wC_T_asBit) rfl rfl rfl (hN (.methodLinkNest RN 56 yT_asBit "TickLines") (by decide +kernel)) (hw _ wZ_T) (by decide +kernel) ⟨Nat.le_of_ble_eq_true rfl, Nat.le_of_ble_eq_true rfl⟩, hw _ wT_T_asBit, trivial⟩ (tk_preS hK hN hP hD [] [] rfl rfl rfl) rfl rfl hl.1 rfl (lv_room (Nat.le_of_ble_eq_true rfl)) dN_tell_79 ⟨Nat.zero_le _, Nat.zero_le _⟩) (fun H locs hP hD hS => ?_)
    refine W.eq (g2 := F0 m 82 ls [.int (tkT_asBit_r (c 6))]) rfl ?_
    exact tk_iret hx hb hr hlk hP hD hS dN_tell_82 (by unfold tkN_tell_r; rw [if_neg h1_, if_neg h2_, if_neg h3_, if_neg h4_, if_neg h5_, if_pos h6_]) rfl
  by_cases h7_ : x0 = 6
  · refine lv_tableIn (tgt := 83) hx hb dN_tell_1 (by rw [h7_]; decide) (by rw [h7_]; decide) (by rw [h7_]; rfl) (by decide) ?_
    refine lv_aload_n hx hb dN_tell_83 rfl (lv_at hl 0 rfl) ?_
    refine va_get (D := D) (ci := 1) (v := .int (c 7)) (C := RN) (T := TN) (N := 14) hx hb hw inN hown hK hP 0 rfl rfl 7 (by decide) f34 (fun _ h9 => h9) rfl dN_tell_84 ?_
    refine tk_call0 hP hD hS hA (va_runSN (As := [.int (c 7)]) (rest := []) ⟨hx, hb, hml, hown, hw⟩ (kT_asBit l D (c 7) H.size) ⟨va_cnB 1 hw (tk_g0 tkW_good wC_T_asBit) rfl rfl rfl (hN (.methodLinkNest RN 56 yT_asBit "TickLines") (by decide +kernel)) (hw _ wZ_T) (by decide +kernel) ⟨Nat.le_of_ble_eq_true rfl, Nat.le_of_ble_eq_true rfl⟩, hw _ wT_T_asBit, trivial⟩ (tk_preS hK hN hP hD [] [] rfl rfl rfl) rfl rfl hl.1 rfl (lv_room (Nat.le_of_ble_eq_true rfl)) dN_tell_87 ⟨Nat.zero_le _, Nat.zero_le _⟩) (fun H locs hP hD hS => ?_)
    refine W.eq (g2 := F0 m 90 ls [.int (tkT_asBit_r (c 7))]) rfl ?_
    exact tk_iret hx hb hr hlk hP hD hS dN_tell_90 (by unfold tkN_tell_r; rw [if_neg h1_, if_neg h2_, if_neg h3_, if_neg h4_, if_neg h5_, if_neg h6_, if_pos h7_]) rfl
  have ho : (x0).toInt < 0 ∨ 6 < (x0).toInt := by
    refine tk_out (fun k h1 h2 => ?_)
    rcases (show k = 0 ∨ k = 1 ∨ k = 2 ∨ k = 3 ∨ k = 4 ∨ k = 5 ∨ k = 6 by omega) with rfl | rfl | rfl | rfl | rfl | rfl | rfl
    · exact h1_
    · exact h2_
    · exact h3_
    · exact h4_
    · exact h5_
    · exact h6_
    · exact h7_
  refine lv_tableOut (tgt := 91) hx hb dN_tell_1 ho (by decide) ?_
  refine lv_iconst (v := -1) hx hb dN_tell_91 (by decide) ?_
  exact tk_iret hx hb hr hlk hP hD hS dN_tell_92 (by unfold tkN_tell_r; rw [if_neg h1_, if_neg h2_, if_neg h3_, if_neg h4_, if_neg h5_, if_neg h6_, if_neg h7_]) rfl
end
section
def tkC_setLine_s (c : Nat → Int32) (x0 x1 : Int32) : Nat → Int32 :=
  if x1 = 0 then tk_up c 1 ((c 1) &&& (((1 : Int32) <<< (x0 &&& 31)) ^^^ (-1)))
  else tk_up (tk_up c 2 ((c 2) ||| (((1 : Int32) <<< (x0 &&& 31)) &&& ((c 1) ^^^ (-1))))) 1 ((c 1) ||| ((1 : Int32) <<< (x0 &&& 31)))
set_option maxHeartbeats 1000000 in
set_option maxRecDepth 100000 in
theorem kC_setLine (l : Launch) (D : va_G) (h0 : Nat) (c : Nat → Int32) (x0 x1 : Int32) : tk_M l yC_setLine wsC_setLine { frames := 0, cells := 0, slots := 0, locals := 0 } D [] [.ref h0, .int x0, .int x1] [(h0, .inr (0, FC c))] [(h0, .inr (0, FC (tkC_setLine_s c x0 x1)))] none := by
  refine tk_M.of (cc := cC_setLine) (maxL := 4) (ret := none) (by decide) rfl (Nat.le_of_ble_eq_true rfl) ?_
  intro p e s m below meth co A H locs ls hB hK hN hA hP hD hS hl
  obtain ⟨hx, hb, hr, hml, hown, hlk, hnm, hts⟩ := hB
  have hown : s.vm.findClass RC = some m.cls := hown
  have hl : lv_has ls 4 [(0, .ref h0), (1, .int x0), (2, .int x1)] := hl
  have hw : ∀ w ∈ tkW, w.before _ s = true := fun w h => hts w (List.mem_cons_of_mem _ h)
  have f22 := hw _ wF_C_22
  have f19 := hw _ wF_C_19
  refine lv_iconst (v := 1) hx hb dC_setLine_0 (by decide) ?_
  refine lv_iload_n hx hb dC_setLine_1 rfl (lv_at hl 1 rfl) ?_
  refine lv_ishl hx hb dC_setLine_2 ?_
  refine lv_istore_n hx hb dC_setLine_3 rfl hl (by decide) rfl (fun ls hl => ?_)
  have hl : lv_has ls 4 [(3, .int ((1 : Int32) <<< (x0 &&& 31))), (0, .ref h0), (1, .int x0), (2, .int x1)] := hl
  refine lv_iload_n hx hb dC_setLine_4 rfl (lv_at hl 3 rfl) ?_
  refine lv_if_eq (tgt := 38) hx hb dC_setLine_5 (by decide) (fun (h1_ : x1 = 0) => ?_) (fun (h1_ : ¬ (x1 = 0)) => ?_)
  · refine lv_aload_n hx hb dC_setLine_38 rfl (lv_at hl 1 rfl) ?_
    refine lv_dup hx hb dC_setLine_39 rfl ?_
    refine va_get (D := D) (ci := 0) (v := .int (c 1)) (C := RC) (T := TC) (N := 18) hx hb hw inC hown hK hP 0 rfl rfl 1 (by decide) f22 (fun _ h9 => h9) rfl dC_setLine_40 ?_
    refine lv_iload_n hx hb dC_setLine_43 rfl (lv_at hl 0 rfl) ?_
    refine lv_iconst (v := -1) hx hb dC_setLine_44 (by decide) ?_
    refine lv_ixor hx hb dC_setLine_45 ?_
    refine lv_iand hx hb dC_setLine_46 ?_
    refine va_put (D := D) (ci := 0) (v := .int ((c 1) &&& (((1 : Int32) <<< (x0 &&& 31)) ^^^ (-1)))) (ty := .int) (C := RC) (T := TC) (N := 18) hx hb hw inC tyC tyC_ok nmC hown hK hP hD hS 0 rfl rfl 1 (by decide) f22 (fun _ h9 => h9) rfl (tyC_ok 1 (by decide)) rfl rfl (Nat.le_of_ble_eq_true rfl) dC_setLine_47 (fun H locs hP hD hS => ?_)
    have hP : va_P D vwCl [(h0, .inr (0, FC (tk_up c 1 ((c 1) &&& (((1 : Int32) <<< (x0 &&& 31)) ^^^ (-1))))))] H := hP
    have hD : va_D A [(h0, .inr (0, FC (tk_up c 1 ((c 1) &&& (((1 : Int32) <<< (x0 &&& 31)) ^^^ (-1))))))] := hD
    exact tk_vret hx hb hr hlk hP hD hS dC_setLine_50 (tk_ewC (by unfold tkC_setLine_s; rw [if_pos h1_]))
  · refine lv_aload_n hx hb dC_setLine_8 rfl (lv_at hl 1 rfl) ?_
    refine lv_dup hx hb dC_setLine_9 rfl ?_
    refine va_get (D := D) (ci := 0) (v := .int (c 2)) (C := RC) (T := TC) (N := 18) hx hb hw inC hown hK hP 0 rfl rfl 2 (by decide) f19 (fun _ h9 => h9) rfl dC_setLine_10 ?_
    refine lv_iload_n hx hb dC_setLine_13 rfl (lv_at hl 0 rfl) ?_
    refine lv_aload_n hx hb dC_setLine_14 rfl (lv_at hl 1 rfl) ?_
    refine va_get (D := D) (ci := 0) (v := .int (c 1)) (C := RC) (T := TC) (N := 18) hx hb hw inC hown hK hP 0 rfl rfl 1 (by decide) f22 (fun _ h9 => h9) rfl dC_setLine_15 ?_
    refine lv_iconst (v := -1) hx hb dC_setLine_18 (by decide) ?_
    refine lv_ixor hx hb dC_setLine_19 ?_
    refine lv_iand hx hb dC_setLine_20 ?_
    refine lv_ior hx hb dC_setLine_21 ?_
    refine va_put (D := D) (ci := 0) (v := .int ((c 2) ||| (((1 : Int32) <<< (x0 &&& 31)) &&& ((c 1) ^^^ (-1))))) (ty := .int) (C := RC) (T := TC) (N := 18) hx hb hw inC tyC tyC_ok nmC hown hK hP hD hS 0 rfl rfl 2 (by decide) f19 (fun _ h9 => h9) rfl (tyC_ok 2 (by decide)) rfl rfl (Nat.le_of_ble_eq_true rfl) dC_setLine_22 (fun H locs hP hD hS => ?_)
    have hP : va_P D vwCl [(h0, .inr (0, FC (tk_up c 2 ((c 2) ||| (((1 : Int32) <<< (x0 &&& 31)) &&& ((c 1) ^^^ (-1)))))))] H := hP
    have hD : va_D A [(h0, .inr (0, FC (tk_up c 2 ((c 2) ||| (((1 : Int32) <<< (x0 &&& 31)) &&& ((c 1) ^^^ (-1)))))))] := hD
    refine lv_aload_n hx hb dC_setLine_25 rfl (lv_at hl 1 rfl) ?_
    refine lv_dup hx hb dC_setLine_26 rfl ?_
    refine va_get (D := D) (ci := 0) (v := .int (c 1)) (C := RC) (T := TC) (N := 18) hx hb hw inC hown hK hP 0 rfl rfl 1 (by decide) f22 (fun _ h9 => h9) rfl dC_setLine_27 ?_
    refine lv_iload_n hx hb dC_setLine_30 rfl (lv_at hl 0 rfl) ?_
    refine lv_ior hx hb dC_setLine_31 ?_
    refine va_put (D := D) (ci := 0) (v := .int ((c 1) ||| ((1 : Int32) <<< (x0 &&& 31)))) (ty := .int) (C := RC) (T := TC) (N := 18) hx hb hw inC tyC tyC_ok nmC hown hK hP hD hS 0 rfl rfl 1 (by decide) f22 (fun _ h9 => h9) rfl (tyC_ok 1 (by decide)) rfl rfl (Nat.le_of_ble_eq_true rfl) dC_setLine_32 (fun H locs hP hD hS => ?_)
    have hP : va_P D vwCl [(h0, .inr (0, FC (tk_up (tk_up c 2 ((c 2) ||| (((1 : Int32) <<< (x0 &&& 31)) &&& ((c 1) ^^^ (-1))))) 1 ((c 1) ||| ((1 : Int32) <<< (x0 &&& 31))))))] H := hP
    have hD : va_D A [(h0, .inr (0, FC (tk_up (tk_up c 2 ((c 2) ||| (((1 : Int32) <<< (x0 &&& 31)) &&& ((c 1) ^^^ (-1))))) 1 ((c 1) ||| ((1 : Int32) <<< (x0 &&& 31))))))] := hD
    refine lv_goto (tgt := 50) hx hb dC_setLine_35 (by decide) ?_
    exact tk_vret hx hb hr hlk hP hD hS dC_setLine_50 (tk_ewC (by unfold tkC_setLine_s; rw [if_neg h1_]))
def tkC_requests_r (c : Nat → Int32) : Int32 :=
  if c 9 = 0 then (c 1) &&& (c 2)
  else c 1
set_option maxHeartbeats 1000000 in
set_option maxRecDepth 100000 in
theorem kC_requests (l : Launch) (D : va_G) (h0 : Nat) (c : Nat → Int32) : tk_M l yC_requests wsC_requests { frames := 0, cells := 0, slots := 0, locals := 0 } D [] [.ref h0] [(h0, .inr (0, FC c))] [(h0, .inr (0, FC c))] (some (.int (tkC_requests_r c))) := by
  refine tk_M.of (cc := cC_requests) (maxL := 1) (ret := (some .int)) (by decide) rfl (Nat.le_of_ble_eq_true rfl) ?_
  intro p e s m below meth co A H locs ls hB hK hN hA hP hD hS hl
  obtain ⟨hx, hb, hr, hml, hown, hlk, hnm, hts⟩ := hB
  have hown : s.vm.findClass RC = some m.cls := hown
  have hl : lv_has ls 1 [(0, .ref h0)] := hl
  have hw : ∀ w ∈ tkW, w.before _ s = true := fun w h => hts w (List.mem_cons_of_mem _ h)
  have f100 := hw _ wF_C_100
  have f22 := hw _ wF_C_22
  have f19 := hw _ wF_C_19
  refine lv_aload_n hx hb dC_requests_0 rfl (lv_at hl 0 rfl) ?_
  refine va_get (D := D) (ci := 0) (v := .int (c 9)) (C := RC) (T := TC) (N := 18) hx hb hw inC hown hK hP 0 rfl rfl 9 (by decide) f100 (fun _ h9 => h9) rfl dC_requests_1 ?_
  refine lv_if_eq (tgt := 14) hx hb dC_requests_4 (by decide) (fun (h1_ : c 9 = 0) => ?_) (fun (h1_ : ¬ (c 9 = 0)) => ?_)
  · refine lv_aload_n hx hb dC_requests_14 rfl (lv_at hl 0 rfl) ?_
    refine va_get (D := D) (ci := 0) (v := .int (c 1)) (C := RC) (T := TC) (N := 18) hx hb hw inC hown hK hP 0 rfl rfl 1 (by decide) f22 (fun _ h9 => h9) rfl dC_requests_15 ?_
    refine lv_aload_n hx hb dC_requests_18 rfl (lv_at hl 0 rfl) ?_
    refine va_get (D := D) (ci := 0) (v := .int (c 2)) (C := RC) (T := TC) (N := 18) hx hb hw inC hown hK hP 0 rfl rfl 2 (by decide) f19 (fun _ h9 => h9) rfl dC_requests_19 ?_
    refine lv_iand hx hb dC_requests_22 ?_
    exact tk_iret hx hb hr hlk hP hD hS dC_requests_23 (by unfold tkC_requests_r; rw [if_pos h1_]) rfl
  · refine lv_aload_n hx hb dC_requests_7 rfl (lv_at hl 0 rfl) ?_
    refine va_get (D := D) (ci := 0) (v := .int (c 1)) (C := RC) (T := TC) (N := 18) hx hb hw inC hown hK hP 0 rfl rfl 1 (by decide) f22 (fun _ h9 => h9) rfl dC_requests_8 ?_
    refine lv_goto (tgt := 23) hx hb dC_requests_11 (by decide) ?_
    exact tk_iret hx hb hr hlk hP hD hS dC_requests_23 (by unfold tkC_requests_r; rw [if_neg h1_]) rfl
def tkC_holdingLevels_r (c : Nat → Int32) : Int32 :=
  if c 14 = 0 then c 4
  else (c 4) &&& ((c 3) ^^^ (-1))
set_option maxHeartbeats 1000000 in
set_option maxRecDepth 100000 in
theorem kC_holdingLevels (l : Launch) (D : va_G) (h0 : Nat) (c : Nat → Int32) : tk_M l yC_holdingLevels wsC_holdingLevels { frames := 0, cells := 0, slots := 0, locals := 0 } D [] [.ref h0] [(h0, .inr (0, FC c))] [(h0, .inr (0, FC c))] (some (.int (tkC_holdingLevels_r c))) := by
  refine tk_M.of (cc := cC_holdingLevels) (maxL := 1) (ret := (some .int)) (by decide) rfl (Nat.le_of_ble_eq_true rfl) ?_
  intro p e s m below meth co A H locs ls hB hK hN hA hP hD hS hl
  obtain ⟨hx, hb, hr, hml, hown, hlk, hnm, hts⟩ := hB
  have hown : s.vm.findClass RC = some m.cls := hown
  have hl : lv_has ls 1 [(0, .ref h0)] := hl
  have hw : ∀ w ∈ tkW, w.before _ s = true := fun w h => hts w (List.mem_cons_of_mem _ h)
  have f103 := hw _ wF_C_103
  have f93 := hw _ wF_C_93
  have f32 := hw _ wF_C_32
  refine lv_aload_n hx hb dC_holdingLevels_0 rfl (lv_at hl 0 rfl) ?_
  refine va_get (D := D) (ci := 0) (v := .int (c 14)) (C := RC) (T := TC) (N := 18) hx hb hw inC hown hK hP 0 rfl rfl 14 (by decide) f103 (fun _ h9 => h9) rfl dC_holdingLevels_1 ?_
  refine lv_if_eq (tgt := 21) hx hb dC_holdingLevels_4 (by decide) (fun (h1_ : c 14 = 0) => ?_) (fun (h1_ : ¬ (c 14 = 0)) => ?_)
  · refine lv_aload_n hx hb dC_holdingLevels_21 rfl (lv_at hl 0 rfl) ?_
    refine va_get (D := D) (ci := 0) (v := .int (c 4)) (C := RC) (T := TC) (N := 18) hx hb hw inC hown hK hP 0 rfl rfl 4 (by decide) f93 (fun _ h9 => h9) rfl dC_holdingLevels_22 ?_
    exact tk_iret hx hb hr hlk hP hD hS dC_holdingLevels_25 (by unfold tkC_holdingLevels_r; rw [if_pos h1_]) rfl
  · refine lv_aload_n hx hb dC_holdingLevels_7 rfl (lv_at hl 0 rfl) ?_
    refine va_get (D := D) (ci := 0) (v := .int (c 4)) (C := RC) (T := TC) (N := 18) hx hb hw inC hown hK hP 0 rfl rfl 4 (by decide) f93 (fun _ h9 => h9) rfl dC_holdingLevels_8 ?_
    refine lv_aload_n hx hb dC_holdingLevels_11 rfl (lv_at hl 0 rfl) ?_
    refine va_get (D := D) (ci := 0) (v := .int (c 3)) (C := RC) (T := TC) (N := 18) hx hb hw inC hown hK hP 0 rfl rfl 3 (by decide) f32 (fun _ h9 => h9) rfl dC_holdingLevels_12 ?_
    refine lv_iconst (v := -1) hx hb dC_holdingLevels_15 (by decide) ?_
    refine lv_ixor hx hb dC_holdingLevels_16 ?_
    refine lv_iand hx hb dC_holdingLevels_17 ?_
    refine lv_goto (tgt := 25) hx hb dC_holdingLevels_18 (by decide) ?_
    exact tk_iret hx hb hr hlk hP hD hS dC_holdingLevels_25 (by unfold tkC_holdingLevels_r; rw [if_neg h1_]) rfl
def tkC_mayNest_r (c : Nat → Int32) (x0 : Int32) : Int32 :=
  if c 13 = 0 then 0
  else if c 0 = 0 then 0
    else if x0 = 2 then 1
      else 0
set_option maxHeartbeats 1000000 in
set_option maxRecDepth 100000 in
theorem kC_mayNest (l : Launch) (D : va_G) (h0 : Nat) (c : Nat → Int32) (x0 : Int32) : tk_M l yC_mayNest wsC_mayNest { frames := 0, cells := 0, slots := 0, locals := 0 } D [] [.ref h0, .int x0] [(h0, .inr (0, FC c))] [(h0, .inr (0, FC c))] (some (.int (tkC_mayNest_r c x0))) := by
  refine tk_M.of (cc := cC_mayNest) (maxL := 2) (ret := (some .boolean)) (by decide) rfl (Nat.le_of_ble_eq_true rfl) ?_
  intro p e s m below meth co A H locs ls hB hK hN hA hP hD hS hl
  obtain ⟨hx, hb, hr, hml, hown, hlk, hnm, hts⟩ := hB
  have hown : s.vm.findClass RC = some m.cls := hown
  have hl : lv_has ls 2 [(0, .ref h0), (1, .int x0)] := hl
  have hw : ∀ w ∈ tkW, w.before _ s = true := fun w h => hts w (List.mem_cons_of_mem _ h)
  have f78 := hw _ wF_C_78
  have f9 := hw _ wF_C_9
  refine lv_aload_n hx hb dC_mayNest_0 rfl (lv_at hl 0 rfl) ?_
  refine va_get (D := D) (ci := 0) (v := .int (c 13)) (C := RC) (T := TC) (N := 18) hx hb hw inC hown hK hP 0 rfl rfl 13 (by decide) f78 (fun _ h9 => h9) rfl dC_mayNest_1 ?_
  refine lv_if_eq (tgt := 23) hx hb dC_mayNest_4 (by decide) (fun (h1_ : c 13 = 0) => ?_) (fun (h1_ : ¬ (c 13 = 0)) => ?_)
  · refine lv_iconst (v := 0) hx hb dC_mayNest_23 (by decide) ?_
    exact tk_zret hx hb hr hlk hP hD hS dC_mayNest_24 rfl (by unfold tkC_mayNest_r; rw [if_pos h1_]) rfl
  · refine lv_aload_n hx hb dC_mayNest_7 rfl (lv_at hl 0 rfl) ?_
    refine va_get (D := D) (ci := 0) (v := .int (c 0)) (C := RC) (T := TC) (N := 18) hx hb hw inC hown hK hP 0 rfl rfl 0 (by decide) f9 (fun _ h9 => h9) rfl dC_mayNest_8 ?_
    refine lv_if_eq (tgt := 23) hx hb dC_mayNest_11 (by decide) (fun (h2_ : c 0 = 0) => ?_) (fun (h2_ : ¬ (c 0 = 0)) => ?_)
    · refine lv_iconst (v := 0) hx hb dC_mayNest_23 (by decide) ?_
      exact tk_zret hx hb hr hlk hP hD hS dC_mayNest_24 rfl (by unfold tkC_mayNest_r; rw [if_neg h1_, if_pos h2_]) rfl
    · refine lv_iload_n hx hb dC_mayNest_14 rfl (lv_at hl 1 rfl) ?_
      refine lv_iconst (v := 2) hx hb dC_mayNest_15 (by decide) ?_
      refine lv_icmp_ne (tgt := 23) hx hb dC_mayNest_16 (by decide) (fun (h3_ : ¬ (x0 = 2)) => ?_) (fun (h3_ : x0 = 2) => ?_)
      · refine lv_iconst (v := 0) hx hb dC_mayNest_23 (by decide) ?_
        exact tk_zret hx hb hr hlk hP hD hS dC_mayNest_24 rfl (by unfold tkC_mayNest_r; rw [if_neg h1_, if_neg h2_, if_neg h3_]) rfl
      · refine lv_iconst (v := 1) hx hb dC_mayNest_19 (by decide) ?_
        refine lv_goto (tgt := 24) hx hb dC_mayNest_20 (by decide) ?_
        exact tk_zret hx hb hr hlk hP hD hS dC_mayNest_24 rfl (by unfold tkC_mayNest_r; rw [if_neg h1_, if_neg h2_, if_pos h3_]) rfl
def tkC_chosenLevel_r (c : Nat → Int32) : Int32 :=
  if c 7 = 0 then (-1)
  else if tkT_hasBit_r ((tkC_requests_r c) &&& ((c 3) ^^^ (-1))) (((c 6) + 1) &&& 7) = 0 then (if tkT_hasBit_r (tkC_holdingLevels_r c) (((c 6) + 1) &&& 7) = 0 then (if tkT_hasBit_r ((tkC_requests_r c) &&& ((c 3) ^^^ (-1))) (((c 6) + 2) &&& 7) = 0 then (if tkT_hasBit_r (tkC_holdingLevels_r c) (((c 6) + 2) &&& 7) = 0 then (if tkT_hasBit_r ((tkC_requests_r c) &&& ((c 3) ^^^ (-1))) (((c 6) + 3) &&& 7) = 0 then (if tkT_hasBit_r (tkC_holdingLevels_r c) (((c 6) + 3) &&& 7) = 0 then (if tkT_hasBit_r ((tkC_requests_r c) &&& ((c 3) ^^^ (-1))) (((c 6) + 4) &&& 7) = 0 then (if tkT_hasBit_r (tkC_holdingLevels_r c) (((c 6) + 4) &&& 7) = 0 then (if tkT_hasBit_r ((tkC_requests_r c) &&& ((c 3) ^^^ (-1))) (((c 6) + 5) &&& 7) = 0 then (if tkT_hasBit_r (tkC_holdingLevels_r c) (((c 6) + 5) &&& 7) = 0 then (if tkT_hasBit_r ((tkC_requests_r c) &&& ((c 3) ^^^ (-1))) (((c 6) + 6) &&& 7) = 0 then (if tkT_hasBit_r (tkC_holdingLevels_r c) (((c 6) + 6) &&& 7) = 0 then (if tkT_hasBit_r ((tkC_requests_r c) &&& ((c 3) ^^^ (-1))) (((c 6) + 7) &&& 7) = 0 then (if tkT_hasBit_r (tkC_holdingLevels_r c) (((c 6) + 7) &&& 7) = 0 then (if tkT_hasBit_r ((tkC_requests_r c) &&& ((c 3) ^^^ (-1))) (((c 6) + 8) &&& 7) = 0 then (-1)
                                else if tkT_hasBit_r (tkC_holdingLevels_r c) (((c 6) + 8) &&& 7) = 0 then ((c 6) + 8) &&& 7
                                  else if tkC_mayNest_r c (((c 6) + 8) &&& 7) = 0 then (-1)
                                    else ((c 6) + 8) &&& 7)
                              else (-1))
                            else if tkT_hasBit_r (tkC_holdingLevels_r c) (((c 6) + 7) &&& 7) = 0 then ((c 6) + 7) &&& 7
                              else if tkC_mayNest_r c (((c 6) + 7) &&& 7) = 0 then (-1)
                                else ((c 6) + 7) &&& 7)
                          else (-1))
                        else if tkT_hasBit_r (tkC_holdingLevels_r c) (((c 6) + 6) &&& 7) = 0 then ((c 6) + 6) &&& 7
                          else if tkC_mayNest_r c (((c 6) + 6) &&& 7) = 0 then (-1)
                            else ((c 6) + 6) &&& 7)
                      else (-1))
                    else if tkT_hasBit_r (tkC_holdingLevels_r c) (((c 6) + 5) &&& 7) = 0 then ((c 6) + 5) &&& 7
                      else if tkC_mayNest_r c (((c 6) + 5) &&& 7) = 0 then (-1)
                        else ((c 6) + 5) &&& 7)
                  else (-1))
                else if tkT_hasBit_r (tkC_holdingLevels_r c) (((c 6) + 4) &&& 7) = 0 then ((c 6) + 4) &&& 7
                  else if tkC_mayNest_r c (((c 6) + 4) &&& 7) = 0 then (-1)
                    else ((c 6) + 4) &&& 7)
              else (-1))
            else if tkT_hasBit_r (tkC_holdingLevels_r c) (((c 6) + 3) &&& 7) = 0 then ((c 6) + 3) &&& 7
              else if tkC_mayNest_r c (((c 6) + 3) &&& 7) = 0 then (-1)
                else ((c 6) + 3) &&& 7)
          else (-1))
        else if tkT_hasBit_r (tkC_holdingLevels_r c) (((c 6) + 2) &&& 7) = 0 then ((c 6) + 2) &&& 7
          else if tkC_mayNest_r c (((c 6) + 2) &&& 7) = 0 then (-1)
            else ((c 6) + 2) &&& 7)
      else (-1))
    else if tkT_hasBit_r (tkC_holdingLevels_r c) (((c 6) + 1) &&& 7) = 0 then ((c 6) + 1) &&& 7
      else if tkC_mayNest_r c (((c 6) + 1) &&& 7) = 0 then (-1)
        else ((c 6) + 1) &&& 7
set_option maxHeartbeats 1000000 in
set_option maxRecDepth 100000 in
theorem kC_chosenLevel (l : Launch) (D : va_G) (h0 : Nat) (c : Nat → Int32) : tk_M l yC_chosenLevel wsC_chosenLevel { frames := 1, cells := 0, slots := 0, locals := 21 } D [] [.ref h0] [(h0, .inr (0, FC c))] [(h0, .inr (0, FC c))] (some (.int (tkC_chosenLevel_r c))) := by
  refine tk_M.of (cc := cC_chosenLevel) (maxL := 6) (ret := (some .int)) (by decide) rfl (Nat.le_of_ble_eq_true rfl) ?_
  intro p e s m below meth co A H locs ls hB hK hN hA hP hD hS hl
  obtain ⟨hx, hb, hr, hml, hown, hlk, hnm, hts⟩ := hB
  have hown : s.vm.findClass RC = some m.cls := hown
  have hl : lv_has ls 6 [(0, .ref h0)] := hl
  have hw : ∀ w ∈ tkW, w.before _ s = true := fun w h => hts w (List.mem_cons_of_mem _ h)
  have f25 := hw _ wF_C_25
  have f32 := hw _ wF_C_32
  have f15 := hw _ wF_C_15
  refine lv_aload_n hx hb dC_chosenLevel_0 rfl (lv_at hl 0 rfl) ?_
  refine va_get (D := D) (ci := 0) (v := .int (c 7)) (C := RC) (T := TC) (N := 18) hx hb hw inC hown hK hP 0 rfl rfl 7 (by decide) f25 (fun _ h9 => h9) rfl dC_chosenLevel_1 ?_
  refine lv_if_ne (tgt := 9) hx hb dC_chosenLevel_4 (by decide) (fun (h1_ : ¬ (c 7 = 0)) => ?_) (fun (h1_ : c 7 = 0) => ?_)
  · refine lv_aload_n hx hb dC_chosenLevel_9 rfl (lv_at hl 0 rfl) ?_
    refine tk_callA hD hS hA (va_runV (As := []) (rest := []) ⟨hx, hb, hml, hown, hw⟩ (kC_requests l D h0 c H.size) (cwV 0 hw (tk_gV tkW_good wM_C_28 wI_C_requests wS_C_requests wZ_C wC_C_requests) rfl rfl rfl (by decide +kernel) ⟨Nat.le_of_ble_eq_true rfl, Nat.le_of_ble_eq_true rfl⟩) (tk_preV (q0 := 0) hK hN hP hD [0] [] rfl rfl rfl rfl rfl) rfl rfl hl.1 rfl (lv_room (Nat.le_of_ble_eq_true rfl)) dC_chosenLevel_10 ⟨Nat.zero_le _, Nat.zero_le _⟩) (fun H locs hP hD hS => ?_)
    refine W.eq (g2 := F0 m 13 ls [.int (tkC_requests_r c)]) rfl ?_
    refine lv_aload_n hx hb dC_chosenLevel_13 rfl (lv_at hl 0 rfl) ?_
    refine va_get (D := D) (ci := 0) (v := .int (c 3)) (C := RC) (T := TC) (N := 18) hx hb hw inC hown hK hP 0 rfl rfl 3 (by decide) f32 (fun _ h9 => h9) rfl dC_chosenLevel_14 ?_
    refine lv_iconst (v := -1) hx hb dC_chosenLevel_17 (by decide) ?_
    refine lv_ixor hx hb dC_chosenLevel_18 ?_
    refine lv_iand hx hb dC_chosenLevel_19 ?_
    refine lv_istore_n hx hb dC_chosenLevel_20 rfl hl (by decide) rfl (fun ls hl => ?_)
    have hl : lv_has ls 6 [(1, .int ((tkC_requests_r c) &&& ((c 3) ^^^ (-1)))), (0, .ref h0)] := hl
    refine lv_aload_n hx hb dC_chosenLevel_21 rfl (lv_at hl 1 rfl) ?_
    refine tk_callA hD hS hA (va_runV (As := []) (rest := []) ⟨hx, hb, hml, hown, hw⟩ (kC_holdingLevels l D h0 c H.size) (cwV 0 hw (tk_gV tkW_good wM_C_35 wI_C_holdingLevels wS_C_holdingLevels wZ_C wC_C_holdingLevels) rfl rfl rfl (by decide +kernel) ⟨Nat.le_of_ble_eq_true rfl, Nat.le_of_ble_eq_true rfl⟩) (tk_preV (q0 := 0) hK hN hP hD [0] [] rfl rfl rfl rfl rfl) rfl rfl hl.1 rfl (lv_room (Nat.le_of_ble_eq_true rfl)) dC_chosenLevel_22 ⟨Nat.zero_le _, Nat.zero_le _⟩) (fun H locs hP hD hS => ?_)
    refine W.eq (g2 := F0 m 25 ls [.int (tkC_holdingLevels_r c)]) rfl ?_
    refine lv_istore_n hx hb dC_chosenLevel_25 rfl hl (by decide) rfl (fun ls hl => ?_)
    have hl : lv_has ls 6 [(2, .int (tkC_holdingLevels_r c)), (1, .int ((tkC_requests_r c) &&& ((c 3) ^^^ (-1)))), (0, .ref h0)] := hl
    refine lv_iconst (v := 1) hx hb dC_chosenLevel_26 (by decide) ?_
    refine lv_istore_n hx hb dC_chosenLevel_27 rfl hl (by decide) rfl (fun ls hl => ?_)
    have hl : lv_has ls 6 [(3, .int 1), (2, .int (tkC_holdingLevels_r c)), (1, .int ((tkC_requests_r c) &&& ((c 3) ^^^ (-1)))), (0, .ref h0)] := hl
    refine lv_iload_n hx hb dC_chosenLevel_28 rfl (lv_at hl 0 rfl) ?_
    refine lv_bipush (v := 8) hx hb dC_chosenLevel_29 (by decide) ?_
    refine lv_icmp_gt (tgt := 96) hx hb dC_chosenLevel_31 (by decide) (fun h => absurd h (by decide)) (fun _ => ?_)
    refine lv_aload_n hx hb dC_chosenLevel_34 rfl (lv_at hl 3 rfl) ?_
    refine va_get (D := D) (ci := 0) (v := .int (c 6)) (C := RC) (T := TC) (N := 18) hx hb hw inC hown hK hP 0 rfl rfl 6 (by decide) f15 (fun _ h9 => h9) rfl dC_chosenLevel_35 ?_
    refine lv_iload_n hx hb dC_chosenLevel_38 rfl (lv_at hl 0 rfl) ?_
    refine lv_iadd hx hb dC_chosenLevel_39 ?_
    refine lv_bipush (v := 7) hx hb dC_chosenLevel_40 (by decide) ?_
    refine lv_iand hx hb dC_chosenLevel_42 ?_
    refine lv_istore hx hb dC_chosenLevel_43 hl (by decide) rfl (fun ls hl => ?_)
    have hl : lv_has ls 6 [(4, .int (((c 6) + 1) &&& 7)), (3, .int 1), (2, .int (tkC_holdingLevels_r c)), (1, .int ((tkC_requests_r c) &&& ((c 3) ^^^ (-1)))), (0, .ref h0)] := hl
    refine lv_iload_n hx hb dC_chosenLevel_45 rfl (lv_at hl 2 rfl) ?_
    refine lv_iload hx hb dC_chosenLevel_46 (lv_at hl 0 rfl) ?_
    refine tk_call0 hP hD hS hA (va_runSN (As := [.int (tkC_holdingLevels_r c), .int (((c 6) + 1) &&& 7)]) (rest := []) ⟨hx, hb, hml, hown, hw⟩ (kT_hasBit l D (tkC_holdingLevels_r c) (((c 6) + 1) &&& 7) H.size) ⟨va_cnB 2 hw (tk_g0 tkW_good wC_T_hasBit) rfl rfl rfl (hN (.methodLinkNest RC 38 yT_hasBit "TickLines") (by decide +kernel)) (hw _ wZ_T) (by decide +kernel) ⟨Nat.le_of_ble_eq_true rfl, Nat.le_of_ble_eq_true rfl⟩, hw _ wT_T_hasBit, trivial⟩ (tk_preS hK hN hP hD [] [] rfl rfl rfl) rfl rfl hl.1 rfl (lv_room (Nat.le_of_ble_eq_true rfl)) dC_chosenLevel_48 ⟨Nat.zero_le _, Nat.zero_le _⟩) (fun H locs hP hD hS => ?_)
    refine W.eq (g2 := F0 m 51 ls [.int (tkT_hasBit_r (tkC_holdingLevels_r c) (((c 6) + 1) &&& 7))]) rfl ?_
    refine lv_istore hx hb dC_chosenLevel_51 hl (by decide) rfl (fun ls hl => ?_)
    have hl : lv_has ls 6 [(5, .int (tkT_hasBit_r (tkC_holdingLevels_r c) (((c 6) + 1) &&& 7))), (4, .int (((c 6) + 1) &&& 7)), (3, .int 1), (2, .int (tkC_holdingLevels_r c)), (1, .int ((tkC_requests_r c) &&& ((c 3) ^^^ (-1)))), (0, .ref h0)] := hl
    refine lv_iload_n hx hb dC_chosenLevel_53 rfl (lv_at hl 4 rfl) ?_
    refine lv_iload hx hb dC_chosenLevel_54 (lv_at hl 1 rfl) ?_
    refine tk_call0 hP hD hS hA (va_runSN (As := [.int ((tkC_requests_r c) &&& ((c 3) ^^^ (-1))), .int (((c 6) + 1) &&& 7)]) (rest := []) ⟨hx, hb, hml, hown, hw⟩ (kT_hasBit l D ((tkC_requests_r c) &&& ((c 3) ^^^ (-1))) (((c 6) + 1) &&& 7) H.size) ⟨va_cnB 2 hw (tk_g0 tkW_good wC_T_hasBit) rfl rfl rfl (hN (.methodLinkNest RC 38 yT_hasBit "TickLines") (by decide +kernel)) (hw _ wZ_T) (by decide +kernel) ⟨Nat.le_of_ble_eq_true rfl, Nat.le_of_ble_eq_true rfl⟩, hw _ wT_T_hasBit, trivial⟩ (tk_preS hK hN hP hD [] [] rfl rfl rfl) rfl rfl hl.1 rfl (lv_room (Nat.le_of_ble_eq_true rfl)) dC_chosenLevel_56 ⟨Nat.zero_le _, Nat.zero_le _⟩) (fun H locs hP hD hS => ?_)
    refine W.eq (g2 := F0 m 59 ls [.int (tkT_hasBit_r ((tkC_requests_r c) &&& ((c 3) ^^^ (-1))) (((c 6) + 1) &&& 7))]) rfl ?_
    refine lv_if_eq (tgt := 83) hx hb dC_chosenLevel_59 (by decide) (fun (h2_ : tkT_hasBit_r ((tkC_requests_r c) &&& ((c 3) ^^^ (-1))) (((c 6) + 1) &&& 7) = 0) => ?_) (fun (h2_ : ¬ (tkT_hasBit_r ((tkC_requests_r c) &&& ((c 3) ^^^ (-1))) (((c 6) + 1) &&& 7) = 0)) => ?_)
    · refine lv_iload hx hb dC_chosenLevel_83 (lv_at hl 0 rfl) ?_
      refine lv_if_eq (tgt := 90) hx hb dC_chosenLevel_85 (by decide) (fun (h3_ : tkT_hasBit_r (tkC_holdingLevels_r c) (((c 6) + 1) &&& 7) = 0) => ?_) (fun (h3_ : ¬ (tkT_hasBit_r (tkC_holdingLevels_r c) (((c 6) + 1) &&& 7) = 0)) => ?_)
      · refine lv_iinc (k := 2) (v := 2) hx hb dC_chosenLevel_90 hl rfl (by decide) (by decide) rfl (fun ls hl => ?_)
        have hl : lv_has ls 6 [(3, .int 2), (5, .int (tkT_hasBit_r (tkC_holdingLevels_r c) (((c 6) + 1) &&& 7))), (4, .int (((c 6) + 1) &&& 7)), (2, .int (tkC_holdingLevels_r c)), (1, .int ((tkC_requests_r c) &&& ((c 3) ^^^ (-1)))), (0, .ref h0)] := hl
        refine lv_goto (tgt := 28) hx hb dC_chosenLevel_93 (by decide) ?_
        refine lv_iload_n hx hb dC_chosenLevel_28 rfl (lv_at hl 0 rfl) ?_
        refine lv_bipush (v := 8) hx hb dC_chosenLevel_29 (by decide) ?_
        refine lv_icmp_gt (tgt := 96) hx hb dC_chosenLevel_31 (by decide) (fun h => absurd h (by decide)) (fun _ => ?_)
        refine lv_aload_n hx hb dC_chosenLevel_34 rfl (lv_at hl 5 rfl) ?_
        refine va_get (D := D) (ci := 0) (v := .int (c 6)) (C := RC) (T := TC) (N := 18) hx hb hw inC hown hK hP 0 rfl rfl 6 (by decide) f15 (fun _ h9 => h9) rfl dC_chosenLevel_35 ?_
        refine lv_iload_n hx hb dC_chosenLevel_38 rfl (lv_at hl 0 rfl) ?_
        refine lv_iadd hx hb dC_chosenLevel_39 ?_
        refine lv_bipush (v := 7) hx hb dC_chosenLevel_40 (by decide) ?_
        refine lv_iand hx hb dC_chosenLevel_42 ?_
        refine lv_istore hx hb dC_chosenLevel_43 hl (by decide) rfl (fun ls hl => ?_)
        have hl : lv_has ls 6 [(4, .int (((c 6) + 2) &&& 7)), (3, .int 2), (5, .int (tkT_hasBit_r (tkC_holdingLevels_r c) (((c 6) + 1) &&& 7))), (2, .int (tkC_holdingLevels_r c)), (1, .int ((tkC_requests_r c) &&& ((c 3) ^^^ (-1)))), (0, .ref h0)] := hl
        refine lv_iload_n hx hb dC_chosenLevel_45 rfl (lv_at hl 3 rfl) ?_
        refine lv_iload hx hb dC_chosenLevel_46 (lv_at hl 0 rfl) ?_
        refine tk_call0 hP hD hS hA (va_runSN (As := [.int (tkC_holdingLevels_r c), .int (((c 6) + 2) &&& 7)]) (rest := []) ⟨hx, hb, hml, hown, hw⟩ (kT_hasBit l D (tkC_holdingLevels_r c) (((c 6) + 2) &&& 7) H.size) ⟨va_cnB 2 hw (tk_g0 tkW_good wC_T_hasBit) rfl rfl rfl (hN (.methodLinkNest RC 38 yT_hasBit "TickLines") (by decide +kernel)) (hw _ wZ_T) (by decide +kernel) ⟨Nat.le_of_ble_eq_true rfl, Nat.le_of_ble_eq_true rfl⟩, hw _ wT_T_hasBit, trivial⟩ (tk_preS hK hN hP hD [] [] rfl rfl rfl) rfl rfl hl.1 rfl (lv_room (Nat.le_of_ble_eq_true rfl)) dC_chosenLevel_48 ⟨Nat.zero_le _, Nat.zero_le _⟩) (fun H locs hP hD hS => ?_)
        refine W.eq (g2 := F0 m 51 ls [.int (tkT_hasBit_r (tkC_holdingLevels_r c) (((c 6) + 2) &&& 7))]) rfl ?_
        refine lv_istore hx hb dC_chosenLevel_51 hl (by decide) rfl (fun ls hl => ?_)
        have hl : lv_has ls 6 [(5, .int (tkT_hasBit_r (tkC_holdingLevels_r c) (((c 6) + 2) &&& 7))), (4, .int (((c 6) + 2) &&& 7)), (3, .int 2), (2, .int (tkC_holdingLevels_r c)), (1, .int ((tkC_requests_r c) &&& ((c 3) ^^^ (-1)))), (0, .ref h0)] := hl
        refine lv_iload_n hx hb dC_chosenLevel_53 rfl (lv_at hl 4 rfl) ?_
        refine lv_iload hx hb dC_chosenLevel_54 (lv_at hl 1 rfl) ?_
        refine tk_call0 hP hD hS hA (va_runSN (As := [.int ((tkC_requests_r c) &&& ((c 3) ^^^ (-1))), .int (((c 6) + 2) &&& 7)]) (rest := []) ⟨hx, hb, hml, hown, hw⟩ (kT_hasBit l D ((tkC_requests_r c) &&& ((c 3) ^^^ (-1))) (((c 6) + 2) &&& 7) H.size) ⟨va_cnB 2 hw (tk_g0 tkW_good wC_T_hasBit) rfl rfl rfl (hN (.methodLinkNest RC 38 yT_hasBit "TickLines") (by decide +kernel)) (hw _ wZ_T) (by decide +kernel) ⟨Nat.le_of_ble_eq_true rfl, Nat.le_of_ble_eq_true rfl⟩, hw _ wT_T_hasBit, trivial⟩ (tk_preS hK hN hP hD [] [] rfl rfl rfl) rfl rfl hl.1 rfl (lv_room (Nat.le_of_ble_eq_true rfl)) dC_chosenLevel_56 ⟨Nat.zero_le _, Nat.zero_le _⟩) (fun H locs hP hD hS => ?_)
        refine W.eq (g2 := F0 m 59 ls [.int (tkT_hasBit_r ((tkC_requests_r c) &&& ((c 3) ^^^ (-1))) (((c 6) + 2) &&& 7))]) rfl ?_
        refine lv_if_eq (tgt := 83) hx hb dC_chosenLevel_59 (by decide) (fun (h4_ : tkT_hasBit_r ((tkC_requests_r c) &&& ((c 3) ^^^ (-1))) (((c 6) + 2) &&& 7) = 0) => ?_) (fun (h4_ : ¬ (tkT_hasBit_r ((tkC_requests_r c) &&& ((c 3) ^^^ (-1))) (((c 6) + 2) &&& 7) = 0)) => ?_)
        · refine lv_iload hx hb dC_chosenLevel_83 (lv_at hl 0 rfl) ?_
          refine lv_if_eq (tgt := 90) hx hb dC_chosenLevel_85 (by decide) (fun (h5_ : tkT_hasBit_r (tkC_holdingLevels_r c) (((c 6) + 2) &&& 7) = 0) => ?_) (fun (h5_ : ¬ (tkT_hasBit_r (tkC_holdingLevels_r c) (((c 6) + 2) &&& 7) = 0)) => ?_)
          · refine lv_iinc (k := 2) (v := 3) hx hb dC_chosenLevel_90 hl rfl (by decide) (by decide) rfl (fun ls hl => ?_)
            have hl : lv_has ls 6 [(3, .int 3), (5, .int (tkT_hasBit_r (tkC_holdingLevels_r c) (((c 6) + 2) &&& 7))), (4, .int (((c 6) + 2) &&& 7)), (2, .int (tkC_holdingLevels_r c)), (1, .int ((tkC_requests_r c) &&& ((c 3) ^^^ (-1)))), (0, .ref h0)] := hl
            refine lv_goto (tgt := 28) hx hb dC_chosenLevel_93 (by decide) ?_
            refine lv_iload_n hx hb dC_chosenLevel_28 rfl (lv_at hl 0 rfl) ?_
            refine lv_bipush (v := 8) hx hb dC_chosenLevel_29 (by decide) ?_
            refine lv_icmp_gt (tgt := 96) hx hb dC_chosenLevel_31 (by decide) (fun h => absurd h (by decide)) (fun _ => ?_)
            refine lv_aload_n hx hb dC_chosenLevel_34 rfl (lv_at hl 5 rfl) ?_
            refine va_get (D := D) (ci := 0) (v := .int (c 6)) (C := RC) (T := TC) (N := 18) hx hb hw inC hown hK hP 0 rfl rfl 6 (by decide) f15 (fun _ h9 => h9) rfl dC_chosenLevel_35 ?_
            refine lv_iload_n hx hb dC_chosenLevel_38 rfl (lv_at hl 0 rfl) ?_
            refine lv_iadd hx hb dC_chosenLevel_39 ?_
            refine lv_bipush (v := 7) hx hb dC_chosenLevel_40 (by decide) ?_
            refine lv_iand hx hb dC_chosenLevel_42 ?_
            refine lv_istore hx hb dC_chosenLevel_43 hl (by decide) rfl (fun ls hl => ?_)
            have hl : lv_has ls 6 [(4, .int (((c 6) + 3) &&& 7)), (3, .int 3), (5, .int (tkT_hasBit_r (tkC_holdingLevels_r c) (((c 6) + 2) &&& 7))), (2, .int (tkC_holdingLevels_r c)), (1, .int ((tkC_requests_r c) &&& ((c 3) ^^^ (-1)))), (0, .ref h0)] := hl
            refine lv_iload_n hx hb dC_chosenLevel_45 rfl (lv_at hl 3 rfl) ?_
            refine lv_iload hx hb dC_chosenLevel_46 (lv_at hl 0 rfl) ?_
            refine tk_call0 hP hD hS hA (va_runSN (As := [.int (tkC_holdingLevels_r c), .int (((c 6) + 3) &&& 7)]) (rest := []) ⟨hx, hb, hml, hown, hw⟩ (kT_hasBit l D (tkC_holdingLevels_r c) (((c 6) + 3) &&& 7) H.size) ⟨va_cnB 2 hw (tk_g0 tkW_good wC_T_hasBit) rfl rfl rfl (hN (.methodLinkNest RC 38 yT_hasBit "TickLines") (by decide +kernel)) (hw _ wZ_T) (by decide +kernel) ⟨Nat.le_of_ble_eq_true rfl, Nat.le_of_ble_eq_true rfl⟩, hw _ wT_T_hasBit, trivial⟩ (tk_preS hK hN hP hD [] [] rfl rfl rfl) rfl rfl hl.1 rfl (lv_room (Nat.le_of_ble_eq_true rfl)) dC_chosenLevel_48 ⟨Nat.zero_le _, Nat.zero_le _⟩) (fun H locs hP hD hS => ?_)
            refine W.eq (g2 := F0 m 51 ls [.int (tkT_hasBit_r (tkC_holdingLevels_r c) (((c 6) + 3) &&& 7))]) rfl ?_
            refine lv_istore hx hb dC_chosenLevel_51 hl (by decide) rfl (fun ls hl => ?_)
            have hl : lv_has ls 6 [(5, .int (tkT_hasBit_r (tkC_holdingLevels_r c) (((c 6) + 3) &&& 7))), (4, .int (((c 6) + 3) &&& 7)), (3, .int 3), (2, .int (tkC_holdingLevels_r c)), (1, .int ((tkC_requests_r c) &&& ((c 3) ^^^ (-1)))), (0, .ref h0)] := hl
            refine lv_iload_n hx hb dC_chosenLevel_53 rfl (lv_at hl 4 rfl) ?_
            refine lv_iload hx hb dC_chosenLevel_54 (lv_at hl 1 rfl) ?_
            refine tk_call0 hP hD hS hA (va_runSN (As := [.int ((tkC_requests_r c) &&& ((c 3) ^^^ (-1))), .int (((c 6) + 3) &&& 7)]) (rest := []) ⟨hx, hb, hml, hown, hw⟩ (kT_hasBit l D ((tkC_requests_r c) &&& ((c 3) ^^^ (-1))) (((c 6) + 3) &&& 7) H.size) ⟨va_cnB 2 hw (tk_g0 tkW_good wC_T_hasBit) rfl rfl rfl (hN (.methodLinkNest RC 38 yT_hasBit "TickLines") (by decide +kernel)) (hw _ wZ_T) (by decide +kernel) ⟨Nat.le_of_ble_eq_true rfl, Nat.le_of_ble_eq_true rfl⟩, hw _ wT_T_hasBit, trivial⟩ (tk_preS hK hN hP hD [] [] rfl rfl rfl) rfl rfl hl.1 rfl (lv_room (Nat.le_of_ble_eq_true rfl)) dC_chosenLevel_56 ⟨Nat.zero_le _, Nat.zero_le _⟩) (fun H locs hP hD hS => ?_)
            refine W.eq (g2 := F0 m 59 ls [.int (tkT_hasBit_r ((tkC_requests_r c) &&& ((c 3) ^^^ (-1))) (((c 6) + 3) &&& 7))]) rfl ?_
            refine lv_if_eq (tgt := 83) hx hb dC_chosenLevel_59 (by decide) (fun (h6_ : tkT_hasBit_r ((tkC_requests_r c) &&& ((c 3) ^^^ (-1))) (((c 6) + 3) &&& 7) = 0) => ?_) (fun (h6_ : ¬ (tkT_hasBit_r ((tkC_requests_r c) &&& ((c 3) ^^^ (-1))) (((c 6) + 3) &&& 7) = 0)) => ?_)
            · refine lv_iload hx hb dC_chosenLevel_83 (lv_at hl 0 rfl) ?_
              refine lv_if_eq (tgt := 90) hx hb dC_chosenLevel_85 (by decide) (fun (h7_ : tkT_hasBit_r (tkC_holdingLevels_r c) (((c 6) + 3) &&& 7) = 0) => ?_) (fun (h7_ : ¬ (tkT_hasBit_r (tkC_holdingLevels_r c) (((c 6) + 3) &&& 7) = 0)) => ?_)
              · refine lv_iinc (k := 2) (v := 4) hx hb dC_chosenLevel_90 hl rfl (by decide) (by decide) rfl (fun ls hl => ?_)
                have hl : lv_has ls 6 [(3, .int 4), (5, .int (tkT_hasBit_r (tkC_holdingLevels_r c) (((c 6) + 3) &&& 7))), (4, .int (((c 6) + 3) &&& 7)), (2, .int (tkC_holdingLevels_r c)), (1, .int ((tkC_requests_r c) &&& ((c 3) ^^^ (-1)))), (0, .ref h0)] := hl
                refine lv_goto (tgt := 28) hx hb dC_chosenLevel_93 (by decide) ?_
                refine lv_iload_n hx hb dC_chosenLevel_28 rfl (lv_at hl 0 rfl) ?_
                refine lv_bipush (v := 8) hx hb dC_chosenLevel_29 (by decide) ?_
                refine lv_icmp_gt (tgt := 96) hx hb dC_chosenLevel_31 (by decide) (fun h => absurd h (by decide)) (fun _ => ?_)
                refine lv_aload_n hx hb dC_chosenLevel_34 rfl (lv_at hl 5 rfl) ?_
                refine va_get (D := D) (ci := 0) (v := .int (c 6)) (C := RC) (T := TC) (N := 18) hx hb hw inC hown hK hP 0 rfl rfl 6 (by decide) f15 (fun _ h9 => h9) rfl dC_chosenLevel_35 ?_
                refine lv_iload_n hx hb dC_chosenLevel_38 rfl (lv_at hl 0 rfl) ?_
                refine lv_iadd hx hb dC_chosenLevel_39 ?_
                refine lv_bipush (v := 7) hx hb dC_chosenLevel_40 (by decide) ?_
                refine lv_iand hx hb dC_chosenLevel_42 ?_
                refine lv_istore hx hb dC_chosenLevel_43 hl (by decide) rfl (fun ls hl => ?_)
                have hl : lv_has ls 6 [(4, .int (((c 6) + 4) &&& 7)), (3, .int 4), (5, .int (tkT_hasBit_r (tkC_holdingLevels_r c) (((c 6) + 3) &&& 7))), (2, .int (tkC_holdingLevels_r c)), (1, .int ((tkC_requests_r c) &&& ((c 3) ^^^ (-1)))), (0, .ref h0)] := hl
                refine lv_iload_n hx hb dC_chosenLevel_45 rfl (lv_at hl 3 rfl) ?_
                refine lv_iload hx hb dC_chosenLevel_46 (lv_at hl 0 rfl) ?_
                refine tk_call0 hP hD hS hA (va_runSN (As := [.int (tkC_holdingLevels_r c), .int (((c 6) + 4) &&& 7)]) (rest := []) ⟨hx, hb, hml, hown, hw⟩ (kT_hasBit l D (tkC_holdingLevels_r c) (((c 6) + 4) &&& 7) H.size) ⟨va_cnB 2 hw (tk_g0 tkW_good wC_T_hasBit) rfl rfl rfl (hN (.methodLinkNest RC 38 yT_hasBit "TickLines") (by decide +kernel)) (hw _ wZ_T) (by decide +kernel) ⟨Nat.le_of_ble_eq_true rfl, Nat.le_of_ble_eq_true rfl⟩, hw _ wT_T_hasBit, trivial⟩ (tk_preS hK hN hP hD [] [] rfl rfl rfl) rfl rfl hl.1 rfl (lv_room (Nat.le_of_ble_eq_true rfl)) dC_chosenLevel_48 ⟨Nat.zero_le _, Nat.zero_le _⟩) (fun H locs hP hD hS => ?_)
                refine W.eq (g2 := F0 m 51 ls [.int (tkT_hasBit_r (tkC_holdingLevels_r c) (((c 6) + 4) &&& 7))]) rfl ?_
                refine lv_istore hx hb dC_chosenLevel_51 hl (by decide) rfl (fun ls hl => ?_)
                have hl : lv_has ls 6 [(5, .int (tkT_hasBit_r (tkC_holdingLevels_r c) (((c 6) + 4) &&& 7))), (4, .int (((c 6) + 4) &&& 7)), (3, .int 4), (2, .int (tkC_holdingLevels_r c)), (1, .int ((tkC_requests_r c) &&& ((c 3) ^^^ (-1)))), (0, .ref h0)] := hl
                refine lv_iload_n hx hb dC_chosenLevel_53 rfl (lv_at hl 4 rfl) ?_
                refine lv_iload hx hb dC_chosenLevel_54 (lv_at hl 1 rfl) ?_
                refine tk_call0 hP hD hS hA (va_runSN (As := [.int ((tkC_requests_r c) &&& ((c 3) ^^^ (-1))), .int (((c 6) + 4) &&& 7)]) (rest := []) ⟨hx, hb, hml, hown, hw⟩ (kT_hasBit l D ((tkC_requests_r c) &&& ((c 3) ^^^ (-1))) (((c 6) + 4) &&& 7) H.size) ⟨va_cnB 2 hw (tk_g0 tkW_good wC_T_hasBit) rfl rfl rfl (hN (.methodLinkNest RC 38 yT_hasBit "TickLines") (by decide +kernel)) (hw _ wZ_T) (by decide +kernel) ⟨Nat.le_of_ble_eq_true rfl, Nat.le_of_ble_eq_true rfl⟩, hw _ wT_T_hasBit, trivial⟩ (tk_preS hK hN hP hD [] [] rfl rfl rfl) rfl rfl hl.1 rfl (lv_room (Nat.le_of_ble_eq_true rfl)) dC_chosenLevel_56 ⟨Nat.zero_le _, Nat.zero_le _⟩) (fun H locs hP hD hS => ?_)
                refine W.eq (g2 := F0 m 59 ls [.int (tkT_hasBit_r ((tkC_requests_r c) &&& ((c 3) ^^^ (-1))) (((c 6) + 4) &&& 7))]) rfl ?_
                refine lv_if_eq (tgt := 83) hx hb dC_chosenLevel_59 (by decide) (fun (h8_ : tkT_hasBit_r ((tkC_requests_r c) &&& ((c 3) ^^^ (-1))) (((c 6) + 4) &&& 7) = 0) => ?_) (fun (h8_ : ¬ (tkT_hasBit_r ((tkC_requests_r c) &&& ((c 3) ^^^ (-1))) (((c 6) + 4) &&& 7) = 0)) => ?_)
                · refine lv_iload hx hb dC_chosenLevel_83 (lv_at hl 0 rfl) ?_
                  refine lv_if_eq (tgt := 90) hx hb dC_chosenLevel_85 (by decide) (fun (h9_ : tkT_hasBit_r (tkC_holdingLevels_r c) (((c 6) + 4) &&& 7) = 0) => ?_) (fun (h9_ : ¬ (tkT_hasBit_r (tkC_holdingLevels_r c) (((c 6) + 4) &&& 7) = 0)) => ?_)
                  · refine lv_iinc (k := 2) (v := 5) hx hb dC_chosenLevel_90 hl rfl (by decide) (by decide) rfl (fun ls hl => ?_)
                    have hl : lv_has ls 6 [(3, .int 5), (5, .int (tkT_hasBit_r (tkC_holdingLevels_r c) (((c 6) + 4) &&& 7))), (4, .int (((c 6) + 4) &&& 7)), (2, .int (tkC_holdingLevels_r c)), (1, .int ((tkC_requests_r c) &&& ((c 3) ^^^ (-1)))), (0, .ref h0)] := hl
                    refine lv_goto (tgt := 28) hx hb dC_chosenLevel_93 (by decide) ?_
                    refine lv_iload_n hx hb dC_chosenLevel_28 rfl (lv_at hl 0 rfl) ?_
                    refine lv_bipush (v := 8) hx hb dC_chosenLevel_29 (by decide) ?_
                    refine lv_icmp_gt (tgt := 96) hx hb dC_chosenLevel_31 (by decide) (fun h => absurd h (by decide)) (fun _ => ?_)
                    refine lv_aload_n hx hb dC_chosenLevel_34 rfl (lv_at hl 5 rfl) ?_
                    refine va_get (D := D) (ci := 0) (v := .int (c 6)) (C := RC) (T := TC) (N := 18) hx hb hw inC hown hK hP 0 rfl rfl 6 (by decide) f15 (fun _ h9 => h9) rfl dC_chosenLevel_35 ?_
                    refine lv_iload_n hx hb dC_chosenLevel_38 rfl (lv_at hl 0 rfl) ?_
                    refine lv_iadd hx hb dC_chosenLevel_39 ?_
                    refine lv_bipush (v := 7) hx hb dC_chosenLevel_40 (by decide) ?_
                    refine lv_iand hx hb dC_chosenLevel_42 ?_
                    refine lv_istore hx hb dC_chosenLevel_43 hl (by decide) rfl (fun ls hl => ?_)
                    have hl : lv_has ls 6 [(4, .int (((c 6) + 5) &&& 7)), (3, .int 5), (5, .int (tkT_hasBit_r (tkC_holdingLevels_r c) (((c 6) + 4) &&& 7))), (2, .int (tkC_holdingLevels_r c)), (1, .int ((tkC_requests_r c) &&& ((c 3) ^^^ (-1)))), (0, .ref h0)] := hl
                    refine lv_iload_n hx hb dC_chosenLevel_45 rfl (lv_at hl 3 rfl) ?_
                    refine lv_iload hx hb dC_chosenLevel_46 (lv_at hl 0 rfl) ?_
                    refine tk_call0 hP hD hS hA (va_runSN (As := [.int (tkC_holdingLevels_r c), .int (((c 6) + 5) &&& 7)]) (rest := []) ⟨hx, hb, hml, hown, hw⟩ (kT_hasBit l D (tkC_holdingLevels_r c) (((c 6) + 5) &&& 7) H.size) ⟨va_cnB 2 hw (tk_g0 tkW_good wC_T_hasBit) rfl rfl rfl (hN (.methodLinkNest RC 38 yT_hasBit "TickLines") (by decide +kernel)) (hw _ wZ_T) (by decide +kernel) ⟨Nat.le_of_ble_eq_true rfl, Nat.le_of_ble_eq_true rfl⟩, hw _ wT_T_hasBit, trivial⟩ (tk_preS hK hN hP hD [] [] rfl rfl rfl) rfl rfl hl.1 rfl (lv_room (Nat.le_of_ble_eq_true rfl)) dC_chosenLevel_48 ⟨Nat.zero_le _, Nat.zero_le _⟩) (fun H locs hP hD hS => ?_)
                    refine W.eq (g2 := F0 m 51 ls [.int (tkT_hasBit_r (tkC_holdingLevels_r c) (((c 6) + 5) &&& 7))]) rfl ?_
                    refine lv_istore hx hb dC_chosenLevel_51 hl (by decide) rfl (fun ls hl => ?_)
                    have hl : lv_has ls 6 [(5, .int (tkT_hasBit_r (tkC_holdingLevels_r c) (((c 6) + 5) &&& 7))), (4, .int (((c 6) + 5) &&& 7)), (3, .int 5), (2, .int (tkC_holdingLevels_r c)), (1, .int ((tkC_requests_r c) &&& ((c 3) ^^^ (-1)))), (0, .ref h0)] := hl
                    refine lv_iload_n hx hb dC_chosenLevel_53 rfl (lv_at hl 4 rfl) ?_
                    refine lv_iload hx hb dC_chosenLevel_54 (lv_at hl 1 rfl) ?_
                    refine tk_call0 hP hD hS hA (va_runSN (As := [.int ((tkC_requests_r c) &&& ((c 3) ^^^ (-1))), .int (((c 6) + 5) &&& 7)]) (rest := []) ⟨hx, hb, hml, hown, hw⟩ (kT_hasBit l D ((tkC_requests_r c) &&& ((c 3) ^^^ (-1))) (((c 6) + 5) &&& 7) H.size) ⟨va_cnB 2 hw (tk_g0 tkW_good wC_T_hasBit) rfl rfl rfl (hN (.methodLinkNest RC 38 yT_hasBit "TickLines") (by decide +kernel)) (hw _ wZ_T) (by decide +kernel) ⟨Nat.le_of_ble_eq_true rfl, Nat.le_of_ble_eq_true rfl⟩, hw _ wT_T_hasBit, trivial⟩ (tk_preS hK hN hP hD [] [] rfl rfl rfl) rfl rfl hl.1 rfl (lv_room (Nat.le_of_ble_eq_true rfl)) dC_chosenLevel_56 ⟨Nat.zero_le _, Nat.zero_le _⟩) (fun H locs hP hD hS => ?_)
                    refine W.eq (g2 := F0 m 59 ls [.int (tkT_hasBit_r ((tkC_requests_r c) &&& ((c 3) ^^^ (-1))) (((c 6) + 5) &&& 7))]) rfl ?_
                    refine lv_if_eq (tgt := 83) hx hb dC_chosenLevel_59 (by decide) (fun (h10_ : tkT_hasBit_r ((tkC_requests_r c) &&& ((c 3) ^^^ (-1))) (((c 6) + 5) &&& 7) = 0) => ?_) (fun (h10_ : ¬ (tkT_hasBit_r ((tkC_requests_r c) &&& ((c 3) ^^^ (-1))) (((c 6) + 5) &&& 7) = 0)) => ?_)
                    · refine lv_iload hx hb dC_chosenLevel_83 (lv_at hl 0 rfl) ?_
                      refine lv_if_eq (tgt := 90) hx hb dC_chosenLevel_85 (by decide) (fun (h11_ : tkT_hasBit_r (tkC_holdingLevels_r c) (((c 6) + 5) &&& 7) = 0) => ?_) (fun (h11_ : ¬ (tkT_hasBit_r (tkC_holdingLevels_r c) (((c 6) + 5) &&& 7) = 0)) => ?_)
                      · refine lv_iinc (k := 2) (v := 6) hx hb dC_chosenLevel_90 hl rfl (by decide) (by decide) rfl (fun ls hl => ?_)
                        have hl : lv_has ls 6 [(3, .int 6), (5, .int (tkT_hasBit_r (tkC_holdingLevels_r c) (((c 6) + 5) &&& 7))), (4, .int (((c 6) + 5) &&& 7)), (2, .int (tkC_holdingLevels_r c)), (1, .int ((tkC_requests_r c) &&& ((c 3) ^^^ (-1)))), (0, .ref h0)] := hl
                        refine lv_goto (tgt := 28) hx hb dC_chosenLevel_93 (by decide) ?_
                        refine lv_iload_n hx hb dC_chosenLevel_28 rfl (lv_at hl 0 rfl) ?_
                        refine lv_bipush (v := 8) hx hb dC_chosenLevel_29 (by decide) ?_
                        refine lv_icmp_gt (tgt := 96) hx hb dC_chosenLevel_31 (by decide) (fun h => absurd h (by decide)) (fun _ => ?_)
                        refine lv_aload_n hx hb dC_chosenLevel_34 rfl (lv_at hl 5 rfl) ?_
                        refine va_get (D := D) (ci := 0) (v := .int (c 6)) (C := RC) (T := TC) (N := 18) hx hb hw inC hown hK hP 0 rfl rfl 6 (by decide) f15 (fun _ h9 => h9) rfl dC_chosenLevel_35 ?_
                        refine lv_iload_n hx hb dC_chosenLevel_38 rfl (lv_at hl 0 rfl) ?_
                        refine lv_iadd hx hb dC_chosenLevel_39 ?_
                        refine lv_bipush (v := 7) hx hb dC_chosenLevel_40 (by decide) ?_
                        refine lv_iand hx hb dC_chosenLevel_42 ?_
                        refine lv_istore hx hb dC_chosenLevel_43 hl (by decide) rfl (fun ls hl => ?_)
                        have hl : lv_has ls 6 [(4, .int (((c 6) + 6) &&& 7)), (3, .int 6), (5, .int (tkT_hasBit_r (tkC_holdingLevels_r c) (((c 6) + 5) &&& 7))), (2, .int (tkC_holdingLevels_r c)), (1, .int ((tkC_requests_r c) &&& ((c 3) ^^^ (-1)))), (0, .ref h0)] := hl
                        refine lv_iload_n hx hb dC_chosenLevel_45 rfl (lv_at hl 3 rfl) ?_
                        refine lv_iload hx hb dC_chosenLevel_46 (lv_at hl 0 rfl) ?_
                        refine tk_call0 hP hD hS hA (va_runSN (As := [.int (tkC_holdingLevels_r c), .int (((c 6) + 6) &&& 7)]) (rest := []) ⟨hx, hb, hml, hown, hw⟩ (kT_hasBit l D (tkC_holdingLevels_r c) (((c 6) + 6) &&& 7) H.size) ⟨va_cnB 2 hw (tk_g0 tkW_good wC_T_hasBit) rfl rfl rfl (hN (.methodLinkNest RC 38 yT_hasBit "TickLines") (by decide +kernel)) (hw _ wZ_T) (by decide +kernel) ⟨Nat.le_of_ble_eq_true rfl, Nat.le_of_ble_eq_true rfl⟩, hw _ wT_T_hasBit, trivial⟩ (tk_preS hK hN hP hD [] [] rfl rfl rfl) rfl rfl hl.1 rfl (lv_room (Nat.le_of_ble_eq_true rfl)) dC_chosenLevel_48 ⟨Nat.zero_le _, Nat.zero_le _⟩) (fun H locs hP hD hS => ?_)
                        refine W.eq (g2 := F0 m 51 ls [.int (tkT_hasBit_r (tkC_holdingLevels_r c) (((c 6) + 6) &&& 7))]) rfl ?_
                        refine lv_istore hx hb dC_chosenLevel_51 hl (by decide) rfl (fun ls hl => ?_)
                        have hl : lv_has ls 6 [(5, .int (tkT_hasBit_r (tkC_holdingLevels_r c) (((c 6) + 6) &&& 7))), (4, .int (((c 6) + 6) &&& 7)), (3, .int 6), (2, .int (tkC_holdingLevels_r c)), (1, .int ((tkC_requests_r c) &&& ((c 3) ^^^ (-1)))), (0, .ref h0)] := hl
                        refine lv_iload_n hx hb dC_chosenLevel_53 rfl (lv_at hl 4 rfl) ?_
                        refine lv_iload hx hb dC_chosenLevel_54 (lv_at hl 1 rfl) ?_
                        refine tk_call0 hP hD hS hA (va_runSN (As := [.int ((tkC_requests_r c) &&& ((c 3) ^^^ (-1))), .int (((c 6) + 6) &&& 7)]) (rest := []) ⟨hx, hb, hml, hown, hw⟩ (kT_hasBit l D ((tkC_requests_r c) &&& ((c 3) ^^^ (-1))) (((c 6) + 6) &&& 7) H.size) ⟨va_cnB 2 hw (tk_g0 tkW_good wC_T_hasBit) rfl rfl rfl (hN (.methodLinkNest RC 38 yT_hasBit "TickLines") (by decide +kernel)) (hw _ wZ_T) (by decide +kernel) ⟨Nat.le_of_ble_eq_true rfl, Nat.le_of_ble_eq_true rfl⟩, hw _ wT_T_hasBit, trivial⟩ (tk_preS hK hN hP hD [] [] rfl rfl rfl) rfl rfl hl.1 rfl (lv_room (Nat.le_of_ble_eq_true rfl)) dC_chosenLevel_56 ⟨Nat.zero_le _, Nat.zero_le _⟩) (fun H locs hP hD hS => ?_)
                        refine W.eq (g2 := F0 m 59 ls [.int (tkT_hasBit_r ((tkC_requests_r c) &&& ((c 3) ^^^ (-1))) (((c 6) + 6) &&& 7))]) rfl ?_
                        refine lv_if_eq (tgt := 83) hx hb dC_chosenLevel_59 (by decide) (fun (h12_ : tkT_hasBit_r ((tkC_requests_r c) &&& ((c 3) ^^^ (-1))) (((c 6) + 6) &&& 7) = 0) => ?_) (fun (h12_ : ¬ (tkT_hasBit_r ((tkC_requests_r c) &&& ((c 3) ^^^ (-1))) (((c 6) + 6) &&& 7) = 0)) => ?_)
                        · refine lv_iload hx hb dC_chosenLevel_83 (lv_at hl 0 rfl) ?_
                          refine lv_if_eq (tgt := 90) hx hb dC_chosenLevel_85 (by decide) (fun (h13_ : tkT_hasBit_r (tkC_holdingLevels_r c) (((c 6) + 6) &&& 7) = 0) => ?_) (fun (h13_ : ¬ (tkT_hasBit_r (tkC_holdingLevels_r c) (((c 6) + 6) &&& 7) = 0)) => ?_)
                          · refine lv_iinc (k := 2) (v := 7) hx hb dC_chosenLevel_90 hl rfl (by decide) (by decide) rfl (fun ls hl => ?_)
                            have hl : lv_has ls 6 [(3, .int 7), (5, .int (tkT_hasBit_r (tkC_holdingLevels_r c) (((c 6) + 6) &&& 7))), (4, .int (((c 6) + 6) &&& 7)), (2, .int (tkC_holdingLevels_r c)), (1, .int ((tkC_requests_r c) &&& ((c 3) ^^^ (-1)))), (0, .ref h0)] := hl
                            refine lv_goto (tgt := 28) hx hb dC_chosenLevel_93 (by decide) ?_
                            refine lv_iload_n hx hb dC_chosenLevel_28 rfl (lv_at hl 0 rfl) ?_
                            refine lv_bipush (v := 8) hx hb dC_chosenLevel_29 (by decide) ?_
                            refine lv_icmp_gt (tgt := 96) hx hb dC_chosenLevel_31 (by decide) (fun h => absurd h (by decide)) (fun _ => ?_)
                            refine lv_aload_n hx hb dC_chosenLevel_34 rfl (lv_at hl 5 rfl) ?_
                            refine va_get (D := D) (ci := 0) (v := .int (c 6)) (C := RC) (T := TC) (N := 18) hx hb hw inC hown hK hP 0 rfl rfl 6 (by decide) f15 (fun _ h9 => h9) rfl dC_chosenLevel_35 ?_
                            refine lv_iload_n hx hb dC_chosenLevel_38 rfl (lv_at hl 0 rfl) ?_
                            refine lv_iadd hx hb dC_chosenLevel_39 ?_
                            refine lv_bipush (v := 7) hx hb dC_chosenLevel_40 (by decide) ?_
                            refine lv_iand hx hb dC_chosenLevel_42 ?_
                            refine lv_istore hx hb dC_chosenLevel_43 hl (by decide) rfl (fun ls hl => ?_)
                            have hl : lv_has ls 6 [(4, .int (((c 6) + 7) &&& 7)), (3, .int 7), (5, .int (tkT_hasBit_r (tkC_holdingLevels_r c) (((c 6) + 6) &&& 7))), (2, .int (tkC_holdingLevels_r c)), (1, .int ((tkC_requests_r c) &&& ((c 3) ^^^ (-1)))), (0, .ref h0)] := hl
                            refine lv_iload_n hx hb dC_chosenLevel_45 rfl (lv_at hl 3 rfl) ?_
                            refine lv_iload hx hb dC_chosenLevel_46 (lv_at hl 0 rfl) ?_
                            refine tk_call0 hP hD hS hA (va_runSN (As := [.int (tkC_holdingLevels_r c), .int (((c 6) + 7) &&& 7)]) (rest := []) ⟨hx, hb, hml, hown, hw⟩ (kT_hasBit l D (tkC_holdingLevels_r c) (((c 6) + 7) &&& 7) H.size) ⟨va_cnB 2 hw (tk_g0 tkW_good wC_T_hasBit) rfl rfl rfl (hN (.methodLinkNest RC 38 yT_hasBit "TickLines") (by decide +kernel)) (hw _ wZ_T) (by decide +kernel) ⟨Nat.le_of_ble_eq_true rfl, Nat.le_of_ble_eq_true rfl⟩, hw _ wT_T_hasBit, trivial⟩ (tk_preS hK hN hP hD [] [] rfl rfl rfl) rfl rfl hl.1 rfl (lv_room (Nat.le_of_ble_eq_true rfl)) dC_chosenLevel_48 ⟨Nat.zero_le _, Nat.zero_le _⟩) (fun H locs hP hD hS => ?_)
                            refine W.eq (g2 := F0 m 51 ls [.int (tkT_hasBit_r (tkC_holdingLevels_r c) (((c 6) + 7) &&& 7))]) rfl ?_
                            refine lv_istore hx hb dC_chosenLevel_51 hl (by decide) rfl (fun ls hl => ?_)
                            have hl : lv_has ls 6 [(5, .int (tkT_hasBit_r (tkC_holdingLevels_r c) (((c 6) + 7) &&& 7))), (4, .int (((c 6) + 7) &&& 7)), (3, .int 7), (2, .int (tkC_holdingLevels_r c)), (1, .int ((tkC_requests_r c) &&& ((c 3) ^^^ (-1)))), (0, .ref h0)] := hl
                            refine lv_iload_n hx hb dC_chosenLevel_53 rfl (lv_at hl 4 rfl) ?_
                            refine lv_iload hx hb dC_chosenLevel_54 (lv_at hl 1 rfl) ?_
                            refine tk_call0 hP hD hS hA (va_runSN (As := [.int ((tkC_requests_r c) &&& ((c 3) ^^^ (-1))), .int (((c 6) + 7) &&& 7)]) (rest := []) ⟨hx, hb, hml, hown, hw⟩ (kT_hasBit l D ((tkC_requests_r c) &&& ((c 3) ^^^ (-1))) (((c 6) + 7) &&& 7) H.size) ⟨va_cnB 2 hw (tk_g0 tkW_good wC_T_hasBit) rfl rfl rfl (hN (.methodLinkNest RC 38 yT_hasBit "TickLines") (by decide +kernel)) (hw _ wZ_T) (by decide +kernel) ⟨Nat.le_of_ble_eq_true rfl, Nat.le_of_ble_eq_true rfl⟩, hw _ wT_T_hasBit, trivial⟩ (tk_preS hK hN hP hD [] [] rfl rfl rfl) rfl rfl hl.1 rfl (lv_room (Nat.le_of_ble_eq_true rfl)) dC_chosenLevel_56 ⟨Nat.zero_le _, Nat.zero_le _⟩) (fun H locs hP hD hS => ?_)
                            refine W.eq (g2 := F0 m 59 ls [.int (tkT_hasBit_r ((tkC_requests_r c) &&& ((c 3) ^^^ (-1))) (((c 6) + 7) &&& 7))]) rfl ?_
                            refine lv_if_eq (tgt := 83) hx hb dC_chosenLevel_59 (by decide) (fun (h14_ : tkT_hasBit_r ((tkC_requests_r c) &&& ((c 3) ^^^ (-1))) (((c 6) + 7) &&& 7) = 0) => ?_) (fun (h14_ : ¬ (tkT_hasBit_r ((tkC_requests_r c) &&& ((c 3) ^^^ (-1))) (((c 6) + 7) &&& 7) = 0)) => ?_)
                            · refine lv_iload hx hb dC_chosenLevel_83 (lv_at hl 0 rfl) ?_
                              refine lv_if_eq (tgt := 90) hx hb dC_chosenLevel_85 (by decide) (fun (h15_ : tkT_hasBit_r (tkC_holdingLevels_r c) (((c 6) + 7) &&& 7) = 0) => ?_) (fun (h15_ : ¬ (tkT_hasBit_r (tkC_holdingLevels_r c) (((c 6) + 7) &&& 7) = 0)) => ?_)
                              · refine lv_iinc (k := 2) (v := 8) hx hb dC_chosenLevel_90 hl rfl (by decide) (by decide) rfl (fun ls hl => ?_)
                                have hl : lv_has ls 6 [(3, .int 8), (5, .int (tkT_hasBit_r (tkC_holdingLevels_r c) (((c 6) + 7) &&& 7))), (4, .int (((c 6) + 7) &&& 7)), (2, .int (tkC_holdingLevels_r c)), (1, .int ((tkC_requests_r c) &&& ((c 3) ^^^ (-1)))), (0, .ref h0)] := hl
                                refine lv_goto (tgt := 28) hx hb dC_chosenLevel_93 (by decide) ?_
                                refine lv_iload_n hx hb dC_chosenLevel_28 rfl (lv_at hl 0 rfl) ?_
                                refine lv_bipush (v := 8) hx hb dC_chosenLevel_29 (by decide) ?_
                                refine lv_icmp_gt (tgt := 96) hx hb dC_chosenLevel_31 (by decide) (fun h => absurd h (by decide)) (fun _ => ?_)
                                refine lv_aload_n hx hb dC_chosenLevel_34 rfl (lv_at hl 5 rfl) ?_
                                refine va_get (D := D) (ci := 0) (v := .int (c 6)) (C := RC) (T := TC) (N := 18) hx hb hw inC hown hK hP 0 rfl rfl 6 (by decide) f15 (fun _ h9 => h9) rfl dC_chosenLevel_35 ?_
                                refine lv_iload_n hx hb dC_chosenLevel_38 rfl (lv_at hl 0 rfl) ?_
                                refine lv_iadd hx hb dC_chosenLevel_39 ?_
                                refine lv_bipush (v := 7) hx hb dC_chosenLevel_40 (by decide) ?_
                                refine lv_iand hx hb dC_chosenLevel_42 ?_
                                refine lv_istore hx hb dC_chosenLevel_43 hl (by decide) rfl (fun ls hl => ?_)
                                have hl : lv_has ls 6 [(4, .int (((c 6) + 8) &&& 7)), (3, .int 8), (5, .int (tkT_hasBit_r (tkC_holdingLevels_r c) (((c 6) + 7) &&& 7))), (2, .int (tkC_holdingLevels_r c)), (1, .int ((tkC_requests_r c) &&& ((c 3) ^^^ (-1)))), (0, .ref h0)] := hl
                                refine lv_iload_n hx hb dC_chosenLevel_45 rfl (lv_at hl 3 rfl) ?_
                                refine lv_iload hx hb dC_chosenLevel_46 (lv_at hl 0 rfl) ?_
                                refine tk_call0 hP hD hS hA (va_runSN (As := [.int (tkC_holdingLevels_r c), .int (((c 6) + 8) &&& 7)]) (rest := []) ⟨hx, hb, hml, hown, hw⟩ (kT_hasBit l D (tkC_holdingLevels_r c) (((c 6) + 8) &&& 7) H.size) ⟨va_cnB 2 hw (tk_g0 tkW_good wC_T_hasBit) rfl rfl rfl (hN (.methodLinkNest RC 38 yT_hasBit "TickLines") (by decide +kernel)) (hw _ wZ_T) (by decide +kernel) ⟨Nat.le_of_ble_eq_true rfl, Nat.le_of_ble_eq_true rfl⟩, hw _ wT_T_hasBit, trivial⟩ (tk_preS hK hN hP hD [] [] rfl rfl rfl) rfl rfl hl.1 rfl (lv_room (Nat.le_of_ble_eq_true rfl)) dC_chosenLevel_48 ⟨Nat.zero_le _, Nat.zero_le _⟩) (fun H locs hP hD hS => ?_)
                                refine W.eq (g2 := F0 m 51 ls [.int (tkT_hasBit_r (tkC_holdingLevels_r c) (((c 6) + 8) &&& 7))]) rfl ?_
                                refine lv_istore hx hb dC_chosenLevel_51 hl (by decide) rfl (fun ls hl => ?_)
                                have hl : lv_has ls 6 [(5, .int (tkT_hasBit_r (tkC_holdingLevels_r c) (((c 6) + 8) &&& 7))), (4, .int (((c 6) + 8) &&& 7)), (3, .int 8), (2, .int (tkC_holdingLevels_r c)), (1, .int ((tkC_requests_r c) &&& ((c 3) ^^^ (-1)))), (0, .ref h0)] := hl
                                refine lv_iload_n hx hb dC_chosenLevel_53 rfl (lv_at hl 4 rfl) ?_
                                refine lv_iload hx hb dC_chosenLevel_54 (lv_at hl 1 rfl) ?_
                                refine tk_call0 hP hD hS hA (va_runSN (As := [.int ((tkC_requests_r c) &&& ((c 3) ^^^ (-1))), .int (((c 6) + 8) &&& 7)]) (rest := []) ⟨hx, hb, hml, hown, hw⟩ (kT_hasBit l D ((tkC_requests_r c) &&& ((c 3) ^^^ (-1))) (((c 6) + 8) &&& 7) H.size) ⟨va_cnB 2 hw (tk_g0 tkW_good wC_T_hasBit) rfl rfl rfl (hN (.methodLinkNest RC 38 yT_hasBit "TickLines") (by decide +kernel)) (hw _ wZ_T) (by decide +kernel) ⟨Nat.le_of_ble_eq_true rfl, Nat.le_of_ble_eq_true rfl⟩, hw _ wT_T_hasBit, trivial⟩ (tk_preS hK hN hP hD [] [] rfl rfl rfl) rfl rfl hl.1 rfl (lv_room (Nat.le_of_ble_eq_true rfl)) dC_chosenLevel_56 ⟨Nat.zero_le _, Nat.zero_le _⟩) (fun H locs hP hD hS => ?_)
                                refine W.eq (g2 := F0 m 59 ls [.int (tkT_hasBit_r ((tkC_requests_r c) &&& ((c 3) ^^^ (-1))) (((c 6) + 8) &&& 7))]) rfl ?_
                                refine lv_if_eq (tgt := 83) hx hb dC_chosenLevel_59 (by decide) (fun (h16_ : tkT_hasBit_r ((tkC_requests_r c) &&& ((c 3) ^^^ (-1))) (((c 6) + 8) &&& 7) = 0) => ?_) (fun (h16_ : ¬ (tkT_hasBit_r ((tkC_requests_r c) &&& ((c 3) ^^^ (-1))) (((c 6) + 8) &&& 7) = 0)) => ?_)
                                · refine lv_iload hx hb dC_chosenLevel_83 (lv_at hl 0 rfl) ?_
                                  refine lv_if_eq (tgt := 90) hx hb dC_chosenLevel_85 (by decide) (fun (h17_ : tkT_hasBit_r (tkC_holdingLevels_r c) (((c 6) + 8) &&& 7) = 0) => ?_) (fun (h17_ : ¬ (tkT_hasBit_r (tkC_holdingLevels_r c) (((c 6) + 8) &&& 7) = 0)) => ?_)
                                  · refine lv_iinc (k := 2) (v := 9) hx hb dC_chosenLevel_90 hl rfl (by decide) (by decide) rfl (fun ls hl => ?_)
                                    have hl : lv_has ls 6 [(3, .int 9), (5, .int (tkT_hasBit_r (tkC_holdingLevels_r c) (((c 6) + 8) &&& 7))), (4, .int (((c 6) + 8) &&& 7)), (2, .int (tkC_holdingLevels_r c)), (1, .int ((tkC_requests_r c) &&& ((c 3) ^^^ (-1)))), (0, .ref h0)] := hl
                                    refine lv_goto (tgt := 28) hx hb dC_chosenLevel_93 (by decide) ?_
                                    refine lv_iload_n hx hb dC_chosenLevel_28 rfl (lv_at hl 0 rfl) ?_
                                    refine lv_bipush (v := 8) hx hb dC_chosenLevel_29 (by decide) ?_
                                    refine lv_icmp_gt (tgt := 96) hx hb dC_chosenLevel_31 (by decide) (fun _ => ?_) (fun h => absurd (by decide) h)
                                    refine lv_iconst (v := -1) hx hb dC_chosenLevel_96 (by decide) ?_
                                    exact tk_iret hx hb hr hlk hP hD hS dC_chosenLevel_97 (by unfold tkC_chosenLevel_r; rw [if_neg h1_, if_pos h2_, if_pos h3_, if_pos h4_, if_pos h5_, if_pos h6_, if_pos h7_, if_pos h8_, if_pos h9_, if_pos h10_, if_pos h11_, if_pos h12_, if_pos h13_, if_pos h14_, if_pos h15_, if_pos h16_]) rfl
                                  · refine lv_iconst (v := -1) hx hb dC_chosenLevel_88 (by decide) ?_
                                    exact tk_iret hx hb hr hlk hP hD hS dC_chosenLevel_89 (by unfold tkC_chosenLevel_r; rw [if_neg h1_, if_pos h2_, if_pos h3_, if_pos h4_, if_pos h5_, if_pos h6_, if_pos h7_, if_pos h8_, if_pos h9_, if_pos h10_, if_pos h11_, if_pos h12_, if_pos h13_, if_pos h14_, if_pos h15_, if_pos h16_]) rfl
                                · refine lv_iload hx hb dC_chosenLevel_62 (lv_at hl 0 rfl) ?_
                                  refine lv_if_eq (tgt := 80) hx hb dC_chosenLevel_64 (by decide) (fun (h18_ : tkT_hasBit_r (tkC_holdingLevels_r c) (((c 6) + 8) &&& 7) = 0) => ?_) (fun (h18_ : ¬ (tkT_hasBit_r (tkC_holdingLevels_r c) (((c 6) + 8) &&& 7) = 0)) => ?_)
                                  · refine lv_iload hx hb dC_chosenLevel_80 (lv_at hl 1 rfl) ?_
                                    exact tk_iret hx hb hr hlk hP hD hS dC_chosenLevel_82 (by unfold tkC_chosenLevel_r; rw [if_neg h1_, if_pos h2_, if_pos h3_, if_pos h4_, if_pos h5_, if_pos h6_, if_pos h7_, if_pos h8_, if_pos h9_, if_pos h10_, if_pos h11_, if_pos h12_, if_pos h13_, if_pos h14_, if_pos h15_, if_neg h16_, if_pos h18_]) rfl
                                  · refine lv_aload_n hx hb dC_chosenLevel_67 rfl (lv_at hl 5 rfl) ?_
                                    refine lv_iload hx hb dC_chosenLevel_68 (lv_at hl 1 rfl) ?_
                                    refine tk_callA hD hS hA (va_runV (As := [.int (((c 6) + 8) &&& 7)]) (rest := []) ⟨hx, hb, hml, hown, hw⟩ (kC_mayNest l D h0 c (((c 6) + 8) &&& 7) H.size) (cwV 1 hw (tk_gV tkW_good wM_C_42 wI_C_mayNest wS_C_mayNest wZ_C wC_C_mayNest) rfl rfl rfl (by decide +kernel) ⟨Nat.le_of_ble_eq_true rfl, Nat.le_of_ble_eq_true rfl⟩) (tk_preV (q0 := 0) hK hN hP hD [0] [] rfl rfl rfl rfl rfl) rfl rfl hl.1 rfl (lv_room (Nat.le_of_ble_eq_true rfl)) dC_chosenLevel_70 ⟨Nat.zero_le _, Nat.zero_le _⟩) (fun H locs hP hD hS => ?_)
                                    refine W.eq (g2 := F0 m 73 ls [.int (tkC_mayNest_r c (((c 6) + 8) &&& 7))]) rfl ?_
                                    refine lv_if_ne (tgt := 80) hx hb dC_chosenLevel_73 (by decide) (fun (h19_ : ¬ (tkC_mayNest_r c (((c 6) + 8) &&& 7) = 0)) => ?_) (fun (h19_ : tkC_mayNest_r c (((c 6) + 8) &&& 7) = 0) => ?_)
                                    · refine lv_iload hx hb dC_chosenLevel_80 (lv_at hl 1 rfl) ?_
                                      exact tk_iret hx hb hr hlk hP hD hS dC_chosenLevel_82 (by unfold tkC_chosenLevel_r; rw [if_neg h1_, if_pos h2_, if_pos h3_, if_pos h4_, if_pos h5_, if_pos h6_, if_pos h7_, if_pos h8_, if_pos h9_, if_pos h10_, if_pos h11_, if_pos h12_, if_pos h13_, if_pos h14_, if_pos h15_, if_neg h16_, if_neg h18_, if_neg h19_]) rfl
                                    · refine lv_iconst (v := -1) hx hb dC_chosenLevel_76 (by decide) ?_
                                      refine lv_goto (tgt := 82) hx hb dC_chosenLevel_77 (by decide) ?_
                                      exact tk_iret hx hb hr hlk hP hD hS dC_chosenLevel_82 (by unfold tkC_chosenLevel_r; rw [if_neg h1_, if_pos h2_, if_pos h3_, if_pos h4_, if_pos h5_, if_pos h6_, if_pos h7_, if_pos h8_, if_pos h9_, if_pos h10_, if_pos h11_, if_pos h12_, if_pos h13_, if_pos h14_, if_pos h15_, if_neg h16_, if_neg h18_, if_pos h19_]) rfl
                              · refine lv_iconst (v := -1) hx hb dC_chosenLevel_88 (by decide) ?_
                                exact tk_iret hx hb hr hlk hP hD hS dC_chosenLevel_89 (by unfold tkC_chosenLevel_r; rw [if_neg h1_, if_pos h2_, if_pos h3_, if_pos h4_, if_pos h5_, if_pos h6_, if_pos h7_, if_pos h8_, if_pos h9_, if_pos h10_, if_pos h11_, if_pos h12_, if_pos h13_, if_pos h14_, if_neg h15_]) rfl
                            · refine lv_iload hx hb dC_chosenLevel_62 (lv_at hl 0 rfl) ?_
                              refine lv_if_eq (tgt := 80) hx hb dC_chosenLevel_64 (by decide) (fun (h20_ : tkT_hasBit_r (tkC_holdingLevels_r c) (((c 6) + 7) &&& 7) = 0) => ?_) (fun (h20_ : ¬ (tkT_hasBit_r (tkC_holdingLevels_r c) (((c 6) + 7) &&& 7) = 0)) => ?_)
                              · refine lv_iload hx hb dC_chosenLevel_80 (lv_at hl 1 rfl) ?_
                                exact tk_iret hx hb hr hlk hP hD hS dC_chosenLevel_82 (by unfold tkC_chosenLevel_r; rw [if_neg h1_, if_pos h2_, if_pos h3_, if_pos h4_, if_pos h5_, if_pos h6_, if_pos h7_, if_pos h8_, if_pos h9_, if_pos h10_, if_pos h11_, if_pos h12_, if_pos h13_, if_neg h14_, if_pos h20_]) rfl
                              · refine lv_aload_n hx hb dC_chosenLevel_67 rfl (lv_at hl 5 rfl) ?_
                                refine lv_iload hx hb dC_chosenLevel_68 (lv_at hl 1 rfl) ?_
                                refine tk_callA hD hS hA (va_runV (As := [.int (((c 6) + 7) &&& 7)]) (rest := []) ⟨hx, hb, hml, hown, hw⟩ (kC_mayNest l D h0 c (((c 6) + 7) &&& 7) H.size) (cwV 1 hw (tk_gV tkW_good wM_C_42 wI_C_mayNest wS_C_mayNest wZ_C wC_C_mayNest) rfl rfl rfl (by decide +kernel) ⟨Nat.le_of_ble_eq_true rfl, Nat.le_of_ble_eq_true rfl⟩) (tk_preV (q0 := 0) hK hN hP hD [0] [] rfl rfl rfl rfl rfl) rfl rfl hl.1 rfl (lv_room (Nat.le_of_ble_eq_true rfl)) dC_chosenLevel_70 ⟨Nat.zero_le _, Nat.zero_le _⟩) (fun H locs hP hD hS => ?_)
                                refine W.eq (g2 := F0 m 73 ls [.int (tkC_mayNest_r c (((c 6) + 7) &&& 7))]) rfl ?_
                                refine lv_if_ne (tgt := 80) hx hb dC_chosenLevel_73 (by decide) (fun (h21_ : ¬ (tkC_mayNest_r c (((c 6) + 7) &&& 7) = 0)) => ?_) (fun (h21_ : tkC_mayNest_r c (((c 6) + 7) &&& 7) = 0) => ?_)
                                · refine lv_iload hx hb dC_chosenLevel_80 (lv_at hl 1 rfl) ?_
                                  exact tk_iret hx hb hr hlk hP hD hS dC_chosenLevel_82 (by unfold tkC_chosenLevel_r; rw [if_neg h1_, if_pos h2_, if_pos h3_, if_pos h4_, if_pos h5_, if_pos h6_, if_pos h7_, if_pos h8_, if_pos h9_, if_pos h10_, if_pos h11_, if_pos h12_, if_pos h13_, if_neg h14_, if_neg h20_, if_neg h21_]) rfl
                                · refine lv_iconst (v := -1) hx hb dC_chosenLevel_76 (by decide) ?_
                                  refine lv_goto (tgt := 82) hx hb dC_chosenLevel_77 (by decide) ?_
                                  exact tk_iret hx hb hr hlk hP hD hS dC_chosenLevel_82 (by unfold tkC_chosenLevel_r; rw [if_neg h1_, if_pos h2_, if_pos h3_, if_pos h4_, if_pos h5_, if_pos h6_, if_pos h7_, if_pos h8_, if_pos h9_, if_pos h10_, if_pos h11_, if_pos h12_, if_pos h13_, if_neg h14_, if_neg h20_, if_pos h21_]) rfl
                          · refine lv_iconst (v := -1) hx hb dC_chosenLevel_88 (by decide) ?_
                            exact tk_iret hx hb hr hlk hP hD hS dC_chosenLevel_89 (by unfold tkC_chosenLevel_r; rw [if_neg h1_, if_pos h2_, if_pos h3_, if_pos h4_, if_pos h5_, if_pos h6_, if_pos h7_, if_pos h8_, if_pos h9_, if_pos h10_, if_pos h11_, if_pos h12_, if_neg h13_]) rfl
                        · refine lv_iload hx hb dC_chosenLevel_62 (lv_at hl 0 rfl) ?_
                          refine lv_if_eq (tgt := 80) hx hb dC_chosenLevel_64 (by decide) (fun (h22_ : tkT_hasBit_r (tkC_holdingLevels_r c) (((c 6) + 6) &&& 7) = 0) => ?_) (fun (h22_ : ¬ (tkT_hasBit_r (tkC_holdingLevels_r c) (((c 6) + 6) &&& 7) = 0)) => ?_)
                          · refine lv_iload hx hb dC_chosenLevel_80 (lv_at hl 1 rfl) ?_
                            exact tk_iret hx hb hr hlk hP hD hS dC_chosenLevel_82 (by unfold tkC_chosenLevel_r; rw [if_neg h1_, if_pos h2_, if_pos h3_, if_pos h4_, if_pos h5_, if_pos h6_, if_pos h7_, if_pos h8_, if_pos h9_, if_pos h10_, if_pos h11_, if_neg h12_, if_pos h22_]) rfl
                          · refine lv_aload_n hx hb dC_chosenLevel_67 rfl (lv_at hl 5 rfl) ?_
                            refine lv_iload hx hb dC_chosenLevel_68 (lv_at hl 1 rfl) ?_
                            refine tk_callA hD hS hA (va_runV (As := [.int (((c 6) + 6) &&& 7)]) (rest := []) ⟨hx, hb, hml, hown, hw⟩ (kC_mayNest l D h0 c (((c 6) + 6) &&& 7) H.size) (cwV 1 hw (tk_gV tkW_good wM_C_42 wI_C_mayNest wS_C_mayNest wZ_C wC_C_mayNest) rfl rfl rfl (by decide +kernel) ⟨Nat.le_of_ble_eq_true rfl, Nat.le_of_ble_eq_true rfl⟩) (tk_preV (q0 := 0) hK hN hP hD [0] [] rfl rfl rfl rfl rfl) rfl rfl hl.1 rfl (lv_room (Nat.le_of_ble_eq_true rfl)) dC_chosenLevel_70 ⟨Nat.zero_le _, Nat.zero_le _⟩) (fun H locs hP hD hS => ?_)
                            refine W.eq (g2 := F0 m 73 ls [.int (tkC_mayNest_r c (((c 6) + 6) &&& 7))]) rfl ?_
                            refine lv_if_ne (tgt := 80) hx hb dC_chosenLevel_73 (by decide) (fun (h23_ : ¬ (tkC_mayNest_r c (((c 6) + 6) &&& 7) = 0)) => ?_) (fun (h23_ : tkC_mayNest_r c (((c 6) + 6) &&& 7) = 0) => ?_)
                            · refine lv_iload hx hb dC_chosenLevel_80 (lv_at hl 1 rfl) ?_
                              exact tk_iret hx hb hr hlk hP hD hS dC_chosenLevel_82 (by unfold tkC_chosenLevel_r; rw [if_neg h1_, if_pos h2_, if_pos h3_, if_pos h4_, if_pos h5_, if_pos h6_, if_pos h7_, if_pos h8_, if_pos h9_, if_pos h10_, if_pos h11_, if_neg h12_, if_neg h22_, if_neg h23_]) rfl
                            · refine lv_iconst (v := -1) hx hb dC_chosenLevel_76 (by decide) ?_
                              refine lv_goto (tgt := 82) hx hb dC_chosenLevel_77 (by decide) ?_
                              exact tk_iret hx hb hr hlk hP hD hS dC_chosenLevel_82 (by unfold tkC_chosenLevel_r; rw [if_neg h1_, if_pos h2_, if_pos h3_, if_pos h4_, if_pos h5_, if_pos h6_, if_pos h7_, if_pos h8_, if_pos h9_, if_pos h10_, if_pos h11_, if_neg h12_, if_neg h22_, if_pos h23_]) rfl
                      · refine lv_iconst (v := -1) hx hb dC_chosenLevel_88 (by decide) ?_
                        exact tk_iret hx hb hr hlk hP hD hS dC_chosenLevel_89 (by unfold tkC_chosenLevel_r; rw [if_neg h1_, if_pos h2_, if_pos h3_, if_pos h4_, if_pos h5_, if_pos h6_, if_pos h7_, if_pos h8_, if_pos h9_, if_pos h10_, if_neg h11_]) rfl
                    · refine lv_iload hx hb dC_chosenLevel_62 (lv_at hl 0 rfl) ?_
                      refine lv_if_eq (tgt := 80) hx hb dC_chosenLevel_64 (by decide) (fun (h24_ : tkT_hasBit_r (tkC_holdingLevels_r c) (((c 6) + 5) &&& 7) = 0) => ?_) (fun (h24_ : ¬ (tkT_hasBit_r (tkC_holdingLevels_r c) (((c 6) + 5) &&& 7) = 0)) => ?_)
                      · refine lv_iload hx hb dC_chosenLevel_80 (lv_at hl 1 rfl) ?_
                        exact tk_iret hx hb hr hlk hP hD hS dC_chosenLevel_82 (by unfold tkC_chosenLevel_r; rw [if_neg h1_, if_pos h2_, if_pos h3_, if_pos h4_, if_pos h5_, if_pos h6_, if_pos h7_, if_pos h8_, if_pos h9_, if_neg h10_, if_pos h24_]) rfl
                      · refine lv_aload_n hx hb dC_chosenLevel_67 rfl (lv_at hl 5 rfl) ?_
                        refine lv_iload hx hb dC_chosenLevel_68 (lv_at hl 1 rfl) ?_
                        refine tk_callA hD hS hA (va_runV (As := [.int (((c 6) + 5) &&& 7)]) (rest := []) ⟨hx, hb, hml, hown, hw⟩ (kC_mayNest l D h0 c (((c 6) + 5) &&& 7) H.size) (cwV 1 hw (tk_gV tkW_good wM_C_42 wI_C_mayNest wS_C_mayNest wZ_C wC_C_mayNest) rfl rfl rfl (by decide +kernel) ⟨Nat.le_of_ble_eq_true rfl, Nat.le_of_ble_eq_true rfl⟩) (tk_preV (q0 := 0) hK hN hP hD [0] [] rfl rfl rfl rfl rfl) rfl rfl hl.1 rfl (lv_room (Nat.le_of_ble_eq_true rfl)) dC_chosenLevel_70 ⟨Nat.zero_le _, Nat.zero_le _⟩) (fun H locs hP hD hS => ?_)
                        refine W.eq (g2 := F0 m 73 ls [.int (tkC_mayNest_r c (((c 6) + 5) &&& 7))]) rfl ?_
                        refine lv_if_ne (tgt := 80) hx hb dC_chosenLevel_73 (by decide) (fun (h25_ : ¬ (tkC_mayNest_r c (((c 6) + 5) &&& 7) = 0)) => ?_) (fun (h25_ : tkC_mayNest_r c (((c 6) + 5) &&& 7) = 0) => ?_)
                        · refine lv_iload hx hb dC_chosenLevel_80 (lv_at hl 1 rfl) ?_
                          exact tk_iret hx hb hr hlk hP hD hS dC_chosenLevel_82 (by unfold tkC_chosenLevel_r; rw [if_neg h1_, if_pos h2_, if_pos h3_, if_pos h4_, if_pos h5_, if_pos h6_, if_pos h7_, if_pos h8_, if_pos h9_, if_neg h10_, if_neg h24_, if_neg h25_]) rfl
                        · refine lv_iconst (v := -1) hx hb dC_chosenLevel_76 (by decide) ?_
                          refine lv_goto (tgt := 82) hx hb dC_chosenLevel_77 (by decide) ?_
                          exact tk_iret hx hb hr hlk hP hD hS dC_chosenLevel_82 (by unfold tkC_chosenLevel_r; rw [if_neg h1_, if_pos h2_, if_pos h3_, if_pos h4_, if_pos h5_, if_pos h6_, if_pos h7_, if_pos h8_, if_pos h9_, if_neg h10_, if_neg h24_, if_pos h25_]) rfl
                  · refine lv_iconst (v := -1) hx hb dC_chosenLevel_88 (by decide) ?_
                    exact tk_iret hx hb hr hlk hP hD hS dC_chosenLevel_89 (by unfold tkC_chosenLevel_r; rw [if_neg h1_, if_pos h2_, if_pos h3_, if_pos h4_, if_pos h5_, if_pos h6_, if_pos h7_, if_pos h8_, if_neg h9_]) rfl
                · refine lv_iload hx hb dC_chosenLevel_62 (lv_at hl 0 rfl) ?_
                  refine lv_if_eq (tgt := 80) hx hb dC_chosenLevel_64 (by decide) (fun (h26_ : tkT_hasBit_r (tkC_holdingLevels_r c) (((c 6) + 4) &&& 7) = 0) => ?_) (fun (h26_ : ¬ (tkT_hasBit_r (tkC_holdingLevels_r c) (((c 6) + 4) &&& 7) = 0)) => ?_)
                  · refine lv_iload hx hb dC_chosenLevel_80 (lv_at hl 1 rfl) ?_
                    exact tk_iret hx hb hr hlk hP hD hS dC_chosenLevel_82 (by unfold tkC_chosenLevel_r; rw [if_neg h1_, if_pos h2_, if_pos h3_, if_pos h4_, if_pos h5_, if_pos h6_, if_pos h7_, if_neg h8_, if_pos h26_]) rfl
                  · refine lv_aload_n hx hb dC_chosenLevel_67 rfl (lv_at hl 5 rfl) ?_
                    refine lv_iload hx hb dC_chosenLevel_68 (lv_at hl 1 rfl) ?_
                    refine tk_callA hD hS hA (va_runV (As := [.int (((c 6) + 4) &&& 7)]) (rest := []) ⟨hx, hb, hml, hown, hw⟩ (kC_mayNest l D h0 c (((c 6) + 4) &&& 7) H.size) (cwV 1 hw (tk_gV tkW_good wM_C_42 wI_C_mayNest wS_C_mayNest wZ_C wC_C_mayNest) rfl rfl rfl (by decide +kernel) ⟨Nat.le_of_ble_eq_true rfl, Nat.le_of_ble_eq_true rfl⟩) (tk_preV (q0 := 0) hK hN hP hD [0] [] rfl rfl rfl rfl rfl) rfl rfl hl.1 rfl (lv_room (Nat.le_of_ble_eq_true rfl)) dC_chosenLevel_70 ⟨Nat.zero_le _, Nat.zero_le _⟩) (fun H locs hP hD hS => ?_)
                    refine W.eq (g2 := F0 m 73 ls [.int (tkC_mayNest_r c (((c 6) + 4) &&& 7))]) rfl ?_
                    refine lv_if_ne (tgt := 80) hx hb dC_chosenLevel_73 (by decide) (fun (h27_ : ¬ (tkC_mayNest_r c (((c 6) + 4) &&& 7) = 0)) => ?_) (fun (h27_ : tkC_mayNest_r c (((c 6) + 4) &&& 7) = 0) => ?_)
                    · refine lv_iload hx hb dC_chosenLevel_80 (lv_at hl 1 rfl) ?_
                      exact tk_iret hx hb hr hlk hP hD hS dC_chosenLevel_82 (by unfold tkC_chosenLevel_r; rw [if_neg h1_, if_pos h2_, if_pos h3_, if_pos h4_, if_pos h5_, if_pos h6_, if_pos h7_, if_neg h8_, if_neg h26_, if_neg h27_]) rfl
                    · refine lv_iconst (v := -1) hx hb dC_chosenLevel_76 (by decide) ?_
                      refine lv_goto (tgt := 82) hx hb dC_chosenLevel_77 (by decide) ?_
                      exact tk_iret hx hb hr hlk hP hD hS dC_chosenLevel_82 (by unfold tkC_chosenLevel_r; rw [if_neg h1_, if_pos h2_, if_pos h3_, if_pos h4_, if_pos h5_, if_pos h6_, if_pos h7_, if_neg h8_, if_neg h26_, if_pos h27_]) rfl
              · refine lv_iconst (v := -1) hx hb dC_chosenLevel_88 (by decide) ?_
                exact tk_iret hx hb hr hlk hP hD hS dC_chosenLevel_89 (by unfold tkC_chosenLevel_r; rw [if_neg h1_, if_pos h2_, if_pos h3_, if_pos h4_, if_pos h5_, if_pos h6_, if_neg h7_]) rfl
            · refine lv_iload hx hb dC_chosenLevel_62 (lv_at hl 0 rfl) ?_
              refine lv_if_eq (tgt := 80) hx hb dC_chosenLevel_64 (by decide) (fun (h28_ : tkT_hasBit_r (tkC_holdingLevels_r c) (((c 6) + 3) &&& 7) = 0) => ?_) (fun (h28_ : ¬ (tkT_hasBit_r (tkC_holdingLevels_r c) (((c 6) + 3) &&& 7) = 0)) => ?_)
              · refine lv_iload hx hb dC_chosenLevel_80 (lv_at hl 1 rfl) ?_
                exact tk_iret hx hb hr hlk hP hD hS dC_chosenLevel_82 (by unfold tkC_chosenLevel_r; rw [if_neg h1_, if_pos h2_, if_pos h3_, if_pos h4_, if_pos h5_, if_neg h6_, if_pos h28_]) rfl
              · refine lv_aload_n hx hb dC_chosenLevel_67 rfl (lv_at hl 5 rfl) ?_
                refine lv_iload hx hb dC_chosenLevel_68 (lv_at hl 1 rfl) ?_
                refine tk_callA hD hS hA (va_runV (As := [.int (((c 6) + 3) &&& 7)]) (rest := []) ⟨hx, hb, hml, hown, hw⟩ (kC_mayNest l D h0 c (((c 6) + 3) &&& 7) H.size) (cwV 1 hw (tk_gV tkW_good wM_C_42 wI_C_mayNest wS_C_mayNest wZ_C wC_C_mayNest) rfl rfl rfl (by decide +kernel) ⟨Nat.le_of_ble_eq_true rfl, Nat.le_of_ble_eq_true rfl⟩) (tk_preV (q0 := 0) hK hN hP hD [0] [] rfl rfl rfl rfl rfl) rfl rfl hl.1 rfl (lv_room (Nat.le_of_ble_eq_true rfl)) dC_chosenLevel_70 ⟨Nat.zero_le _, Nat.zero_le _⟩) (fun H locs hP hD hS => ?_)
                refine W.eq (g2 := F0 m 73 ls [.int (tkC_mayNest_r c (((c 6) + 3) &&& 7))]) rfl ?_
                refine lv_if_ne (tgt := 80) hx hb dC_chosenLevel_73 (by decide) (fun (h29_ : ¬ (tkC_mayNest_r c (((c 6) + 3) &&& 7) = 0)) => ?_) (fun (h29_ : tkC_mayNest_r c (((c 6) + 3) &&& 7) = 0) => ?_)
                · refine lv_iload hx hb dC_chosenLevel_80 (lv_at hl 1 rfl) ?_
                  exact tk_iret hx hb hr hlk hP hD hS dC_chosenLevel_82 (by unfold tkC_chosenLevel_r; rw [if_neg h1_, if_pos h2_, if_pos h3_, if_pos h4_, if_pos h5_, if_neg h6_, if_neg h28_, if_neg h29_]) rfl
                · refine lv_iconst (v := -1) hx hb dC_chosenLevel_76 (by decide) ?_
                  refine lv_goto (tgt := 82) hx hb dC_chosenLevel_77 (by decide) ?_
                  exact tk_iret hx hb hr hlk hP hD hS dC_chosenLevel_82 (by unfold tkC_chosenLevel_r; rw [if_neg h1_, if_pos h2_, if_pos h3_, if_pos h4_, if_pos h5_, if_neg h6_, if_neg h28_, if_pos h29_]) rfl
          · refine lv_iconst (v := -1) hx hb dC_chosenLevel_88 (by decide) ?_
            exact tk_iret hx hb hr hlk hP hD hS dC_chosenLevel_89 (by unfold tkC_chosenLevel_r; rw [if_neg h1_, if_pos h2_, if_pos h3_, if_pos h4_, if_neg h5_]) rfl
        · refine lv_iload hx hb dC_chosenLevel_62 (lv_at hl 0 rfl) ?_
          refine lv_if_eq (tgt := 80) hx hb dC_chosenLevel_64 (by decide) (fun (h30_ : tkT_hasBit_r (tkC_holdingLevels_r c) (((c 6) + 2) &&& 7) = 0) => ?_) (fun (h30_ : ¬ (tkT_hasBit_r (tkC_holdingLevels_r c) (((c 6) + 2) &&& 7) = 0)) => ?_)
          · refine lv_iload hx hb dC_chosenLevel_80 (lv_at hl 1 rfl) ?_
            exact tk_iret hx hb hr hlk hP hD hS dC_chosenLevel_82 (by unfold tkC_chosenLevel_r; rw [if_neg h1_, if_pos h2_, if_pos h3_, if_neg h4_, if_pos h30_]) rfl
          · refine lv_aload_n hx hb dC_chosenLevel_67 rfl (lv_at hl 5 rfl) ?_
            refine lv_iload hx hb dC_chosenLevel_68 (lv_at hl 1 rfl) ?_
            refine tk_callA hD hS hA (va_runV (As := [.int (((c 6) + 2) &&& 7)]) (rest := []) ⟨hx, hb, hml, hown, hw⟩ (kC_mayNest l D h0 c (((c 6) + 2) &&& 7) H.size) (cwV 1 hw (tk_gV tkW_good wM_C_42 wI_C_mayNest wS_C_mayNest wZ_C wC_C_mayNest) rfl rfl rfl (by decide +kernel) ⟨Nat.le_of_ble_eq_true rfl, Nat.le_of_ble_eq_true rfl⟩) (tk_preV (q0 := 0) hK hN hP hD [0] [] rfl rfl rfl rfl rfl) rfl rfl hl.1 rfl (lv_room (Nat.le_of_ble_eq_true rfl)) dC_chosenLevel_70 ⟨Nat.zero_le _, Nat.zero_le _⟩) (fun H locs hP hD hS => ?_)
            refine W.eq (g2 := F0 m 73 ls [.int (tkC_mayNest_r c (((c 6) + 2) &&& 7))]) rfl ?_
            refine lv_if_ne (tgt := 80) hx hb dC_chosenLevel_73 (by decide) (fun (h31_ : ¬ (tkC_mayNest_r c (((c 6) + 2) &&& 7) = 0)) => ?_) (fun (h31_ : tkC_mayNest_r c (((c 6) + 2) &&& 7) = 0) => ?_)
            · refine lv_iload hx hb dC_chosenLevel_80 (lv_at hl 1 rfl) ?_
              exact tk_iret hx hb hr hlk hP hD hS dC_chosenLevel_82 (by unfold tkC_chosenLevel_r; rw [if_neg h1_, if_pos h2_, if_pos h3_, if_neg h4_, if_neg h30_, if_neg h31_]) rfl
            · refine lv_iconst (v := -1) hx hb dC_chosenLevel_76 (by decide) ?_
              refine lv_goto (tgt := 82) hx hb dC_chosenLevel_77 (by decide) ?_
              exact tk_iret hx hb hr hlk hP hD hS dC_chosenLevel_82 (by unfold tkC_chosenLevel_r; rw [if_neg h1_, if_pos h2_, if_pos h3_, if_neg h4_, if_neg h30_, if_pos h31_]) rfl
      · refine lv_iconst (v := -1) hx hb dC_chosenLevel_88 (by decide) ?_
        exact tk_iret hx hb hr hlk hP hD hS dC_chosenLevel_89 (by unfold tkC_chosenLevel_r; rw [if_neg h1_, if_pos h2_, if_neg h3_]) rfl
    · refine lv_iload hx hb dC_chosenLevel_62 (lv_at hl 0 rfl) ?_
      refine lv_if_eq (tgt := 80) hx hb dC_chosenLevel_64 (by decide) (fun (h32_ : tkT_hasBit_r (tkC_holdingLevels_r c) (((c 6) + 1) &&& 7) = 0) => ?_) (fun (h32_ : ¬ (tkT_hasBit_r (tkC_holdingLevels_r c) (((c 6) + 1) &&& 7) = 0)) => ?_)
      · refine lv_iload hx hb dC_chosenLevel_80 (lv_at hl 1 rfl) ?_
        exact tk_iret hx hb hr hlk hP hD hS dC_chosenLevel_82 (by unfold tkC_chosenLevel_r; rw [if_neg h1_, if_neg h2_, if_pos h32_]) rfl
      · refine lv_aload_n hx hb dC_chosenLevel_67 rfl (lv_at hl 5 rfl) ?_
        refine lv_iload hx hb dC_chosenLevel_68 (lv_at hl 1 rfl) ?_
        refine tk_callA hD hS hA (va_runV (As := [.int (((c 6) + 1) &&& 7)]) (rest := []) ⟨hx, hb, hml, hown, hw⟩ (kC_mayNest l D h0 c (((c 6) + 1) &&& 7) H.size) (cwV 1 hw (tk_gV tkW_good wM_C_42 wI_C_mayNest wS_C_mayNest wZ_C wC_C_mayNest) rfl rfl rfl (by decide +kernel) ⟨Nat.le_of_ble_eq_true rfl, Nat.le_of_ble_eq_true rfl⟩) (tk_preV (q0 := 0) hK hN hP hD [0] [] rfl rfl rfl rfl rfl) rfl rfl hl.1 rfl (lv_room (Nat.le_of_ble_eq_true rfl)) dC_chosenLevel_70 ⟨Nat.zero_le _, Nat.zero_le _⟩) (fun H locs hP hD hS => ?_)
        refine W.eq (g2 := F0 m 73 ls [.int (tkC_mayNest_r c (((c 6) + 1) &&& 7))]) rfl ?_
        refine lv_if_ne (tgt := 80) hx hb dC_chosenLevel_73 (by decide) (fun (h33_ : ¬ (tkC_mayNest_r c (((c 6) + 1) &&& 7) = 0)) => ?_) (fun (h33_ : tkC_mayNest_r c (((c 6) + 1) &&& 7) = 0) => ?_)
        · refine lv_iload hx hb dC_chosenLevel_80 (lv_at hl 1 rfl) ?_
          exact tk_iret hx hb hr hlk hP hD hS dC_chosenLevel_82 (by unfold tkC_chosenLevel_r; rw [if_neg h1_, if_neg h2_, if_neg h32_, if_neg h33_]) rfl
        · refine lv_iconst (v := -1) hx hb dC_chosenLevel_76 (by decide) ?_
          refine lv_goto (tgt := 82) hx hb dC_chosenLevel_77 (by decide) ?_
          exact tk_iret hx hb hr hlk hP hD hS dC_chosenLevel_82 (by unfold tkC_chosenLevel_r; rw [if_neg h1_, if_neg h2_, if_neg h32_, if_pos h33_]) rfl
  · refine lv_iconst (v := -1) hx hb dC_chosenLevel_7 (by decide) ?_
    exact tk_iret hx hb hr hlk hP hD hS dC_chosenLevel_8 (by unfold tkC_chosenLevel_r; rw [if_pos h1_]) rfl
def tkC_serve_s (c : Nat → Int32) (x0 : Int32) : Nat → Int32 :=
  if c 12 = 0 then tk_up (tk_up c 2 ((c 2) &&& (((1 : Int32) <<< (x0 &&& 31)) ^^^ (-1)))) 4 ((c 4) ||| ((1 : Int32) <<< (x0 &&& 31)))
  else if c 15 = 0 then tk_up c 2 ((c 2) &&& (((1 : Int32) <<< (x0 &&& 31)) ^^^ (-1)))
    else tk_up (tk_up c 2 ((c 2) &&& (((1 : Int32) <<< (x0 &&& 31)) ^^^ (-1)))) 6 x0
set_option maxHeartbeats 1000000 in
set_option maxRecDepth 100000 in
theorem kC_serve (l : Launch) (D : va_G) (h0 : Nat) (c : Nat → Int32) (x0 : Int32) : tk_M l yC_serve wsC_serve { frames := 0, cells := 0, slots := 0, locals := 0 } D [] [.ref h0, .int x0] [(h0, .inr (0, FC c))] [(h0, .inr (0, FC (tkC_serve_s c x0)))] none := by
  refine tk_M.of (cc := cC_serve) (maxL := 2) (ret := none) (by decide) rfl (Nat.le_of_ble_eq_true rfl) ?_
  intro p e s m below meth co A H locs ls hB hK hN hA hP hD hS hl
  obtain ⟨hx, hb, hr, hml, hown, hlk, hnm, hts⟩ := hB
  have hown : s.vm.findClass RC = some m.cls := hown
  have hl : lv_has ls 2 [(0, .ref h0), (1, .int x0)] := hl
  have hw : ∀ w ∈ tkW, w.before _ s = true := fun w h => hts w (List.mem_cons_of_mem _ h)
  have f19 := hw _ wF_C_19
  have f75 := hw _ wF_C_75
  have f106 := hw _ wF_C_106
  have f15 := hw _ wF_C_15
  have f93 := hw _ wF_C_93
  refine lv_aload_n hx hb dC_serve_0 rfl (lv_at hl 0 rfl) ?_
  refine lv_dup hx hb dC_serve_1 rfl ?_
  refine va_get (D := D) (ci := 0) (v := .int (c 2)) (C := RC) (T := TC) (N := 18) hx hb hw inC hown hK hP 0 rfl rfl 2 (by decide) f19 (fun _ h9 => h9) rfl dC_serve_2 ?_
  refine lv_iconst (v := 1) hx hb dC_serve_5 (by decide) ?_
  refine lv_iload_n hx hb dC_serve_6 rfl (lv_at hl 1 rfl) ?_
  refine lv_ishl hx hb dC_serve_7 ?_
  refine lv_iconst (v := -1) hx hb dC_serve_8 (by decide) ?_
  refine lv_ixor hx hb dC_serve_9 ?_
  refine lv_iand hx hb dC_serve_10 ?_
  refine va_put (D := D) (ci := 0) (v := .int ((c 2) &&& (((1 : Int32) <<< (x0 &&& 31)) ^^^ (-1)))) (ty := .int) (C := RC) (T := TC) (N := 18) hx hb hw inC tyC tyC_ok nmC hown hK hP hD hS 0 rfl rfl 2 (by decide) f19 (fun _ h9 => h9) rfl (tyC_ok 2 (by decide)) rfl rfl (Nat.le_of_ble_eq_true rfl) dC_serve_11 (fun H locs hP hD hS => ?_)
  have hP : va_P D vwCl [(h0, .inr (0, FC (tk_up c 2 ((c 2) &&& (((1 : Int32) <<< (x0 &&& 31)) ^^^ (-1))))))] H := hP
  have hD : va_D A [(h0, .inr (0, FC (tk_up c 2 ((c 2) &&& (((1 : Int32) <<< (x0 &&& 31)) ^^^ (-1))))))] := hD
  refine lv_aload_n hx hb dC_serve_14 rfl (lv_at hl 0 rfl) ?_
  refine va_get (D := D) (ci := 0) (v := .int (c 12)) (C := RC) (T := TC) (N := 18) hx hb hw inC hown hK hP 0 rfl rfl 12 (by decide) f75 (fun _ h9 => h9) rfl dC_serve_15 ?_
  refine lv_if_ne (tgt := 36) hx hb dC_serve_18 (by decide) (fun (h1_ : ¬ (c 12 = 0)) => ?_) (fun (h1_ : c 12 = 0) => ?_)
  · refine lv_aload_n hx hb dC_serve_36 rfl (lv_at hl 0 rfl) ?_
    refine va_get (D := D) (ci := 0) (v := .int (c 15)) (C := RC) (T := TC) (N := 18) hx hb hw inC hown hK hP 0 rfl rfl 15 (by decide) f106 (fun _ h9 => h9) rfl dC_serve_37 ?_
    refine lv_if_eq (tgt := 48) hx hb dC_serve_40 (by decide) (fun (h2_ : c 15 = 0) => ?_) (fun (h2_ : ¬ (c 15 = 0)) => ?_)
    · exact tk_vret hx hb hr hlk hP hD hS dC_serve_48 (tk_ewC (by unfold tkC_serve_s; rw [if_neg h1_, if_pos h2_]))
    · refine lv_aload_n hx hb dC_serve_43 rfl (lv_at hl 0 rfl) ?_
      refine lv_iload_n hx hb dC_serve_44 rfl (lv_at hl 1 rfl) ?_
      refine va_put (D := D) (ci := 0) (v := .int x0) (ty := .int) (C := RC) (T := TC) (N := 18) hx hb hw inC tyC tyC_ok nmC hown hK hP hD hS 0 rfl rfl 6 (by decide) f15 (fun _ h9 => h9) rfl (tyC_ok 6 (by decide)) rfl rfl (Nat.le_of_ble_eq_true rfl) dC_serve_45 (fun H locs hP hD hS => ?_)
      have hP : va_P D vwCl [(h0, .inr (0, FC (tk_up (tk_up c 2 ((c 2) &&& (((1 : Int32) <<< (x0 &&& 31)) ^^^ (-1)))) 6 x0)))] H := hP
      have hD : va_D A [(h0, .inr (0, FC (tk_up (tk_up c 2 ((c 2) &&& (((1 : Int32) <<< (x0 &&& 31)) ^^^ (-1)))) 6 x0)))] := hD
      exact tk_vret hx hb hr hlk hP hD hS dC_serve_48 (tk_ewC (by unfold tkC_serve_s; rw [if_neg h1_, if_neg h2_]))
  · refine lv_aload_n hx hb dC_serve_21 rfl (lv_at hl 0 rfl) ?_
    refine lv_dup hx hb dC_serve_22 rfl ?_
    refine va_get (D := D) (ci := 0) (v := .int (c 4)) (C := RC) (T := TC) (N := 18) hx hb hw inC hown hK hP 0 rfl rfl 4 (by decide) f93 (fun _ h9 => h9) rfl dC_serve_23 ?_
    refine lv_iconst (v := 1) hx hb dC_serve_26 (by decide) ?_
    refine lv_iload_n hx hb dC_serve_27 rfl (lv_at hl 1 rfl) ?_
    refine lv_ishl hx hb dC_serve_28 ?_
    refine lv_ior hx hb dC_serve_29 ?_
    refine va_put (D := D) (ci := 0) (v := .int ((c 4) ||| ((1 : Int32) <<< (x0 &&& 31)))) (ty := .int) (C := RC) (T := TC) (N := 18) hx hb hw inC tyC tyC_ok nmC hown hK hP hD hS 0 rfl rfl 4 (by decide) f93 (fun _ h9 => h9) rfl (tyC_ok 4 (by decide)) rfl rfl (Nat.le_of_ble_eq_true rfl) dC_serve_30 (fun H locs hP hD hS => ?_)
    have hP : va_P D vwCl [(h0, .inr (0, FC (tk_up (tk_up c 2 ((c 2) &&& (((1 : Int32) <<< (x0 &&& 31)) ^^^ (-1)))) 4 ((c 4) ||| ((1 : Int32) <<< (x0 &&& 31))))))] H := hP
    have hD : va_D A [(h0, .inr (0, FC (tk_up (tk_up c 2 ((c 2) &&& (((1 : Int32) <<< (x0 &&& 31)) ^^^ (-1)))) 4 ((c 4) ||| ((1 : Int32) <<< (x0 &&& 31))))))] := hD
    refine lv_goto (tgt := 48) hx hb dC_serve_33 (by decide) ?_
    exact tk_vret hx hb hr hlk hP hD hS dC_serve_48 (tk_ewC (by unfold tkC_serve_s; rw [if_pos h1_]))
def tkC_serveChosen_r (c : Nat → Int32) : Int32 :=
  tkC_chosenLevel_r c
def tkC_serveChosen_s (c : Nat → Int32) : Nat → Int32 :=
  if tkC_chosenLevel_r c = (-1) then c
  else tkC_serve_s c (tkC_chosenLevel_r c)
set_option maxHeartbeats 1000000 in
set_option maxRecDepth 100000 in
theorem kC_serveChosen (l : Launch) (D : va_G) (h0 : Nat) (c : Nat → Int32) : tk_M l yC_serveChosen wsC_serveChosen { frames := 2, cells := 0, slots := 0, locals := 46 } D [] [.ref h0] [(h0, .inr (0, FC c))] [(h0, .inr (0, FC (tkC_serveChosen_s c)))] (some (.int (tkC_serveChosen_r c))) := by
  refine tk_M.of (cc := cC_serveChosen) (maxL := 2) (ret := (some .int)) (by decide) rfl (Nat.le_of_ble_eq_true rfl) ?_
  intro p e s m below meth co A H locs ls hB hK hN hA hP hD hS hl
  obtain ⟨hx, hb, hr, hml, hown, hlk, hnm, hts⟩ := hB
  have hown : s.vm.findClass RC = some m.cls := hown
  have hl : lv_has ls 2 [(0, .ref h0)] := hl
  have hw : ∀ w ∈ tkW, w.before _ s = true := fun w h => hts w (List.mem_cons_of_mem _ h)
  refine lv_aload_n hx hb dC_serveChosen_0 rfl (lv_at hl 0 rfl) ?_
  refine tk_callA hD hS hA (va_runV (As := []) (rest := []) ⟨hx, hb, hml, hown, hw⟩ (kC_chosenLevel l D h0 c H.size) (cwV 0 hw (tk_gV tkW_good wM_C_46 wI_C_chosenLevel wS_C_chosenLevel wZ_C wC_C_chosenLevel) rfl rfl rfl (by decide +kernel) ⟨Nat.le_of_ble_eq_true rfl, Nat.le_of_ble_eq_true rfl⟩) (tk_preV (q0 := 0) hK hN hP hD [0] [] rfl rfl rfl rfl rfl) rfl rfl hl.1 rfl (lv_room (Nat.le_of_ble_eq_true rfl)) dC_serveChosen_1 ⟨Nat.zero_le _, Nat.zero_le _⟩) (fun H locs hP hD hS => ?_)
  refine W.eq (g2 := F0 m 4 ls [.int (tkC_chosenLevel_r c)]) rfl ?_
  refine lv_istore_n hx hb dC_serveChosen_4 rfl hl (by decide) rfl (fun ls hl => ?_)
  have hl : lv_has ls 2 [(1, .int (tkC_chosenLevel_r c)), (0, .ref h0)] := hl
  refine lv_iload_n hx hb dC_serveChosen_5 rfl (lv_at hl 0 rfl) ?_
  refine lv_iconst (v := -1) hx hb dC_serveChosen_6 (by decide) ?_
  refine lv_icmp_eq (tgt := 15) hx hb dC_serveChosen_7 (by decide) (fun (h1_ : tkC_chosenLevel_r c = (-1)) => ?_) (fun (h1_ : ¬ (tkC_chosenLevel_r c = (-1))) => ?_)
  · refine lv_iload_n hx hb dC_serveChosen_15 rfl (lv_at hl 0 rfl) ?_
    exact tk_iret hx hb hr hlk hP hD hS dC_serveChosen_16 rfl (tk_ewC (by unfold tkC_serveChosen_s; rw [if_pos h1_]))
  · refine lv_aload_n hx hb dC_serveChosen_10 rfl (lv_at hl 1 rfl) ?_
    refine lv_iload_n hx hb dC_serveChosen_11 rfl (lv_at hl 0 rfl) ?_
    refine tk_callA hD hS hA (va_runV (As := [.int (tkC_chosenLevel_r c)]) (rest := []) ⟨hx, hb, hml, hown, hw⟩ (kC_serve l D h0 c (tkC_chosenLevel_r c) H.size) (cwV 1 hw (tk_gV tkW_good wM_C_49 wI_C_serve wS_C_serve wZ_C wC_C_serve) rfl rfl rfl (by decide +kernel) ⟨Nat.le_of_ble_eq_true rfl, Nat.le_of_ble_eq_true rfl⟩) (tk_preV (q0 := 0) hK hN hP hD [0] [] rfl rfl rfl rfl rfl) rfl rfl hl.1 rfl (lv_room (Nat.le_of_ble_eq_true rfl)) dC_serveChosen_12 ⟨Nat.zero_le _, Nat.zero_le _⟩) (fun H locs hP hD hS => ?_)
    refine W.eq (g2 := F0 m 15 ls []) rfl ?_
    refine lv_iload_n hx hb dC_serveChosen_15 rfl (lv_at hl 0 rfl) ?_
    exact tk_iret hx hb hr hlk hP hD hS dC_serveChosen_16 rfl (tk_ewC (by unfold tkC_serveChosen_s; rw [if_neg h1_]))
def tkC_vectorOf_r (c : Nat → Int32) (x0 : Int32) : Int32 :=
  if x0 = (-1) then (c 5) + 7
  else (c 5) + x0
set_option maxHeartbeats 1000000 in
set_option maxRecDepth 100000 in
theorem kC_vectorOf (l : Launch) (D : va_G) (h0 : Nat) (c : Nat → Int32) (x0 : Int32) : tk_M l yC_vectorOf wsC_vectorOf { frames := 0, cells := 0, slots := 0, locals := 0 } D [] [.ref h0, .int x0] [(h0, .inr (0, FC c))] [(h0, .inr (0, FC c))] (some (.int (tkC_vectorOf_r c x0))) := by
  refine tk_M.of (cc := cC_vectorOf) (maxL := 2) (ret := (some .int)) (by decide) rfl (Nat.le_of_ble_eq_true rfl) ?_
  intro p e s m below meth co A H locs ls hB hK hN hA hP hD hS hl
  obtain ⟨hx, hb, hr, hml, hown, hlk, hnm, hts⟩ := hB
  have hown : s.vm.findClass RC = some m.cls := hown
  have hl : lv_has ls 2 [(0, .ref h0), (1, .int x0)] := hl
  have hw : ∀ w ∈ tkW, w.before _ s = true := fun w h => hts w (List.mem_cons_of_mem _ h)
  have f53 := hw _ wF_C_53
  refine lv_aload_n hx hb dC_vectorOf_0 rfl (lv_at hl 0 rfl) ?_
  refine va_get (D := D) (ci := 0) (v := .int (c 5)) (C := RC) (T := TC) (N := 18) hx hb hw inC hown hK hP 0 rfl rfl 5 (by decide) f53 (fun _ h9 => h9) rfl dC_vectorOf_1 ?_
  refine lv_iload_n hx hb dC_vectorOf_4 rfl (lv_at hl 1 rfl) ?_
  refine lv_iconst (v := -1) hx hb dC_vectorOf_5 (by decide) ?_
  refine lv_icmp_ne (tgt := 14) hx hb dC_vectorOf_6 (by decide) (fun (h1_ : ¬ (x0 = (-1))) => ?_) (fun (h1_ : x0 = (-1)) => ?_)
  · refine lv_iload_n hx hb dC_vectorOf_14 rfl (lv_at hl 1 rfl) ?_
    refine lv_iadd hx hb dC_vectorOf_15 ?_
    exact tk_iret hx hb hr hlk hP hD hS dC_vectorOf_16 (by unfold tkC_vectorOf_r; rw [if_neg h1_]) rfl
  · refine lv_bipush (v := 7) hx hb dC_vectorOf_9 (by decide) ?_
    refine lv_goto (tgt := 15) hx hb dC_vectorOf_11 (by decide) ?_
    refine lv_iadd hx hb dC_vectorOf_15 ?_
    exact tk_iret hx hb hr hlk hP hD hS dC_vectorOf_16 (by unfold tkC_vectorOf_r; rw [if_pos h1_]) rfl
def tkC_beginSettingUp_s (c : Nat → Int32) (x0 : Int32) : Nat → Int32 :=
  tk_up (tk_up (tk_up (tk_up (tk_up (tk_up (tk_up (tk_up (tk_up (tk_up (tk_up (tk_up (tk_up (tk_up (tk_up c 7 0) 8 2) 2 0) 3 0) 4 0) 6 7) 12 0) 13 0) 14 0) 15 0) 16 0) 17 0) 9 (tkT_hasBit_r x0 3)) 10 (tkT_hasBit_r x0 1)) 11 (tkT_hasBit_r x0 0)
set_option maxHeartbeats 1000000 in
set_option maxRecDepth 100000 in
theorem kC_beginSettingUp (l : Launch) (D : va_G) (h0 : Nat) (c : Nat → Int32) (x0 : Int32) : tk_M l yC_beginSettingUp wsC_beginSettingUp { frames := 1, cells := 0, slots := 0, locals := 21 } D [] [.ref h0, .int x0] [(h0, .inr (0, FC c))] [(h0, .inr (0, FC (tkC_beginSettingUp_s c x0)))] none := by
  refine tk_M.of (cc := cC_beginSettingUp) (maxL := 2) (ret := none) (by decide) rfl (Nat.le_of_ble_eq_true rfl) ?_
  intro p e s m below meth co A H locs ls hB hK hN hA hP hD hS hl
  obtain ⟨hx, hb, hr, hml, hown, hlk, hnm, hts⟩ := hB
  have hown : s.vm.findClass RC = some m.cls := hown
  have hl : lv_has ls 2 [(0, .ref h0), (1, .int x0)] := hl
  have hw : ∀ w ∈ tkW, w.before _ s = true := fun w h => hts w (List.mem_cons_of_mem _ h)
  have f25 := hw _ wF_C_25
  have f66 := hw _ wF_C_66
  have f19 := hw _ wF_C_19
  have f32 := hw _ wF_C_32
  have f93 := hw _ wF_C_93
  have f15 := hw _ wF_C_15
  have f75 := hw _ wF_C_75
  have f78 := hw _ wF_C_78
  have f103 := hw _ wF_C_103
  have f106 := hw _ wF_C_106
  have f90 := hw _ wF_C_90
  have f84 := hw _ wF_C_84
  have f100 := hw _ wF_C_100
  have f69 := hw _ wF_C_69
  have f109 := hw _ wF_C_109
  refine lv_aload_n hx hb dC_beginSettingUp_0 rfl (lv_at hl 0 rfl) ?_
  refine lv_iconst (v := 0) hx hb dC_beginSettingUp_1 (by decide) ?_
  refine va_put (D := D) (ci := 0) (v := .int 0) (ty := .boolean) (C := RC) (T := TC) (N := 18) hx hb hw inC tyC tyC_ok nmC hown hK hP hD hS 0 rfl rfl 7 (by decide) f25 (fun _ h9 => h9) rfl (tyC_ok 7 (by decide)) rfl rfl (Nat.le_of_ble_eq_true rfl) dC_beginSettingUp_2 (fun H locs hP hD hS => ?_)
  have hP : va_P D vwCl [(h0, .inr (0, FC (tk_up c 7 0)))] H := hP
  have hD : va_D A [(h0, .inr (0, FC (tk_up c 7 0)))] := hD
  refine lv_aload_n hx hb dC_beginSettingUp_5 rfl (lv_at hl 0 rfl) ?_
  refine lv_iconst (v := 2) hx hb dC_beginSettingUp_6 (by decide) ?_
  refine va_put (D := D) (ci := 0) (v := .int 2) (ty := .int) (C := RC) (T := TC) (N := 18) hx hb hw inC tyC tyC_ok nmC hown hK hP hD hS 0 rfl rfl 8 (by decide) f66 (fun _ h9 => h9) rfl (tyC_ok 8 (by decide)) rfl rfl (Nat.le_of_ble_eq_true rfl) dC_beginSettingUp_7 (fun H locs hP hD hS => ?_)
  have hP : va_P D vwCl [(h0, .inr (0, FC (tk_up (tk_up c 7 0) 8 2)))] H := hP
  have hD : va_D A [(h0, .inr (0, FC (tk_up (tk_up c 7 0) 8 2)))] := hD
  refine lv_aload_n hx hb dC_beginSettingUp_10 rfl (lv_at hl 0 rfl) ?_
  refine lv_iconst (v := 0) hx hb dC_beginSettingUp_11 (by decide) ?_
  refine va_put (D := D) (ci := 0) (v := .int 0) (ty := .int) (C := RC) (T := TC) (N := 18) hx hb hw inC tyC tyC_ok nmC hown hK hP hD hS 0 rfl rfl 2 (by decide) f19 (fun _ h9 => h9) rfl (tyC_ok 2 (by decide)) rfl rfl (Nat.le_of_ble_eq_true rfl) dC_beginSettingUp_12 (fun H locs hP hD hS => ?_)
  have hP : va_P D vwCl [(h0, .inr (0, FC (tk_up (tk_up (tk_up c 7 0) 8 2) 2 0)))] H := hP
  have hD : va_D A [(h0, .inr (0, FC (tk_up (tk_up (tk_up c 7 0) 8 2) 2 0)))] := hD
  refine lv_aload_n hx hb dC_beginSettingUp_15 rfl (lv_at hl 0 rfl) ?_
  refine lv_iconst (v := 0) hx hb dC_beginSettingUp_16 (by decide) ?_
  refine va_put (D := D) (ci := 0) (v := .int 0) (ty := .int) (C := RC) (T := TC) (N := 18) hx hb hw inC tyC tyC_ok nmC hown hK hP hD hS 0 rfl rfl 3 (by decide) f32 (fun _ h9 => h9) rfl (tyC_ok 3 (by decide)) rfl rfl (Nat.le_of_ble_eq_true rfl) dC_beginSettingUp_17 (fun H locs hP hD hS => ?_)
  have hP : va_P D vwCl [(h0, .inr (0, FC (tk_up (tk_up (tk_up (tk_up c 7 0) 8 2) 2 0) 3 0)))] H := hP
  have hD : va_D A [(h0, .inr (0, FC (tk_up (tk_up (tk_up (tk_up c 7 0) 8 2) 2 0) 3 0)))] := hD
  refine lv_aload_n hx hb dC_beginSettingUp_20 rfl (lv_at hl 0 rfl) ?_
  refine lv_iconst (v := 0) hx hb dC_beginSettingUp_21 (by decide) ?_
  refine va_put (D := D) (ci := 0) (v := .int 0) (ty := .int) (C := RC) (T := TC) (N := 18) hx hb hw inC tyC tyC_ok nmC hown hK hP hD hS 0 rfl rfl 4 (by decide) f93 (fun _ h9 => h9) rfl (tyC_ok 4 (by decide)) rfl rfl (Nat.le_of_ble_eq_true rfl) dC_beginSettingUp_22 (fun H locs hP hD hS => ?_)
  have hP : va_P D vwCl [(h0, .inr (0, FC (tk_up (tk_up (tk_up (tk_up (tk_up c 7 0) 8 2) 2 0) 3 0) 4 0)))] H := hP
  have hD : va_D A [(h0, .inr (0, FC (tk_up (tk_up (tk_up (tk_up (tk_up c 7 0) 8 2) 2 0) 3 0) 4 0)))] := hD
  refine lv_aload_n hx hb dC_beginSettingUp_25 rfl (lv_at hl 0 rfl) ?_
  refine lv_bipush (v := 7) hx hb dC_beginSettingUp_26 (by decide) ?_
  refine va_put (D := D) (ci := 0) (v := .int 7) (ty := .int) (C := RC) (T := TC) (N := 18) hx hb hw inC tyC tyC_ok nmC hown hK hP hD hS 0 rfl rfl 6 (by decide) f15 (fun _ h9 => h9) rfl (tyC_ok 6 (by decide)) rfl rfl (Nat.le_of_ble_eq_true rfl) dC_beginSettingUp_28 (fun H locs hP hD hS => ?_)
  have hP : va_P D vwCl [(h0, .inr (0, FC (tk_up (tk_up (tk_up (tk_up (tk_up (tk_up c 7 0) 8 2) 2 0) 3 0) 4 0) 6 7)))] H := hP
  have hD : va_D A [(h0, .inr (0, FC (tk_up (tk_up (tk_up (tk_up (tk_up (tk_up c 7 0) 8 2) 2 0) 3 0) 4 0) 6 7)))] := hD
  refine lv_aload_n hx hb dC_beginSettingUp_31 rfl (lv_at hl 0 rfl) ?_
  refine lv_iconst (v := 0) hx hb dC_beginSettingUp_32 (by decide) ?_
  refine va_put (D := D) (ci := 0) (v := .int 0) (ty := .boolean) (C := RC) (T := TC) (N := 18) hx hb hw inC tyC tyC_ok nmC hown hK hP hD hS 0 rfl rfl 12 (by decide) f75 (fun _ h9 => h9) rfl (tyC_ok 12 (by decide)) rfl rfl (Nat.le_of_ble_eq_true rfl) dC_beginSettingUp_33 (fun H locs hP hD hS => ?_)
  have hP : va_P D vwCl [(h0, .inr (0, FC (tk_up (tk_up (tk_up (tk_up (tk_up (tk_up (tk_up c 7 0) 8 2) 2 0) 3 0) 4 0) 6 7) 12 0)))] H := hP
  have hD : va_D A [(h0, .inr (0, FC (tk_up (tk_up (tk_up (tk_up (tk_up (tk_up (tk_up c 7 0) 8 2) 2 0) 3 0) 4 0) 6 7) 12 0)))] := hD
  refine lv_aload_n hx hb dC_beginSettingUp_36 rfl (lv_at hl 0 rfl) ?_
  refine lv_iconst (v := 0) hx hb dC_beginSettingUp_37 (by decide) ?_
  refine va_put (D := D) (ci := 0) (v := .int 0) (ty := .boolean) (C := RC) (T := TC) (N := 18) hx hb hw inC tyC tyC_ok nmC hown hK hP hD hS 0 rfl rfl 13 (by decide) f78 (fun _ h9 => h9) rfl (tyC_ok 13 (by decide)) rfl rfl (Nat.le_of_ble_eq_true rfl) dC_beginSettingUp_38 (fun H locs hP hD hS => ?_)
  have hP : va_P D vwCl [(h0, .inr (0, FC (tk_up (tk_up (tk_up (tk_up (tk_up (tk_up (tk_up (tk_up c 7 0) 8 2) 2 0) 3 0) 4 0) 6 7) 12 0) 13 0)))] H := hP
  have hD : va_D A [(h0, .inr (0, FC (tk_up (tk_up (tk_up (tk_up (tk_up (tk_up (tk_up (tk_up c 7 0) 8 2) 2 0) 3 0) 4 0) 6 7) 12 0) 13 0)))] := hD
  refine lv_aload_n hx hb dC_beginSettingUp_41 rfl (lv_at hl 0 rfl) ?_
  refine lv_iconst (v := 0) hx hb dC_beginSettingUp_42 (by decide) ?_
  refine va_put (D := D) (ci := 0) (v := .int 0) (ty := .boolean) (C := RC) (T := TC) (N := 18) hx hb hw inC tyC tyC_ok nmC hown hK hP hD hS 0 rfl rfl 14 (by decide) f103 (fun _ h9 => h9) rfl (tyC_ok 14 (by decide)) rfl rfl (Nat.le_of_ble_eq_true rfl) dC_beginSettingUp_43 (fun H locs hP hD hS => ?_)
  have hP : va_P D vwCl [(h0, .inr (0, FC (tk_up (tk_up (tk_up (tk_up (tk_up (tk_up (tk_up (tk_up (tk_up c 7 0) 8 2) 2 0) 3 0) 4 0) 6 7) 12 0) 13 0) 14 0)))] H := hP
  have hD : va_D A [(h0, .inr (0, FC (tk_up (tk_up (tk_up (tk_up (tk_up (tk_up (tk_up (tk_up (tk_up c 7 0) 8 2) 2 0) 3 0) 4 0) 6 7) 12 0) 13 0) 14 0)))] := hD
  refine lv_aload_n hx hb dC_beginSettingUp_46 rfl (lv_at hl 0 rfl) ?_
  refine lv_iconst (v := 0) hx hb dC_beginSettingUp_47 (by decide) ?_
  refine va_put (D := D) (ci := 0) (v := .int 0) (ty := .boolean) (C := RC) (T := TC) (N := 18) hx hb hw inC tyC tyC_ok nmC hown hK hP hD hS 0 rfl rfl 15 (by decide) f106 (fun _ h9 => h9) rfl (tyC_ok 15 (by decide)) rfl rfl (Nat.le_of_ble_eq_true rfl) dC_beginSettingUp_48 (fun H locs hP hD hS => ?_)
  have hP : va_P D vwCl [(h0, .inr (0, FC (tk_up (tk_up (tk_up (tk_up (tk_up (tk_up (tk_up (tk_up (tk_up (tk_up c 7 0) 8 2) 2 0) 3 0) 4 0) 6 7) 12 0) 13 0) 14 0) 15 0)))] H := hP
  have hD : va_D A [(h0, .inr (0, FC (tk_up (tk_up (tk_up (tk_up (tk_up (tk_up (tk_up (tk_up (tk_up (tk_up c 7 0) 8 2) 2 0) 3 0) 4 0) 6 7) 12 0) 13 0) 14 0) 15 0)))] := hD
  refine lv_aload_n hx hb dC_beginSettingUp_51 rfl (lv_at hl 0 rfl) ?_
  refine lv_iconst (v := 0) hx hb dC_beginSettingUp_52 (by decide) ?_
  refine va_put (D := D) (ci := 0) (v := .int 0) (ty := .boolean) (C := RC) (T := TC) (N := 18) hx hb hw inC tyC tyC_ok nmC hown hK hP hD hS 0 rfl rfl 16 (by decide) f90 (fun _ h9 => h9) rfl (tyC_ok 16 (by decide)) rfl rfl (Nat.le_of_ble_eq_true rfl) dC_beginSettingUp_53 (fun H locs hP hD hS => ?_)
  have hP : va_P D vwCl [(h0, .inr (0, FC (tk_up (tk_up (tk_up (tk_up (tk_up (tk_up (tk_up (tk_up (tk_up (tk_up (tk_up c 7 0) 8 2) 2 0) 3 0) 4 0) 6 7) 12 0) 13 0) 14 0) 15 0) 16 0)))] H := hP
  have hD : va_D A [(h0, .inr (0, FC (tk_up (tk_up (tk_up (tk_up (tk_up (tk_up (tk_up (tk_up (tk_up (tk_up (tk_up c 7 0) 8 2) 2 0) 3 0) 4 0) 6 7) 12 0) 13 0) 14 0) 15 0) 16 0)))] := hD
  refine lv_aload_n hx hb dC_beginSettingUp_56 rfl (lv_at hl 0 rfl) ?_
  refine lv_iconst (v := 0) hx hb dC_beginSettingUp_57 (by decide) ?_
  refine va_put (D := D) (ci := 0) (v := .int 0) (ty := .boolean) (C := RC) (T := TC) (N := 18) hx hb hw inC tyC tyC_ok nmC hown hK hP hD hS 0 rfl rfl 17 (by decide) f84 (fun _ h9 => h9) rfl (tyC_ok 17 (by decide)) rfl rfl (Nat.le_of_ble_eq_true rfl) dC_beginSettingUp_58 (fun H locs hP hD hS => ?_)
  have hP : va_P D vwCl [(h0, .inr (0, FC (tk_up (tk_up (tk_up (tk_up (tk_up (tk_up (tk_up (tk_up (tk_up (tk_up (tk_up (tk_up c 7 0) 8 2) 2 0) 3 0) 4 0) 6 7) 12 0) 13 0) 14 0) 15 0) 16 0) 17 0)))] H := hP
  have hD : va_D A [(h0, .inr (0, FC (tk_up (tk_up (tk_up (tk_up (tk_up (tk_up (tk_up (tk_up (tk_up (tk_up (tk_up (tk_up c 7 0) 8 2) 2 0) 3 0) 4 0) 6 7) 12 0) 13 0) 14 0) 15 0) 16 0) 17 0)))] := hD
  refine lv_aload_n hx hb dC_beginSettingUp_61 rfl (lv_at hl 0 rfl) ?_
  refine lv_iload_n hx hb dC_beginSettingUp_62 rfl (lv_at hl 1 rfl) ?_
  refine lv_iconst (v := 3) hx hb dC_beginSettingUp_63 (by decide) ?_
  refine tk_call0 hP hD hS hA (va_runSN (As := [.int x0, .int 3]) (rest := [.ref h0]) ⟨hx, hb, hml, hown, hw⟩ (kT_hasBit l D x0 3 H.size) ⟨va_cnB 2 hw (tk_g0 tkW_good wC_T_hasBit) rfl rfl rfl (hN (.methodLinkNest RC 38 yT_hasBit "TickLines") (by decide +kernel)) (hw _ wZ_T) (by decide +kernel) ⟨Nat.le_of_ble_eq_true rfl, Nat.le_of_ble_eq_true rfl⟩, hw _ wT_T_hasBit, trivial⟩ (tk_preS hK hN hP hD [] [] rfl rfl rfl) rfl rfl hl.1 rfl (lv_room (Nat.le_of_ble_eq_true rfl)) dC_beginSettingUp_64 ⟨Nat.zero_le _, Nat.zero_le _⟩) (fun H locs hP hD hS => ?_)
  refine W.eq (g2 := F0 m 67 ls [.int (tkT_hasBit_r x0 3), .ref h0]) rfl ?_
  refine va_put (D := D) (ci := 0) (v := .int (tkT_hasBit_r x0 3)) (ty := .boolean) (C := RC) (T := TC) (N := 18) hx hb hw inC tyC tyC_ok nmC hown hK hP hD hS 0 rfl rfl 9 (by decide) f100 (fun _ h9 => h9) rfl (tyC_ok 9 (by decide)) (tk_nb (tkT_hasBit_b x0 3)) (tk_fb (tkT_hasBit_b x0 3)) (Nat.le_of_ble_eq_true rfl) dC_beginSettingUp_67 (fun H locs hP hD hS => ?_)
  have hP : va_P D vwCl [(h0, .inr (0, FC (tk_up (tk_up (tk_up (tk_up (tk_up (tk_up (tk_up (tk_up (tk_up (tk_up (tk_up (tk_up (tk_up c 7 0) 8 2) 2 0) 3 0) 4 0) 6 7) 12 0) 13 0) 14 0) 15 0) 16 0) 17 0) 9 (tkT_hasBit_r x0 3))))] H := hP
  have hD : va_D A [(h0, .inr (0, FC (tk_up (tk_up (tk_up (tk_up (tk_up (tk_up (tk_up (tk_up (tk_up (tk_up (tk_up (tk_up (tk_up c 7 0) 8 2) 2 0) 3 0) 4 0) 6 7) 12 0) 13 0) 14 0) 15 0) 16 0) 17 0) 9 (tkT_hasBit_r x0 3))))] := hD
  refine lv_aload_n hx hb dC_beginSettingUp_70 rfl (lv_at hl 0 rfl) ?_
  refine lv_iload_n hx hb dC_beginSettingUp_71 rfl (lv_at hl 1 rfl) ?_
  refine lv_iconst (v := 1) hx hb dC_beginSettingUp_72 (by decide) ?_
  refine tk_call0 hP hD hS hA (va_runSN (As := [.int x0, .int 1]) (rest := [.ref h0]) ⟨hx, hb, hml, hown, hw⟩ (kT_hasBit l D x0 1 H.size) ⟨va_cnB 2 hw (tk_g0 tkW_good wC_T_hasBit) rfl rfl rfl (hN (.methodLinkNest RC 38 yT_hasBit "TickLines") (by decide +kernel)) (hw _ wZ_T) (by decide +kernel) ⟨Nat.le_of_ble_eq_true rfl, Nat.le_of_ble_eq_true rfl⟩, hw _ wT_T_hasBit, trivial⟩ (tk_preS hK hN hP hD [] [] rfl rfl rfl) rfl rfl hl.1 rfl (lv_room (Nat.le_of_ble_eq_true rfl)) dC_beginSettingUp_73 ⟨Nat.zero_le _, Nat.zero_le _⟩) (fun H locs hP hD hS => ?_)
  refine W.eq (g2 := F0 m 76 ls [.int (tkT_hasBit_r x0 1), .ref h0]) rfl ?_
  refine va_put (D := D) (ci := 0) (v := .int (tkT_hasBit_r x0 1)) (ty := .boolean) (C := RC) (T := TC) (N := 18) hx hb hw inC tyC tyC_ok nmC hown hK hP hD hS 0 rfl rfl 10 (by decide) f69 (fun _ h9 => h9) rfl (tyC_ok 10 (by decide)) (tk_nb (tkT_hasBit_b x0 1)) (tk_fb (tkT_hasBit_b x0 1)) (Nat.le_of_ble_eq_true rfl) dC_beginSettingUp_76 (fun H locs hP hD hS => ?_)
  have hP : va_P D vwCl [(h0, .inr (0, FC (tk_up (tk_up (tk_up (tk_up (tk_up (tk_up (tk_up (tk_up (tk_up (tk_up (tk_up (tk_up (tk_up (tk_up c 7 0) 8 2) 2 0) 3 0) 4 0) 6 7) 12 0) 13 0) 14 0) 15 0) 16 0) 17 0) 9 (tkT_hasBit_r x0 3)) 10 (tkT_hasBit_r x0 1))))] H := hP
  have hD : va_D A [(h0, .inr (0, FC (tk_up (tk_up (tk_up (tk_up (tk_up (tk_up (tk_up (tk_up (tk_up (tk_up (tk_up (tk_up (tk_up (tk_up c 7 0) 8 2) 2 0) 3 0) 4 0) 6 7) 12 0) 13 0) 14 0) 15 0) 16 0) 17 0) 9 (tkT_hasBit_r x0 3)) 10 (tkT_hasBit_r x0 1))))] := hD
  refine lv_aload_n hx hb dC_beginSettingUp_79 rfl (lv_at hl 0 rfl) ?_
  refine lv_iload_n hx hb dC_beginSettingUp_80 rfl (lv_at hl 1 rfl) ?_
  refine lv_iconst (v := 0) hx hb dC_beginSettingUp_81 (by decide) ?_
  refine tk_call0 hP hD hS hA (va_runSN (As := [.int x0, .int 0]) (rest := [.ref h0]) ⟨hx, hb, hml, hown, hw⟩ (kT_hasBit l D x0 0 H.size) ⟨va_cnB 2 hw (tk_g0 tkW_good wC_T_hasBit) rfl rfl rfl (hN (.methodLinkNest RC 38 yT_hasBit "TickLines") (by decide +kernel)) (hw _ wZ_T) (by decide +kernel) ⟨Nat.le_of_ble_eq_true rfl, Nat.le_of_ble_eq_true rfl⟩, hw _ wT_T_hasBit, trivial⟩ (tk_preS hK hN hP hD [] [] rfl rfl rfl) rfl rfl hl.1 rfl (lv_room (Nat.le_of_ble_eq_true rfl)) dC_beginSettingUp_82 ⟨Nat.zero_le _, Nat.zero_le _⟩) (fun H locs hP hD hS => ?_)
  refine W.eq (g2 := F0 m 85 ls [.int (tkT_hasBit_r x0 0), .ref h0]) rfl ?_
  refine va_put (D := D) (ci := 0) (v := .int (tkT_hasBit_r x0 0)) (ty := .boolean) (C := RC) (T := TC) (N := 18) hx hb hw inC tyC tyC_ok nmC hown hK hP hD hS 0 rfl rfl 11 (by decide) f109 (fun _ h9 => h9) rfl (tyC_ok 11 (by decide)) (tk_nb (tkT_hasBit_b x0 0)) (tk_fb (tkT_hasBit_b x0 0)) (Nat.le_of_ble_eq_true rfl) dC_beginSettingUp_85 (fun H locs hP hD hS => ?_)
  have hP : va_P D vwCl [(h0, .inr (0, FC (tk_up (tk_up (tk_up (tk_up (tk_up (tk_up (tk_up (tk_up (tk_up (tk_up (tk_up (tk_up (tk_up (tk_up (tk_up c 7 0) 8 2) 2 0) 3 0) 4 0) 6 7) 12 0) 13 0) 14 0) 15 0) 16 0) 17 0) 9 (tkT_hasBit_r x0 3)) 10 (tkT_hasBit_r x0 1)) 11 (tkT_hasBit_r x0 0))))] H := hP
  have hD : va_D A [(h0, .inr (0, FC (tk_up (tk_up (tk_up (tk_up (tk_up (tk_up (tk_up (tk_up (tk_up (tk_up (tk_up (tk_up (tk_up (tk_up (tk_up c 7 0) 8 2) 2 0) 3 0) 4 0) 6 7) 12 0) 13 0) 14 0) 15 0) 16 0) 17 0) 9 (tkT_hasBit_r x0 3)) 10 (tkT_hasBit_r x0 1)) 11 (tkT_hasBit_r x0 0))))] := hD
  exact tk_vret hx hb hr hlk hP hD hS dC_beginSettingUp_88 (tk_ewC rfl)
def tkC_takeReadingCommand_s (c : Nat → Int32) (x0 : Int32) : Nat → Int32 :=
  if tkT_hasBit_r x0 6 = 0 then (if tkT_hasBit_r x0 2 = 0 then (if tkT_hasBit_r x0 1 = 0 then c
      else tk_up c 16 (tkT_hasBit_r x0 0))
    else tk_up c 17 1)
  else if tkT_hasBit_r x0 2 = 0 then (if tkT_hasBit_r x0 1 = 0 then tk_up c 14 (tkT_hasBit_r x0 5)
      else tk_up (tk_up c 14 (tkT_hasBit_r x0 5)) 16 (tkT_hasBit_r x0 0))
    else tk_up (tk_up c 14 (tkT_hasBit_r x0 5)) 17 1
set_option maxHeartbeats 1000000 in
set_option maxRecDepth 100000 in
theorem kC_takeReadingCommand (l : Launch) (D : va_G) (h0 : Nat) (c : Nat → Int32) (x0 : Int32) : tk_M l yC_takeReadingCommand wsC_takeReadingCommand { frames := 1, cells := 0, slots := 0, locals := 21 } D [] [.ref h0, .int x0] [(h0, .inr (0, FC c))] [(h0, .inr (0, FC (tkC_takeReadingCommand_s c x0)))] none := by
  refine tk_M.of (cc := cC_takeReadingCommand) (maxL := 2) (ret := none) (by decide) rfl (Nat.le_of_ble_eq_true rfl) ?_
  intro p e s m below meth co A H locs ls hB hK hN hA hP hD hS hl
  obtain ⟨hx, hb, hr, hml, hown, hlk, hnm, hts⟩ := hB
  have hown : s.vm.findClass RC = some m.cls := hown
  have hl : lv_has ls 2 [(0, .ref h0), (1, .int x0)] := hl
  have hw : ∀ w ∈ tkW, w.before _ s = true := fun w h => hts w (List.mem_cons_of_mem _ h)
  have f90 := hw _ wF_C_90
  have f84 := hw _ wF_C_84
  have f103 := hw _ wF_C_103
  refine lv_iload_n hx hb dC_takeReadingCommand_0 rfl (lv_at hl 1 rfl) ?_
  refine lv_bipush (v := 6) hx hb dC_takeReadingCommand_1 (by decide) ?_
  refine tk_call0 hP hD hS hA (va_runSN (As := [.int x0, .int 6]) (rest := []) ⟨hx, hb, hml, hown, hw⟩ (kT_hasBit l D x0 6 H.size) ⟨va_cnB 2 hw (tk_g0 tkW_good wC_T_hasBit) rfl rfl rfl (hN (.methodLinkNest RC 38 yT_hasBit "TickLines") (by decide +kernel)) (hw _ wZ_T) (by decide +kernel) ⟨Nat.le_of_ble_eq_true rfl, Nat.le_of_ble_eq_true rfl⟩, hw _ wT_T_hasBit, trivial⟩ (tk_preS hK hN hP hD [] [] rfl rfl rfl) rfl rfl hl.1 rfl (lv_room (Nat.le_of_ble_eq_true rfl)) dC_takeReadingCommand_3 ⟨Nat.zero_le _, Nat.zero_le _⟩) (fun H locs hP hD hS => ?_)
  refine W.eq (g2 := F0 m 6 ls [.int (tkT_hasBit_r x0 6)]) rfl ?_
  refine lv_if_eq (tgt := 18) hx hb dC_takeReadingCommand_6 (by decide) (fun (h1_ : tkT_hasBit_r x0 6 = 0) => ?_) (fun (h1_ : ¬ (tkT_hasBit_r x0 6 = 0)) => ?_)
  · refine lv_iload_n hx hb dC_takeReadingCommand_18 rfl (lv_at hl 1 rfl) ?_
    refine lv_iconst (v := 2) hx hb dC_takeReadingCommand_19 (by decide) ?_
    refine tk_call0 hP hD hS hA (va_runSN (As := [.int x0, .int 2]) (rest := []) ⟨hx, hb, hml, hown, hw⟩ (kT_hasBit l D x0 2 H.size) ⟨va_cnB 2 hw (tk_g0 tkW_good wC_T_hasBit) rfl rfl rfl (hN (.methodLinkNest RC 38 yT_hasBit "TickLines") (by decide +kernel)) (hw _ wZ_T) (by decide +kernel) ⟨Nat.le_of_ble_eq_true rfl, Nat.le_of_ble_eq_true rfl⟩, hw _ wT_T_hasBit, trivial⟩ (tk_preS hK hN hP hD [] [] rfl rfl rfl) rfl rfl hl.1 rfl (lv_room (Nat.le_of_ble_eq_true rfl)) dC_takeReadingCommand_20 ⟨Nat.zero_le _, Nat.zero_le _⟩) (fun H locs hP hD hS => ?_)
    refine W.eq (g2 := F0 m 23 ls [.int (tkT_hasBit_r x0 2)]) rfl ?_
    refine lv_if_eq (tgt := 34) hx hb dC_takeReadingCommand_23 (by decide) (fun (h2_ : tkT_hasBit_r x0 2 = 0) => ?_) (fun (h2_ : ¬ (tkT_hasBit_r x0 2 = 0)) => ?_)
    · refine lv_iload_n hx hb dC_takeReadingCommand_34 rfl (lv_at hl 1 rfl) ?_
      refine lv_iconst (v := 1) hx hb dC_takeReadingCommand_35 (by decide) ?_
      refine tk_call0 hP hD hS hA (va_runSN (As := [.int x0, .int 1]) (rest := []) ⟨hx, hb, hml, hown, hw⟩ (kT_hasBit l D x0 1 H.size) ⟨va_cnB 2 hw (tk_g0 tkW_good wC_T_hasBit) rfl rfl rfl (hN (.methodLinkNest RC 38 yT_hasBit "TickLines") (by decide +kernel)) (hw _ wZ_T) (by decide +kernel) ⟨Nat.le_of_ble_eq_true rfl, Nat.le_of_ble_eq_true rfl⟩, hw _ wT_T_hasBit, trivial⟩ (tk_preS hK hN hP hD [] [] rfl rfl rfl) rfl rfl hl.1 rfl (lv_room (Nat.le_of_ble_eq_true rfl)) dC_takeReadingCommand_36 ⟨Nat.zero_le _, Nat.zero_le _⟩) (fun H locs hP hD hS => ?_)
      refine W.eq (g2 := F0 m 39 ls [.int (tkT_hasBit_r x0 1)]) rfl ?_
      refine lv_if_eq (tgt := 51) hx hb dC_takeReadingCommand_39 (by decide) (fun (h3_ : tkT_hasBit_r x0 1 = 0) => ?_) (fun (h3_ : ¬ (tkT_hasBit_r x0 1 = 0)) => ?_)
      · exact tk_vret hx hb hr hlk hP hD hS dC_takeReadingCommand_51 (tk_ewC (by unfold tkC_takeReadingCommand_s; rw [if_pos h1_, if_pos h2_, if_pos h3_]))
      · refine lv_aload_n hx hb dC_takeReadingCommand_42 rfl (lv_at hl 0 rfl) ?_
        refine lv_iload_n hx hb dC_takeReadingCommand_43 rfl (lv_at hl 1 rfl) ?_
        refine lv_iconst (v := 0) hx hb dC_takeReadingCommand_44 (by decide) ?_
        refine tk_call0 hP hD hS hA (va_runSN (As := [.int x0, .int 0]) (rest := [.ref h0]) ⟨hx, hb, hml, hown, hw⟩ (kT_hasBit l D x0 0 H.size) ⟨va_cnB 2 hw (tk_g0 tkW_good wC_T_hasBit) rfl rfl rfl (hN (.methodLinkNest RC 38 yT_hasBit "TickLines") (by decide +kernel)) (hw _ wZ_T) (by decide +kernel) ⟨Nat.le_of_ble_eq_true rfl, Nat.le_of_ble_eq_true rfl⟩, hw _ wT_T_hasBit, trivial⟩ (tk_preS hK hN hP hD [] [] rfl rfl rfl) rfl rfl hl.1 rfl (lv_room (Nat.le_of_ble_eq_true rfl)) dC_takeReadingCommand_45 ⟨Nat.zero_le _, Nat.zero_le _⟩) (fun H locs hP hD hS => ?_)
        refine W.eq (g2 := F0 m 48 ls [.int (tkT_hasBit_r x0 0), .ref h0]) rfl ?_
        refine va_put (D := D) (ci := 0) (v := .int (tkT_hasBit_r x0 0)) (ty := .boolean) (C := RC) (T := TC) (N := 18) hx hb hw inC tyC tyC_ok nmC hown hK hP hD hS 0 rfl rfl 16 (by decide) f90 (fun _ h9 => h9) rfl (tyC_ok 16 (by decide)) (tk_nb (tkT_hasBit_b x0 0)) (tk_fb (tkT_hasBit_b x0 0)) (Nat.le_of_ble_eq_true rfl) dC_takeReadingCommand_48 (fun H locs hP hD hS => ?_)
        have hP : va_P D vwCl [(h0, .inr (0, FC (tk_up c 16 (tkT_hasBit_r x0 0))))] H := hP
        have hD : va_D A [(h0, .inr (0, FC (tk_up c 16 (tkT_hasBit_r x0 0))))] := hD
        exact tk_vret hx hb hr hlk hP hD hS dC_takeReadingCommand_51 (tk_ewC (by unfold tkC_takeReadingCommand_s; rw [if_pos h1_, if_pos h2_, if_neg h3_]))
    · refine lv_aload_n hx hb dC_takeReadingCommand_26 rfl (lv_at hl 0 rfl) ?_
      refine lv_iconst (v := 1) hx hb dC_takeReadingCommand_27 (by decide) ?_
      refine va_put (D := D) (ci := 0) (v := .int 1) (ty := .boolean) (C := RC) (T := TC) (N := 18) hx hb hw inC tyC tyC_ok nmC hown hK hP hD hS 0 rfl rfl 17 (by decide) f84 (fun _ h9 => h9) rfl (tyC_ok 17 (by decide)) rfl rfl (Nat.le_of_ble_eq_true rfl) dC_takeReadingCommand_28 (fun H locs hP hD hS => ?_)
      have hP : va_P D vwCl [(h0, .inr (0, FC (tk_up c 17 1)))] H := hP
      have hD : va_D A [(h0, .inr (0, FC (tk_up c 17 1)))] := hD
      refine lv_goto (tgt := 51) hx hb dC_takeReadingCommand_31 (by decide) ?_
      exact tk_vret hx hb hr hlk hP hD hS dC_takeReadingCommand_51 (tk_ewC (by unfold tkC_takeReadingCommand_s; rw [if_pos h1_, if_neg h2_]))
  · refine lv_aload_n hx hb dC_takeReadingCommand_9 rfl (lv_at hl 0 rfl) ?_
    refine lv_iload_n hx hb dC_takeReadingCommand_10 rfl (lv_at hl 1 rfl) ?_
    refine lv_iconst (v := 5) hx hb dC_takeReadingCommand_11 (by decide) ?_
    refine tk_call0 hP hD hS hA (va_runSN (As := [.int x0, .int 5]) (rest := [.ref h0]) ⟨hx, hb, hml, hown, hw⟩ (kT_hasBit l D x0 5 H.size) ⟨va_cnB 2 hw (tk_g0 tkW_good wC_T_hasBit) rfl rfl rfl (hN (.methodLinkNest RC 38 yT_hasBit "TickLines") (by decide +kernel)) (hw _ wZ_T) (by decide +kernel) ⟨Nat.le_of_ble_eq_true rfl, Nat.le_of_ble_eq_true rfl⟩, hw _ wT_T_hasBit, trivial⟩ (tk_preS hK hN hP hD [] [] rfl rfl rfl) rfl rfl hl.1 rfl (lv_room (Nat.le_of_ble_eq_true rfl)) dC_takeReadingCommand_12 ⟨Nat.zero_le _, Nat.zero_le _⟩) (fun H locs hP hD hS => ?_)
    refine W.eq (g2 := F0 m 15 ls [.int (tkT_hasBit_r x0 5), .ref h0]) rfl ?_
    refine va_put (D := D) (ci := 0) (v := .int (tkT_hasBit_r x0 5)) (ty := .boolean) (C := RC) (T := TC) (N := 18) hx hb hw inC tyC tyC_ok nmC hown hK hP hD hS 0 rfl rfl 14 (by decide) f103 (fun _ h9 => h9) rfl (tyC_ok 14 (by decide)) (tk_nb (tkT_hasBit_b x0 5)) (tk_fb (tkT_hasBit_b x0 5)) (Nat.le_of_ble_eq_true rfl) dC_takeReadingCommand_15 (fun H locs hP hD hS => ?_)
    have hP : va_P D vwCl [(h0, .inr (0, FC (tk_up c 14 (tkT_hasBit_r x0 5))))] H := hP
    have hD : va_D A [(h0, .inr (0, FC (tk_up c 14 (tkT_hasBit_r x0 5))))] := hD
    refine lv_iload_n hx hb dC_takeReadingCommand_18 rfl (lv_at hl 1 rfl) ?_
    refine lv_iconst (v := 2) hx hb dC_takeReadingCommand_19 (by decide) ?_
    refine tk_call0 hP hD hS hA (va_runSN (As := [.int x0, .int 2]) (rest := []) ⟨hx, hb, hml, hown, hw⟩ (kT_hasBit l D x0 2 H.size) ⟨va_cnB 2 hw (tk_g0 tkW_good wC_T_hasBit) rfl rfl rfl (hN (.methodLinkNest RC 38 yT_hasBit "TickLines") (by decide +kernel)) (hw _ wZ_T) (by decide +kernel) ⟨Nat.le_of_ble_eq_true rfl, Nat.le_of_ble_eq_true rfl⟩, hw _ wT_T_hasBit, trivial⟩ (tk_preS hK hN hP hD [] [] rfl rfl rfl) rfl rfl hl.1 rfl (lv_room (Nat.le_of_ble_eq_true rfl)) dC_takeReadingCommand_20 ⟨Nat.zero_le _, Nat.zero_le _⟩) (fun H locs hP hD hS => ?_)
    refine W.eq (g2 := F0 m 23 ls [.int (tkT_hasBit_r x0 2)]) rfl ?_
    refine lv_if_eq (tgt := 34) hx hb dC_takeReadingCommand_23 (by decide) (fun (h4_ : tkT_hasBit_r x0 2 = 0) => ?_) (fun (h4_ : ¬ (tkT_hasBit_r x0 2 = 0)) => ?_)
    · refine lv_iload_n hx hb dC_takeReadingCommand_34 rfl (lv_at hl 1 rfl) ?_
      refine lv_iconst (v := 1) hx hb dC_takeReadingCommand_35 (by decide) ?_
      refine tk_call0 hP hD hS hA (va_runSN (As := [.int x0, .int 1]) (rest := []) ⟨hx, hb, hml, hown, hw⟩ (kT_hasBit l D x0 1 H.size) ⟨va_cnB 2 hw (tk_g0 tkW_good wC_T_hasBit) rfl rfl rfl (hN (.methodLinkNest RC 38 yT_hasBit "TickLines") (by decide +kernel)) (hw _ wZ_T) (by decide +kernel) ⟨Nat.le_of_ble_eq_true rfl, Nat.le_of_ble_eq_true rfl⟩, hw _ wT_T_hasBit, trivial⟩ (tk_preS hK hN hP hD [] [] rfl rfl rfl) rfl rfl hl.1 rfl (lv_room (Nat.le_of_ble_eq_true rfl)) dC_takeReadingCommand_36 ⟨Nat.zero_le _, Nat.zero_le _⟩) (fun H locs hP hD hS => ?_)
      refine W.eq (g2 := F0 m 39 ls [.int (tkT_hasBit_r x0 1)]) rfl ?_
      refine lv_if_eq (tgt := 51) hx hb dC_takeReadingCommand_39 (by decide) (fun (h5_ : tkT_hasBit_r x0 1 = 0) => ?_) (fun (h5_ : ¬ (tkT_hasBit_r x0 1 = 0)) => ?_)
      · exact tk_vret hx hb hr hlk hP hD hS dC_takeReadingCommand_51 (tk_ewC (by unfold tkC_takeReadingCommand_s; rw [if_neg h1_, if_pos h4_, if_pos h5_]))
      · refine lv_aload_n hx hb dC_takeReadingCommand_42 rfl (lv_at hl 0 rfl) ?_
        refine lv_iload_n hx hb dC_takeReadingCommand_43 rfl (lv_at hl 1 rfl) ?_
        refine lv_iconst (v := 0) hx hb dC_takeReadingCommand_44 (by decide) ?_
        refine tk_call0 hP hD hS hA (va_runSN (As := [.int x0, .int 0]) (rest := [.ref h0]) ⟨hx, hb, hml, hown, hw⟩ (kT_hasBit l D x0 0 H.size) ⟨va_cnB 2 hw (tk_g0 tkW_good wC_T_hasBit) rfl rfl rfl (hN (.methodLinkNest RC 38 yT_hasBit "TickLines") (by decide +kernel)) (hw _ wZ_T) (by decide +kernel) ⟨Nat.le_of_ble_eq_true rfl, Nat.le_of_ble_eq_true rfl⟩, hw _ wT_T_hasBit, trivial⟩ (tk_preS hK hN hP hD [] [] rfl rfl rfl) rfl rfl hl.1 rfl (lv_room (Nat.le_of_ble_eq_true rfl)) dC_takeReadingCommand_45 ⟨Nat.zero_le _, Nat.zero_le _⟩) (fun H locs hP hD hS => ?_)
        refine W.eq (g2 := F0 m 48 ls [.int (tkT_hasBit_r x0 0), .ref h0]) rfl ?_
        refine va_put (D := D) (ci := 0) (v := .int (tkT_hasBit_r x0 0)) (ty := .boolean) (C := RC) (T := TC) (N := 18) hx hb hw inC tyC tyC_ok nmC hown hK hP hD hS 0 rfl rfl 16 (by decide) f90 (fun _ h9 => h9) rfl (tyC_ok 16 (by decide)) (tk_nb (tkT_hasBit_b x0 0)) (tk_fb (tkT_hasBit_b x0 0)) (Nat.le_of_ble_eq_true rfl) dC_takeReadingCommand_48 (fun H locs hP hD hS => ?_)
        have hP : va_P D vwCl [(h0, .inr (0, FC (tk_up (tk_up c 14 (tkT_hasBit_r x0 5)) 16 (tkT_hasBit_r x0 0))))] H := hP
        have hD : va_D A [(h0, .inr (0, FC (tk_up (tk_up c 14 (tkT_hasBit_r x0 5)) 16 (tkT_hasBit_r x0 0))))] := hD
        exact tk_vret hx hb hr hlk hP hD hS dC_takeReadingCommand_51 (tk_ewC (by unfold tkC_takeReadingCommand_s; rw [if_neg h1_, if_pos h4_, if_neg h5_]))
    · refine lv_aload_n hx hb dC_takeReadingCommand_26 rfl (lv_at hl 0 rfl) ?_
      refine lv_iconst (v := 1) hx hb dC_takeReadingCommand_27 (by decide) ?_
      refine va_put (D := D) (ci := 0) (v := .int 1) (ty := .boolean) (C := RC) (T := TC) (N := 18) hx hb hw inC tyC tyC_ok nmC hown hK hP hD hS 0 rfl rfl 17 (by decide) f84 (fun _ h9 => h9) rfl (tyC_ok 17 (by decide)) rfl rfl (Nat.le_of_ble_eq_true rfl) dC_takeReadingCommand_28 (fun H locs hP hD hS => ?_)
      have hP : va_P D vwCl [(h0, .inr (0, FC (tk_up (tk_up c 14 (tkT_hasBit_r x0 5)) 17 1)))] H := hP
      have hD : va_D A [(h0, .inr (0, FC (tk_up (tk_up c 14 (tkT_hasBit_r x0 5)) 17 1)))] := hD
      refine lv_goto (tgt := 51) hx hb dC_takeReadingCommand_31 (by decide) ?_
      exact tk_vret hx hb hr hlk hP hD hS dC_takeReadingCommand_51 (tk_ewC (by unfold tkC_takeReadingCommand_s; rw [if_neg h1_, if_neg h4_]))
def tkC_firstHolding_r (c : Nat → Int32) : Int32 :=
  if tkT_hasBit_r (tkC_holdingLevels_r c) (((c 6) + 1) &&& 7) = 0 then (if tkT_hasBit_r (tkC_holdingLevels_r c) (((c 6) + 2) &&& 7) = 0 then (if tkT_hasBit_r (tkC_holdingLevels_r c) (((c 6) + 3) &&& 7) = 0 then (if tkT_hasBit_r (tkC_holdingLevels_r c) (((c 6) + 4) &&& 7) = 0 then (if tkT_hasBit_r (tkC_holdingLevels_r c) (((c 6) + 5) &&& 7) = 0 then (if tkT_hasBit_r (tkC_holdingLevels_r c) (((c 6) + 6) &&& 7) = 0 then (if tkT_hasBit_r (tkC_holdingLevels_r c) (((c 6) + 7) &&& 7) = 0 then (if tkT_hasBit_r (tkC_holdingLevels_r c) (((c 6) + 8) &&& 7) = 0 then (-1)
                else ((c 6) + 8) &&& 7)
              else ((c 6) + 7) &&& 7)
            else ((c 6) + 6) &&& 7)
          else ((c 6) + 5) &&& 7)
        else ((c 6) + 4) &&& 7)
      else ((c 6) + 3) &&& 7)
    else ((c 6) + 2) &&& 7)
  else ((c 6) + 1) &&& 7
set_option maxHeartbeats 1000000 in
set_option maxRecDepth 100000 in
theorem kC_firstHolding (l : Launch) (D : va_G) (h0 : Nat) (c : Nat → Int32) : tk_M l yC_firstHolding wsC_firstHolding { frames := 1, cells := 0, slots := 0, locals := 21 } D [] [.ref h0] [(h0, .inr (0, FC c))] [(h0, .inr (0, FC c))] (some (.int (tkC_firstHolding_r c))) := by
  refine tk_M.of (cc := cC_firstHolding) (maxL := 4) (ret := (some .int)) (by decide) rfl (Nat.le_of_ble_eq_true rfl) ?_
  intro p e s m below meth co A H locs ls hB hK hN hA hP hD hS hl
  obtain ⟨hx, hb, hr, hml, hown, hlk, hnm, hts⟩ := hB
  have hown : s.vm.findClass RC = some m.cls := hown
  have hl : lv_has ls 4 [(0, .ref h0)] := hl
  have hw : ∀ w ∈ tkW, w.before _ s = true := fun w h => hts w (List.mem_cons_of_mem _ h)
  have f15 := hw _ wF_C_15
  refine lv_aload_n hx hb dC_firstHolding_0 rfl (lv_at hl 0 rfl) ?_
  refine tk_callA hD hS hA (va_runV (As := []) (rest := []) ⟨hx, hb, hml, hown, hw⟩ (kC_holdingLevels l D h0 c H.size) (cwV 0 hw (tk_gV tkW_good wM_C_35 wI_C_holdingLevels wS_C_holdingLevels wZ_C wC_C_holdingLevels) rfl rfl rfl (by decide +kernel) ⟨Nat.le_of_ble_eq_true rfl, Nat.le_of_ble_eq_true rfl⟩) (tk_preV (q0 := 0) hK hN hP hD [0] [] rfl rfl rfl rfl rfl) rfl rfl hl.1 rfl (lv_room (Nat.le_of_ble_eq_true rfl)) dC_firstHolding_1 ⟨Nat.zero_le _, Nat.zero_le _⟩) (fun H locs hP hD hS => ?_)
  refine W.eq (g2 := F0 m 4 ls [.int (tkC_holdingLevels_r c)]) rfl ?_
  refine lv_istore_n hx hb dC_firstHolding_4 rfl hl (by decide) rfl (fun ls hl => ?_)
  have hl : lv_has ls 4 [(1, .int (tkC_holdingLevels_r c)), (0, .ref h0)] := hl
  refine lv_iconst (v := 1) hx hb dC_firstHolding_5 (by decide) ?_
  refine lv_istore_n hx hb dC_firstHolding_6 rfl hl (by decide) rfl (fun ls hl => ?_)
  have hl : lv_has ls 4 [(2, .int 1), (1, .int (tkC_holdingLevels_r c)), (0, .ref h0)] := hl
  refine lv_iload_n hx hb dC_firstHolding_7 rfl (lv_at hl 0 rfl) ?_
  refine lv_bipush (v := 8) hx hb dC_firstHolding_8 (by decide) ?_
  refine lv_icmp_gt (tgt := 39) hx hb dC_firstHolding_10 (by decide) (fun h => absurd h (by decide)) (fun _ => ?_)
  refine lv_aload_n hx hb dC_firstHolding_13 rfl (lv_at hl 2 rfl) ?_
  refine va_get (D := D) (ci := 0) (v := .int (c 6)) (C := RC) (T := TC) (N := 18) hx hb hw inC hown hK hP 0 rfl rfl 6 (by decide) f15 (fun _ h9 => h9) rfl dC_firstHolding_14 ?_
  refine lv_iload_n hx hb dC_firstHolding_17 rfl (lv_at hl 0 rfl) ?_
  refine lv_iadd hx hb dC_firstHolding_18 ?_
  refine lv_bipush (v := 7) hx hb dC_firstHolding_19 (by decide) ?_
  refine lv_iand hx hb dC_firstHolding_21 ?_
  refine lv_istore_n hx hb dC_firstHolding_22 rfl hl (by decide) rfl (fun ls hl => ?_)
  have hl : lv_has ls 4 [(3, .int (((c 6) + 1) &&& 7)), (2, .int 1), (1, .int (tkC_holdingLevels_r c)), (0, .ref h0)] := hl
  refine lv_iload_n hx hb dC_firstHolding_23 rfl (lv_at hl 2 rfl) ?_
  refine lv_iload_n hx hb dC_firstHolding_24 rfl (lv_at hl 0 rfl) ?_
  refine tk_call0 hP hD hS hA (va_runSN (As := [.int (tkC_holdingLevels_r c), .int (((c 6) + 1) &&& 7)]) (rest := []) ⟨hx, hb, hml, hown, hw⟩ (kT_hasBit l D (tkC_holdingLevels_r c) (((c 6) + 1) &&& 7) H.size) ⟨va_cnB 2 hw (tk_g0 tkW_good wC_T_hasBit) rfl rfl rfl (hN (.methodLinkNest RC 38 yT_hasBit "TickLines") (by decide +kernel)) (hw _ wZ_T) (by decide +kernel) ⟨Nat.le_of_ble_eq_true rfl, Nat.le_of_ble_eq_true rfl⟩, hw _ wT_T_hasBit, trivial⟩ (tk_preS hK hN hP hD [] [] rfl rfl rfl) rfl rfl hl.1 rfl (lv_room (Nat.le_of_ble_eq_true rfl)) dC_firstHolding_25 ⟨Nat.zero_le _, Nat.zero_le _⟩) (fun H locs hP hD hS => ?_)
  refine W.eq (g2 := F0 m 28 ls [.int (tkT_hasBit_r (tkC_holdingLevels_r c) (((c 6) + 1) &&& 7))]) rfl ?_
  refine lv_if_eq (tgt := 33) hx hb dC_firstHolding_28 (by decide) (fun (h1_ : tkT_hasBit_r (tkC_holdingLevels_r c) (((c 6) + 1) &&& 7) = 0) => ?_) (fun (h1_ : ¬ (tkT_hasBit_r (tkC_holdingLevels_r c) (((c 6) + 1) &&& 7) = 0)) => ?_)
  · refine lv_iinc (k := 1) (v := 2) hx hb dC_firstHolding_33 hl rfl (by decide) (by decide) rfl (fun ls hl => ?_)
    have hl : lv_has ls 4 [(2, .int 2), (3, .int (((c 6) + 1) &&& 7)), (1, .int (tkC_holdingLevels_r c)), (0, .ref h0)] := hl
    refine lv_goto (tgt := 7) hx hb dC_firstHolding_36 (by decide) ?_
    refine lv_iload_n hx hb dC_firstHolding_7 rfl (lv_at hl 0 rfl) ?_
    refine lv_bipush (v := 8) hx hb dC_firstHolding_8 (by decide) ?_
    refine lv_icmp_gt (tgt := 39) hx hb dC_firstHolding_10 (by decide) (fun h => absurd h (by decide)) (fun _ => ?_)
    refine lv_aload_n hx hb dC_firstHolding_13 rfl (lv_at hl 3 rfl) ?_
    refine va_get (D := D) (ci := 0) (v := .int (c 6)) (C := RC) (T := TC) (N := 18) hx hb hw inC hown hK hP 0 rfl rfl 6 (by decide) f15 (fun _ h9 => h9) rfl dC_firstHolding_14 ?_
    refine lv_iload_n hx hb dC_firstHolding_17 rfl (lv_at hl 0 rfl) ?_
    refine lv_iadd hx hb dC_firstHolding_18 ?_
    refine lv_bipush (v := 7) hx hb dC_firstHolding_19 (by decide) ?_
    refine lv_iand hx hb dC_firstHolding_21 ?_
    refine lv_istore_n hx hb dC_firstHolding_22 rfl hl (by decide) rfl (fun ls hl => ?_)
    have hl : lv_has ls 4 [(3, .int (((c 6) + 2) &&& 7)), (2, .int 2), (1, .int (tkC_holdingLevels_r c)), (0, .ref h0)] := hl
    refine lv_iload_n hx hb dC_firstHolding_23 rfl (lv_at hl 2 rfl) ?_
    refine lv_iload_n hx hb dC_firstHolding_24 rfl (lv_at hl 0 rfl) ?_
    refine tk_call0 hP hD hS hA (va_runSN (As := [.int (tkC_holdingLevels_r c), .int (((c 6) + 2) &&& 7)]) (rest := []) ⟨hx, hb, hml, hown, hw⟩ (kT_hasBit l D (tkC_holdingLevels_r c) (((c 6) + 2) &&& 7) H.size) ⟨va_cnB 2 hw (tk_g0 tkW_good wC_T_hasBit) rfl rfl rfl (hN (.methodLinkNest RC 38 yT_hasBit "TickLines") (by decide +kernel)) (hw _ wZ_T) (by decide +kernel) ⟨Nat.le_of_ble_eq_true rfl, Nat.le_of_ble_eq_true rfl⟩, hw _ wT_T_hasBit, trivial⟩ (tk_preS hK hN hP hD [] [] rfl rfl rfl) rfl rfl hl.1 rfl (lv_room (Nat.le_of_ble_eq_true rfl)) dC_firstHolding_25 ⟨Nat.zero_le _, Nat.zero_le _⟩) (fun H locs hP hD hS => ?_)
    refine W.eq (g2 := F0 m 28 ls [.int (tkT_hasBit_r (tkC_holdingLevels_r c) (((c 6) + 2) &&& 7))]) rfl ?_
    refine lv_if_eq (tgt := 33) hx hb dC_firstHolding_28 (by decide) (fun (h2_ : tkT_hasBit_r (tkC_holdingLevels_r c) (((c 6) + 2) &&& 7) = 0) => ?_) (fun (h2_ : ¬ (tkT_hasBit_r (tkC_holdingLevels_r c) (((c 6) + 2) &&& 7) = 0)) => ?_)
    · refine lv_iinc (k := 1) (v := 3) hx hb dC_firstHolding_33 hl rfl (by decide) (by decide) rfl (fun ls hl => ?_)
      have hl : lv_has ls 4 [(2, .int 3), (3, .int (((c 6) + 2) &&& 7)), (1, .int (tkC_holdingLevels_r c)), (0, .ref h0)] := hl
      refine lv_goto (tgt := 7) hx hb dC_firstHolding_36 (by decide) ?_
      refine lv_iload_n hx hb dC_firstHolding_7 rfl (lv_at hl 0 rfl) ?_
      refine lv_bipush (v := 8) hx hb dC_firstHolding_8 (by decide) ?_
      refine lv_icmp_gt (tgt := 39) hx hb dC_firstHolding_10 (by decide) (fun h => absurd h (by decide)) (fun _ => ?_)
      refine lv_aload_n hx hb dC_firstHolding_13 rfl (lv_at hl 3 rfl) ?_
      refine va_get (D := D) (ci := 0) (v := .int (c 6)) (C := RC) (T := TC) (N := 18) hx hb hw inC hown hK hP 0 rfl rfl 6 (by decide) f15 (fun _ h9 => h9) rfl dC_firstHolding_14 ?_
      refine lv_iload_n hx hb dC_firstHolding_17 rfl (lv_at hl 0 rfl) ?_
      refine lv_iadd hx hb dC_firstHolding_18 ?_
      refine lv_bipush (v := 7) hx hb dC_firstHolding_19 (by decide) ?_
      refine lv_iand hx hb dC_firstHolding_21 ?_
      refine lv_istore_n hx hb dC_firstHolding_22 rfl hl (by decide) rfl (fun ls hl => ?_)
      have hl : lv_has ls 4 [(3, .int (((c 6) + 3) &&& 7)), (2, .int 3), (1, .int (tkC_holdingLevels_r c)), (0, .ref h0)] := hl
      refine lv_iload_n hx hb dC_firstHolding_23 rfl (lv_at hl 2 rfl) ?_
      refine lv_iload_n hx hb dC_firstHolding_24 rfl (lv_at hl 0 rfl) ?_
      refine tk_call0 hP hD hS hA (va_runSN (As := [.int (tkC_holdingLevels_r c), .int (((c 6) + 3) &&& 7)]) (rest := []) ⟨hx, hb, hml, hown, hw⟩ (kT_hasBit l D (tkC_holdingLevels_r c) (((c 6) + 3) &&& 7) H.size) ⟨va_cnB 2 hw (tk_g0 tkW_good wC_T_hasBit) rfl rfl rfl (hN (.methodLinkNest RC 38 yT_hasBit "TickLines") (by decide +kernel)) (hw _ wZ_T) (by decide +kernel) ⟨Nat.le_of_ble_eq_true rfl, Nat.le_of_ble_eq_true rfl⟩, hw _ wT_T_hasBit, trivial⟩ (tk_preS hK hN hP hD [] [] rfl rfl rfl) rfl rfl hl.1 rfl (lv_room (Nat.le_of_ble_eq_true rfl)) dC_firstHolding_25 ⟨Nat.zero_le _, Nat.zero_le _⟩) (fun H locs hP hD hS => ?_)
      refine W.eq (g2 := F0 m 28 ls [.int (tkT_hasBit_r (tkC_holdingLevels_r c) (((c 6) + 3) &&& 7))]) rfl ?_
      refine lv_if_eq (tgt := 33) hx hb dC_firstHolding_28 (by decide) (fun (h3_ : tkT_hasBit_r (tkC_holdingLevels_r c) (((c 6) + 3) &&& 7) = 0) => ?_) (fun (h3_ : ¬ (tkT_hasBit_r (tkC_holdingLevels_r c) (((c 6) + 3) &&& 7) = 0)) => ?_)
      · refine lv_iinc (k := 1) (v := 4) hx hb dC_firstHolding_33 hl rfl (by decide) (by decide) rfl (fun ls hl => ?_)
        have hl : lv_has ls 4 [(2, .int 4), (3, .int (((c 6) + 3) &&& 7)), (1, .int (tkC_holdingLevels_r c)), (0, .ref h0)] := hl
        refine lv_goto (tgt := 7) hx hb dC_firstHolding_36 (by decide) ?_
        refine lv_iload_n hx hb dC_firstHolding_7 rfl (lv_at hl 0 rfl) ?_
        refine lv_bipush (v := 8) hx hb dC_firstHolding_8 (by decide) ?_
        refine lv_icmp_gt (tgt := 39) hx hb dC_firstHolding_10 (by decide) (fun h => absurd h (by decide)) (fun _ => ?_)
        refine lv_aload_n hx hb dC_firstHolding_13 rfl (lv_at hl 3 rfl) ?_
        refine va_get (D := D) (ci := 0) (v := .int (c 6)) (C := RC) (T := TC) (N := 18) hx hb hw inC hown hK hP 0 rfl rfl 6 (by decide) f15 (fun _ h9 => h9) rfl dC_firstHolding_14 ?_
        refine lv_iload_n hx hb dC_firstHolding_17 rfl (lv_at hl 0 rfl) ?_
        refine lv_iadd hx hb dC_firstHolding_18 ?_
        refine lv_bipush (v := 7) hx hb dC_firstHolding_19 (by decide) ?_
        refine lv_iand hx hb dC_firstHolding_21 ?_
        refine lv_istore_n hx hb dC_firstHolding_22 rfl hl (by decide) rfl (fun ls hl => ?_)
        have hl : lv_has ls 4 [(3, .int (((c 6) + 4) &&& 7)), (2, .int 4), (1, .int (tkC_holdingLevels_r c)), (0, .ref h0)] := hl
        refine lv_iload_n hx hb dC_firstHolding_23 rfl (lv_at hl 2 rfl) ?_
        refine lv_iload_n hx hb dC_firstHolding_24 rfl (lv_at hl 0 rfl) ?_
        refine tk_call0 hP hD hS hA (va_runSN (As := [.int (tkC_holdingLevels_r c), .int (((c 6) + 4) &&& 7)]) (rest := []) ⟨hx, hb, hml, hown, hw⟩ (kT_hasBit l D (tkC_holdingLevels_r c) (((c 6) + 4) &&& 7) H.size) ⟨va_cnB 2 hw (tk_g0 tkW_good wC_T_hasBit) rfl rfl rfl (hN (.methodLinkNest RC 38 yT_hasBit "TickLines") (by decide +kernel)) (hw _ wZ_T) (by decide +kernel) ⟨Nat.le_of_ble_eq_true rfl, Nat.le_of_ble_eq_true rfl⟩, hw _ wT_T_hasBit, trivial⟩ (tk_preS hK hN hP hD [] [] rfl rfl rfl) rfl rfl hl.1 rfl (lv_room (Nat.le_of_ble_eq_true rfl)) dC_firstHolding_25 ⟨Nat.zero_le _, Nat.zero_le _⟩) (fun H locs hP hD hS => ?_)
        refine W.eq (g2 := F0 m 28 ls [.int (tkT_hasBit_r (tkC_holdingLevels_r c) (((c 6) + 4) &&& 7))]) rfl ?_
        refine lv_if_eq (tgt := 33) hx hb dC_firstHolding_28 (by decide) (fun (h4_ : tkT_hasBit_r (tkC_holdingLevels_r c) (((c 6) + 4) &&& 7) = 0) => ?_) (fun (h4_ : ¬ (tkT_hasBit_r (tkC_holdingLevels_r c) (((c 6) + 4) &&& 7) = 0)) => ?_)
        · refine lv_iinc (k := 1) (v := 5) hx hb dC_firstHolding_33 hl rfl (by decide) (by decide) rfl (fun ls hl => ?_)
          have hl : lv_has ls 4 [(2, .int 5), (3, .int (((c 6) + 4) &&& 7)), (1, .int (tkC_holdingLevels_r c)), (0, .ref h0)] := hl
          refine lv_goto (tgt := 7) hx hb dC_firstHolding_36 (by decide) ?_
          refine lv_iload_n hx hb dC_firstHolding_7 rfl (lv_at hl 0 rfl) ?_
          refine lv_bipush (v := 8) hx hb dC_firstHolding_8 (by decide) ?_
          refine lv_icmp_gt (tgt := 39) hx hb dC_firstHolding_10 (by decide) (fun h => absurd h (by decide)) (fun _ => ?_)
          refine lv_aload_n hx hb dC_firstHolding_13 rfl (lv_at hl 3 rfl) ?_
          refine va_get (D := D) (ci := 0) (v := .int (c 6)) (C := RC) (T := TC) (N := 18) hx hb hw inC hown hK hP 0 rfl rfl 6 (by decide) f15 (fun _ h9 => h9) rfl dC_firstHolding_14 ?_
          refine lv_iload_n hx hb dC_firstHolding_17 rfl (lv_at hl 0 rfl) ?_
          refine lv_iadd hx hb dC_firstHolding_18 ?_
          refine lv_bipush (v := 7) hx hb dC_firstHolding_19 (by decide) ?_
          refine lv_iand hx hb dC_firstHolding_21 ?_
          refine lv_istore_n hx hb dC_firstHolding_22 rfl hl (by decide) rfl (fun ls hl => ?_)
          have hl : lv_has ls 4 [(3, .int (((c 6) + 5) &&& 7)), (2, .int 5), (1, .int (tkC_holdingLevels_r c)), (0, .ref h0)] := hl
          refine lv_iload_n hx hb dC_firstHolding_23 rfl (lv_at hl 2 rfl) ?_
          refine lv_iload_n hx hb dC_firstHolding_24 rfl (lv_at hl 0 rfl) ?_
          refine tk_call0 hP hD hS hA (va_runSN (As := [.int (tkC_holdingLevels_r c), .int (((c 6) + 5) &&& 7)]) (rest := []) ⟨hx, hb, hml, hown, hw⟩ (kT_hasBit l D (tkC_holdingLevels_r c) (((c 6) + 5) &&& 7) H.size) ⟨va_cnB 2 hw (tk_g0 tkW_good wC_T_hasBit) rfl rfl rfl (hN (.methodLinkNest RC 38 yT_hasBit "TickLines") (by decide +kernel)) (hw _ wZ_T) (by decide +kernel) ⟨Nat.le_of_ble_eq_true rfl, Nat.le_of_ble_eq_true rfl⟩, hw _ wT_T_hasBit, trivial⟩ (tk_preS hK hN hP hD [] [] rfl rfl rfl) rfl rfl hl.1 rfl (lv_room (Nat.le_of_ble_eq_true rfl)) dC_firstHolding_25 ⟨Nat.zero_le _, Nat.zero_le _⟩) (fun H locs hP hD hS => ?_)
          refine W.eq (g2 := F0 m 28 ls [.int (tkT_hasBit_r (tkC_holdingLevels_r c) (((c 6) + 5) &&& 7))]) rfl ?_
          refine lv_if_eq (tgt := 33) hx hb dC_firstHolding_28 (by decide) (fun (h5_ : tkT_hasBit_r (tkC_holdingLevels_r c) (((c 6) + 5) &&& 7) = 0) => ?_) (fun (h5_ : ¬ (tkT_hasBit_r (tkC_holdingLevels_r c) (((c 6) + 5) &&& 7) = 0)) => ?_)
          · refine lv_iinc (k := 1) (v := 6) hx hb dC_firstHolding_33 hl rfl (by decide) (by decide) rfl (fun ls hl => ?_)
            have hl : lv_has ls 4 [(2, .int 6), (3, .int (((c 6) + 5) &&& 7)), (1, .int (tkC_holdingLevels_r c)), (0, .ref h0)] := hl
            refine lv_goto (tgt := 7) hx hb dC_firstHolding_36 (by decide) ?_
            refine lv_iload_n hx hb dC_firstHolding_7 rfl (lv_at hl 0 rfl) ?_
            refine lv_bipush (v := 8) hx hb dC_firstHolding_8 (by decide) ?_
            refine lv_icmp_gt (tgt := 39) hx hb dC_firstHolding_10 (by decide) (fun h => absurd h (by decide)) (fun _ => ?_)
            refine lv_aload_n hx hb dC_firstHolding_13 rfl (lv_at hl 3 rfl) ?_
            refine va_get (D := D) (ci := 0) (v := .int (c 6)) (C := RC) (T := TC) (N := 18) hx hb hw inC hown hK hP 0 rfl rfl 6 (by decide) f15 (fun _ h9 => h9) rfl dC_firstHolding_14 ?_
            refine lv_iload_n hx hb dC_firstHolding_17 rfl (lv_at hl 0 rfl) ?_
            refine lv_iadd hx hb dC_firstHolding_18 ?_
            refine lv_bipush (v := 7) hx hb dC_firstHolding_19 (by decide) ?_
            refine lv_iand hx hb dC_firstHolding_21 ?_
            refine lv_istore_n hx hb dC_firstHolding_22 rfl hl (by decide) rfl (fun ls hl => ?_)
            have hl : lv_has ls 4 [(3, .int (((c 6) + 6) &&& 7)), (2, .int 6), (1, .int (tkC_holdingLevels_r c)), (0, .ref h0)] := hl
            refine lv_iload_n hx hb dC_firstHolding_23 rfl (lv_at hl 2 rfl) ?_
            refine lv_iload_n hx hb dC_firstHolding_24 rfl (lv_at hl 0 rfl) ?_
            refine tk_call0 hP hD hS hA (va_runSN (As := [.int (tkC_holdingLevels_r c), .int (((c 6) + 6) &&& 7)]) (rest := []) ⟨hx, hb, hml, hown, hw⟩ (kT_hasBit l D (tkC_holdingLevels_r c) (((c 6) + 6) &&& 7) H.size) ⟨va_cnB 2 hw (tk_g0 tkW_good wC_T_hasBit) rfl rfl rfl (hN (.methodLinkNest RC 38 yT_hasBit "TickLines") (by decide +kernel)) (hw _ wZ_T) (by decide +kernel) ⟨Nat.le_of_ble_eq_true rfl, Nat.le_of_ble_eq_true rfl⟩, hw _ wT_T_hasBit, trivial⟩ (tk_preS hK hN hP hD [] [] rfl rfl rfl) rfl rfl hl.1 rfl (lv_room (Nat.le_of_ble_eq_true rfl)) dC_firstHolding_25 ⟨Nat.zero_le _, Nat.zero_le _⟩) (fun H locs hP hD hS => ?_)
            refine W.eq (g2 := F0 m 28 ls [.int (tkT_hasBit_r (tkC_holdingLevels_r c) (((c 6) + 6) &&& 7))]) rfl ?_
            refine lv_if_eq (tgt := 33) hx hb dC_firstHolding_28 (by decide) (fun (h6_ : tkT_hasBit_r (tkC_holdingLevels_r c) (((c 6) + 6) &&& 7) = 0) => ?_) (fun (h6_ : ¬ (tkT_hasBit_r (tkC_holdingLevels_r c) (((c 6) + 6) &&& 7) = 0)) => ?_)
            · refine lv_iinc (k := 1) (v := 7) hx hb dC_firstHolding_33 hl rfl (by decide) (by decide) rfl (fun ls hl => ?_)
              have hl : lv_has ls 4 [(2, .int 7), (3, .int (((c 6) + 6) &&& 7)), (1, .int (tkC_holdingLevels_r c)), (0, .ref h0)] := hl
              refine lv_goto (tgt := 7) hx hb dC_firstHolding_36 (by decide) ?_
              refine lv_iload_n hx hb dC_firstHolding_7 rfl (lv_at hl 0 rfl) ?_
              refine lv_bipush (v := 8) hx hb dC_firstHolding_8 (by decide) ?_
              refine lv_icmp_gt (tgt := 39) hx hb dC_firstHolding_10 (by decide) (fun h => absurd h (by decide)) (fun _ => ?_)
              refine lv_aload_n hx hb dC_firstHolding_13 rfl (lv_at hl 3 rfl) ?_
              refine va_get (D := D) (ci := 0) (v := .int (c 6)) (C := RC) (T := TC) (N := 18) hx hb hw inC hown hK hP 0 rfl rfl 6 (by decide) f15 (fun _ h9 => h9) rfl dC_firstHolding_14 ?_
              refine lv_iload_n hx hb dC_firstHolding_17 rfl (lv_at hl 0 rfl) ?_
              refine lv_iadd hx hb dC_firstHolding_18 ?_
              refine lv_bipush (v := 7) hx hb dC_firstHolding_19 (by decide) ?_
              refine lv_iand hx hb dC_firstHolding_21 ?_
              refine lv_istore_n hx hb dC_firstHolding_22 rfl hl (by decide) rfl (fun ls hl => ?_)
              have hl : lv_has ls 4 [(3, .int (((c 6) + 7) &&& 7)), (2, .int 7), (1, .int (tkC_holdingLevels_r c)), (0, .ref h0)] := hl
              refine lv_iload_n hx hb dC_firstHolding_23 rfl (lv_at hl 2 rfl) ?_
              refine lv_iload_n hx hb dC_firstHolding_24 rfl (lv_at hl 0 rfl) ?_
              refine tk_call0 hP hD hS hA (va_runSN (As := [.int (tkC_holdingLevels_r c), .int (((c 6) + 7) &&& 7)]) (rest := []) ⟨hx, hb, hml, hown, hw⟩ (kT_hasBit l D (tkC_holdingLevels_r c) (((c 6) + 7) &&& 7) H.size) ⟨va_cnB 2 hw (tk_g0 tkW_good wC_T_hasBit) rfl rfl rfl (hN (.methodLinkNest RC 38 yT_hasBit "TickLines") (by decide +kernel)) (hw _ wZ_T) (by decide +kernel) ⟨Nat.le_of_ble_eq_true rfl, Nat.le_of_ble_eq_true rfl⟩, hw _ wT_T_hasBit, trivial⟩ (tk_preS hK hN hP hD [] [] rfl rfl rfl) rfl rfl hl.1 rfl (lv_room (Nat.le_of_ble_eq_true rfl)) dC_firstHolding_25 ⟨Nat.zero_le _, Nat.zero_le _⟩) (fun H locs hP hD hS => ?_)
              refine W.eq (g2 := F0 m 28 ls [.int (tkT_hasBit_r (tkC_holdingLevels_r c) (((c 6) + 7) &&& 7))]) rfl ?_
              refine lv_if_eq (tgt := 33) hx hb dC_firstHolding_28 (by decide) (fun (h7_ : tkT_hasBit_r (tkC_holdingLevels_r c) (((c 6) + 7) &&& 7) = 0) => ?_) (fun (h7_ : ¬ (tkT_hasBit_r (tkC_holdingLevels_r c) (((c 6) + 7) &&& 7) = 0)) => ?_)
              · refine lv_iinc (k := 1) (v := 8) hx hb dC_firstHolding_33 hl rfl (by decide) (by decide) rfl (fun ls hl => ?_)
                have hl : lv_has ls 4 [(2, .int 8), (3, .int (((c 6) + 7) &&& 7)), (1, .int (tkC_holdingLevels_r c)), (0, .ref h0)] := hl
                refine lv_goto (tgt := 7) hx hb dC_firstHolding_36 (by decide) ?_
                refine lv_iload_n hx hb dC_firstHolding_7 rfl (lv_at hl 0 rfl) ?_
                refine lv_bipush (v := 8) hx hb dC_firstHolding_8 (by decide) ?_
                refine lv_icmp_gt (tgt := 39) hx hb dC_firstHolding_10 (by decide) (fun h => absurd h (by decide)) (fun _ => ?_)
                refine lv_aload_n hx hb dC_firstHolding_13 rfl (lv_at hl 3 rfl) ?_
                refine va_get (D := D) (ci := 0) (v := .int (c 6)) (C := RC) (T := TC) (N := 18) hx hb hw inC hown hK hP 0 rfl rfl 6 (by decide) f15 (fun _ h9 => h9) rfl dC_firstHolding_14 ?_
                refine lv_iload_n hx hb dC_firstHolding_17 rfl (lv_at hl 0 rfl) ?_
                refine lv_iadd hx hb dC_firstHolding_18 ?_
                refine lv_bipush (v := 7) hx hb dC_firstHolding_19 (by decide) ?_
                refine lv_iand hx hb dC_firstHolding_21 ?_
                refine lv_istore_n hx hb dC_firstHolding_22 rfl hl (by decide) rfl (fun ls hl => ?_)
                have hl : lv_has ls 4 [(3, .int (((c 6) + 8) &&& 7)), (2, .int 8), (1, .int (tkC_holdingLevels_r c)), (0, .ref h0)] := hl
                refine lv_iload_n hx hb dC_firstHolding_23 rfl (lv_at hl 2 rfl) ?_
                refine lv_iload_n hx hb dC_firstHolding_24 rfl (lv_at hl 0 rfl) ?_
                refine tk_call0 hP hD hS hA (va_runSN (As := [.int (tkC_holdingLevels_r c), .int (((c 6) + 8) &&& 7)]) (rest := []) ⟨hx, hb, hml, hown, hw⟩ (kT_hasBit l D (tkC_holdingLevels_r c) (((c 6) + 8) &&& 7) H.size) ⟨va_cnB 2 hw (tk_g0 tkW_good wC_T_hasBit) rfl rfl rfl (hN (.methodLinkNest RC 38 yT_hasBit "TickLines") (by decide +kernel)) (hw _ wZ_T) (by decide +kernel) ⟨Nat.le_of_ble_eq_true rfl, Nat.le_of_ble_eq_true rfl⟩, hw _ wT_T_hasBit, trivial⟩ (tk_preS hK hN hP hD [] [] rfl rfl rfl) rfl rfl hl.1 rfl (lv_room (Nat.le_of_ble_eq_true rfl)) dC_firstHolding_25 ⟨Nat.zero_le _, Nat.zero_le _⟩) (fun H locs hP hD hS => ?_)
                refine W.eq (g2 := F0 m 28 ls [.int (tkT_hasBit_r (tkC_holdingLevels_r c) (((c 6) + 8) &&& 7))]) rfl ?_
                refine lv_if_eq (tgt := 33) hx hb dC_firstHolding_28 (by decide) (fun (h8_ : tkT_hasBit_r (tkC_holdingLevels_r c) (((c 6) + 8) &&& 7) = 0) => ?_) (fun (h8_ : ¬ (tkT_hasBit_r (tkC_holdingLevels_r c) (((c 6) + 8) &&& 7) = 0)) => ?_)
                · refine lv_iinc (k := 1) (v := 9) hx hb dC_firstHolding_33 hl rfl (by decide) (by decide) rfl (fun ls hl => ?_)
                  have hl : lv_has ls 4 [(2, .int 9), (3, .int (((c 6) + 8) &&& 7)), (1, .int (tkC_holdingLevels_r c)), (0, .ref h0)] := hl
                  refine lv_goto (tgt := 7) hx hb dC_firstHolding_36 (by decide) ?_
                  refine lv_iload_n hx hb dC_firstHolding_7 rfl (lv_at hl 0 rfl) ?_
                  refine lv_bipush (v := 8) hx hb dC_firstHolding_8 (by decide) ?_
                  refine lv_icmp_gt (tgt := 39) hx hb dC_firstHolding_10 (by decide) (fun _ => ?_) (fun h => absurd (by decide) h)
                  refine lv_iconst (v := -1) hx hb dC_firstHolding_39 (by decide) ?_
                  exact tk_iret hx hb hr hlk hP hD hS dC_firstHolding_40 (by unfold tkC_firstHolding_r; rw [if_pos h1_, if_pos h2_, if_pos h3_, if_pos h4_, if_pos h5_, if_pos h6_, if_pos h7_, if_pos h8_]) rfl
                · refine lv_iload_n hx hb dC_firstHolding_31 rfl (lv_at hl 0 rfl) ?_
                  exact tk_iret hx hb hr hlk hP hD hS dC_firstHolding_32 (by unfold tkC_firstHolding_r; rw [if_pos h1_, if_pos h2_, if_pos h3_, if_pos h4_, if_pos h5_, if_pos h6_, if_pos h7_, if_neg h8_]) rfl
              · refine lv_iload_n hx hb dC_firstHolding_31 rfl (lv_at hl 0 rfl) ?_
                exact tk_iret hx hb hr hlk hP hD hS dC_firstHolding_32 (by unfold tkC_firstHolding_r; rw [if_pos h1_, if_pos h2_, if_pos h3_, if_pos h4_, if_pos h5_, if_pos h6_, if_neg h7_]) rfl
            · refine lv_iload_n hx hb dC_firstHolding_31 rfl (lv_at hl 0 rfl) ?_
              exact tk_iret hx hb hr hlk hP hD hS dC_firstHolding_32 (by unfold tkC_firstHolding_r; rw [if_pos h1_, if_pos h2_, if_pos h3_, if_pos h4_, if_pos h5_, if_neg h6_]) rfl
          · refine lv_iload_n hx hb dC_firstHolding_31 rfl (lv_at hl 0 rfl) ?_
            exact tk_iret hx hb hr hlk hP hD hS dC_firstHolding_32 (by unfold tkC_firstHolding_r; rw [if_pos h1_, if_pos h2_, if_pos h3_, if_pos h4_, if_neg h5_]) rfl
        · refine lv_iload_n hx hb dC_firstHolding_31 rfl (lv_at hl 0 rfl) ?_
          exact tk_iret hx hb hr hlk hP hD hS dC_firstHolding_32 (by unfold tkC_firstHolding_r; rw [if_pos h1_, if_pos h2_, if_pos h3_, if_neg h4_]) rfl
      · refine lv_iload_n hx hb dC_firstHolding_31 rfl (lv_at hl 0 rfl) ?_
        exact tk_iret hx hb hr hlk hP hD hS dC_firstHolding_32 (by unfold tkC_firstHolding_r; rw [if_pos h1_, if_pos h2_, if_neg h3_]) rfl
    · refine lv_iload_n hx hb dC_firstHolding_31 rfl (lv_at hl 0 rfl) ?_
      exact tk_iret hx hb hr hlk hP hD hS dC_firstHolding_32 (by unfold tkC_firstHolding_r; rw [if_pos h1_, if_neg h2_]) rfl
  · refine lv_iload_n hx hb dC_firstHolding_31 rfl (lv_at hl 0 rfl) ?_
    exact tk_iret hx hb hr hlk hP hD hS dC_firstHolding_32 (by unfold tkC_firstHolding_r; rw [if_neg h1_]) rfl
def tkC_endService_s (c : Nat → Int32) (x0 : Int32) : Nat → Int32 :=
  if x0 = (-1) then c
  else tk_up c 4 ((c 4) &&& (((1 : Int32) <<< (x0 &&& 31)) ^^^ (-1)))
set_option maxHeartbeats 1000000 in
set_option maxRecDepth 100000 in
theorem kC_endService (l : Launch) (D : va_G) (h0 : Nat) (c : Nat → Int32) (x0 : Int32) : tk_M l yC_endService wsC_endService { frames := 0, cells := 0, slots := 0, locals := 0 } D [] [.ref h0, .int x0] [(h0, .inr (0, FC c))] [(h0, .inr (0, FC (tkC_endService_s c x0)))] none := by
  refine tk_M.of (cc := cC_endService) (maxL := 2) (ret := none) (by decide) rfl (Nat.le_of_ble_eq_true rfl) ?_
  intro p e s m below meth co A H locs ls hB hK hN hA hP hD hS hl
  obtain ⟨hx, hb, hr, hml, hown, hlk, hnm, hts⟩ := hB
  have hown : s.vm.findClass RC = some m.cls := hown
  have hl : lv_has ls 2 [(0, .ref h0), (1, .int x0)] := hl
  have hw : ∀ w ∈ tkW, w.before _ s = true := fun w h => hts w (List.mem_cons_of_mem _ h)
  have f93 := hw _ wF_C_93
  refine lv_iload_n hx hb dC_endService_0 rfl (lv_at hl 1 rfl) ?_
  refine lv_iconst (v := -1) hx hb dC_endService_1 (by decide) ?_
  refine lv_icmp_eq (tgt := 19) hx hb dC_endService_2 (by decide) (fun (h1_ : x0 = (-1)) => ?_) (fun (h1_ : ¬ (x0 = (-1))) => ?_)
  · exact tk_vret hx hb hr hlk hP hD hS dC_endService_19 (tk_ewC (by unfold tkC_endService_s; rw [if_pos h1_]))
  · refine lv_aload_n hx hb dC_endService_5 rfl (lv_at hl 0 rfl) ?_
    refine lv_dup hx hb dC_endService_6 rfl ?_
    refine va_get (D := D) (ci := 0) (v := .int (c 4)) (C := RC) (T := TC) (N := 18) hx hb hw inC hown hK hP 0 rfl rfl 4 (by decide) f93 (fun _ h9 => h9) rfl dC_endService_7 ?_
    refine lv_iconst (v := 1) hx hb dC_endService_10 (by decide) ?_
    refine lv_iload_n hx hb dC_endService_11 rfl (lv_at hl 1 rfl) ?_
    refine lv_ishl hx hb dC_endService_12 ?_
    refine lv_iconst (v := -1) hx hb dC_endService_13 (by decide) ?_
    refine lv_ixor hx hb dC_endService_14 ?_
    refine lv_iand hx hb dC_endService_15 ?_
    refine va_put (D := D) (ci := 0) (v := .int ((c 4) &&& (((1 : Int32) <<< (x0 &&& 31)) ^^^ (-1)))) (ty := .int) (C := RC) (T := TC) (N := 18) hx hb hw inC tyC tyC_ok nmC hown hK hP hD hS 0 rfl rfl 4 (by decide) f93 (fun _ h9 => h9) rfl (tyC_ok 4 (by decide)) rfl rfl (Nat.le_of_ble_eq_true rfl) dC_endService_16 (fun H locs hP hD hS => ?_)
    have hP : va_P D vwCl [(h0, .inr (0, FC (tk_up c 4 ((c 4) &&& (((1 : Int32) <<< (x0 &&& 31)) ^^^ (-1))))))] H := hP
    have hD : va_D A [(h0, .inr (0, FC (tk_up c 4 ((c 4) &&& (((1 : Int32) <<< (x0 &&& 31)) ^^^ (-1))))))] := hD
    exact tk_vret hx hb hr hlk hP hD hS dC_endService_19 (tk_ewC (by unfold tkC_endService_s; rw [if_neg h1_]))
def tkC_endServiceAndTurn_s (c : Nat → Int32) (x0 : Int32) : Nat → Int32 :=
  if x0 = (-1) then tkC_endService_s c x0
  else tk_up (tkC_endService_s c x0) 6 x0
set_option maxHeartbeats 1000000 in
set_option maxRecDepth 100000 in
theorem kC_endServiceAndTurn (l : Launch) (D : va_G) (h0 : Nat) (c : Nat → Int32) (x0 : Int32) : tk_M l yC_endServiceAndTurn wsC_endServiceAndTurn { frames := 1, cells := 0, slots := 0, locals := 21 } D [] [.ref h0, .int x0] [(h0, .inr (0, FC c))] [(h0, .inr (0, FC (tkC_endServiceAndTurn_s c x0)))] none := by
  refine tk_M.of (cc := cC_endServiceAndTurn) (maxL := 2) (ret := none) (by decide) rfl (Nat.le_of_ble_eq_true rfl) ?_
  intro p e s m below meth co A H locs ls hB hK hN hA hP hD hS hl
  obtain ⟨hx, hb, hr, hml, hown, hlk, hnm, hts⟩ := hB
  have hown : s.vm.findClass RC = some m.cls := hown
  have hl : lv_has ls 2 [(0, .ref h0), (1, .int x0)] := hl
  have hw : ∀ w ∈ tkW, w.before _ s = true := fun w h => hts w (List.mem_cons_of_mem _ h)
  have f15 := hw _ wF_C_15
  refine lv_aload_n hx hb dC_endServiceAndTurn_0 rfl (lv_at hl 0 rfl) ?_
  refine lv_iload_n hx hb dC_endServiceAndTurn_1 rfl (lv_at hl 1 rfl) ?_
  refine tk_callA hD hS hA (va_runV (As := [.int x0]) (rest := []) ⟨hx, hb, hml, hown, hw⟩ (kC_endService l D h0 c x0 H.size) (cwV 1 hw (tk_gV tkW_good wM_C_115 wI_C_endService wS_C_endService wZ_C wC_C_endService) rfl rfl rfl (by decide +kernel) ⟨Nat.le_of_ble_eq_true rfl, Nat.le_of_ble_eq_true rfl⟩) (tk_preV (q0 := 0) hK hN hP hD [0] [] rfl rfl rfl rfl rfl) rfl rfl hl.1 rfl (lv_room (Nat.le_of_ble_eq_true rfl)) dC_endServiceAndTurn_2 ⟨Nat.zero_le _, Nat.zero_le _⟩) (fun H locs hP hD hS => ?_)
  refine W.eq (g2 := F0 m 5 ls []) rfl ?_
  refine lv_iload_n hx hb dC_endServiceAndTurn_5 rfl (lv_at hl 1 rfl) ?_
  refine lv_iconst (v := -1) hx hb dC_endServiceAndTurn_6 (by decide) ?_
  refine lv_icmp_eq (tgt := 15) hx hb dC_endServiceAndTurn_7 (by decide) (fun (h1_ : x0 = (-1)) => ?_) (fun (h1_ : ¬ (x0 = (-1))) => ?_)
  · exact tk_vret hx hb hr hlk hP hD hS dC_endServiceAndTurn_15 (tk_ewC (by unfold tkC_endServiceAndTurn_s; rw [if_pos h1_]))
  · refine lv_aload_n hx hb dC_endServiceAndTurn_10 rfl (lv_at hl 0 rfl) ?_
    refine lv_iload_n hx hb dC_endServiceAndTurn_11 rfl (lv_at hl 1 rfl) ?_
    refine va_put (D := D) (ci := 0) (v := .int x0) (ty := .int) (C := RC) (T := TC) (N := 18) hx hb hw inC tyC tyC_ok nmC hown hK hP hD hS 0 rfl rfl 6 (by decide) f15 (fun _ h9 => h9) rfl (tyC_ok 6 (by decide)) rfl rfl (Nat.le_of_ble_eq_true rfl) dC_endServiceAndTurn_12 (fun H locs hP hD hS => ?_)
    have hP : va_P D vwCl [(h0, .inr (0, FC (tk_up (tkC_endService_s c x0) 6 x0)))] H := hP
    have hD : va_D A [(h0, .inr (0, FC (tk_up (tkC_endService_s c x0) 6 x0)))] := hD
    exact tk_vret hx hb hr hlk hP hD hS dC_endServiceAndTurn_15 (tk_ewC (by unfold tkC_endServiceAndTurn_s; rw [if_neg h1_]))
def tkC_takeServiceCommand_s (c : Nat → Int32) (x0 x1 : Int32) : Nat → Int32 :=
  if x0 = 0 then tk_up c 15 0
  else if x0 = 1 then tkC_endService_s c (tkC_firstHolding_r c)
    else if x0 = 2 then c
      else if x0 = 3 then tkC_endService_s c x1
        else if x0 = 4 then tk_up c 15 1
          else if x0 = 5 then tkC_endServiceAndTurn_s c (tkC_firstHolding_r c)
            else if x0 = 6 then tk_up c 6 x1
              else if x0 = 7 then tkC_endServiceAndTurn_s c x1
                else c
set_option maxHeartbeats 1000000 in
set_option maxRecDepth 100000 in
theorem kC_takeServiceCommand (l : Launch) (D : va_G) (h0 : Nat) (c : Nat → Int32) (x0 x1 : Int32) : tk_M l yC_takeServiceCommand wsC_takeServiceCommand { frames := 2, cells := 0, slots := 0, locals := 44 } D [] [.ref h0, .int x0, .int x1] [(h0, .inr (0, FC c))] [(h0, .inr (0, FC (tkC_takeServiceCommand_s c x0 x1)))] none := by
  refine tk_M.of (cc := cC_takeServiceCommand) (maxL := 3) (ret := none) (by decide) rfl (Nat.le_of_ble_eq_true rfl) ?_
  intro p e s m below meth co A H locs ls hB hK hN hA hP hD hS hl
  obtain ⟨hx, hb, hr, hml, hown, hlk, hnm, hts⟩ := hB
  have hown : s.vm.findClass RC = some m.cls := hown
  have hl : lv_has ls 3 [(0, .ref h0), (1, .int x0), (2, .int x1)] := hl
  have hw : ∀ w ∈ tkW, w.before _ s = true := fun w h => hts w (List.mem_cons_of_mem _ h)
  have f106 := hw _ wF_C_106
  have f15 := hw _ wF_C_15
  refine lv_iload_n hx hb dC_takeServiceCommand_0 rfl (lv_at hl 1 rfl) ?_
  by_cases h1_ : x0 = 0
  · refine lv_tableIn (tgt := 48) hx hb dC_takeServiceCommand_1 (by rw [h1_]; decide) (by rw [h1_]; decide) (by rw [h1_]; rfl) (by decide) ?_
    refine lv_aload_n hx hb dC_takeServiceCommand_48 rfl (lv_at hl 0 rfl) ?_
    refine lv_iconst (v := 0) hx hb dC_takeServiceCommand_49 (by decide) ?_
    refine va_put (D := D) (ci := 0) (v := .int 0) (ty := .boolean) (C := RC) (T := TC) (N := 18) hx hb hw inC tyC tyC_ok nmC hown hK hP hD hS 0 rfl rfl 15 (by decide) f106 (fun _ h9 => h9) rfl (tyC_ok 15 (by decide)) rfl rfl (Nat.le_of_ble_eq_true rfl) dC_takeServiceCommand_50 (fun H locs hP hD hS => ?_)
    have hP : va_P D vwCl [(h0, .inr (0, FC (tk_up c 15 0)))] H := hP
    have hD : va_D A [(h0, .inr (0, FC (tk_up c 15 0)))] := hD
    refine lv_goto (tgt := 110) hx hb dC_takeServiceCommand_53 (by decide) ?_
    exact tk_vret hx hb hr hlk hP hD hS dC_takeServiceCommand_110 (tk_ewC (by unfold tkC_takeServiceCommand_s; rw [if_pos h1_]))
  by_cases h2_ : x0 = 1
  · refine lv_tableIn (tgt := 56) hx hb dC_takeServiceCommand_1 (by rw [h2_]; decide) (by rw [h2_]; decide) (by rw [h2_]; rfl) (by decide) ?_
    refine lv_aload_n hx hb dC_takeServiceCommand_56 rfl (lv_at hl 0 rfl) ?_
    refine lv_aload_n hx hb dC_takeServiceCommand_57 rfl (lv_at hl 0 rfl) ?_
    refine tk_callA hD hS hA (va_runV (As := []) (rest := [.ref h0]) ⟨hx, hb, hml, hown, hw⟩ (kC_firstHolding l D h0 c H.size) (cwV 0 hw (tk_gV tkW_good wM_C_112 wI_C_firstHolding wS_C_firstHolding wZ_C wC_C_firstHolding) rfl rfl rfl (by decide +kernel) ⟨Nat.le_of_ble_eq_true rfl, Nat.le_of_ble_eq_true rfl⟩) (tk_preV (q0 := 0) hK hN hP hD [0] [] rfl rfl rfl rfl rfl) rfl rfl hl.1 rfl (lv_room (Nat.le_of_ble_eq_true rfl)) dC_takeServiceCommand_58 ⟨Nat.zero_le _, Nat.zero_le _⟩) (fun H locs hP hD hS => ?_)
    refine W.eq (g2 := F0 m 61 ls [.int (tkC_firstHolding_r c), .ref h0]) rfl ?_
    refine tk_callA hD hS hA (va_runV (As := [.int (tkC_firstHolding_r c)]) (rest := []) ⟨hx, hb, hml, hown, hw⟩ (kC_endService l D h0 c (tkC_firstHolding_r c) H.size) (cwV 1 hw (tk_gV tkW_good wM_C_115 wI_C_endService wS_C_endService wZ_C wC_C_endService) rfl rfl rfl (by decide +kernel) ⟨Nat.le_of_ble_eq_true rfl, Nat.le_of_ble_eq_true rfl⟩) (tk_preV (q0 := 0) hK hN hP hD [0] [] rfl rfl rfl rfl rfl) rfl rfl hl.1 rfl (lv_room (Nat.le_of_ble_eq_true rfl)) dC_takeServiceCommand_61 ⟨Nat.zero_le _, Nat.zero_le _⟩) (fun H locs hP hD hS => ?_)
    refine W.eq (g2 := F0 m 64 ls []) rfl ?_
    refine lv_goto (tgt := 110) hx hb dC_takeServiceCommand_64 (by decide) ?_
    exact tk_vret hx hb hr hlk hP hD hS dC_takeServiceCommand_110 (tk_ewC (by unfold tkC_takeServiceCommand_s; rw [if_neg h1_, if_pos h2_]))
  by_cases h3_ : x0 = 2
  · refine lv_tableIn (tgt := 110) hx hb dC_takeServiceCommand_1 (by rw [h3_]; decide) (by rw [h3_]; decide) (by rw [h3_]; rfl) (by decide) ?_
    exact tk_vret hx hb hr hlk hP hD hS dC_takeServiceCommand_110 (tk_ewC (by unfold tkC_takeServiceCommand_s; rw [if_neg h1_, if_neg h2_, if_pos h3_]))
  by_cases h4_ : x0 = 3
  · refine lv_tableIn (tgt := 67) hx hb dC_takeServiceCommand_1 (by rw [h4_]; decide) (by rw [h4_]; decide) (by rw [h4_]; rfl) (by decide) ?_
    refine lv_aload_n hx hb dC_takeServiceCommand_67 rfl (lv_at hl 0 rfl) ?_
    refine lv_iload_n hx hb dC_takeServiceCommand_68 rfl (lv_at hl 2 rfl) ?_
    refine tk_callA hD hS hA (va_runV (As := [.int x1]) (rest := []) ⟨hx, hb, hml, hown, hw⟩ (kC_endService l D h0 c x1 H.size) (cwV 1 hw (tk_gV tkW_good wM_C_115 wI_C_endService wS_C_endService wZ_C wC_C_endService) rfl rfl rfl (by decide +kernel) ⟨Nat.le_of_ble_eq_true rfl, Nat.le_of_ble_eq_true rfl⟩) (tk_preV (q0 := 0) hK hN hP hD [0] [] rfl rfl rfl rfl rfl) rfl rfl hl.1 rfl (lv_room (Nat.le_of_ble_eq_true rfl)) dC_takeServiceCommand_69 ⟨Nat.zero_le _, Nat.zero_le _⟩) (fun H locs hP hD hS => ?_)
    refine W.eq (g2 := F0 m 72 ls []) rfl ?_
    refine lv_goto (tgt := 110) hx hb dC_takeServiceCommand_72 (by decide) ?_
    exact tk_vret hx hb hr hlk hP hD hS dC_takeServiceCommand_110 (tk_ewC (by unfold tkC_takeServiceCommand_s; rw [if_neg h1_, if_neg h2_, if_neg h3_, if_pos h4_]))
  by_cases h5_ : x0 = 4
  · refine lv_tableIn (tgt := 75) hx hb dC_takeServiceCommand_1 (by rw [h5_]; decide) (by rw [h5_]; decide) (by rw [h5_]; rfl) (by decide) ?_
    refine lv_aload_n hx hb dC_takeServiceCommand_75 rfl (lv_at hl 0 rfl) ?_
    refine lv_iconst (v := 1) hx hb dC_takeServiceCommand_76 (by decide) ?_
    refine va_put (D := D) (ci := 0) (v := .int 1) (ty := .boolean) (C := RC) (T := TC) (N := 18) hx hb hw inC tyC tyC_ok nmC hown hK hP hD hS 0 rfl rfl 15 (by decide) f106 (fun _ h9 => h9) rfl (tyC_ok 15 (by decide)) rfl rfl (Nat.le_of_ble_eq_true rfl) dC_takeServiceCommand_77 (fun H locs hP hD hS => ?_)
    have hP : va_P D vwCl [(h0, .inr (0, FC (tk_up c 15 1)))] H := hP
    have hD : va_D A [(h0, .inr (0, FC (tk_up c 15 1)))] := hD
    refine lv_goto (tgt := 110) hx hb dC_takeServiceCommand_80 (by decide) ?_
    exact tk_vret hx hb hr hlk hP hD hS dC_takeServiceCommand_110 (tk_ewC (by unfold tkC_takeServiceCommand_s; rw [if_neg h1_, if_neg h2_, if_neg h3_, if_neg h4_, if_pos h5_]))
  by_cases h6_ : x0 = 5
  · refine lv_tableIn (tgt := 83) hx hb dC_takeServiceCommand_1 (by rw [h6_]; decide) (by rw [h6_]; decide) (by rw [h6_]; rfl) (by decide) ?_
    refine lv_aload_n hx hb dC_takeServiceCommand_83 rfl (lv_at hl 0 rfl) ?_
    refine lv_aload_n hx hb dC_takeServiceCommand_84 rfl (lv_at hl 0 rfl) ?_
    refine tk_callA hD hS hA (va_runV (As := []) (rest := [.ref h0]) ⟨hx, hb, hml, hown, hw⟩ (kC_firstHolding l D h0 c H.size) (cwV 0 hw (tk_gV tkW_good wM_C_112 wI_C_firstHolding wS_C_firstHolding wZ_C wC_C_firstHolding) rfl rfl rfl (by decide +kernel) ⟨Nat.le_of_ble_eq_true rfl, Nat.le_of_ble_eq_true rfl⟩) (tk_preV (q0 := 0) hK hN hP hD [0] [] rfl rfl rfl rfl rfl) rfl rfl hl.1 rfl (lv_room (Nat.le_of_ble_eq_true rfl)) dC_takeServiceCommand_85 ⟨Nat.zero_le _, Nat.zero_le _⟩) (fun H locs hP hD hS => ?_)
    refine W.eq (g2 := F0 m 88 ls [.int (tkC_firstHolding_r c), .ref h0]) rfl ?_
    refine tk_callA hD hS hA (va_runV (As := [.int (tkC_firstHolding_r c)]) (rest := []) ⟨hx, hb, hml, hown, hw⟩ (kC_endServiceAndTurn l D h0 c (tkC_firstHolding_r c) H.size) (cwV 1 hw (tk_gV tkW_good wM_C_118 wI_C_endServiceAndTurn wS_C_endServiceAndTurn wZ_C wC_C_endServiceAndTurn) rfl rfl rfl (by decide +kernel) ⟨Nat.le_of_ble_eq_true rfl, Nat.le_of_ble_eq_true rfl⟩) (tk_preV (q0 := 0) hK hN hP hD [0] [] rfl rfl rfl rfl rfl) rfl rfl hl.1 rfl (lv_room (Nat.le_of_ble_eq_true rfl)) dC_takeServiceCommand_88 ⟨Nat.zero_le _, Nat.zero_le _⟩) (fun H locs hP hD hS => ?_)
    refine W.eq (g2 := F0 m 91 ls []) rfl ?_
    refine lv_goto (tgt := 110) hx hb dC_takeServiceCommand_91 (by decide) ?_
    exact tk_vret hx hb hr hlk hP hD hS dC_takeServiceCommand_110 (tk_ewC (by unfold tkC_takeServiceCommand_s; rw [if_neg h1_, if_neg h2_, if_neg h3_, if_neg h4_, if_neg h5_, if_pos h6_]))
  by_cases h7_ : x0 = 6
  · refine lv_tableIn (tgt := 94) hx hb dC_takeServiceCommand_1 (by rw [h7_]; decide) (by rw [h7_]; decide) (by rw [h7_]; rfl) (by decide) ?_
    refine lv_aload_n hx hb dC_takeServiceCommand_94 rfl (lv_at hl 0 rfl) ?_
    refine lv_iload_n hx hb dC_takeServiceCommand_95 rfl (lv_at hl 2 rfl) ?_
    refine va_put (D := D) (ci := 0) (v := .int x1) (ty := .int) (C := RC) (T := TC) (N := 18) hx hb hw inC tyC tyC_ok nmC hown hK hP hD hS 0 rfl rfl 6 (by decide) f15 (fun _ h9 => h9) rfl (tyC_ok 6 (by decide)) rfl rfl (Nat.le_of_ble_eq_true rfl) dC_takeServiceCommand_96 (fun H locs hP hD hS => ?_)
    have hP : va_P D vwCl [(h0, .inr (0, FC (tk_up c 6 x1)))] H := hP
    have hD : va_D A [(h0, .inr (0, FC (tk_up c 6 x1)))] := hD
    refine lv_goto (tgt := 110) hx hb dC_takeServiceCommand_99 (by decide) ?_
    exact tk_vret hx hb hr hlk hP hD hS dC_takeServiceCommand_110 (tk_ewC (by unfold tkC_takeServiceCommand_s; rw [if_neg h1_, if_neg h2_, if_neg h3_, if_neg h4_, if_neg h5_, if_neg h6_, if_pos h7_]))
  by_cases h8_ : x0 = 7
  · refine lv_tableIn (tgt := 102) hx hb dC_takeServiceCommand_1 (by rw [h8_]; decide) (by rw [h8_]; decide) (by rw [h8_]; rfl) (by decide) ?_
    refine lv_aload_n hx hb dC_takeServiceCommand_102 rfl (lv_at hl 0 rfl) ?_
    refine lv_iload_n hx hb dC_takeServiceCommand_103 rfl (lv_at hl 2 rfl) ?_
    refine tk_callA hD hS hA (va_runV (As := [.int x1]) (rest := []) ⟨hx, hb, hml, hown, hw⟩ (kC_endServiceAndTurn l D h0 c x1 H.size) (cwV 1 hw (tk_gV tkW_good wM_C_118 wI_C_endServiceAndTurn wS_C_endServiceAndTurn wZ_C wC_C_endServiceAndTurn) rfl rfl rfl (by decide +kernel) ⟨Nat.le_of_ble_eq_true rfl, Nat.le_of_ble_eq_true rfl⟩) (tk_preV (q0 := 0) hK hN hP hD [0] [] rfl rfl rfl rfl rfl) rfl rfl hl.1 rfl (lv_room (Nat.le_of_ble_eq_true rfl)) dC_takeServiceCommand_104 ⟨Nat.zero_le _, Nat.zero_le _⟩) (fun H locs hP hD hS => ?_)
    refine W.eq (g2 := F0 m 107 ls []) rfl ?_
    refine lv_goto (tgt := 110) hx hb dC_takeServiceCommand_107 (by decide) ?_
    exact tk_vret hx hb hr hlk hP hD hS dC_takeServiceCommand_110 (tk_ewC (by unfold tkC_takeServiceCommand_s; rw [if_neg h1_, if_neg h2_, if_neg h3_, if_neg h4_, if_neg h5_, if_neg h6_, if_neg h7_, if_pos h8_]))
  have ho : (x0).toInt < 0 ∨ 7 < (x0).toInt := by
    refine tk_out (fun k h1 h2 => ?_)
    rcases (show k = 0 ∨ k = 1 ∨ k = 2 ∨ k = 3 ∨ k = 4 ∨ k = 5 ∨ k = 6 ∨ k = 7 by omega) with rfl | rfl | rfl | rfl | rfl | rfl | rfl | rfl
    · exact h1_
    · exact h2_
    · exact h3_
    · exact h4_
    · exact h5_
    · exact h6_
    · exact h7_
    · exact h8_
  refine lv_tableOut (tgt := 110) hx hb dC_takeServiceCommand_1 ho (by decide) ?_
  exact tk_vret hx hb hr hlk hP hD hS dC_takeServiceCommand_110 (tk_ewC (by unfold tkC_takeServiceCommand_s; rw [if_neg h1_, if_neg h2_, if_neg h3_, if_neg h4_, if_neg h5_, if_neg h6_, if_neg h7_, if_neg h8_]))
def tkC_takeSideZero_s (c : Nat → Int32) (x0 : Int32) : Nat → Int32 :=
  if tkT_hasBit_r x0 4 = 0 then (if c 7 = 0 then c
    else if tkT_hasBit_r x0 3 = 0 then tkC_takeServiceCommand_s c (x0 >>> ((5 : Int32) &&& 31)) (x0 &&& 7)
      else tkC_takeReadingCommand_s c x0)
  else tkC_beginSettingUp_s c x0
set_option maxHeartbeats 1000000 in
set_option maxRecDepth 100000 in
theorem kC_takeSideZero (l : Launch) (D : va_G) (h0 : Nat) (c : Nat → Int32) (x0 : Int32) : tk_M l yC_takeSideZero wsC_takeSideZero { frames := 3, cells := 0, slots := 0, locals := 66 } D [] [.ref h0, .int x0] [(h0, .inr (0, FC c))] [(h0, .inr (0, FC (tkC_takeSideZero_s c x0)))] none := by
  refine tk_M.of (cc := cC_takeSideZero) (maxL := 2) (ret := none) (by decide) rfl (Nat.le_of_ble_eq_true rfl) ?_
  intro p e s m below meth co A H locs ls hB hK hN hA hP hD hS hl
  obtain ⟨hx, hb, hr, hml, hown, hlk, hnm, hts⟩ := hB
  have hown : s.vm.findClass RC = some m.cls := hown
  have hl : lv_has ls 2 [(0, .ref h0), (1, .int x0)] := hl
  have hw : ∀ w ∈ tkW, w.before _ s = true := fun w h => hts w (List.mem_cons_of_mem _ h)
  have f25 := hw _ wF_C_25
  refine lv_iload_n hx hb dC_takeSideZero_0 rfl (lv_at hl 1 rfl) ?_
  refine lv_iconst (v := 4) hx hb dC_takeSideZero_1 (by decide) ?_
  refine tk_call0 hP hD hS hA (va_runSN (As := [.int x0, .int 4]) (rest := []) ⟨hx, hb, hml, hown, hw⟩ (kT_hasBit l D x0 4 H.size) ⟨va_cnB 2 hw (tk_g0 tkW_good wC_T_hasBit) rfl rfl rfl (hN (.methodLinkNest RC 38 yT_hasBit "TickLines") (by decide +kernel)) (hw _ wZ_T) (by decide +kernel) ⟨Nat.le_of_ble_eq_true rfl, Nat.le_of_ble_eq_true rfl⟩, hw _ wT_T_hasBit, trivial⟩ (tk_preS hK hN hP hD [] [] rfl rfl rfl) rfl rfl hl.1 rfl (lv_room (Nat.le_of_ble_eq_true rfl)) dC_takeSideZero_2 ⟨Nat.zero_le _, Nat.zero_le _⟩) (fun H locs hP hD hS => ?_)
  refine W.eq (g2 := F0 m 5 ls [.int (tkT_hasBit_r x0 4)]) rfl ?_
  refine lv_if_eq (tgt := 16) hx hb dC_takeSideZero_5 (by decide) (fun (h1_ : tkT_hasBit_r x0 4 = 0) => ?_) (fun (h1_ : ¬ (tkT_hasBit_r x0 4 = 0)) => ?_)
  · refine lv_aload_n hx hb dC_takeSideZero_16 rfl (lv_at hl 0 rfl) ?_
    refine va_get (D := D) (ci := 0) (v := .int (c 7)) (C := RC) (T := TC) (N := 18) hx hb hw inC hown hK hP 0 rfl rfl 7 (by decide) f25 (fun _ h9 => h9) rfl dC_takeSideZero_17 ?_
    refine lv_if_eq (tgt := 39) hx hb dC_takeSideZero_20 (by decide) (fun (h2_ : c 7 = 0) => ?_) (fun (h2_ : ¬ (c 7 = 0)) => ?_)
    · refine lv_aload_n hx hb dC_takeSideZero_39 rfl (lv_at hl 0 rfl) ?_
      refine va_get (D := D) (ci := 0) (v := .int (c 7)) (C := RC) (T := TC) (N := 18) hx hb hw inC hown hK hP 0 rfl rfl 7 (by decide) f25 (fun _ h9 => h9) rfl dC_takeSideZero_40 ?_
      refine lv_if_eq (tgt := 57) hx hb dC_takeSideZero_43 (by decide) (fun _ => ?_) (fun h => absurd h2_ h)
      exact tk_vret hx hb hr hlk hP hD hS dC_takeSideZero_57 (tk_ewC (by unfold tkC_takeSideZero_s; rw [if_pos h1_, if_pos h2_]))
    · refine lv_iload_n hx hb dC_takeSideZero_23 rfl (lv_at hl 1 rfl) ?_
      refine lv_iconst (v := 3) hx hb dC_takeSideZero_24 (by decide) ?_
      refine tk_call0 hP hD hS hA (va_runSN (As := [.int x0, .int 3]) (rest := []) ⟨hx, hb, hml, hown, hw⟩ (kT_hasBit l D x0 3 H.size) ⟨va_cnB 2 hw (tk_g0 tkW_good wC_T_hasBit) rfl rfl rfl (hN (.methodLinkNest RC 38 yT_hasBit "TickLines") (by decide +kernel)) (hw _ wZ_T) (by decide +kernel) ⟨Nat.le_of_ble_eq_true rfl, Nat.le_of_ble_eq_true rfl⟩, hw _ wT_T_hasBit, trivial⟩ (tk_preS hK hN hP hD [] [] rfl rfl rfl) rfl rfl hl.1 rfl (lv_room (Nat.le_of_ble_eq_true rfl)) dC_takeSideZero_25 ⟨Nat.zero_le _, Nat.zero_le _⟩) (fun H locs hP hD hS => ?_)
      refine W.eq (g2 := F0 m 28 ls [.int (tkT_hasBit_r x0 3)]) rfl ?_
      refine lv_if_eq (tgt := 39) hx hb dC_takeSideZero_28 (by decide) (fun (h3_ : tkT_hasBit_r x0 3 = 0) => ?_) (fun (h3_ : ¬ (tkT_hasBit_r x0 3 = 0)) => ?_)
      · refine lv_aload_n hx hb dC_takeSideZero_39 rfl (lv_at hl 0 rfl) ?_
        refine va_get (D := D) (ci := 0) (v := .int (c 7)) (C := RC) (T := TC) (N := 18) hx hb hw inC hown hK hP 0 rfl rfl 7 (by decide) f25 (fun _ h9 => h9) rfl dC_takeSideZero_40 ?_
        refine lv_if_eq (tgt := 57) hx hb dC_takeSideZero_43 (by decide) (fun h => absurd h h2_) (fun _ => ?_)
        refine lv_aload_n hx hb dC_takeSideZero_46 rfl (lv_at hl 0 rfl) ?_
        refine lv_iload_n hx hb dC_takeSideZero_47 rfl (lv_at hl 1 rfl) ?_
        refine lv_iconst (v := 5) hx hb dC_takeSideZero_48 (by decide) ?_
        refine lv_ishr hx hb dC_takeSideZero_49 ?_
        refine lv_iload_n hx hb dC_takeSideZero_50 rfl (lv_at hl 1 rfl) ?_
        refine lv_bipush (v := 7) hx hb dC_takeSideZero_51 (by decide) ?_
        refine lv_iand hx hb dC_takeSideZero_53 ?_
        refine tk_callA hD hS hA (va_runV (As := [.int (x0 >>> ((5 : Int32) &&& 31)), .int (x0 &&& 7)]) (rest := []) ⟨hx, hb, hml, hown, hw⟩ (kC_takeServiceCommand l D h0 c (x0 >>> ((5 : Int32) &&& 31)) (x0 &&& 7) H.size) (cwV 2 hw (tk_gV tkW_good wM_C_62 wI_C_takeServiceCommand wS_C_takeServiceCommand wZ_C wC_C_takeServiceCommand) rfl rfl rfl (by decide +kernel) ⟨Nat.le_of_ble_eq_true rfl, Nat.le_of_ble_eq_true rfl⟩) (tk_preV (q0 := 0) hK hN hP hD [0] [] rfl rfl rfl rfl rfl) rfl rfl hl.1 rfl (lv_room (Nat.le_of_ble_eq_true rfl)) dC_takeSideZero_54 ⟨Nat.zero_le _, Nat.zero_le _⟩) (fun H locs hP hD hS => ?_)
        refine W.eq (g2 := F0 m 57 ls []) rfl ?_
        exact tk_vret hx hb hr hlk hP hD hS dC_takeSideZero_57 (tk_ewC (by unfold tkC_takeSideZero_s; rw [if_pos h1_, if_neg h2_, if_pos h3_]))
      · refine lv_aload_n hx hb dC_takeSideZero_31 rfl (lv_at hl 0 rfl) ?_
        refine lv_iload_n hx hb dC_takeSideZero_32 rfl (lv_at hl 1 rfl) ?_
        refine tk_callA hD hS hA (va_runV (As := [.int x0]) (rest := []) ⟨hx, hb, hml, hown, hw⟩ (kC_takeReadingCommand l D h0 c x0 H.size) (cwV 1 hw (tk_gV tkW_good wM_C_59 wI_C_takeReadingCommand wS_C_takeReadingCommand wZ_C wC_C_takeReadingCommand) rfl rfl rfl (by decide +kernel) ⟨Nat.le_of_ble_eq_true rfl, Nat.le_of_ble_eq_true rfl⟩) (tk_preV (q0 := 0) hK hN hP hD [0] [] rfl rfl rfl rfl rfl) rfl rfl hl.1 rfl (lv_room (Nat.le_of_ble_eq_true rfl)) dC_takeSideZero_33 ⟨Nat.zero_le _, Nat.zero_le _⟩) (fun H locs hP hD hS => ?_)
        refine W.eq (g2 := F0 m 36 ls []) rfl ?_
        refine lv_goto (tgt := 57) hx hb dC_takeSideZero_36 (by decide) ?_
        exact tk_vret hx hb hr hlk hP hD hS dC_takeSideZero_57 (tk_ewC (by unfold tkC_takeSideZero_s; rw [if_pos h1_, if_neg h2_, if_neg h3_]))
  · refine lv_aload_n hx hb dC_takeSideZero_8 rfl (lv_at hl 0 rfl) ?_
    refine lv_iload_n hx hb dC_takeSideZero_9 rfl (lv_at hl 1 rfl) ?_
    refine tk_callA hD hS hA (va_runV (As := [.int x0]) (rest := []) ⟨hx, hb, hml, hown, hw⟩ (kC_beginSettingUp l D h0 c x0 H.size) (cwV 1 hw (tk_gV tkW_good wM_C_56 wI_C_beginSettingUp wS_C_beginSettingUp wZ_C wC_C_beginSettingUp) rfl rfl rfl (by decide +kernel) ⟨Nat.le_of_ble_eq_true rfl, Nat.le_of_ble_eq_true rfl⟩) (tk_preV (q0 := 0) hK hN hP hD [0] [] rfl rfl rfl rfl rfl) rfl rfl hl.1 rfl (lv_room (Nat.le_of_ble_eq_true rfl)) dC_takeSideZero_10 ⟨Nat.zero_le _, Nat.zero_le _⟩) (fun H locs hP hD hS => ?_)
    refine W.eq (g2 := F0 m 13 ls []) rfl ?_
    refine lv_goto (tgt := 57) hx hb dC_takeSideZero_13 (by decide) ?_
    exact tk_vret hx hb hr hlk hP hD hS dC_takeSideZero_57 (tk_ewC (by unfold tkC_takeSideZero_s; rw [if_neg h1_]))
def tkC_becomeReady_s (c : Nat → Int32) : Nat → Int32 :=
  tk_up (tk_up c 8 0) 7 1
set_option maxHeartbeats 1000000 in
set_option maxRecDepth 100000 in
theorem kC_becomeReady (l : Launch) (D : va_G) (h0 : Nat) (c : Nat → Int32) : tk_M l yC_becomeReady wsC_becomeReady { frames := 0, cells := 0, slots := 0, locals := 0 } D [] [.ref h0] [(h0, .inr (0, FC c))] [(h0, .inr (0, FC (tkC_becomeReady_s c)))] none := by
  refine tk_M.of (cc := cC_becomeReady) (maxL := 1) (ret := none) (by decide) rfl (Nat.le_of_ble_eq_true rfl) ?_
  intro p e s m below meth co A H locs ls hB hK hN hA hP hD hS hl
  obtain ⟨hx, hb, hr, hml, hown, hlk, hnm, hts⟩ := hB
  have hown : s.vm.findClass RC = some m.cls := hown
  have hl : lv_has ls 1 [(0, .ref h0)] := hl
  have hw : ∀ w ∈ tkW, w.before _ s = true := fun w h => hts w (List.mem_cons_of_mem _ h)
  have f66 := hw _ wF_C_66
  have f25 := hw _ wF_C_25
  refine lv_aload_n hx hb dC_becomeReady_0 rfl (lv_at hl 0 rfl) ?_
  refine lv_iconst (v := 0) hx hb dC_becomeReady_1 (by decide) ?_
  refine va_put (D := D) (ci := 0) (v := .int 0) (ty := .int) (C := RC) (T := TC) (N := 18) hx hb hw inC tyC tyC_ok nmC hown hK hP hD hS 0 rfl rfl 8 (by decide) f66 (fun _ h9 => h9) rfl (tyC_ok 8 (by decide)) rfl rfl (Nat.le_of_ble_eq_true rfl) dC_becomeReady_2 (fun H locs hP hD hS => ?_)
  have hP : va_P D vwCl [(h0, .inr (0, FC (tk_up c 8 0)))] H := hP
  have hD : va_D A [(h0, .inr (0, FC (tk_up c 8 0)))] := hD
  refine lv_aload_n hx hb dC_becomeReady_5 rfl (lv_at hl 0 rfl) ?_
  refine lv_iconst (v := 1) hx hb dC_becomeReady_6 (by decide) ?_
  refine va_put (D := D) (ci := 0) (v := .int 1) (ty := .boolean) (C := RC) (T := TC) (N := 18) hx hb hw inC tyC tyC_ok nmC hown hK hP hD hS 0 rfl rfl 7 (by decide) f25 (fun _ h9 => h9) rfl (tyC_ok 7 (by decide)) rfl rfl (Nat.le_of_ble_eq_true rfl) dC_becomeReady_7 (fun H locs hP hD hS => ?_)
  have hP : va_P D vwCl [(h0, .inr (0, FC (tk_up (tk_up c 8 0) 7 1)))] H := hP
  have hD : va_D A [(h0, .inr (0, FC (tk_up (tk_up c 8 0) 7 1)))] := hD
  exact tk_vret hx hb hr hlk hP hD hS dC_becomeReady_10 (tk_ewC rfl)
def tkC_awaitFrom_s (c : Nat → Int32) (x0 : Int32) : Nat → Int32 :=
  if x0 = 4 then (if c 11 = 0 then tkC_becomeReady_s c
    else tk_up c 8 x0)
  else tk_up c 8 x0
set_option maxHeartbeats 1000000 in
set_option maxRecDepth 100000 in
theorem kC_awaitFrom (l : Launch) (D : va_G) (h0 : Nat) (c : Nat → Int32) (x0 : Int32) : tk_M l yC_awaitFrom wsC_awaitFrom { frames := 1, cells := 0, slots := 0, locals := 20 } D [] [.ref h0, .int x0] [(h0, .inr (0, FC c))] [(h0, .inr (0, FC (tkC_awaitFrom_s c x0)))] none := by
  refine tk_M.of (cc := cC_awaitFrom) (maxL := 2) (ret := none) (by decide) rfl (Nat.le_of_ble_eq_true rfl) ?_
  intro p e s m below meth co A H locs ls hB hK hN hA hP hD hS hl
  obtain ⟨hx, hb, hr, hml, hown, hlk, hnm, hts⟩ := hB
  have hown : s.vm.findClass RC = some m.cls := hown
  have hl : lv_has ls 2 [(0, .ref h0), (1, .int x0)] := hl
  have hw : ∀ w ∈ tkW, w.before _ s = true := fun w h => hts w (List.mem_cons_of_mem _ h)
  have f66 := hw _ wF_C_66
  have f109 := hw _ wF_C_109
  refine lv_iload_n hx hb dC_awaitFrom_0 rfl (lv_at hl 1 rfl) ?_
  refine lv_iconst (v := 4) hx hb dC_awaitFrom_1 (by decide) ?_
  refine lv_icmp_ne (tgt := 19) hx hb dC_awaitFrom_2 (by decide) (fun (h1_ : ¬ (x0 = 4)) => ?_) (fun (h1_ : x0 = 4) => ?_)
  · refine lv_aload_n hx hb dC_awaitFrom_19 rfl (lv_at hl 0 rfl) ?_
    refine lv_iload_n hx hb dC_awaitFrom_20 rfl (lv_at hl 1 rfl) ?_
    refine va_put (D := D) (ci := 0) (v := .int x0) (ty := .int) (C := RC) (T := TC) (N := 18) hx hb hw inC tyC tyC_ok nmC hown hK hP hD hS 0 rfl rfl 8 (by decide) f66 (fun _ h9 => h9) rfl (tyC_ok 8 (by decide)) rfl rfl (Nat.le_of_ble_eq_true rfl) dC_awaitFrom_21 (fun H locs hP hD hS => ?_)
    have hP : va_P D vwCl [(h0, .inr (0, FC (tk_up c 8 x0)))] H := hP
    have hD : va_D A [(h0, .inr (0, FC (tk_up c 8 x0)))] := hD
    exact tk_vret hx hb hr hlk hP hD hS dC_awaitFrom_24 (tk_ewC (by unfold tkC_awaitFrom_s; rw [if_neg h1_]))
  · refine lv_aload_n hx hb dC_awaitFrom_5 rfl (lv_at hl 0 rfl) ?_
    refine va_get (D := D) (ci := 0) (v := .int (c 11)) (C := RC) (T := TC) (N := 18) hx hb hw inC hown hK hP 0 rfl rfl 11 (by decide) f109 (fun _ h9 => h9) rfl dC_awaitFrom_6 ?_
    refine lv_if_ne (tgt := 19) hx hb dC_awaitFrom_9 (by decide) (fun (h2_ : ¬ (c 11 = 0)) => ?_) (fun (h2_ : c 11 = 0) => ?_)
    · refine lv_aload_n hx hb dC_awaitFrom_19 rfl (lv_at hl 0 rfl) ?_
      refine lv_iload_n hx hb dC_awaitFrom_20 rfl (lv_at hl 1 rfl) ?_
      refine va_put (D := D) (ci := 0) (v := .int x0) (ty := .int) (C := RC) (T := TC) (N := 18) hx hb hw inC tyC tyC_ok nmC hown hK hP hD hS 0 rfl rfl 8 (by decide) f66 (fun _ h9 => h9) rfl (tyC_ok 8 (by decide)) rfl rfl (Nat.le_of_ble_eq_true rfl) dC_awaitFrom_21 (fun H locs hP hD hS => ?_)
      have hP : va_P D vwCl [(h0, .inr (0, FC (tk_up c 8 x0)))] H := hP
      have hD : va_D A [(h0, .inr (0, FC (tk_up c 8 x0)))] := hD
      exact tk_vret hx hb hr hlk hP hD hS dC_awaitFrom_24 (tk_ewC (by unfold tkC_awaitFrom_s; rw [if_pos h1_, if_neg h2_]))
    · refine lv_aload_n hx hb dC_awaitFrom_12 rfl (lv_at hl 0 rfl) ?_
      refine tk_callA hD hS hA (va_runV (As := []) (rest := []) ⟨hx, hb, hml, hown, hw⟩ (kC_becomeReady l D h0 c H.size) (cwV 0 hw (tk_gV tkW_good wM_C_81 wI_C_becomeReady wS_C_becomeReady wZ_C wC_C_becomeReady) rfl rfl rfl (by decide +kernel) ⟨Nat.le_of_ble_eq_true rfl, Nat.le_of_ble_eq_true rfl⟩) (tk_preV (q0 := 0) hK hN hP hD [0] [] rfl rfl rfl rfl rfl) rfl rfl hl.1 rfl (lv_room (Nat.le_of_ble_eq_true rfl)) dC_awaitFrom_13 ⟨Nat.zero_le _, Nat.zero_le _⟩) (fun H locs hP hD hS => ?_)
      refine W.eq (g2 := F0 m 16 ls []) rfl ?_
      refine lv_goto (tgt := 24) hx hb dC_awaitFrom_16 (by decide) ?_
      exact tk_vret hx hb hr hlk hP hD hS dC_awaitFrom_24 (tk_ewC (by unfold tkC_awaitFrom_s; rw [if_pos h1_, if_pos h2_]))
def tkC_takeSideOne_s (c : Nat → Int32) (x0 : Int32) : Nat → Int32 :=
  if c 7 = 0 then (if c 8 = 2 then (if c 10 = 0 then tkC_awaitFrom_s (tk_up c 5 (x0 &&& (-8))) 3
      else tkC_awaitFrom_s (tk_up c 5 (x0 &&& (-8))) 4)
    else if c 8 = 3 then tkC_awaitFrom_s c 4
      else if c 8 = 4 then tkC_becomeReady_s (tk_up (tk_up c 12 (tkT_hasBit_r x0 1)) 13 (tkT_hasBit_r x0 4))
        else c)
  else tk_up c 3 x0
set_option maxHeartbeats 1000000 in
set_option maxRecDepth 100000 in
theorem kC_takeSideOne (l : Launch) (D : va_G) (h0 : Nat) (c : Nat → Int32) (x0 : Int32) : tk_M l yC_takeSideOne wsC_takeSideOne { frames := 2, cells := 0, slots := 0, locals := 41 } D [] [.ref h0, .int x0] [(h0, .inr (0, FC c))] [(h0, .inr (0, FC (tkC_takeSideOne_s c x0)))] none := by
  refine tk_M.of (cc := cC_takeSideOne) (maxL := 2) (ret := none) (by decide) rfl (Nat.le_of_ble_eq_true rfl) ?_
  intro p e s m below meth co A H locs ls hB hK hN hA hP hD hS hl
  obtain ⟨hx, hb, hr, hml, hown, hlk, hnm, hts⟩ := hB
  have hown : s.vm.findClass RC = some m.cls := hown
  have hl : lv_has ls 2 [(0, .ref h0), (1, .int x0)] := hl
  have hw : ∀ w ∈ tkW, w.before _ s = true := fun w h => hts w (List.mem_cons_of_mem _ h)
  have f25 := hw _ wF_C_25
  have f66 := hw _ wF_C_66
  have f75 := hw _ wF_C_75
  have f78 := hw _ wF_C_78
  have f53 := hw _ wF_C_53
  have f69 := hw _ wF_C_69
  have f32 := hw _ wF_C_32
  refine lv_aload_n hx hb dC_takeSideOne_0 rfl (lv_at hl 0 rfl) ?_
  refine va_get (D := D) (ci := 0) (v := .int (c 7)) (C := RC) (T := TC) (N := 18) hx hb hw inC hown hK hP 0 rfl rfl 7 (by decide) f25 (fun _ h9 => h9) rfl dC_takeSideOne_1 ?_
  refine lv_if_eq (tgt := 15) hx hb dC_takeSideOne_4 (by decide) (fun (h1_ : c 7 = 0) => ?_) (fun (h1_ : ¬ (c 7 = 0)) => ?_)
  · refine lv_aload_n hx hb dC_takeSideOne_15 rfl (lv_at hl 0 rfl) ?_
    refine va_get (D := D) (ci := 0) (v := .int (c 8)) (C := RC) (T := TC) (N := 18) hx hb hw inC hown hK hP 0 rfl rfl 8 (by decide) f66 (fun _ h9 => h9) rfl dC_takeSideOne_16 ?_
    refine lv_iconst (v := 2) hx hb dC_takeSideOne_19 (by decide) ?_
    refine lv_icmp_ne (tgt := 50) hx hb dC_takeSideOne_20 (by decide) (fun (h2_ : ¬ (c 8 = 2)) => ?_) (fun (h2_ : c 8 = 2) => ?_)
    · refine lv_aload_n hx hb dC_takeSideOne_50 rfl (lv_at hl 0 rfl) ?_
      refine va_get (D := D) (ci := 0) (v := .int (c 8)) (C := RC) (T := TC) (N := 18) hx hb hw inC hown hK hP 0 rfl rfl 8 (by decide) f66 (fun _ h9 => h9) rfl dC_takeSideOne_51 ?_
      refine lv_iconst (v := 3) hx hb dC_takeSideOne_54 (by decide) ?_
      refine lv_icmp_ne (tgt := 66) hx hb dC_takeSideOne_55 (by decide) (fun (h3_ : ¬ (c 8 = 3)) => ?_) (fun (h3_ : c 8 = 3) => ?_)
      · refine lv_aload_n hx hb dC_takeSideOne_66 rfl (lv_at hl 0 rfl) ?_
        refine va_get (D := D) (ci := 0) (v := .int (c 8)) (C := RC) (T := TC) (N := 18) hx hb hw inC hown hK hP 0 rfl rfl 8 (by decide) f66 (fun _ h9 => h9) rfl dC_takeSideOne_67 ?_
        refine lv_iconst (v := 4) hx hb dC_takeSideOne_70 (by decide) ?_
        refine lv_icmp_ne (tgt := 96) hx hb dC_takeSideOne_71 (by decide) (fun (h4_ : ¬ (c 8 = 4)) => ?_) (fun (h4_ : c 8 = 4) => ?_)
        · exact tk_vret hx hb hr hlk hP hD hS dC_takeSideOne_96 (tk_ewC (by unfold tkC_takeSideOne_s; rw [if_pos h1_, if_neg h2_, if_neg h3_, if_neg h4_]))
        · refine lv_aload_n hx hb dC_takeSideOne_74 rfl (lv_at hl 0 rfl) ?_
          refine lv_iload_n hx hb dC_takeSideOne_75 rfl (lv_at hl 1 rfl) ?_
          refine lv_iconst (v := 1) hx hb dC_takeSideOne_76 (by decide) ?_
          refine tk_call0 hP hD hS hA (va_runSN (As := [.int x0, .int 1]) (rest := [.ref h0]) ⟨hx, hb, hml, hown, hw⟩ (kT_hasBit l D x0 1 H.size) ⟨va_cnB 2 hw (tk_g0 tkW_good wC_T_hasBit) rfl rfl rfl (hN (.methodLinkNest RC 38 yT_hasBit "TickLines") (by decide +kernel)) (hw _ wZ_T) (by decide +kernel) ⟨Nat.le_of_ble_eq_true rfl, Nat.le_of_ble_eq_true rfl⟩, hw _ wT_T_hasBit, trivial⟩ (tk_preS hK hN hP hD [] [] rfl rfl rfl) rfl rfl hl.1 rfl (lv_room (Nat.le_of_ble_eq_true rfl)) dC_takeSideOne_77 ⟨Nat.zero_le _, Nat.zero_le _⟩) (fun H locs hP hD hS => ?_)
          refine W.eq (g2 := F0 m 80 ls [.int (tkT_hasBit_r x0 1), .ref h0]) rfl ?_
          refine va_put (D := D) (ci := 0) (v := .int (tkT_hasBit_r x0 1)) (ty := .boolean) (C := RC) (T := TC) (N := 18) hx hb hw inC tyC tyC_ok nmC hown hK hP hD hS 0 rfl rfl 12 (by decide) f75 (fun _ h9 => h9) rfl (tyC_ok 12 (by decide)) (tk_nb (tkT_hasBit_b x0 1)) (tk_fb (tkT_hasBit_b x0 1)) (Nat.le_of_ble_eq_true rfl) dC_takeSideOne_80 (fun H locs hP hD hS => ?_)
          have hP : va_P D vwCl [(h0, .inr (0, FC (tk_up c 12 (tkT_hasBit_r x0 1))))] H := hP
          have hD : va_D A [(h0, .inr (0, FC (tk_up c 12 (tkT_hasBit_r x0 1))))] := hD
          refine lv_aload_n hx hb dC_takeSideOne_83 rfl (lv_at hl 0 rfl) ?_
          refine lv_iload_n hx hb dC_takeSideOne_84 rfl (lv_at hl 1 rfl) ?_
          refine lv_iconst (v := 4) hx hb dC_takeSideOne_85 (by decide) ?_
          refine tk_call0 hP hD hS hA (va_runSN (As := [.int x0, .int 4]) (rest := [.ref h0]) ⟨hx, hb, hml, hown, hw⟩ (kT_hasBit l D x0 4 H.size) ⟨va_cnB 2 hw (tk_g0 tkW_good wC_T_hasBit) rfl rfl rfl (hN (.methodLinkNest RC 38 yT_hasBit "TickLines") (by decide +kernel)) (hw _ wZ_T) (by decide +kernel) ⟨Nat.le_of_ble_eq_true rfl, Nat.le_of_ble_eq_true rfl⟩, hw _ wT_T_hasBit, trivial⟩ (tk_preS hK hN hP hD [] [] rfl rfl rfl) rfl rfl hl.1 rfl (lv_room (Nat.le_of_ble_eq_true rfl)) dC_takeSideOne_86 ⟨Nat.zero_le _, Nat.zero_le _⟩) (fun H locs hP hD hS => ?_)
          refine W.eq (g2 := F0 m 89 ls [.int (tkT_hasBit_r x0 4), .ref h0]) rfl ?_
          refine va_put (D := D) (ci := 0) (v := .int (tkT_hasBit_r x0 4)) (ty := .boolean) (C := RC) (T := TC) (N := 18) hx hb hw inC tyC tyC_ok nmC hown hK hP hD hS 0 rfl rfl 13 (by decide) f78 (fun _ h9 => h9) rfl (tyC_ok 13 (by decide)) (tk_nb (tkT_hasBit_b x0 4)) (tk_fb (tkT_hasBit_b x0 4)) (Nat.le_of_ble_eq_true rfl) dC_takeSideOne_89 (fun H locs hP hD hS => ?_)
          have hP : va_P D vwCl [(h0, .inr (0, FC (tk_up (tk_up c 12 (tkT_hasBit_r x0 1)) 13 (tkT_hasBit_r x0 4))))] H := hP
          have hD : va_D A [(h0, .inr (0, FC (tk_up (tk_up c 12 (tkT_hasBit_r x0 1)) 13 (tkT_hasBit_r x0 4))))] := hD
          refine lv_aload_n hx hb dC_takeSideOne_92 rfl (lv_at hl 0 rfl) ?_
          refine tk_callA hD hS hA (va_runV (As := []) (rest := []) ⟨hx, hb, hml, hown, hw⟩ (kC_becomeReady l D h0 (tk_up (tk_up c 12 (tkT_hasBit_r x0 1)) 13 (tkT_hasBit_r x0 4)) H.size) (cwV 0 hw (tk_gV tkW_good wM_C_81 wI_C_becomeReady wS_C_becomeReady wZ_C wC_C_becomeReady) rfl rfl rfl (by decide +kernel) ⟨Nat.le_of_ble_eq_true rfl, Nat.le_of_ble_eq_true rfl⟩) (tk_preV (q0 := 0) hK hN hP hD [0] [] rfl rfl rfl rfl rfl) rfl rfl hl.1 rfl (lv_room (Nat.le_of_ble_eq_true rfl)) dC_takeSideOne_93 ⟨Nat.zero_le _, Nat.zero_le _⟩) (fun H locs hP hD hS => ?_)
          refine W.eq (g2 := F0 m 96 ls []) rfl ?_
          exact tk_vret hx hb hr hlk hP hD hS dC_takeSideOne_96 (tk_ewC (by unfold tkC_takeSideOne_s; rw [if_pos h1_, if_neg h2_, if_neg h3_, if_pos h4_]))
      · refine lv_aload_n hx hb dC_takeSideOne_58 rfl (lv_at hl 0 rfl) ?_
        refine lv_iconst (v := 4) hx hb dC_takeSideOne_59 (by decide) ?_
        refine tk_callA hD hS hA (va_runV (As := [.int 4]) (rest := []) ⟨hx, hb, hml, hown, hw⟩ (kC_awaitFrom l D h0 c 4 H.size) (cwV 1 hw (tk_gV tkW_good wM_C_72 wI_C_awaitFrom wS_C_awaitFrom wZ_C wC_C_awaitFrom) rfl rfl rfl (by decide +kernel) ⟨Nat.le_of_ble_eq_true rfl, Nat.le_of_ble_eq_true rfl⟩) (tk_preV (q0 := 0) hK hN hP hD [0] [] rfl rfl rfl rfl rfl) rfl rfl hl.1 rfl (lv_room (Nat.le_of_ble_eq_true rfl)) dC_takeSideOne_60 ⟨Nat.zero_le _, Nat.zero_le _⟩) (fun H locs hP hD hS => ?_)
        refine W.eq (g2 := F0 m 63 ls []) rfl ?_
        refine lv_goto (tgt := 96) hx hb dC_takeSideOne_63 (by decide) ?_
        exact tk_vret hx hb hr hlk hP hD hS dC_takeSideOne_96 (tk_ewC (by unfold tkC_takeSideOne_s; rw [if_pos h1_, if_neg h2_, if_pos h3_]))
    · refine lv_aload_n hx hb dC_takeSideOne_23 rfl (lv_at hl 0 rfl) ?_
      refine lv_iload_n hx hb dC_takeSideOne_24 rfl (lv_at hl 1 rfl) ?_
      refine lv_bipush (v := -8) hx hb dC_takeSideOne_25 (by decide) ?_
      refine lv_iand hx hb dC_takeSideOne_27 ?_
      refine va_put (D := D) (ci := 0) (v := .int (x0 &&& (-8))) (ty := .int) (C := RC) (T := TC) (N := 18) hx hb hw inC tyC tyC_ok nmC hown hK hP hD hS 0 rfl rfl 5 (by decide) f53 (fun _ h9 => h9) rfl (tyC_ok 5 (by decide)) rfl rfl (Nat.le_of_ble_eq_true rfl) dC_takeSideOne_28 (fun H locs hP hD hS => ?_)
      have hP : va_P D vwCl [(h0, .inr (0, FC (tk_up c 5 (x0 &&& (-8)))))] H := hP
      have hD : va_D A [(h0, .inr (0, FC (tk_up c 5 (x0 &&& (-8)))))] := hD
      refine lv_aload_n hx hb dC_takeSideOne_31 rfl (lv_at hl 0 rfl) ?_
      refine lv_aload_n hx hb dC_takeSideOne_32 rfl (lv_at hl 0 rfl) ?_
      refine va_get (D := D) (ci := 0) (v := .int (c 10)) (C := RC) (T := TC) (N := 18) hx hb hw inC hown hK hP 0 rfl rfl 10 (by decide) f69 (fun _ h9 => h9) rfl dC_takeSideOne_33 ?_
      refine lv_if_eq (tgt := 43) hx hb dC_takeSideOne_36 (by decide) (fun (h5_ : c 10 = 0) => ?_) (fun (h5_ : ¬ (c 10 = 0)) => ?_)
      · refine lv_iconst (v := 3) hx hb dC_takeSideOne_43 (by decide) ?_
        refine tk_callA hD hS hA (va_runV (As := [.int 3]) (rest := []) ⟨hx, hb, hml, hown, hw⟩ (kC_awaitFrom l D h0 (tk_up c 5 (x0 &&& (-8))) 3 H.size) (cwV 1 hw (tk_gV tkW_good wM_C_72 wI_C_awaitFrom wS_C_awaitFrom wZ_C wC_C_awaitFrom) rfl rfl rfl (by decide +kernel) ⟨Nat.le_of_ble_eq_true rfl, Nat.le_of_ble_eq_true rfl⟩) (tk_preV (q0 := 0) hK hN hP hD [0] [] rfl rfl rfl rfl rfl) rfl rfl hl.1 rfl (lv_room (Nat.le_of_ble_eq_true rfl)) dC_takeSideOne_44 ⟨Nat.zero_le _, Nat.zero_le _⟩) (fun H locs hP hD hS => ?_)
        refine W.eq (g2 := F0 m 47 ls []) rfl ?_
        refine lv_goto (tgt := 96) hx hb dC_takeSideOne_47 (by decide) ?_
        exact tk_vret hx hb hr hlk hP hD hS dC_takeSideOne_96 (tk_ewC (by unfold tkC_takeSideOne_s; rw [if_pos h1_, if_pos h2_, if_pos h5_]))
      · refine lv_iconst (v := 4) hx hb dC_takeSideOne_39 (by decide) ?_
        refine lv_goto (tgt := 44) hx hb dC_takeSideOne_40 (by decide) ?_
        refine tk_callA hD hS hA (va_runV (As := [.int 4]) (rest := []) ⟨hx, hb, hml, hown, hw⟩ (kC_awaitFrom l D h0 (tk_up c 5 (x0 &&& (-8))) 4 H.size) (cwV 1 hw (tk_gV tkW_good wM_C_72 wI_C_awaitFrom wS_C_awaitFrom wZ_C wC_C_awaitFrom) rfl rfl rfl (by decide +kernel) ⟨Nat.le_of_ble_eq_true rfl, Nat.le_of_ble_eq_true rfl⟩) (tk_preV (q0 := 0) hK hN hP hD [0] [] rfl rfl rfl rfl rfl) rfl rfl hl.1 rfl (lv_room (Nat.le_of_ble_eq_true rfl)) dC_takeSideOne_44 ⟨Nat.zero_le _, Nat.zero_le _⟩) (fun H locs hP hD hS => ?_)
        refine W.eq (g2 := F0 m 47 ls []) rfl ?_
        refine lv_goto (tgt := 96) hx hb dC_takeSideOne_47 (by decide) ?_
        exact tk_vret hx hb hr hlk hP hD hS dC_takeSideOne_96 (tk_ewC (by unfold tkC_takeSideOne_s; rw [if_pos h1_, if_pos h2_, if_neg h5_]))
  · refine lv_aload_n hx hb dC_takeSideOne_7 rfl (lv_at hl 0 rfl) ?_
    refine lv_iload_n hx hb dC_takeSideOne_8 rfl (lv_at hl 1 rfl) ?_
    refine va_put (D := D) (ci := 0) (v := .int x0) (ty := .int) (C := RC) (T := TC) (N := 18) hx hb hw inC tyC tyC_ok nmC hown hK hP hD hS 0 rfl rfl 3 (by decide) f32 (fun _ h9 => h9) rfl (tyC_ok 3 (by decide)) rfl rfl (Nat.le_of_ble_eq_true rfl) dC_takeSideOne_9 (fun H locs hP hD hS => ?_)
    have hP : va_P D vwCl [(h0, .inr (0, FC (tk_up c 3 x0)))] H := hP
    have hD : va_D A [(h0, .inr (0, FC (tk_up c 3 x0)))] := hD
    refine lv_goto (tgt := 96) hx hb dC_takeSideOne_12 (by decide) ?_
    exact tk_vret hx hb hr hlk hP hD hS dC_takeSideOne_96 (tk_ewC (by unfold tkC_takeSideOne_s; rw [if_neg h1_]))
def tkC_giveSideZero_r (c : Nat → Int32) : Int32 :=
  if c 17 = 0 then (if c 16 = 0 then tkC_requests_r c
    else c 4)
  else if tkC_serveChosen_r (tk_up c 17 0) = (-1) then 0
    else 128 + (tkC_serveChosen_r (tk_up c 17 0))
def tkC_giveSideZero_s (c : Nat → Int32) : Nat → Int32 :=
  if c 17 = 0 then c
  else tkC_serveChosen_s (tk_up c 17 0)
set_option maxHeartbeats 1000000 in
set_option maxRecDepth 100000 in
theorem kC_giveSideZero (l : Launch) (D : va_G) (h0 : Nat) (c : Nat → Int32) : tk_M l yC_giveSideZero wsC_giveSideZero { frames := 3, cells := 0, slots := 0, locals := 67 } D [] [.ref h0] [(h0, .inr (0, FC c))] [(h0, .inr (0, FC (tkC_giveSideZero_s c)))] (some (.int (tkC_giveSideZero_r c))) := by
  refine tk_M.of (cc := cC_giveSideZero) (maxL := 2) (ret := (some .int)) (by decide) rfl (Nat.le_of_ble_eq_true rfl) ?_
  intro p e s m below meth co A H locs ls hB hK hN hA hP hD hS hl
  obtain ⟨hx, hb, hr, hml, hown, hlk, hnm, hts⟩ := hB
  have hown : s.vm.findClass RC = some m.cls := hown
  have hl : lv_has ls 2 [(0, .ref h0)] := hl
  have hw : ∀ w ∈ tkW, w.before _ s = true := fun w h => hts w (List.mem_cons_of_mem _ h)
  have f84 := hw _ wF_C_84
  have f90 := hw _ wF_C_90
  have f93 := hw _ wF_C_93
  refine lv_aload_n hx hb dC_giveSideZero_0 rfl (lv_at hl 0 rfl) ?_
  refine va_get (D := D) (ci := 0) (v := .int (c 17)) (C := RC) (T := TC) (N := 18) hx hb hw inC hown hK hP 0 rfl rfl 17 (by decide) f84 (fun _ h9 => h9) rfl dC_giveSideZero_1 ?_
  refine lv_if_eq (tgt := 32) hx hb dC_giveSideZero_4 (by decide) (fun (h1_ : c 17 = 0) => ?_) (fun (h1_ : ¬ (c 17 = 0)) => ?_)
  · refine lv_aload_n hx hb dC_giveSideZero_32 rfl (lv_at hl 0 rfl) ?_
    refine va_get (D := D) (ci := 0) (v := .int (c 16)) (C := RC) (T := TC) (N := 18) hx hb hw inC hown hK hP 0 rfl rfl 16 (by decide) f90 (fun _ h9 => h9) rfl dC_giveSideZero_33 ?_
    refine lv_if_eq (tgt := 46) hx hb dC_giveSideZero_36 (by decide) (fun (h2_ : c 16 = 0) => ?_) (fun (h2_ : ¬ (c 16 = 0)) => ?_)
    · refine lv_aload_n hx hb dC_giveSideZero_46 rfl (lv_at hl 0 rfl) ?_
      refine tk_callA hD hS hA (va_runV (As := []) (rest := []) ⟨hx, hb, hml, hown, hw⟩ (kC_requests l D h0 c H.size) (cwV 0 hw (tk_gV tkW_good wM_C_28 wI_C_requests wS_C_requests wZ_C wC_C_requests) rfl rfl rfl (by decide +kernel) ⟨Nat.le_of_ble_eq_true rfl, Nat.le_of_ble_eq_true rfl⟩) (tk_preV (q0 := 0) hK hN hP hD [0] [] rfl rfl rfl rfl rfl) rfl rfl hl.1 rfl (lv_room (Nat.le_of_ble_eq_true rfl)) dC_giveSideZero_47 ⟨Nat.zero_le _, Nat.zero_le _⟩) (fun H locs hP hD hS => ?_)
      refine W.eq (g2 := F0 m 50 ls [.int (tkC_requests_r c)]) rfl ?_
      exact tk_iret hx hb hr hlk hP hD hS dC_giveSideZero_50 (by unfold tkC_giveSideZero_r; rw [if_pos h1_, if_pos h2_]) (tk_ewC (by unfold tkC_giveSideZero_s; rw [if_pos h1_]))
    · refine lv_aload_n hx hb dC_giveSideZero_39 rfl (lv_at hl 0 rfl) ?_
      refine va_get (D := D) (ci := 0) (v := .int (c 4)) (C := RC) (T := TC) (N := 18) hx hb hw inC hown hK hP 0 rfl rfl 4 (by decide) f93 (fun _ h9 => h9) rfl dC_giveSideZero_40 ?_
      refine lv_goto (tgt := 50) hx hb dC_giveSideZero_43 (by decide) ?_
      exact tk_iret hx hb hr hlk hP hD hS dC_giveSideZero_50 (by unfold tkC_giveSideZero_r; rw [if_pos h1_, if_neg h2_]) (tk_ewC (by unfold tkC_giveSideZero_s; rw [if_pos h1_]))
  · refine lv_aload_n hx hb dC_giveSideZero_7 rfl (lv_at hl 0 rfl) ?_
    refine lv_iconst (v := 0) hx hb dC_giveSideZero_8 (by decide) ?_
    refine va_put (D := D) (ci := 0) (v := .int 0) (ty := .boolean) (C := RC) (T := TC) (N := 18) hx hb hw inC tyC tyC_ok nmC hown hK hP hD hS 0 rfl rfl 17 (by decide) f84 (fun _ h9 => h9) rfl (tyC_ok 17 (by decide)) rfl rfl (Nat.le_of_ble_eq_true rfl) dC_giveSideZero_9 (fun H locs hP hD hS => ?_)
    have hP : va_P D vwCl [(h0, .inr (0, FC (tk_up c 17 0)))] H := hP
    have hD : va_D A [(h0, .inr (0, FC (tk_up c 17 0)))] := hD
    refine lv_aload_n hx hb dC_giveSideZero_12 rfl (lv_at hl 0 rfl) ?_
    refine tk_callA hD hS hA (va_runV (As := []) (rest := []) ⟨hx, hb, hml, hown, hw⟩ (kC_serveChosen l D h0 (tk_up c 17 0) H.size) (cwV 0 hw (tk_gV tkW_good wM_C_87 wI_C_serveChosen wS_C_serveChosen wZ_C wC_C_serveChosen) rfl rfl rfl (by decide +kernel) ⟨Nat.le_of_ble_eq_true rfl, Nat.le_of_ble_eq_true rfl⟩) (tk_preV (q0 := 0) hK hN hP hD [0] [] rfl rfl rfl rfl rfl) rfl rfl hl.1 rfl (lv_room (Nat.le_of_ble_eq_true rfl)) dC_giveSideZero_13 ⟨Nat.zero_le _, Nat.zero_le _⟩) (fun H locs hP hD hS => ?_)
    refine W.eq (g2 := F0 m 16 ls [.int (tkC_serveChosen_r (tk_up c 17 0))]) rfl ?_
    refine lv_istore_n hx hb dC_giveSideZero_16 rfl hl (by decide) rfl (fun ls hl => ?_)
    have hl : lv_has ls 2 [(1, .int (tkC_serveChosen_r (tk_up c 17 0))), (0, .ref h0)] := hl
    refine lv_iload_n hx hb dC_giveSideZero_17 rfl (lv_at hl 0 rfl) ?_
    refine lv_iconst (v := -1) hx hb dC_giveSideZero_18 (by decide) ?_
    refine lv_icmp_ne (tgt := 26) hx hb dC_giveSideZero_19 (by decide) (fun (h3_ : ¬ (tkC_serveChosen_r (tk_up c 17 0) = (-1))) => ?_) (fun (h3_ : tkC_serveChosen_r (tk_up c 17 0) = (-1)) => ?_)
    · refine lv_sipush (v := 128) hx hb dC_giveSideZero_26 (by decide) ?_
      refine lv_iload_n hx hb dC_giveSideZero_29 rfl (lv_at hl 0 rfl) ?_
      refine lv_iadd hx hb dC_giveSideZero_30 ?_
      exact tk_iret hx hb hr hlk hP hD hS dC_giveSideZero_31 (by unfold tkC_giveSideZero_r; rw [if_neg h1_, if_neg h3_]) (tk_ewC (by unfold tkC_giveSideZero_s; rw [if_neg h1_]))
    · refine lv_iconst (v := 0) hx hb dC_giveSideZero_22 (by decide) ?_
      refine lv_goto (tgt := 31) hx hb dC_giveSideZero_23 (by decide) ?_
      exact tk_iret hx hb hr hlk hP hD hS dC_giveSideZero_31 (by unfold tkC_giveSideZero_r; rw [if_neg h1_, if_pos h3_]) (tk_ewC (by unfold tkC_giveSideZero_s; rw [if_neg h1_]))
def tkC_tell_r (c : Nat → Int32) (x0 : Int32) : Int32 :=
  if x0 = 0 then tkC_requests_r c
  else if x0 = 1 then c 4
    else if x0 = 2 then c 3
      else if x0 = 3 then c 6
        else if x0 = 4 then c 5
          else if x0 = 5 then c 1
            else if x0 = 6 then c 2
              else if x0 = 7 then tkT_asBit_r (c 7)
                else (-1)
set_option maxHeartbeats 1000000 in
set_option maxRecDepth 100000 in
theorem kC_tell (l : Launch) (D : va_G) (h0 : Nat) (c : Nat → Int32) (x0 : Int32) : tk_M l yC_tell wsC_tell { frames := 1, cells := 0, slots := 0, locals := 20 } D [] [.ref h0, .int x0] [(h0, .inr (0, FC c))] [(h0, .inr (0, FC c))] (some (.int (tkC_tell_r c x0))) := by
  refine tk_M.of (cc := cC_tell) (maxL := 2) (ret := (some .int)) (by decide) rfl (Nat.le_of_ble_eq_true rfl) ?_
  intro p e s m below meth co A H locs ls hB hK hN hA hP hD hS hl
  obtain ⟨hx, hb, hr, hml, hown, hlk, hnm, hts⟩ := hB
  have hown : s.vm.findClass RC = some m.cls := hown
  have hl : lv_has ls 2 [(0, .ref h0), (1, .int x0)] := hl
  have hw : ∀ w ∈ tkW, w.before _ s = true := fun w h => hts w (List.mem_cons_of_mem _ h)
  have f93 := hw _ wF_C_93
  have f32 := hw _ wF_C_32
  have f15 := hw _ wF_C_15
  have f53 := hw _ wF_C_53
  have f22 := hw _ wF_C_22
  have f19 := hw _ wF_C_19
  have f25 := hw _ wF_C_25
  refine lv_iload_n hx hb dC_tell_0 rfl (lv_at hl 1 rfl) ?_
  by_cases h1_ : x0 = 0
  · refine lv_tableIn (tgt := 48) hx hb dC_tell_1 (by rw [h1_]; decide) (by rw [h1_]; decide) (by rw [h1_]; rfl) (by decide) ?_
    refine lv_aload_n hx hb dC_tell_48 rfl (lv_at hl 0 rfl) ?_
    refine tk_callA hD hS hA (va_runV (As := []) (rest := []) ⟨hx, hb, hml, hown, hw⟩ (kC_requests l D h0 c H.size) (cwV 0 hw (tk_gV tkW_good wM_C_28 wI_C_requests wS_C_requests wZ_C wC_C_requests) rfl rfl rfl (by decide +kernel) ⟨Nat.le_of_ble_eq_true rfl, Nat.le_of_ble_eq_true rfl⟩) (tk_preV (q0 := 0) hK hN hP hD [0] [] rfl rfl rfl rfl rfl) rfl rfl hl.1 rfl (lv_room (Nat.le_of_ble_eq_true rfl)) dC_tell_49 ⟨Nat.zero_le _, Nat.zero_le _⟩) (fun H locs hP hD hS => ?_)
    refine W.eq (g2 := F0 m 52 ls [.int (tkC_requests_r c)]) rfl ?_
    exact tk_iret hx hb hr hlk hP hD hS dC_tell_52 (by unfold tkC_tell_r; rw [if_pos h1_]) rfl
  by_cases h2_ : x0 = 1
  · refine lv_tableIn (tgt := 53) hx hb dC_tell_1 (by rw [h2_]; decide) (by rw [h2_]; decide) (by rw [h2_]; rfl) (by decide) ?_
    refine lv_aload_n hx hb dC_tell_53 rfl (lv_at hl 0 rfl) ?_
    refine va_get (D := D) (ci := 0) (v := .int (c 4)) (C := RC) (T := TC) (N := 18) hx hb hw inC hown hK hP 0 rfl rfl 4 (by decide) f93 (fun _ h9 => h9) rfl dC_tell_54 ?_
    exact tk_iret hx hb hr hlk hP hD hS dC_tell_57 (by unfold tkC_tell_r; rw [if_neg h1_, if_pos h2_]) rfl
  by_cases h3_ : x0 = 2
  · refine lv_tableIn (tgt := 58) hx hb dC_tell_1 (by rw [h3_]; decide) (by rw [h3_]; decide) (by rw [h3_]; rfl) (by decide) ?_
    refine lv_aload_n hx hb dC_tell_58 rfl (lv_at hl 0 rfl) ?_
    refine va_get (D := D) (ci := 0) (v := .int (c 3)) (C := RC) (T := TC) (N := 18) hx hb hw inC hown hK hP 0 rfl rfl 3 (by decide) f32 (fun _ h9 => h9) rfl dC_tell_59 ?_
    exact tk_iret hx hb hr hlk hP hD hS dC_tell_62 (by unfold tkC_tell_r; rw [if_neg h1_, if_neg h2_, if_pos h3_]) rfl
  by_cases h4_ : x0 = 3
  · refine lv_tableIn (tgt := 63) hx hb dC_tell_1 (by rw [h4_]; decide) (by rw [h4_]; decide) (by rw [h4_]; rfl) (by decide) ?_
    refine lv_aload_n hx hb dC_tell_63 rfl (lv_at hl 0 rfl) ?_
    refine va_get (D := D) (ci := 0) (v := .int (c 6)) (C := RC) (T := TC) (N := 18) hx hb hw inC hown hK hP 0 rfl rfl 6 (by decide) f15 (fun _ h9 => h9) rfl dC_tell_64 ?_
    exact tk_iret hx hb hr hlk hP hD hS dC_tell_67 (by unfold tkC_tell_r; rw [if_neg h1_, if_neg h2_, if_neg h3_, if_pos h4_]) rfl
  by_cases h5_ : x0 = 4
  · refine lv_tableIn (tgt := 68) hx hb dC_tell_1 (by rw [h5_]; decide) (by rw [h5_]; decide) (by rw [h5_]; rfl) (by decide) ?_
    refine lv_aload_n hx hb dC_tell_68 rfl (lv_at hl 0 rfl) ?_
    refine va_get (D := D) (ci := 0) (v := .int (c 5)) (C := RC) (T := TC) (N := 18) hx hb hw inC hown hK hP 0 rfl rfl 5 (by decide) f53 (fun _ h9 => h9) rfl dC_tell_69 ?_
    exact tk_iret hx hb hr hlk hP hD hS dC_tell_72 (by unfold tkC_tell_r; rw [if_neg h1_, if_neg h2_, if_neg h3_, if_neg h4_, if_pos h5_]) rfl
  by_cases h6_ : x0 = 5
  · refine lv_tableIn (tgt := 73) hx hb dC_tell_1 (by rw [h6_]; decide) (by rw [h6_]; decide) (by rw [h6_]; rfl) (by decide) ?_
    refine lv_aload_n hx hb dC_tell_73 rfl (lv_at hl 0 rfl) ?_
    refine va_get (D := D) (ci := 0) (v := .int (c 1)) (C := RC) (T := TC) (N := 18) hx hb hw inC hown hK hP 0 rfl rfl 1 (by decide) f22 (fun _ h9 => h9) rfl dC_tell_74 ?_
    exact tk_iret hx hb hr hlk hP hD hS dC_tell_77 (by unfold tkC_tell_r; rw [if_neg h1_, if_neg h2_, if_neg h3_, if_neg h4_, if_neg h5_, if_pos h6_]) rfl
  by_cases h7_ : x0 = 6
  · refine lv_tableIn (tgt := 78) hx hb dC_tell_1 (by rw [h7_]; decide) (by rw [h7_]; decide) (by rw [h7_]; rfl) (by decide) ?_
    refine lv_aload_n hx hb dC_tell_78 rfl (lv_at hl 0 rfl) ?_
    refine va_get (D := D) (ci := 0) (v := .int (c 2)) (C := RC) (T := TC) (N := 18) hx hb hw inC hown hK hP 0 rfl rfl 2 (by decide) f19 (fun _ h9 => h9) rfl dC_tell_79 ?_
    exact tk_iret hx hb hr hlk hP hD hS dC_tell_82 (by unfold tkC_tell_r; rw [if_neg h1_, if_neg h2_, if_neg h3_, if_neg h4_, if_neg h5_, if_neg h6_, if_pos h7_]) rfl
  by_cases h8_ : x0 = 7
  · refine lv_tableIn (tgt := 83) hx hb dC_tell_1 (by rw [h8_]; decide) (by rw [h8_]; decide) (by rw [h8_]; rfl) (by decide) ?_
    refine lv_aload_n hx hb dC_tell_83 rfl (lv_at hl 0 rfl) ?_
    refine va_get (D := D) (ci := 0) (v := .int (c 7)) (C := RC) (T := TC) (N := 18) hx hb hw inC hown hK hP 0 rfl rfl 7 (by decide) f25 (fun _ h9 => h9) rfl dC_tell_84 ?_
    refine tk_call0 hP hD hS hA (va_runSN (As := [.int (c 7)]) (rest := []) ⟨hx, hb, hml, hown, hw⟩ (kT_asBit l D (c 7) H.size) ⟨va_cnB 1 hw (tk_g0 tkW_good wC_T_asBit) rfl rfl rfl (hN (.methodLinkNest RC 96 yT_asBit "TickLines") (by decide +kernel)) (hw _ wZ_T) (by decide +kernel) ⟨Nat.le_of_ble_eq_true rfl, Nat.le_of_ble_eq_true rfl⟩, hw _ wT_T_asBit, trivial⟩ (tk_preS hK hN hP hD [] [] rfl rfl rfl) rfl rfl hl.1 rfl (lv_room (Nat.le_of_ble_eq_true rfl)) dC_tell_87 ⟨Nat.zero_le _, Nat.zero_le _⟩) (fun H locs hP hD hS => ?_)
    refine W.eq (g2 := F0 m 90 ls [.int (tkT_asBit_r (c 7))]) rfl ?_
    exact tk_iret hx hb hr hlk hP hD hS dC_tell_90 (by unfold tkC_tell_r; rw [if_neg h1_, if_neg h2_, if_neg h3_, if_neg h4_, if_neg h5_, if_neg h6_, if_neg h7_, if_pos h8_]) rfl
  have ho : (x0).toInt < 0 ∨ 7 < (x0).toInt := by
    refine tk_out (fun k h1 h2 => ?_)
    rcases (show k = 0 ∨ k = 1 ∨ k = 2 ∨ k = 3 ∨ k = 4 ∨ k = 5 ∨ k = 6 ∨ k = 7 by omega) with rfl | rfl | rfl | rfl | rfl | rfl | rfl | rfl
    · exact h1_
    · exact h2_
    · exact h3_
    · exact h4_
    · exact h5_
    · exact h6_
    · exact h7_
    · exact h8_
  refine lv_tableOut (tgt := 91) hx hb dC_tell_1 ho (by decide) ?_
  refine lv_iconst (v := -1) hx hb dC_tell_91 (by decide) ?_
  exact tk_iret hx hb hr hlk hP hD hS dC_tell_92 (by unfold tkC_tell_r; rw [if_neg h1_, if_neg h2_, if_neg h3_, if_neg h4_, if_neg h5_, if_neg h6_, if_neg h7_, if_neg h8_]) rfl
end
section
/-- the outer class: ad 0 its object, ad 1, ad 2 the controllers, ad 3 the array, ad 4, 5, 6 the counters; g by the same places -/
abbrev tkAr (ad : Nat → Nat) : Nat → Option Nat := va_up (va_up (va_up (fun _ => none) 0 (some (ad 4))) 1 (some (ad 5))) 2 (some (ad 6))
abbrev WT (ad : Nat → Nat) (cA : ClassId) (g : Nat → Nat → Int32) : va_W := [(ad 0, .inr (2, [.ref (ad 1), .ref (ad 2), .ref (ad 3)])), (ad 1, .inr (0, FC (g 1))), (ad 2, .inr (0, FC (g 2))), (ad 3, .inl (cA, 3, .inr (.inr (.inr (.inr (tkAr ad)))))), (ad 4, .inr (1, FN (g 4))), (ad 5, .inr (1, FN (g 5))), (ad 6, .inr (1, FN (g 6)))]
set_option maxRecDepth 100000 in
theorem tk_preT {s : State} {H : Heap} {D : va_G} {A : Nat → Prop} {ad : Nat → Nat} {cA : ClassId} {g : Nat → Nat → Int32} {As : List Value} (hK : va_K D vwCl [(cA, .object "TickLines$Counter")] s) (hN : tk_N s) (hP : va_P D vwCl (WT ad cA g) H) (hD : va_D A (WT ad cA g)) : PreV s H RT (ad 0) (va_Pc (.ref (ad 0) :: As) (tk_P D [(cA, .object "TickLines$Counter")] (WT ad cA g) H.size)) As :=
  tk_preV (q0 := 0) (T := TT) (N := 3) hK hN hP hD [0, 1, 2, 3, 4, 5, 6] [0] (by decide) rfl rfl rfl rfl
theorem tkT_isCounter_c (x : Int32) (h : ¬ tkT_isCounter_r x = 0) : x = 0 ∨ x = 1 ∨ x = 2 := by
  unfold tkT_isCounter_r at h
  by_cases h0 : x < 0
  · rw [if_pos h0] at h; exact absurd rfl h
  · rw [if_neg h0] at h
    by_cases h1 : 3 ≤ x
    · rw [if_pos h1] at h; exact absurd rfl h
    · have z : (0 : Int32).toInt = 0 := by decide
      have z3 : (3 : Int32).toInt = 3 := by decide
      have a : ¬ x.toInt < (0 : Int32).toInt := fun q => h0 (tk_lt.mpr q)
      have b : ¬ (3 : Int32).toInt ≤ x.toInt := fun q => h1 (tk_le.mpr q)
      rcases (by omega : x.toInt = 0 ∨ x.toInt = 1 ∨ x.toInt = 2) with q | q | q
      · exact Or.inl (tk_eqI q)
      · exact Or.inr (Or.inl (tk_eqI q))
      · exact Or.inr (Or.inr (tk_eqI q))
def tkT_controllerOf_r (ad : Nat → Nat) (x0 : Int32) : Nat :=
  if x0 = 0 then (ad 1)
  else (ad 2)
set_option maxHeartbeats 1000000 in
set_option maxRecDepth 100000 in
theorem kT_controllerOf (l : Launch) (D : va_G) (ad : Nat → Nat) (cA : ClassId) (g : Nat → Nat → Int32) (x0 : Int32) : tk_M l yT_controllerOf wsT_controllerOf { frames := 0, cells := 0, slots := 0, locals := 0 } D [(cA, .object "TickLines$Counter")] [.ref (ad 0), .int x0] (WT ad cA g) (WT ad cA g) (some (.ref (tkT_controllerOf_r ad x0))) := by
  refine tk_M.of (cc := cT_controllerOf) (maxL := 2) (ret := (some (.object "TickLines$Controller"))) (by decide) rfl (Nat.le_of_ble_eq_true rfl) ?_
  intro p e s m below meth co A H locs ls hB hK hN hA hP hD hS hl
  obtain ⟨hx, hb, hr, hml, hown, hlk, hnm, hts⟩ := hB
  have hown : s.vm.findClass RT = some m.cls := hown
  have hl : lv_has ls 2 [(0, .ref (ad 0)), (1, .int x0)] := hl
  have hw : ∀ w ∈ tkW, w.before _ s = true := fun w h => hts w (List.mem_cons_of_mem _ h)
  have f18 := hw _ wF_T_18
  have f12 := hw _ wF_T_12
  refine lv_iload_n hx hb dT_controllerOf_0 rfl (lv_at hl 1 rfl) ?_
  refine lv_if_ne (tgt := 11) hx hb dT_controllerOf_1 (by decide) (fun (h1_ : ¬ (x0 = 0)) => ?_) (fun (h1_ : x0 = 0) => ?_)
  · refine lv_aload_n hx hb dT_controllerOf_11 rfl (lv_at hl 0 rfl) ?_
    refine va_get (D := D) (ci := 2) (v := .ref (ad 2)) (C := RT) (T := TT) (N := 3) hx hb hw inT hown hK hP 0 rfl rfl 1 (by decide) f18 (fun _ h9 => h9) rfl dT_controllerOf_12 ?_
    exact tk_aret hx hb hr (Or.inl ⟨_, rfl⟩) hlk hP hD hS dT_controllerOf_15 (by unfold tkT_controllerOf_r; rw [if_neg h1_]) rfl
  · refine lv_aload_n hx hb dT_controllerOf_4 rfl (lv_at hl 0 rfl) ?_
    refine va_get (D := D) (ci := 2) (v := .ref (ad 1)) (C := RT) (T := TT) (N := 3) hx hb hw inT hown hK hP 0 rfl rfl 0 (by decide) f12 (fun _ h9 => h9) rfl dT_controllerOf_5 ?_
    refine lv_goto (tgt := 15) hx hb dT_controllerOf_8 (by decide) ?_
    exact tk_aret hx hb hr (Or.inl ⟨_, rfl⟩) hlk hP hD hS dT_controllerOf_15 (by unfold tkT_controllerOf_r; rw [if_pos h1_]) rfl
def tkT_latchMany_w3 (g : Nat → Nat → Int32) (x0 : Int32) : Nat → Nat → Int32 :=
  if tkT_hasBit_r x0 5 = 0 then tk_up g 4 (tkN_latchCount_s (g 4))
  else g
def tkT_latchMany_w2 (g : Nat → Nat → Int32) (x0 : Int32) : Nat → Nat → Int32 :=
  if tkT_hasBit_r x0 (1 + 0) = 0 then g
  else if tkT_hasBit_r x0 4 = 0 then tk_up (tkT_latchMany_w3 g x0) 4 (tkN_latchStatus_s ((tkT_latchMany_w3 g x0) 4))
    else tkT_latchMany_w3 g x0
def tkT_latchMany_w6 (g : Nat → Nat → Int32) (x0 : Int32) : Nat → Nat → Int32 :=
  if tkT_hasBit_r x0 5 = 0 then tk_up (tkT_latchMany_w2 g x0) 5 (tkN_latchCount_s ((tkT_latchMany_w2 g x0) 5))
  else tkT_latchMany_w2 g x0
def tkT_latchMany_w5 (g : Nat → Nat → Int32) (x0 : Int32) : Nat → Nat → Int32 :=
  if tkT_hasBit_r x0 (1 + 1) = 0 then tkT_latchMany_w2 g x0
  else if tkT_hasBit_r x0 4 = 0 then tk_up (tkT_latchMany_w6 g x0) 5 (tkN_latchStatus_s ((tkT_latchMany_w6 g x0) 5))
    else tkT_latchMany_w6 g x0
def tkT_latchMany_w9 (g : Nat → Nat → Int32) (x0 : Int32) : Nat → Nat → Int32 :=
  if tkT_hasBit_r x0 5 = 0 then tk_up (tkT_latchMany_w5 g x0) 6 (tkN_latchCount_s ((tkT_latchMany_w5 g x0) 6))
  else tkT_latchMany_w5 g x0
def tkT_latchMany_w8 (g : Nat → Nat → Int32) (x0 : Int32) : Nat → Nat → Int32 :=
  if tkT_hasBit_r x0 (1 + 2) = 0 then tkT_latchMany_w5 g x0
  else if tkT_hasBit_r x0 4 = 0 then tk_up (tkT_latchMany_w9 g x0) 6 (tkN_latchStatus_s ((tkT_latchMany_w9 g x0) 6))
    else tkT_latchMany_w9 g x0
def tkT_latchMany_s (g : Nat → Nat → Int32) (x0 : Int32) : Nat → Nat → Int32 :=
  tkT_latchMany_w8 g x0
set_option maxHeartbeats 1000000 in
set_option maxRecDepth 100000 in
theorem kT_latchMany (l : Launch) (D : va_G) (ad : Nat → Nat) (cA : ClassId) (g : Nat → Nat → Int32) (x0 : Int32) : tk_M l yT_latchMany wsT_latchMany { frames := 2, cells := 0, slots := 0, locals := 40 } D [(cA, .object "TickLines$Counter")] [.ref (ad 0), .int x0] (WT ad cA g) (WT ad cA (tkT_latchMany_s g x0)) none := by
  refine tk_M.of (cc := cT_latchMany) (maxL := 3) (ret := none) (by decide) rfl (Nat.le_of_ble_eq_true rfl) ?_
  intro p e s m below meth co A H locs ls hB hK hN hA hP hD hS hl
  obtain ⟨hx, hb, hr, hml, hown, hlk, hnm, hts⟩ := hB
  have hown : s.vm.findClass RT = some m.cls := hown
  have hl : lv_has ls 3 [(0, .ref (ad 0)), (1, .int x0)] := hl
  have hw : ∀ w ∈ tkW, w.before _ s = true := fun w h => hts w (List.mem_cons_of_mem _ h)
  have f24 := hw _ wF_T_24
  refine lv_iconst (v := 0) hx hb dT_latchMany_0 (by decide) ?_
  refine lv_istore_n hx hb dT_latchMany_1 rfl hl (by decide) rfl (fun ls hl => ?_)
  have hl : lv_has ls 3 [(2, .int 0), (0, .ref (ad 0)), (1, .int x0)] := hl
  refine lv_iload_n hx hb dT_latchMany_2 rfl (lv_at hl 0 rfl) ?_
  refine lv_iconst (v := 3) hx hb dT_latchMany_3 (by decide) ?_
  refine lv_icmp_ge (tgt := 57) hx hb dT_latchMany_4 (by decide) (fun h => absurd h (by decide)) (fun _ => ?_)
  refine lv_iload_n hx hb dT_latchMany_7 rfl (lv_at hl 2 rfl) ?_
  refine lv_iconst (v := 1) hx hb dT_latchMany_8 (by decide) ?_
  refine lv_iload_n hx hb dT_latchMany_9 rfl (lv_at hl 0 rfl) ?_
  refine lv_iadd hx hb dT_latchMany_10 ?_
  refine tk_call0 hP hD hS hA (va_runS (As := [.int x0, .int (1 + 0)]) (rest := []) ⟨hx, hb, hml, hown, hw⟩ (kT_hasBit l D x0 (1 + 0) H.size) (va_cwS 2 hw (tk_gS tkW_good wM_T_130 wT_T_hasBit wZ_T wC_T_hasBit) rfl rfl rfl (by decide +kernel) ⟨Nat.le_of_ble_eq_true rfl, Nat.le_of_ble_eq_true rfl⟩) (tk_preS hK hN hP hD [] [] rfl rfl rfl) rfl rfl hl.1 rfl (lv_room (Nat.le_of_ble_eq_true rfl)) dT_latchMany_11 ⟨Nat.zero_le _, Nat.zero_le _⟩) (fun H locs hP hD hS => ?_)
  refine W.eq (g2 := F0 m 14 ls [.int (tkT_hasBit_r x0 (1 + 0))]) rfl ?_
  refine tk_mrg (D := D) (ws1 := (WT ad cA (tkT_latchMany_w2 g x0))) (g2 := F0 m 51 ls []) hD hS (fun key => ?_) (fun H locs hP hD hS => ?_)
  · refine lv_if_eq (tgt := 51) hx hb dT_latchMany_14 (by decide) (fun (h1_ : tkT_hasBit_r x0 (1 + 0) = 0) => ?_) (fun (h1_ : ¬ (tkT_hasBit_r x0 (1 + 0) = 0)) => ?_)
    · exact key H locs (tk_Pw (congrArg (WT ad cA) (by unfold tkT_latchMany_w2; rw [if_pos h1_])) hP) (tk_Dw (congrArg (WT ad cA) (by unfold tkT_latchMany_w2; rw [if_pos h1_])) hD) hS
    · refine lv_iload_n hx hb dT_latchMany_17 rfl (lv_at hl 2 rfl) ?_
      refine lv_iconst (v := 5) hx hb dT_latchMany_18 (by decide) ?_
      refine tk_call0 hP hD hS hA (va_runS (As := [.int x0, .int 5]) (rest := []) ⟨hx, hb, hml, hown, hw⟩ (kT_hasBit l D x0 5 H.size) (va_cwS 2 hw (tk_gS tkW_good wM_T_130 wT_T_hasBit wZ_T wC_T_hasBit) rfl rfl rfl (by decide +kernel) ⟨Nat.le_of_ble_eq_true rfl, Nat.le_of_ble_eq_true rfl⟩) (tk_preS hK hN hP hD [] [] rfl rfl rfl) rfl rfl hl.1 rfl (lv_room (Nat.le_of_ble_eq_true rfl)) dT_latchMany_19 ⟨Nat.zero_le _, Nat.zero_le _⟩) (fun H locs hP hD hS => ?_)
      refine W.eq (g2 := F0 m 22 ls [.int (tkT_hasBit_r x0 5)]) rfl ?_
      refine tk_mrg (D := D) (ws1 := (WT ad cA (tkT_latchMany_w3 g x0))) (g2 := F0 m 34 ls []) hD hS (fun key => ?_) (fun H locs hP hD hS => ?_)
      · refine lv_if_ne (tgt := 34) hx hb dT_latchMany_22 (by decide) (fun (h2_ : ¬ (tkT_hasBit_r x0 5 = 0)) => ?_) (fun (h2_ : tkT_hasBit_r x0 5 = 0) => ?_)
        · exact key H locs (tk_Pw (congrArg (WT ad cA) (by unfold tkT_latchMany_w3; rw [if_neg h2_])) hP) (tk_Dw (congrArg (WT ad cA) (by unfold tkT_latchMany_w3; rw [if_neg h2_])) hD) hS
        · refine lv_aload_n hx hb dT_latchMany_25 rfl (lv_at hl 1 rfl) ?_
          refine va_get (D := D) (ci := 2) (v := .ref (ad 3)) (C := RT) (T := TT) (N := 3) hx hb hw inT hown hK hP 0 rfl rfl 2 (by decide) f24 (fun _ h9 => h9) rfl dT_latchMany_26 ?_
          refine lv_iload_n hx hb dT_latchMany_29 rfl (lv_at hl 0 rfl) ?_
          refine va_aldq hx hb hK hP 3 0 rfl rfl (by unfold vp_in; decide) dT_latchMany_30 ?_
          refine W.eq (g2 := F0 m 31 ls [.ref (ad 4)]) rfl ?_
          refine tk_call1 (cell := (ad 4, .inr (1, FN (g 4)))) (cell' := (ad 4, .inr (1, FN (tkN_latchCount_s (g 4))))) 4 hP hD hS hA rfl rfl (va_runV (As := []) (rest := []) ⟨hx, hb, hml, hown, hw⟩ (kN_latchCount l D (ad 4) (g 4) H.size) (cwV 0 hw (tk_gV tkW_good wM_T_123 wI_N_latchCount wS_N_latchCount wZ_N wC_N_latchCount) rfl rfl rfl (by decide +kernel) ⟨Nat.le_of_ble_eq_true rfl, Nat.le_of_ble_eq_true rfl⟩) (tk_preV (q0 := 4) hK hN hP hD [4] [] rfl rfl rfl rfl rfl) rfl rfl hl.1 rfl (lv_room (Nat.le_of_ble_eq_true rfl)) dT_latchMany_31 ⟨Nat.zero_le _, Nat.zero_le _⟩) (fun H locs hP hD hS => ?_)
          have hP : va_P D vwCl (WT ad cA (tk_up g 4 (tkN_latchCount_s (g 4)))) H := hP
          have hD : va_D A (WT ad cA (tk_up g 4 (tkN_latchCount_s (g 4)))) := hD
          refine W.eq (g2 := F0 m 34 ls []) rfl ?_
          exact key H locs (tk_Pw (congrArg (WT ad cA) (by unfold tkT_latchMany_w3; rw [if_pos h2_])) hP) (tk_Dw (congrArg (WT ad cA) (by unfold tkT_latchMany_w3; rw [if_pos h2_])) hD) hS
      · refine lv_iload_n hx hb dT_latchMany_34 rfl (lv_at hl 2 rfl) ?_
        refine lv_iconst (v := 4) hx hb dT_latchMany_35 (by decide) ?_
        refine tk_call0 hP hD hS hA (va_runS (As := [.int x0, .int 4]) (rest := []) ⟨hx, hb, hml, hown, hw⟩ (kT_hasBit l D x0 4 H.size) (va_cwS 2 hw (tk_gS tkW_good wM_T_130 wT_T_hasBit wZ_T wC_T_hasBit) rfl rfl rfl (by decide +kernel) ⟨Nat.le_of_ble_eq_true rfl, Nat.le_of_ble_eq_true rfl⟩) (tk_preS hK hN hP hD [] [] rfl rfl rfl) rfl rfl hl.1 rfl (lv_room (Nat.le_of_ble_eq_true rfl)) dT_latchMany_36 ⟨Nat.zero_le _, Nat.zero_le _⟩) (fun H locs hP hD hS => ?_)
        refine W.eq (g2 := F0 m 39 ls [.int (tkT_hasBit_r x0 4)]) rfl ?_
        refine lv_if_ne (tgt := 51) hx hb dT_latchMany_39 (by decide) (fun (h3_ : ¬ (tkT_hasBit_r x0 4 = 0)) => ?_) (fun (h3_ : tkT_hasBit_r x0 4 = 0) => ?_)
        · exact key H locs (tk_Pw (congrArg (WT ad cA) (by unfold tkT_latchMany_w2; rw [if_neg h1_, if_neg h3_])) hP) (tk_Dw (congrArg (WT ad cA) (by unfold tkT_latchMany_w2; rw [if_neg h1_, if_neg h3_])) hD) hS
        · refine lv_aload_n hx hb dT_latchMany_42 rfl (lv_at hl 1 rfl) ?_
          refine va_get (D := D) (ci := 2) (v := .ref (ad 3)) (C := RT) (T := TT) (N := 3) hx hb hw inT hown hK hP 0 rfl rfl 2 (by decide) f24 (fun _ h9 => h9) rfl dT_latchMany_43 ?_
          refine lv_iload_n hx hb dT_latchMany_46 rfl (lv_at hl 0 rfl) ?_
          refine va_aldq hx hb hK hP 3 0 rfl rfl (by unfold vp_in; decide) dT_latchMany_47 ?_
          refine W.eq (g2 := F0 m 48 ls [.ref (ad 4)]) rfl ?_
          refine tk_call1 (cell := (ad 4, .inr (1, FN ((tkT_latchMany_w3 g x0) 4)))) (cell' := (ad 4, .inr (1, FN (tkN_latchStatus_s ((tkT_latchMany_w3 g x0) 4))))) 4 hP hD hS hA rfl rfl (va_runV (As := []) (rest := []) ⟨hx, hb, hml, hown, hw⟩ (kN_latchStatus l D (ad 4) ((tkT_latchMany_w3 g x0) 4) H.size) (cwV 0 hw (tk_gV tkW_good wM_T_134 wI_N_latchStatus wS_N_latchStatus wZ_N wC_N_latchStatus) rfl rfl rfl (by decide +kernel) ⟨Nat.le_of_ble_eq_true rfl, Nat.le_of_ble_eq_true rfl⟩) (tk_preV (q0 := 4) hK hN hP hD [4] [] rfl rfl rfl rfl rfl) rfl rfl hl.1 rfl (lv_room (Nat.le_of_ble_eq_true rfl)) dT_latchMany_48 ⟨Nat.zero_le _, Nat.zero_le _⟩) (fun H locs hP hD hS => ?_)
          have hP : va_P D vwCl (WT ad cA (tk_up (tkT_latchMany_w3 g x0) 4 (tkN_latchStatus_s ((tkT_latchMany_w3 g x0) 4)))) H := hP
          have hD : va_D A (WT ad cA (tk_up (tkT_latchMany_w3 g x0) 4 (tkN_latchStatus_s ((tkT_latchMany_w3 g x0) 4)))) := hD
          refine W.eq (g2 := F0 m 51 ls []) rfl ?_
          exact key H locs (tk_Pw (congrArg (WT ad cA) (by unfold tkT_latchMany_w2; rw [if_neg h1_, if_pos h3_])) hP) (tk_Dw (congrArg (WT ad cA) (by unfold tkT_latchMany_w2; rw [if_neg h1_, if_pos h3_])) hD) hS
  · refine lv_iinc (k := 0) (v := 1) hx hb dT_latchMany_51 hl rfl (by decide) (by decide) rfl (fun ls hl => ?_)
    have hl : lv_has ls 3 [(2, .int 1), (0, .ref (ad 0)), (1, .int x0)] := hl
    refine lv_goto (tgt := 2) hx hb dT_latchMany_54 (by decide) ?_
    refine lv_iload_n hx hb dT_latchMany_2 rfl (lv_at hl 0 rfl) ?_
    refine lv_iconst (v := 3) hx hb dT_latchMany_3 (by decide) ?_
    refine lv_icmp_ge (tgt := 57) hx hb dT_latchMany_4 (by decide) (fun h => absurd h (by decide)) (fun _ => ?_)
    refine lv_iload_n hx hb dT_latchMany_7 rfl (lv_at hl 2 rfl) ?_
    refine lv_iconst (v := 1) hx hb dT_latchMany_8 (by decide) ?_
    refine lv_iload_n hx hb dT_latchMany_9 rfl (lv_at hl 0 rfl) ?_
    refine lv_iadd hx hb dT_latchMany_10 ?_
    refine tk_call0 hP hD hS hA (va_runS (As := [.int x0, .int (1 + 1)]) (rest := []) ⟨hx, hb, hml, hown, hw⟩ (kT_hasBit l D x0 (1 + 1) H.size) (va_cwS 2 hw (tk_gS tkW_good wM_T_130 wT_T_hasBit wZ_T wC_T_hasBit) rfl rfl rfl (by decide +kernel) ⟨Nat.le_of_ble_eq_true rfl, Nat.le_of_ble_eq_true rfl⟩) (tk_preS hK hN hP hD [] [] rfl rfl rfl) rfl rfl hl.1 rfl (lv_room (Nat.le_of_ble_eq_true rfl)) dT_latchMany_11 ⟨Nat.zero_le _, Nat.zero_le _⟩) (fun H locs hP hD hS => ?_)
    refine W.eq (g2 := F0 m 14 ls [.int (tkT_hasBit_r x0 (1 + 1))]) rfl ?_
    refine tk_mrg (D := D) (ws1 := (WT ad cA (tkT_latchMany_w5 g x0))) (g2 := F0 m 51 ls []) hD hS (fun key => ?_) (fun H locs hP hD hS => ?_)
    · refine lv_if_eq (tgt := 51) hx hb dT_latchMany_14 (by decide) (fun (h4_ : tkT_hasBit_r x0 (1 + 1) = 0) => ?_) (fun (h4_ : ¬ (tkT_hasBit_r x0 (1 + 1) = 0)) => ?_)
      · exact key H locs (tk_Pw (congrArg (WT ad cA) (by unfold tkT_latchMany_w5; rw [if_pos h4_])) hP) (tk_Dw (congrArg (WT ad cA) (by unfold tkT_latchMany_w5; rw [if_pos h4_])) hD) hS
      · refine lv_iload_n hx hb dT_latchMany_17 rfl (lv_at hl 2 rfl) ?_
        refine lv_iconst (v := 5) hx hb dT_latchMany_18 (by decide) ?_
        refine tk_call0 hP hD hS hA (va_runS (As := [.int x0, .int 5]) (rest := []) ⟨hx, hb, hml, hown, hw⟩ (kT_hasBit l D x0 5 H.size) (va_cwS 2 hw (tk_gS tkW_good wM_T_130 wT_T_hasBit wZ_T wC_T_hasBit) rfl rfl rfl (by decide +kernel) ⟨Nat.le_of_ble_eq_true rfl, Nat.le_of_ble_eq_true rfl⟩) (tk_preS hK hN hP hD [] [] rfl rfl rfl) rfl rfl hl.1 rfl (lv_room (Nat.le_of_ble_eq_true rfl)) dT_latchMany_19 ⟨Nat.zero_le _, Nat.zero_le _⟩) (fun H locs hP hD hS => ?_)
        refine W.eq (g2 := F0 m 22 ls [.int (tkT_hasBit_r x0 5)]) rfl ?_
        refine tk_mrg (D := D) (ws1 := (WT ad cA (tkT_latchMany_w6 g x0))) (g2 := F0 m 34 ls []) hD hS (fun key => ?_) (fun H locs hP hD hS => ?_)
        · refine lv_if_ne (tgt := 34) hx hb dT_latchMany_22 (by decide) (fun (h5_ : ¬ (tkT_hasBit_r x0 5 = 0)) => ?_) (fun (h5_ : tkT_hasBit_r x0 5 = 0) => ?_)
          · exact key H locs (tk_Pw (congrArg (WT ad cA) (by unfold tkT_latchMany_w6; rw [if_neg h5_])) hP) (tk_Dw (congrArg (WT ad cA) (by unfold tkT_latchMany_w6; rw [if_neg h5_])) hD) hS
          · refine lv_aload_n hx hb dT_latchMany_25 rfl (lv_at hl 1 rfl) ?_
            refine va_get (D := D) (ci := 2) (v := .ref (ad 3)) (C := RT) (T := TT) (N := 3) hx hb hw inT hown hK hP 0 rfl rfl 2 (by decide) f24 (fun _ h9 => h9) rfl dT_latchMany_26 ?_
            refine lv_iload_n hx hb dT_latchMany_29 rfl (lv_at hl 0 rfl) ?_
            refine va_aldq hx hb hK hP 3 0 rfl rfl (by unfold vp_in; decide) dT_latchMany_30 ?_
            refine W.eq (g2 := F0 m 31 ls [.ref (ad 5)]) rfl ?_
            refine tk_call1 (cell := (ad 5, .inr (1, FN ((tkT_latchMany_w2 g x0) 5)))) (cell' := (ad 5, .inr (1, FN (tkN_latchCount_s ((tkT_latchMany_w2 g x0) 5))))) 5 hP hD hS hA rfl rfl (va_runV (As := []) (rest := []) ⟨hx, hb, hml, hown, hw⟩ (kN_latchCount l D (ad 5) ((tkT_latchMany_w2 g x0) 5) H.size) (cwV 0 hw (tk_gV tkW_good wM_T_123 wI_N_latchCount wS_N_latchCount wZ_N wC_N_latchCount) rfl rfl rfl (by decide +kernel) ⟨Nat.le_of_ble_eq_true rfl, Nat.le_of_ble_eq_true rfl⟩) (tk_preV (q0 := 5) hK hN hP hD [5] [] rfl rfl rfl rfl rfl) rfl rfl hl.1 rfl (lv_room (Nat.le_of_ble_eq_true rfl)) dT_latchMany_31 ⟨Nat.zero_le _, Nat.zero_le _⟩) (fun H locs hP hD hS => ?_)
            have hP : va_P D vwCl (WT ad cA (tk_up (tkT_latchMany_w2 g x0) 5 (tkN_latchCount_s ((tkT_latchMany_w2 g x0) 5)))) H := hP
            have hD : va_D A (WT ad cA (tk_up (tkT_latchMany_w2 g x0) 5 (tkN_latchCount_s ((tkT_latchMany_w2 g x0) 5)))) := hD
            refine W.eq (g2 := F0 m 34 ls []) rfl ?_
            exact key H locs (tk_Pw (congrArg (WT ad cA) (by unfold tkT_latchMany_w6; rw [if_pos h5_])) hP) (tk_Dw (congrArg (WT ad cA) (by unfold tkT_latchMany_w6; rw [if_pos h5_])) hD) hS
        · refine lv_iload_n hx hb dT_latchMany_34 rfl (lv_at hl 2 rfl) ?_
          refine lv_iconst (v := 4) hx hb dT_latchMany_35 (by decide) ?_
          refine tk_call0 hP hD hS hA (va_runS (As := [.int x0, .int 4]) (rest := []) ⟨hx, hb, hml, hown, hw⟩ (kT_hasBit l D x0 4 H.size) (va_cwS 2 hw (tk_gS tkW_good wM_T_130 wT_T_hasBit wZ_T wC_T_hasBit) rfl rfl rfl (by decide +kernel) ⟨Nat.le_of_ble_eq_true rfl, Nat.le_of_ble_eq_true rfl⟩) (tk_preS hK hN hP hD [] [] rfl rfl rfl) rfl rfl hl.1 rfl (lv_room (Nat.le_of_ble_eq_true rfl)) dT_latchMany_36 ⟨Nat.zero_le _, Nat.zero_le _⟩) (fun H locs hP hD hS => ?_)
          refine W.eq (g2 := F0 m 39 ls [.int (tkT_hasBit_r x0 4)]) rfl ?_
          refine lv_if_ne (tgt := 51) hx hb dT_latchMany_39 (by decide) (fun (h6_ : ¬ (tkT_hasBit_r x0 4 = 0)) => ?_) (fun (h6_ : tkT_hasBit_r x0 4 = 0) => ?_)
          · exact key H locs (tk_Pw (congrArg (WT ad cA) (by unfold tkT_latchMany_w5; rw [if_neg h4_, if_neg h6_])) hP) (tk_Dw (congrArg (WT ad cA) (by unfold tkT_latchMany_w5; rw [if_neg h4_, if_neg h6_])) hD) hS
          · refine lv_aload_n hx hb dT_latchMany_42 rfl (lv_at hl 1 rfl) ?_
            refine va_get (D := D) (ci := 2) (v := .ref (ad 3)) (C := RT) (T := TT) (N := 3) hx hb hw inT hown hK hP 0 rfl rfl 2 (by decide) f24 (fun _ h9 => h9) rfl dT_latchMany_43 ?_
            refine lv_iload_n hx hb dT_latchMany_46 rfl (lv_at hl 0 rfl) ?_
            refine va_aldq hx hb hK hP 3 0 rfl rfl (by unfold vp_in; decide) dT_latchMany_47 ?_
            refine W.eq (g2 := F0 m 48 ls [.ref (ad 5)]) rfl ?_
            refine tk_call1 (cell := (ad 5, .inr (1, FN ((tkT_latchMany_w6 g x0) 5)))) (cell' := (ad 5, .inr (1, FN (tkN_latchStatus_s ((tkT_latchMany_w6 g x0) 5))))) 5 hP hD hS hA rfl rfl (va_runV (As := []) (rest := []) ⟨hx, hb, hml, hown, hw⟩ (kN_latchStatus l D (ad 5) ((tkT_latchMany_w6 g x0) 5) H.size) (cwV 0 hw (tk_gV tkW_good wM_T_134 wI_N_latchStatus wS_N_latchStatus wZ_N wC_N_latchStatus) rfl rfl rfl (by decide +kernel) ⟨Nat.le_of_ble_eq_true rfl, Nat.le_of_ble_eq_true rfl⟩) (tk_preV (q0 := 5) hK hN hP hD [5] [] rfl rfl rfl rfl rfl) rfl rfl hl.1 rfl (lv_room (Nat.le_of_ble_eq_true rfl)) dT_latchMany_48 ⟨Nat.zero_le _, Nat.zero_le _⟩) (fun H locs hP hD hS => ?_)
            have hP : va_P D vwCl (WT ad cA (tk_up (tkT_latchMany_w6 g x0) 5 (tkN_latchStatus_s ((tkT_latchMany_w6 g x0) 5)))) H := hP
            have hD : va_D A (WT ad cA (tk_up (tkT_latchMany_w6 g x0) 5 (tkN_latchStatus_s ((tkT_latchMany_w6 g x0) 5)))) := hD
            refine W.eq (g2 := F0 m 51 ls []) rfl ?_
            exact key H locs (tk_Pw (congrArg (WT ad cA) (by unfold tkT_latchMany_w5; rw [if_neg h4_, if_pos h6_])) hP) (tk_Dw (congrArg (WT ad cA) (by unfold tkT_latchMany_w5; rw [if_neg h4_, if_pos h6_])) hD) hS
    · refine lv_iinc (k := 0) (v := 2) hx hb dT_latchMany_51 hl rfl (by decide) (by decide) rfl (fun ls hl => ?_)
      have hl : lv_has ls 3 [(2, .int 2), (0, .ref (ad 0)), (1, .int x0)] := hl
      refine lv_goto (tgt := 2) hx hb dT_latchMany_54 (by decide) ?_
      refine lv_iload_n hx hb dT_latchMany_2 rfl (lv_at hl 0 rfl) ?_
      refine lv_iconst (v := 3) hx hb dT_latchMany_3 (by decide) ?_
      refine lv_icmp_ge (tgt := 57) hx hb dT_latchMany_4 (by decide) (fun h => absurd h (by decide)) (fun _ => ?_)
      refine lv_iload_n hx hb dT_latchMany_7 rfl (lv_at hl 2 rfl) ?_
      refine lv_iconst (v := 1) hx hb dT_latchMany_8 (by decide) ?_
      refine lv_iload_n hx hb dT_latchMany_9 rfl (lv_at hl 0 rfl) ?_
      refine lv_iadd hx hb dT_latchMany_10 ?_
      refine tk_call0 hP hD hS hA (va_runS (As := [.int x0, .int (1 + 2)]) (rest := []) ⟨hx, hb, hml, hown, hw⟩ (kT_hasBit l D x0 (1 + 2) H.size) (va_cwS 2 hw (tk_gS tkW_good wM_T_130 wT_T_hasBit wZ_T wC_T_hasBit) rfl rfl rfl (by decide +kernel) ⟨Nat.le_of_ble_eq_true rfl, Nat.le_of_ble_eq_true rfl⟩) (tk_preS hK hN hP hD [] [] rfl rfl rfl) rfl rfl hl.1 rfl (lv_room (Nat.le_of_ble_eq_true rfl)) dT_latchMany_11 ⟨Nat.zero_le _, Nat.zero_le _⟩) (fun H locs hP hD hS => ?_)
      refine W.eq (g2 := F0 m 14 ls [.int (tkT_hasBit_r x0 (1 + 2))]) rfl ?_
      refine tk_mrg (D := D) (ws1 := (WT ad cA (tkT_latchMany_w8 g x0))) (g2 := F0 m 51 ls []) hD hS (fun key => ?_) (fun H locs hP hD hS => ?_)
      · refine lv_if_eq (tgt := 51) hx hb dT_latchMany_14 (by decide) (fun (h7_ : tkT_hasBit_r x0 (1 + 2) = 0) => ?_) (fun (h7_ : ¬ (tkT_hasBit_r x0 (1 + 2) = 0)) => ?_)
        · exact key H locs (tk_Pw (congrArg (WT ad cA) (by unfold tkT_latchMany_w8; rw [if_pos h7_])) hP) (tk_Dw (congrArg (WT ad cA) (by unfold tkT_latchMany_w8; rw [if_pos h7_])) hD) hS
        · refine lv_iload_n hx hb dT_latchMany_17 rfl (lv_at hl 2 rfl) ?_
          refine lv_iconst (v := 5) hx hb dT_latchMany_18 (by decide) ?_
          refine tk_call0 hP hD hS hA (va_runS (As := [.int x0, .int 5]) (rest := []) ⟨hx, hb, hml, hown, hw⟩ (kT_hasBit l D x0 5 H.size) (va_cwS 2 hw (tk_gS tkW_good wM_T_130 wT_T_hasBit wZ_T wC_T_hasBit) rfl rfl rfl (by decide +kernel) ⟨Nat.le_of_ble_eq_true rfl, Nat.le_of_ble_eq_true rfl⟩) (tk_preS hK hN hP hD [] [] rfl rfl rfl) rfl rfl hl.1 rfl (lv_room (Nat.le_of_ble_eq_true rfl)) dT_latchMany_19 ⟨Nat.zero_le _, Nat.zero_le _⟩) (fun H locs hP hD hS => ?_)
          refine W.eq (g2 := F0 m 22 ls [.int (tkT_hasBit_r x0 5)]) rfl ?_
          refine tk_mrg (D := D) (ws1 := (WT ad cA (tkT_latchMany_w9 g x0))) (g2 := F0 m 34 ls []) hD hS (fun key => ?_) (fun H locs hP hD hS => ?_)
          · refine lv_if_ne (tgt := 34) hx hb dT_latchMany_22 (by decide) (fun (h8_ : ¬ (tkT_hasBit_r x0 5 = 0)) => ?_) (fun (h8_ : tkT_hasBit_r x0 5 = 0) => ?_)
            · exact key H locs (tk_Pw (congrArg (WT ad cA) (by unfold tkT_latchMany_w9; rw [if_neg h8_])) hP) (tk_Dw (congrArg (WT ad cA) (by unfold tkT_latchMany_w9; rw [if_neg h8_])) hD) hS
            · refine lv_aload_n hx hb dT_latchMany_25 rfl (lv_at hl 1 rfl) ?_
              refine va_get (D := D) (ci := 2) (v := .ref (ad 3)) (C := RT) (T := TT) (N := 3) hx hb hw inT hown hK hP 0 rfl rfl 2 (by decide) f24 (fun _ h9 => h9) rfl dT_latchMany_26 ?_
              refine lv_iload_n hx hb dT_latchMany_29 rfl (lv_at hl 0 rfl) ?_
              refine va_aldq hx hb hK hP 3 0 rfl rfl (by unfold vp_in; decide) dT_latchMany_30 ?_
              refine W.eq (g2 := F0 m 31 ls [.ref (ad 6)]) rfl ?_
              refine tk_call1 (cell := (ad 6, .inr (1, FN ((tkT_latchMany_w5 g x0) 6)))) (cell' := (ad 6, .inr (1, FN (tkN_latchCount_s ((tkT_latchMany_w5 g x0) 6))))) 6 hP hD hS hA rfl rfl (va_runV (As := []) (rest := []) ⟨hx, hb, hml, hown, hw⟩ (kN_latchCount l D (ad 6) ((tkT_latchMany_w5 g x0) 6) H.size) (cwV 0 hw (tk_gV tkW_good wM_T_123 wI_N_latchCount wS_N_latchCount wZ_N wC_N_latchCount) rfl rfl rfl (by decide +kernel) ⟨Nat.le_of_ble_eq_true rfl, Nat.le_of_ble_eq_true rfl⟩) (tk_preV (q0 := 6) hK hN hP hD [6] [] rfl rfl rfl rfl rfl) rfl rfl hl.1 rfl (lv_room (Nat.le_of_ble_eq_true rfl)) dT_latchMany_31 ⟨Nat.zero_le _, Nat.zero_le _⟩) (fun H locs hP hD hS => ?_)
              have hP : va_P D vwCl (WT ad cA (tk_up (tkT_latchMany_w5 g x0) 6 (tkN_latchCount_s ((tkT_latchMany_w5 g x0) 6)))) H := hP
              have hD : va_D A (WT ad cA (tk_up (tkT_latchMany_w5 g x0) 6 (tkN_latchCount_s ((tkT_latchMany_w5 g x0) 6)))) := hD
              refine W.eq (g2 := F0 m 34 ls []) rfl ?_
              exact key H locs (tk_Pw (congrArg (WT ad cA) (by unfold tkT_latchMany_w9; rw [if_pos h8_])) hP) (tk_Dw (congrArg (WT ad cA) (by unfold tkT_latchMany_w9; rw [if_pos h8_])) hD) hS
          · refine lv_iload_n hx hb dT_latchMany_34 rfl (lv_at hl 2 rfl) ?_
            refine lv_iconst (v := 4) hx hb dT_latchMany_35 (by decide) ?_
            refine tk_call0 hP hD hS hA (va_runS (As := [.int x0, .int 4]) (rest := []) ⟨hx, hb, hml, hown, hw⟩ (kT_hasBit l D x0 4 H.size) (va_cwS 2 hw (tk_gS tkW_good wM_T_130 wT_T_hasBit wZ_T wC_T_hasBit) rfl rfl rfl (by decide +kernel) ⟨Nat.le_of_ble_eq_true rfl, Nat.le_of_ble_eq_true rfl⟩) (tk_preS hK hN hP hD [] [] rfl rfl rfl) rfl rfl hl.1 rfl (lv_room (Nat.le_of_ble_eq_true rfl)) dT_latchMany_36 ⟨Nat.zero_le _, Nat.zero_le _⟩) (fun H locs hP hD hS => ?_)
            refine W.eq (g2 := F0 m 39 ls [.int (tkT_hasBit_r x0 4)]) rfl ?_
            refine lv_if_ne (tgt := 51) hx hb dT_latchMany_39 (by decide) (fun (h9_ : ¬ (tkT_hasBit_r x0 4 = 0)) => ?_) (fun (h9_ : tkT_hasBit_r x0 4 = 0) => ?_)
            · exact key H locs (tk_Pw (congrArg (WT ad cA) (by unfold tkT_latchMany_w8; rw [if_neg h7_, if_neg h9_])) hP) (tk_Dw (congrArg (WT ad cA) (by unfold tkT_latchMany_w8; rw [if_neg h7_, if_neg h9_])) hD) hS
            · refine lv_aload_n hx hb dT_latchMany_42 rfl (lv_at hl 1 rfl) ?_
              refine va_get (D := D) (ci := 2) (v := .ref (ad 3)) (C := RT) (T := TT) (N := 3) hx hb hw inT hown hK hP 0 rfl rfl 2 (by decide) f24 (fun _ h9 => h9) rfl dT_latchMany_43 ?_
              refine lv_iload_n hx hb dT_latchMany_46 rfl (lv_at hl 0 rfl) ?_
              refine va_aldq hx hb hK hP 3 0 rfl rfl (by unfold vp_in; decide) dT_latchMany_47 ?_
              refine W.eq (g2 := F0 m 48 ls [.ref (ad 6)]) rfl ?_
              refine tk_call1 (cell := (ad 6, .inr (1, FN ((tkT_latchMany_w9 g x0) 6)))) (cell' := (ad 6, .inr (1, FN (tkN_latchStatus_s ((tkT_latchMany_w9 g x0) 6))))) 6 hP hD hS hA rfl rfl (va_runV (As := []) (rest := []) ⟨hx, hb, hml, hown, hw⟩ (kN_latchStatus l D (ad 6) ((tkT_latchMany_w9 g x0) 6) H.size) (cwV 0 hw (tk_gV tkW_good wM_T_134 wI_N_latchStatus wS_N_latchStatus wZ_N wC_N_latchStatus) rfl rfl rfl (by decide +kernel) ⟨Nat.le_of_ble_eq_true rfl, Nat.le_of_ble_eq_true rfl⟩) (tk_preV (q0 := 6) hK hN hP hD [6] [] rfl rfl rfl rfl rfl) rfl rfl hl.1 rfl (lv_room (Nat.le_of_ble_eq_true rfl)) dT_latchMany_48 ⟨Nat.zero_le _, Nat.zero_le _⟩) (fun H locs hP hD hS => ?_)
              have hP : va_P D vwCl (WT ad cA (tk_up (tkT_latchMany_w9 g x0) 6 (tkN_latchStatus_s ((tkT_latchMany_w9 g x0) 6)))) H := hP
              have hD : va_D A (WT ad cA (tk_up (tkT_latchMany_w9 g x0) 6 (tkN_latchStatus_s ((tkT_latchMany_w9 g x0) 6)))) := hD
              refine W.eq (g2 := F0 m 51 ls []) rfl ?_
              exact key H locs (tk_Pw (congrArg (WT ad cA) (by unfold tkT_latchMany_w8; rw [if_neg h7_, if_pos h9_])) hP) (tk_Dw (congrArg (WT ad cA) (by unfold tkT_latchMany_w8; rw [if_neg h7_, if_pos h9_])) hD) hS
      · refine lv_iinc (k := 0) (v := 3) hx hb dT_latchMany_51 hl rfl (by decide) (by decide) rfl (fun ls hl => ?_)
        have hl : lv_has ls 3 [(2, .int 3), (0, .ref (ad 0)), (1, .int x0)] := hl
        refine lv_goto (tgt := 2) hx hb dT_latchMany_54 (by decide) ?_
        refine lv_iload_n hx hb dT_latchMany_2 rfl (lv_at hl 0 rfl) ?_
        refine lv_iconst (v := 3) hx hb dT_latchMany_3 (by decide) ?_
        refine lv_icmp_ge (tgt := 57) hx hb dT_latchMany_4 (by decide) (fun _ => ?_) (fun h => absurd (by decide) h)
        exact tk_vret hx hb hr hlk hP hD hS dT_latchMany_57 (congrArg (WT ad cA) rfl)
def tkT_takeControl_w1 (g : Nat → Nat → Int32) (x0 : Int32) : Nat → Nat → Int32 :=
  if tkT_isCounter_r (x0 >>> ((6 : Int32) &&& 31)) = 0 then tkT_latchMany_s g x0
  else if (x0 >>> ((4 : Int32) &&& 31)) &&& 3 = 0 then (if x0 >>> ((6 : Int32) &&& 31) = 0 then tk_up g 4 (tkN_latchCount_s (g 4))
      else if x0 >>> ((6 : Int32) &&& 31) = 1 then tk_up g 5 (tkN_latchCount_s (g 5))
        else tk_up g 6 (tkN_latchCount_s (g 6)))
    else if x0 >>> ((6 : Int32) &&& 31) = 0 then tk_up g 4 (tkN_setMode_s (g 4) ((x0 >>> ((4 : Int32) &&& 31)) &&& 3) ((x0 >>> ((1 : Int32) &&& 31)) &&& 7))
      else if x0 >>> ((6 : Int32) &&& 31) = 1 then tk_up g 5 (tkN_setMode_s (g 5) ((x0 >>> ((4 : Int32) &&& 31)) &&& 3) ((x0 >>> ((1 : Int32) &&& 31)) &&& 7))
        else tk_up g 6 (tkN_setMode_s (g 6) ((x0 >>> ((4 : Int32) &&& 31)) &&& 3) ((x0 >>> ((1 : Int32) &&& 31)) &&& 7))
def tkT_takeControl_s (g : Nat → Nat → Int32) (x0 : Int32) : Nat → Nat → Int32 :=
  tkT_takeControl_w1 g x0
set_option maxHeartbeats 1000000 in
set_option maxRecDepth 100000 in
theorem kT_takeControl (l : Launch) (D : va_G) (ad : Nat → Nat) (cA : ClassId) (g : Nat → Nat → Int32) (x0 : Int32) : tk_M l yT_takeControl wsT_takeControl { frames := 3, cells := 0, slots := 0, locals := 62 } D [(cA, .object "TickLines$Counter")] [.ref (ad 0), .int x0] (WT ad cA g) (WT ad cA (tkT_takeControl_s g x0)) none := by
  refine tk_M.of (cc := cT_takeControl) (maxL := 4) (ret := none) (by decide) rfl (Nat.le_of_ble_eq_true rfl) ?_
  intro p e s m below meth co A H locs ls hB hK hN hA hP hD hS hl
  obtain ⟨hx, hb, hr, hml, hown, hlk, hnm, hts⟩ := hB
  have hown : s.vm.findClass RT = some m.cls := hown
  have hl : lv_has ls 4 [(0, .ref (ad 0)), (1, .int x0)] := hl
  have hw : ∀ w ∈ tkW, w.before _ s = true := fun w h => hts w (List.mem_cons_of_mem _ h)
  have f24 := hw _ wF_T_24
  refine lv_iload_n hx hb dT_takeControl_0 rfl (lv_at hl 1 rfl) ?_
  refine lv_bipush (v := 6) hx hb dT_takeControl_1 (by decide) ?_
  refine lv_ishr hx hb dT_takeControl_3 ?_
  refine lv_istore_n hx hb dT_takeControl_4 rfl hl (by decide) rfl (fun ls hl => ?_)
  have hl : lv_has ls 4 [(2, .int (x0 >>> ((6 : Int32) &&& 31))), (0, .ref (ad 0)), (1, .int x0)] := hl
  refine lv_iload_n hx hb dT_takeControl_5 rfl (lv_at hl 2 rfl) ?_
  refine lv_iconst (v := 4) hx hb dT_takeControl_6 (by decide) ?_
  refine lv_ishr hx hb dT_takeControl_7 ?_
  refine lv_iconst (v := 3) hx hb dT_takeControl_8 (by decide) ?_
  refine lv_iand hx hb dT_takeControl_9 ?_
  refine lv_istore_n hx hb dT_takeControl_10 rfl hl (by decide) rfl (fun ls hl => ?_)
  have hl : lv_has ls 4 [(3, .int ((x0 >>> ((4 : Int32) &&& 31)) &&& 3)), (2, .int (x0 >>> ((6 : Int32) &&& 31))), (0, .ref (ad 0)), (1, .int x0)] := hl
  refine lv_iload_n hx hb dT_takeControl_11 rfl (lv_at hl 1 rfl) ?_
  refine tk_call0 hP hD hS hA (va_runS (As := [.int (x0 >>> ((6 : Int32) &&& 31))]) (rest := []) ⟨hx, hb, hml, hown, hw⟩ (kT_isCounter l D (x0 >>> ((6 : Int32) &&& 31)) H.size) (va_cwS 1 hw (tk_gS tkW_good wM_T_80 wT_T_isCounter wZ_T wC_T_isCounter) rfl rfl rfl (by decide +kernel) ⟨Nat.le_of_ble_eq_true rfl, Nat.le_of_ble_eq_true rfl⟩) (tk_preS hK hN hP hD [] [] rfl rfl rfl) rfl rfl hl.1 rfl (lv_room (Nat.le_of_ble_eq_true rfl)) dT_takeControl_12 ⟨Nat.zero_le _, Nat.zero_le _⟩) (fun H locs hP hD hS => ?_)
  refine W.eq (g2 := F0 m 15 ls [.int (tkT_isCounter_r (x0 >>> ((6 : Int32) &&& 31)))]) rfl ?_
  refine tk_mrg (D := D) (ws1 := (WT ad cA (tkT_takeControl_w1 g x0))) (g2 := F0 m 58 ls []) hD hS (fun key => ?_) (fun H locs hP hD hS => ?_)
  · refine lv_if_ne (tgt := 26) hx hb dT_takeControl_15 (by decide) (fun (h1_ : ¬ (tkT_isCounter_r (x0 >>> ((6 : Int32) &&& 31)) = 0)) => ?_) (fun (h1_ : tkT_isCounter_r (x0 >>> ((6 : Int32) &&& 31)) = 0) => ?_)
    · refine lv_iload_n hx hb dT_takeControl_26 rfl (lv_at hl 0 rfl) ?_
      refine lv_if_ne (tgt := 42) hx hb dT_takeControl_27 (by decide) (fun (h2_ : ¬ ((x0 >>> ((4 : Int32) &&& 31)) &&& 3 = 0)) => ?_) (fun (h2_ : (x0 >>> ((4 : Int32) &&& 31)) &&& 3 = 0) => ?_)
      · refine lv_aload_n hx hb dT_takeControl_42 rfl (lv_at hl 2 rfl) ?_
        refine va_get (D := D) (ci := 2) (v := .ref (ad 3)) (C := RT) (T := TT) (N := 3) hx hb hw inT hown hK hP 0 rfl rfl 2 (by decide) f24 (fun _ h9 => h9) rfl dT_takeControl_43 ?_
        refine lv_iload_n hx hb dT_takeControl_46 rfl (lv_at hl 1 rfl) ?_
        rcases (tkT_isCounter_c _ h1_) with h3_ | h3_ | h3_
        · refine tk_top h3_ ?_
          refine va_aldq hx hb hK hP 3 0 rfl rfl (by unfold vp_in; decide) dT_takeControl_47 ?_
          refine W.eq (g2 := F0 m 48 ls [.ref (ad 4)]) rfl ?_
          refine lv_iload_n hx hb dT_takeControl_48 rfl (lv_at hl 0 rfl) ?_
          refine lv_iload_n hx hb dT_takeControl_49 rfl (lv_at hl 3 rfl) ?_
          refine lv_iconst (v := 1) hx hb dT_takeControl_50 (by decide) ?_
          refine lv_ishr hx hb dT_takeControl_51 ?_
          refine lv_bipush (v := 7) hx hb dT_takeControl_52 (by decide) ?_
          refine lv_iand hx hb dT_takeControl_54 ?_
          refine tk_call1 (cell := (ad 4, .inr (1, FN (g 4)))) (cell' := (ad 4, .inr (1, FN (tkN_setMode_s (g 4) ((x0 >>> ((4 : Int32) &&& 31)) &&& 3) ((x0 >>> ((1 : Int32) &&& 31)) &&& 7))))) 4 hP hD hS hA rfl rfl (va_runV (As := [.int ((x0 >>> ((4 : Int32) &&& 31)) &&& 3), .int ((x0 >>> ((1 : Int32) &&& 31)) &&& 7)]) (rest := []) ⟨hx, hb, hml, hown, hw⟩ (kN_setMode l D (ad 4) (g 4) ((x0 >>> ((4 : Int32) &&& 31)) &&& 3) ((x0 >>> ((1 : Int32) &&& 31)) &&& 7) H.size) (cwV 2 hw (tk_gV tkW_good wM_T_126 wI_N_setMode wS_N_setMode wZ_N wC_N_setMode) rfl rfl rfl (by decide +kernel) ⟨Nat.le_of_ble_eq_true rfl, Nat.le_of_ble_eq_true rfl⟩) (tk_preV (q0 := 4) hK hN hP hD [4] [] rfl rfl rfl rfl rfl) rfl rfl hl.1 rfl (lv_room (Nat.le_of_ble_eq_true rfl)) dT_takeControl_55 ⟨Nat.zero_le _, Nat.zero_le _⟩) (fun H locs hP hD hS => ?_)
          have hP : va_P D vwCl (WT ad cA (tk_up g 4 (tkN_setMode_s (g 4) ((x0 >>> ((4 : Int32) &&& 31)) &&& 3) ((x0 >>> ((1 : Int32) &&& 31)) &&& 7)))) H := hP
          have hD : va_D A (WT ad cA (tk_up g 4 (tkN_setMode_s (g 4) ((x0 >>> ((4 : Int32) &&& 31)) &&& 3) ((x0 >>> ((1 : Int32) &&& 31)) &&& 7)))) := hD
          refine W.eq (g2 := F0 m 58 ls []) rfl ?_
          exact key H locs (tk_Pw (congrArg (WT ad cA) (by unfold tkT_takeControl_w1; rw [if_neg h1_, if_neg h2_, if_pos h3_])) hP) (tk_Dw (congrArg (WT ad cA) (by unfold tkT_takeControl_w1; rw [if_neg h1_, if_neg h2_, if_pos h3_])) hD) hS
        · have h4_ : ¬ x0 >>> ((6 : Int32) &&& 31) = 0 := by rw [h3_]; decide
          refine tk_top h3_ ?_
          refine va_aldq hx hb hK hP 3 0 rfl rfl (by unfold vp_in; decide) dT_takeControl_47 ?_
          refine W.eq (g2 := F0 m 48 ls [.ref (ad 5)]) rfl ?_
          refine lv_iload_n hx hb dT_takeControl_48 rfl (lv_at hl 0 rfl) ?_
          refine lv_iload_n hx hb dT_takeControl_49 rfl (lv_at hl 3 rfl) ?_
          refine lv_iconst (v := 1) hx hb dT_takeControl_50 (by decide) ?_
          refine lv_ishr hx hb dT_takeControl_51 ?_
          refine lv_bipush (v := 7) hx hb dT_takeControl_52 (by decide) ?_
          refine lv_iand hx hb dT_takeControl_54 ?_
          refine tk_call1 (cell := (ad 5, .inr (1, FN (g 5)))) (cell' := (ad 5, .inr (1, FN (tkN_setMode_s (g 5) ((x0 >>> ((4 : Int32) &&& 31)) &&& 3) ((x0 >>> ((1 : Int32) &&& 31)) &&& 7))))) 5 hP hD hS hA rfl rfl (va_runV (As := [.int ((x0 >>> ((4 : Int32) &&& 31)) &&& 3), .int ((x0 >>> ((1 : Int32) &&& 31)) &&& 7)]) (rest := []) ⟨hx, hb, hml, hown, hw⟩ (kN_setMode l D (ad 5) (g 5) ((x0 >>> ((4 : Int32) &&& 31)) &&& 3) ((x0 >>> ((1 : Int32) &&& 31)) &&& 7) H.size) (cwV 2 hw (tk_gV tkW_good wM_T_126 wI_N_setMode wS_N_setMode wZ_N wC_N_setMode) rfl rfl rfl (by decide +kernel) ⟨Nat.le_of_ble_eq_true rfl, Nat.le_of_ble_eq_true rfl⟩) (tk_preV (q0 := 5) hK hN hP hD [5] [] rfl rfl rfl rfl rfl) rfl rfl hl.1 rfl (lv_room (Nat.le_of_ble_eq_true rfl)) dT_takeControl_55 ⟨Nat.zero_le _, Nat.zero_le _⟩) (fun H locs hP hD hS => ?_)
          have hP : va_P D vwCl (WT ad cA (tk_up g 5 (tkN_setMode_s (g 5) ((x0 >>> ((4 : Int32) &&& 31)) &&& 3) ((x0 >>> ((1 : Int32) &&& 31)) &&& 7)))) H := hP
          have hD : va_D A (WT ad cA (tk_up g 5 (tkN_setMode_s (g 5) ((x0 >>> ((4 : Int32) &&& 31)) &&& 3) ((x0 >>> ((1 : Int32) &&& 31)) &&& 7)))) := hD
          refine W.eq (g2 := F0 m 58 ls []) rfl ?_
          exact key H locs (tk_Pw (congrArg (WT ad cA) (by unfold tkT_takeControl_w1; rw [if_neg h1_, if_neg h2_, if_neg h4_, if_pos h3_])) hP) (tk_Dw (congrArg (WT ad cA) (by unfold tkT_takeControl_w1; rw [if_neg h1_, if_neg h2_, if_neg h4_, if_pos h3_])) hD) hS
        · have h5_ : ¬ x0 >>> ((6 : Int32) &&& 31) = 0 := by rw [h3_]; decide
          have h6_ : ¬ x0 >>> ((6 : Int32) &&& 31) = 1 := by rw [h3_]; decide
          refine tk_top h3_ ?_
          refine va_aldq hx hb hK hP 3 0 rfl rfl (by unfold vp_in; decide) dT_takeControl_47 ?_
          refine W.eq (g2 := F0 m 48 ls [.ref (ad 6)]) rfl ?_
          refine lv_iload_n hx hb dT_takeControl_48 rfl (lv_at hl 0 rfl) ?_
          refine lv_iload_n hx hb dT_takeControl_49 rfl (lv_at hl 3 rfl) ?_
          refine lv_iconst (v := 1) hx hb dT_takeControl_50 (by decide) ?_
          refine lv_ishr hx hb dT_takeControl_51 ?_
          refine lv_bipush (v := 7) hx hb dT_takeControl_52 (by decide) ?_
          refine lv_iand hx hb dT_takeControl_54 ?_
          refine tk_call1 (cell := (ad 6, .inr (1, FN (g 6)))) (cell' := (ad 6, .inr (1, FN (tkN_setMode_s (g 6) ((x0 >>> ((4 : Int32) &&& 31)) &&& 3) ((x0 >>> ((1 : Int32) &&& 31)) &&& 7))))) 6 hP hD hS hA rfl rfl (va_runV (As := [.int ((x0 >>> ((4 : Int32) &&& 31)) &&& 3), .int ((x0 >>> ((1 : Int32) &&& 31)) &&& 7)]) (rest := []) ⟨hx, hb, hml, hown, hw⟩ (kN_setMode l D (ad 6) (g 6) ((x0 >>> ((4 : Int32) &&& 31)) &&& 3) ((x0 >>> ((1 : Int32) &&& 31)) &&& 7) H.size) (cwV 2 hw (tk_gV tkW_good wM_T_126 wI_N_setMode wS_N_setMode wZ_N wC_N_setMode) rfl rfl rfl (by decide +kernel) ⟨Nat.le_of_ble_eq_true rfl, Nat.le_of_ble_eq_true rfl⟩) (tk_preV (q0 := 6) hK hN hP hD [6] [] rfl rfl rfl rfl rfl) rfl rfl hl.1 rfl (lv_room (Nat.le_of_ble_eq_true rfl)) dT_takeControl_55 ⟨Nat.zero_le _, Nat.zero_le _⟩) (fun H locs hP hD hS => ?_)
          have hP : va_P D vwCl (WT ad cA (tk_up g 6 (tkN_setMode_s (g 6) ((x0 >>> ((4 : Int32) &&& 31)) &&& 3) ((x0 >>> ((1 : Int32) &&& 31)) &&& 7)))) H := hP
          have hD : va_D A (WT ad cA (tk_up g 6 (tkN_setMode_s (g 6) ((x0 >>> ((4 : Int32) &&& 31)) &&& 3) ((x0 >>> ((1 : Int32) &&& 31)) &&& 7)))) := hD
          refine W.eq (g2 := F0 m 58 ls []) rfl ?_
          exact key H locs (tk_Pw (congrArg (WT ad cA) (by unfold tkT_takeControl_w1; rw [if_neg h1_, if_neg h2_, if_neg h5_, if_neg h6_])) hP) (tk_Dw (congrArg (WT ad cA) (by unfold tkT_takeControl_w1; rw [if_neg h1_, if_neg h2_, if_neg h5_, if_neg h6_])) hD) hS
      · refine lv_aload_n hx hb dT_takeControl_30 rfl (lv_at hl 2 rfl) ?_
        refine va_get (D := D) (ci := 2) (v := .ref (ad 3)) (C := RT) (T := TT) (N := 3) hx hb hw inT hown hK hP 0 rfl rfl 2 (by decide) f24 (fun _ h9 => h9) rfl dT_takeControl_31 ?_
        refine lv_iload_n hx hb dT_takeControl_34 rfl (lv_at hl 1 rfl) ?_
        rcases (tkT_isCounter_c _ h1_) with h7_ | h7_ | h7_
        · refine tk_top h7_ ?_
          refine va_aldq hx hb hK hP 3 0 rfl rfl (by unfold vp_in; decide) dT_takeControl_35 ?_
          refine W.eq (g2 := F0 m 36 ls [.ref (ad 4)]) rfl ?_
          refine tk_call1 (cell := (ad 4, .inr (1, FN (g 4)))) (cell' := (ad 4, .inr (1, FN (tkN_latchCount_s (g 4))))) 4 hP hD hS hA rfl rfl (va_runV (As := []) (rest := []) ⟨hx, hb, hml, hown, hw⟩ (kN_latchCount l D (ad 4) (g 4) H.size) (cwV 0 hw (tk_gV tkW_good wM_T_123 wI_N_latchCount wS_N_latchCount wZ_N wC_N_latchCount) rfl rfl rfl (by decide +kernel) ⟨Nat.le_of_ble_eq_true rfl, Nat.le_of_ble_eq_true rfl⟩) (tk_preV (q0 := 4) hK hN hP hD [4] [] rfl rfl rfl rfl rfl) rfl rfl hl.1 rfl (lv_room (Nat.le_of_ble_eq_true rfl)) dT_takeControl_36 ⟨Nat.zero_le _, Nat.zero_le _⟩) (fun H locs hP hD hS => ?_)
          have hP : va_P D vwCl (WT ad cA (tk_up g 4 (tkN_latchCount_s (g 4)))) H := hP
          have hD : va_D A (WT ad cA (tk_up g 4 (tkN_latchCount_s (g 4)))) := hD
          refine W.eq (g2 := F0 m 39 ls []) rfl ?_
          refine lv_goto (tgt := 58) hx hb dT_takeControl_39 (by decide) ?_
          exact key H locs (tk_Pw (congrArg (WT ad cA) (by unfold tkT_takeControl_w1; rw [if_neg h1_, if_pos h2_, if_pos h7_])) hP) (tk_Dw (congrArg (WT ad cA) (by unfold tkT_takeControl_w1; rw [if_neg h1_, if_pos h2_, if_pos h7_])) hD) hS
        · have h8_ : ¬ x0 >>> ((6 : Int32) &&& 31) = 0 := by rw [h7_]; decide
          refine tk_top h7_ ?_
          refine va_aldq hx hb hK hP 3 0 rfl rfl (by unfold vp_in; decide) dT_takeControl_35 ?_
          refine W.eq (g2 := F0 m 36 ls [.ref (ad 5)]) rfl ?_
          refine tk_call1 (cell := (ad 5, .inr (1, FN (g 5)))) (cell' := (ad 5, .inr (1, FN (tkN_latchCount_s (g 5))))) 5 hP hD hS hA rfl rfl (va_runV (As := []) (rest := []) ⟨hx, hb, hml, hown, hw⟩ (kN_latchCount l D (ad 5) (g 5) H.size) (cwV 0 hw (tk_gV tkW_good wM_T_123 wI_N_latchCount wS_N_latchCount wZ_N wC_N_latchCount) rfl rfl rfl (by decide +kernel) ⟨Nat.le_of_ble_eq_true rfl, Nat.le_of_ble_eq_true rfl⟩) (tk_preV (q0 := 5) hK hN hP hD [5] [] rfl rfl rfl rfl rfl) rfl rfl hl.1 rfl (lv_room (Nat.le_of_ble_eq_true rfl)) dT_takeControl_36 ⟨Nat.zero_le _, Nat.zero_le _⟩) (fun H locs hP hD hS => ?_)
          have hP : va_P D vwCl (WT ad cA (tk_up g 5 (tkN_latchCount_s (g 5)))) H := hP
          have hD : va_D A (WT ad cA (tk_up g 5 (tkN_latchCount_s (g 5)))) := hD
          refine W.eq (g2 := F0 m 39 ls []) rfl ?_
          refine lv_goto (tgt := 58) hx hb dT_takeControl_39 (by decide) ?_
          exact key H locs (tk_Pw (congrArg (WT ad cA) (by unfold tkT_takeControl_w1; rw [if_neg h1_, if_pos h2_, if_neg h8_, if_pos h7_])) hP) (tk_Dw (congrArg (WT ad cA) (by unfold tkT_takeControl_w1; rw [if_neg h1_, if_pos h2_, if_neg h8_, if_pos h7_])) hD) hS
        · have h9_ : ¬ x0 >>> ((6 : Int32) &&& 31) = 0 := by rw [h7_]; decide
          have h10_ : ¬ x0 >>> ((6 : Int32) &&& 31) = 1 := by rw [h7_]; decide
          refine tk_top h7_ ?_
          refine va_aldq hx hb hK hP 3 0 rfl rfl (by unfold vp_in; decide) dT_takeControl_35 ?_
          refine W.eq (g2 := F0 m 36 ls [.ref (ad 6)]) rfl ?_
          refine tk_call1 (cell := (ad 6, .inr (1, FN (g 6)))) (cell' := (ad 6, .inr (1, FN (tkN_latchCount_s (g 6))))) 6 hP hD hS hA rfl rfl (va_runV (As := []) (rest := []) ⟨hx, hb, hml, hown, hw⟩ (kN_latchCount l D (ad 6) (g 6) H.size) (cwV 0 hw (tk_gV tkW_good wM_T_123 wI_N_latchCount wS_N_latchCount wZ_N wC_N_latchCount) rfl rfl rfl (by decide +kernel) ⟨Nat.le_of_ble_eq_true rfl, Nat.le_of_ble_eq_true rfl⟩) (tk_preV (q0 := 6) hK hN hP hD [6] [] rfl rfl rfl rfl rfl) rfl rfl hl.1 rfl (lv_room (Nat.le_of_ble_eq_true rfl)) dT_takeControl_36 ⟨Nat.zero_le _, Nat.zero_le _⟩) (fun H locs hP hD hS => ?_)
          have hP : va_P D vwCl (WT ad cA (tk_up g 6 (tkN_latchCount_s (g 6)))) H := hP
          have hD : va_D A (WT ad cA (tk_up g 6 (tkN_latchCount_s (g 6)))) := hD
          refine W.eq (g2 := F0 m 39 ls []) rfl ?_
          refine lv_goto (tgt := 58) hx hb dT_takeControl_39 (by decide) ?_
          exact key H locs (tk_Pw (congrArg (WT ad cA) (by unfold tkT_takeControl_w1; rw [if_neg h1_, if_pos h2_, if_neg h9_, if_neg h10_])) hP) (tk_Dw (congrArg (WT ad cA) (by unfold tkT_takeControl_w1; rw [if_neg h1_, if_pos h2_, if_neg h9_, if_neg h10_])) hD) hS
    · refine lv_aload_n hx hb dT_takeControl_18 rfl (lv_at hl 2 rfl) ?_
      refine lv_iload_n hx hb dT_takeControl_19 rfl (lv_at hl 3 rfl) ?_
      refine tk_callA hD hS hA (va_runV (As := [.int x0]) (rest := []) ⟨hx, hb, hml, hown, hw⟩ (kT_latchMany l D ad cA g x0 H.size) (cwV 1 hw (tk_gV tkW_good wM_T_120 wI_T_latchMany wS_T_latchMany wZ_T wC_T_latchMany) rfl rfl rfl (by decide +kernel) ⟨Nat.le_of_ble_eq_true rfl, Nat.le_of_ble_eq_true rfl⟩) (tk_preT hK hN hP hD) rfl rfl hl.1 rfl (lv_room (Nat.le_of_ble_eq_true rfl)) dT_takeControl_20 ⟨Nat.zero_le _, Nat.zero_le _⟩) (fun H locs hP hD hS => ?_)
      refine W.eq (g2 := F0 m 23 ls []) rfl ?_
      refine lv_goto (tgt := 58) hx hb dT_takeControl_23 (by decide) ?_
      exact key H locs (tk_Pw (congrArg (WT ad cA) (by unfold tkT_takeControl_w1; rw [if_pos h1_])) hP) (tk_Dw (congrArg (WT ad cA) (by unfold tkT_takeControl_w1; rw [if_pos h1_])) hD) hS
  · exact tk_vret hx hb hr hlk hP hD hS dT_takeControl_58 (congrArg (WT ad cA) rfl)
def tkT_followLines_s (g : Nat → Nat → Int32) : Nat → Nat → Int32 :=
  if tkC_chosenLevel_r (g 2) = (-1) then tk_up g 1 (tkC_setLine_s (tkC_setLine_s (g 1) 0 ((g 4) 1)) 2 0)
  else tk_up g 1 (tkC_setLine_s (tkC_setLine_s (g 1) 0 ((g 4) 1)) 2 1)
set_option maxHeartbeats 1000000 in
set_option maxRecDepth 100000 in
theorem kT_followLines (l : Launch) (D : va_G) (ad : Nat → Nat) (cA : ClassId) (g : Nat → Nat → Int32) : tk_M l yT_followLines wsT_followLines { frames := 2, cells := 0, slots := 0, locals := 46 } D [(cA, .object "TickLines$Counter")] [.ref (ad 0)] (WT ad cA g) (WT ad cA (tkT_followLines_s g)) none := by
  refine tk_M.of (cc := cT_followLines) (maxL := 1) (ret := none) (by decide) rfl (Nat.le_of_ble_eq_true rfl) ?_
  intro p e s m below meth co A H locs ls hB hK hN hA hP hD hS hl
  obtain ⟨hx, hb, hr, hml, hown, hlk, hnm, hts⟩ := hB
  have hown : s.vm.findClass RT = some m.cls := hown
  have hl : lv_has ls 1 [(0, .ref (ad 0))] := hl
  have hw : ∀ w ∈ tkW, w.before _ s = true := fun w h => hts w (List.mem_cons_of_mem _ h)
  have f12 := hw _ wF_T_12
  have f24 := hw _ wF_T_24
  have f18 := hw _ wF_T_18
  refine lv_aload_n hx hb dT_followLines_0 rfl (lv_at hl 0 rfl) ?_
  refine va_get (D := D) (ci := 2) (v := .ref (ad 1)) (C := RT) (T := TT) (N := 3) hx hb hw inT hown hK hP 0 rfl rfl 0 (by decide) f12 (fun _ h9 => h9) rfl dT_followLines_1 ?_
  refine lv_iconst (v := 0) hx hb dT_followLines_4 (by decide) ?_
  refine lv_aload_n hx hb dT_followLines_5 rfl (lv_at hl 0 rfl) ?_
  refine va_get (D := D) (ci := 2) (v := .ref (ad 3)) (C := RT) (T := TT) (N := 3) hx hb hw inT hown hK hP 0 rfl rfl 2 (by decide) f24 (fun _ h9 => h9) rfl dT_followLines_6 ?_
  refine lv_iconst (v := 0) hx hb dT_followLines_9 (by decide) ?_
  refine va_aldq hx hb hK hP 3 0 rfl rfl (by unfold vp_in; decide) dT_followLines_10 ?_
  refine W.eq (g2 := F0 m 11 ls [.ref (ad 4), .int 0, .ref (ad 1)]) rfl ?_
  refine va_getN (D := D) (ci := 1) (v := .int ((g 4) 1)) (C := RN) (T := TN) (N := 14) hx hb hw inN hown hK hP 4 rfl rfl 1 (by decide) (va_Nw.use rfl (hN (.fieldLinkNest RT 86 "TickLines$Counter" "output" "Z" "TickLines") (by decide +kernel))) (fun _ h9 => h9) rfl dT_followLines_11 ?_
  refine tk_call1 (cell := (ad 1, .inr (0, FC (g 1)))) (cell' := (ad 1, .inr (0, FC (tkC_setLine_s (g 1) 0 ((g 4) 1))))) 1 hP hD hS hA rfl rfl (va_runV (As := [.int 0, .int ((g 4) 1)]) (rest := []) ⟨hx, hb, hml, hown, hw⟩ (kC_setLine l D (ad 1) (g 1) 0 ((g 4) 1) H.size) (cwV 2 hw (tk_gV tkW_good wM_T_76 wI_C_setLine wS_C_setLine wZ_C wC_C_setLine) rfl rfl rfl (by decide +kernel) ⟨Nat.le_of_ble_eq_true rfl, Nat.le_of_ble_eq_true rfl⟩) (tk_preV (q0 := 1) hK hN hP hD [1] [] rfl rfl rfl rfl rfl) rfl rfl hl.1 rfl (lv_room (Nat.le_of_ble_eq_true rfl)) dT_followLines_14 ⟨Nat.zero_le _, Nat.zero_le _⟩) (fun H locs hP hD hS => ?_)
  have hP : va_P D vwCl (WT ad cA (tk_up g 1 (tkC_setLine_s (g 1) 0 ((g 4) 1)))) H := hP
  have hD : va_D A (WT ad cA (tk_up g 1 (tkC_setLine_s (g 1) 0 ((g 4) 1)))) := hD
  refine W.eq (g2 := F0 m 17 ls []) rfl ?_
  refine lv_aload_n hx hb dT_followLines_17 rfl (lv_at hl 0 rfl) ?_
  refine va_get (D := D) (ci := 2) (v := .ref (ad 1)) (C := RT) (T := TT) (N := 3) hx hb hw inT hown hK hP 0 rfl rfl 0 (by decide) f12 (fun _ h9 => h9) rfl dT_followLines_18 ?_
  refine lv_iconst (v := 2) hx hb dT_followLines_21 (by decide) ?_
  refine lv_aload_n hx hb dT_followLines_22 rfl (lv_at hl 0 rfl) ?_
  refine va_get (D := D) (ci := 2) (v := .ref (ad 2)) (C := RT) (T := TT) (N := 3) hx hb hw inT hown hK hP 0 rfl rfl 1 (by decide) f18 (fun _ h9 => h9) rfl dT_followLines_23 ?_
  refine tk_call1 (cell := (ad 2, .inr (0, FC (g 2)))) (cell' := (ad 2, .inr (0, FC (g 2)))) 2 hP hD hS hA rfl rfl (va_runV (As := []) (rest := [.int 2, .ref (ad 1)]) ⟨hx, hb, hml, hown, hw⟩ (kC_chosenLevel l D (ad 2) (g 2) H.size) (cwV 0 hw (tk_gV tkW_good wM_T_109 wI_C_chosenLevel wS_C_chosenLevel wZ_C wC_C_chosenLevel) rfl rfl rfl (by decide +kernel) ⟨Nat.le_of_ble_eq_true rfl, Nat.le_of_ble_eq_true rfl⟩) (tk_preV (q0 := 2) hK hN hP hD [2] [] rfl rfl rfl rfl rfl) rfl rfl hl.1 rfl (lv_room (Nat.le_of_ble_eq_true rfl)) dT_followLines_26 ⟨Nat.zero_le _, Nat.zero_le _⟩) (fun H locs hP hD hS => ?_)
  have hP : va_P D vwCl (WT ad cA (tk_up g 1 (tkC_setLine_s (g 1) 0 ((g 4) 1)))) H := hP
  have hD : va_D A (WT ad cA (tk_up g 1 (tkC_setLine_s (g 1) 0 ((g 4) 1)))) := hD
  refine W.eq (g2 := F0 m 29 ls [.int (tkC_chosenLevel_r (g 2)), .int 2, .ref (ad 1)]) rfl ?_
  refine lv_iconst (v := -1) hx hb dT_followLines_29 (by decide) ?_
  refine lv_icmp_eq (tgt := 37) hx hb dT_followLines_30 (by decide) (fun (h1_ : tkC_chosenLevel_r (g 2) = (-1)) => ?_) (fun (h1_ : ¬ (tkC_chosenLevel_r (g 2) = (-1))) => ?_)
  · refine lv_iconst (v := 0) hx hb dT_followLines_37 (by decide) ?_
    refine tk_call1 (cell := (ad 1, .inr (0, FC (tkC_setLine_s (g 1) 0 ((g 4) 1))))) (cell' := (ad 1, .inr (0, FC (tkC_setLine_s (tkC_setLine_s (g 1) 0 ((g 4) 1)) 2 0)))) 1 hP hD hS hA rfl rfl (va_runV (As := [.int 2, .int 0]) (rest := []) ⟨hx, hb, hml, hown, hw⟩ (kC_setLine l D (ad 1) (tkC_setLine_s (g 1) 0 ((g 4) 1)) 2 0 H.size) (cwV 2 hw (tk_gV tkW_good wM_T_76 wI_C_setLine wS_C_setLine wZ_C wC_C_setLine) rfl rfl rfl (by decide +kernel) ⟨Nat.le_of_ble_eq_true rfl, Nat.le_of_ble_eq_true rfl⟩) (tk_preV (q0 := 1) hK hN hP hD [1] [] rfl rfl rfl rfl rfl) rfl rfl hl.1 rfl (lv_room (Nat.le_of_ble_eq_true rfl)) dT_followLines_38 ⟨Nat.zero_le _, Nat.zero_le _⟩) (fun H locs hP hD hS => ?_)
    have hP : va_P D vwCl (WT ad cA (tk_up g 1 (tkC_setLine_s (tkC_setLine_s (g 1) 0 ((g 4) 1)) 2 0))) H := hP
    have hD : va_D A (WT ad cA (tk_up g 1 (tkC_setLine_s (tkC_setLine_s (g 1) 0 ((g 4) 1)) 2 0))) := hD
    refine W.eq (g2 := F0 m 41 ls []) rfl ?_
    exact tk_vret hx hb hr hlk hP hD hS dT_followLines_41 (congrArg (WT ad cA) (by unfold tkT_followLines_s; rw [if_pos h1_]))
  · refine lv_iconst (v := 1) hx hb dT_followLines_33 (by decide) ?_
    refine lv_goto (tgt := 38) hx hb dT_followLines_34 (by decide) ?_
    refine tk_call1 (cell := (ad 1, .inr (0, FC (tkC_setLine_s (g 1) 0 ((g 4) 1))))) (cell' := (ad 1, .inr (0, FC (tkC_setLine_s (tkC_setLine_s (g 1) 0 ((g 4) 1)) 2 1)))) 1 hP hD hS hA rfl rfl (va_runV (As := [.int 2, .int 1]) (rest := []) ⟨hx, hb, hml, hown, hw⟩ (kC_setLine l D (ad 1) (tkC_setLine_s (g 1) 0 ((g 4) 1)) 2 1 H.size) (cwV 2 hw (tk_gV tkW_good wM_T_76 wI_C_setLine wS_C_setLine wZ_C wC_C_setLine) rfl rfl rfl (by decide +kernel) ⟨Nat.le_of_ble_eq_true rfl, Nat.le_of_ble_eq_true rfl⟩) (tk_preV (q0 := 1) hK hN hP hD [1] [] rfl rfl rfl rfl rfl) rfl rfl hl.1 rfl (lv_room (Nat.le_of_ble_eq_true rfl)) dT_followLines_38 ⟨Nat.zero_le _, Nat.zero_le _⟩) (fun H locs hP hD hS => ?_)
    have hP : va_P D vwCl (WT ad cA (tk_up g 1 (tkC_setLine_s (tkC_setLine_s (g 1) 0 ((g 4) 1)) 2 1))) H := hP
    have hD : va_D A (WT ad cA (tk_up g 1 (tkC_setLine_s (tkC_setLine_s (g 1) 0 ((g 4) 1)) 2 1))) := hD
    refine W.eq (g2 := F0 m 41 ls []) rfl ?_
    exact tk_vret hx hb hr hlk hP hD hS dT_followLines_41 (congrArg (WT ad cA) (by unfold tkT_followLines_s; rw [if_neg h1_]))
def tkT_line_r (g : Nat → Nat → Int32) (x0 x1 x2 : Int32) : Int32 :=
  if tkT_isController_r x0 = 0 then 0
  else if x1 < 0 then 0
    else if x1 < 8 then (if x0 = 0 then (if x1 = 0 then 0
          else if x1 = 2 then 0
            else 1)
        else 1)
      else 0
def tkT_line_s (g : Nat → Nat → Int32) (x0 x1 x2 : Int32) : Nat → Nat → Int32 :=
  if tkT_isController_r x0 = 0 then g
  else if x1 < 0 then g
    else if x1 < 8 then (if x0 = 0 then (if x1 = 0 then g
          else if x1 = 2 then g
            else tkT_followLines_s (tk_up g 1 (tkC_setLine_s (g 1) x1 x2)))
        else tkT_followLines_s (tk_up g 2 (tkC_setLine_s (g 2) x1 x2)))
      else g
set_option maxHeartbeats 1000000 in
set_option maxRecDepth 100000 in
theorem kT_line (l : Launch) (D : va_G) (ad : Nat → Nat) (cA : ClassId) (g : Nat → Nat → Int32) (x0 x1 x2 : Int32) : tk_M l yT_line wsT_line { frames := 3, cells := 0, slots := 0, locals := 66 } D [(cA, .object "TickLines$Counter")] [.ref (ad 0), .int x0, .int x1, .int x2] (WT ad cA g) (WT ad cA (tkT_line_s g x0 x1 x2)) (some (.int (tkT_line_r g x0 x1 x2))) := by
  refine tk_M.of (cc := cT_line) (maxL := 4) (ret := (some .boolean)) (by decide) rfl (Nat.le_of_ble_eq_true rfl) ?_
  intro p e s m below meth co A H locs ls hB hK hN hA hP hD hS hl
  obtain ⟨hx, hb, hr, hml, hown, hlk, hnm, hts⟩ := hB
  have hown : s.vm.findClass RT = some m.cls := hown
  have hl : lv_has ls 4 [(0, .ref (ad 0)), (1, .int x0), (2, .int x1), (3, .int x2)] := hl
  have hw : ∀ w ∈ tkW, w.before _ s = true := fun w h => hts w (List.mem_cons_of_mem _ h)
  refine lv_iload_n hx hb dT_line_0 rfl (lv_at hl 1 rfl) ?_
  refine tk_call0 hP hD hS hA (va_runS (As := [.int x0]) (rest := []) ⟨hx, hb, hml, hown, hw⟩ (kT_isController l D x0 H.size) (va_cwS 1 hw (tk_gS tkW_good wM_T_73 wT_T_isController wZ_T wC_T_isController) rfl rfl rfl (by decide +kernel) ⟨Nat.le_of_ble_eq_true rfl, Nat.le_of_ble_eq_true rfl⟩) (tk_preS hK hN hP hD [] [] rfl rfl rfl) rfl rfl hl.1 rfl (lv_room (Nat.le_of_ble_eq_true rfl)) dT_line_1 ⟨Nat.zero_le _, Nat.zero_le _⟩) (fun H locs hP hD hS => ?_)
  refine W.eq (g2 := F0 m 4 ls [.int (tkT_isController_r x0)]) rfl ?_
  refine lv_if_eq (tgt := 17) hx hb dT_line_4 (by decide) (fun (h1_ : tkT_isController_r x0 = 0) => ?_) (fun (h1_ : ¬ (tkT_isController_r x0 = 0)) => ?_)
  · refine lv_iconst (v := 0) hx hb dT_line_17 (by decide) ?_
    exact tk_zret hx hb hr hlk hP hD hS dT_line_18 rfl (by unfold tkT_line_r; rw [if_pos h1_]) (congrArg (WT ad cA) (by unfold tkT_line_s; rw [if_pos h1_]))
  · refine lv_iload_n hx hb dT_line_7 rfl (lv_at hl 2 rfl) ?_
    refine lv_if_lt (tgt := 17) hx hb dT_line_8 (by decide) (fun (h2_ : x1 < 0) => ?_) (fun (h2_ : ¬ (x1 < 0)) => ?_)
    · refine lv_iconst (v := 0) hx hb dT_line_17 (by decide) ?_
      exact tk_zret hx hb hr hlk hP hD hS dT_line_18 rfl (by unfold tkT_line_r; rw [if_neg h1_, if_pos h2_]) (congrArg (WT ad cA) (by unfold tkT_line_s; rw [if_neg h1_, if_pos h2_]))
    · refine lv_iload_n hx hb dT_line_11 rfl (lv_at hl 2 rfl) ?_
      refine lv_bipush (v := 8) hx hb dT_line_12 (by decide) ?_
      refine lv_icmp_lt (tgt := 19) hx hb dT_line_14 (by decide) (fun (h3_ : x1 < 8) => ?_) (fun (h3_ : ¬ (x1 < 8)) => ?_)
      · refine lv_iload_n hx hb dT_line_19 rfl (lv_at hl 1 rfl) ?_
        refine lv_if_ne (tgt := 34) hx hb dT_line_20 (by decide) (fun (h4_ : ¬ (x0 = 0)) => ?_) (fun (h4_ : x0 = 0) => ?_)
        · refine lv_aload_n hx hb dT_line_34 rfl (lv_at hl 0 rfl) ?_
          refine lv_iload_n hx hb dT_line_35 rfl (lv_at hl 1 rfl) ?_
          refine tk_callA hD hS hA (va_runV (As := [.int x0]) (rest := []) ⟨hx, hb, hml, hown, hw⟩ (kT_controllerOf l D ad cA g x0 H.size) (cwV 1 hw (tk_gV tkW_good wM_T_49 wI_T_controllerOf wS_T_controllerOf wZ_T wC_T_controllerOf) rfl rfl rfl (by decide +kernel) ⟨Nat.le_of_ble_eq_true rfl, Nat.le_of_ble_eq_true rfl⟩) (tk_preT hK hN hP hD) rfl rfl hl.1 rfl (lv_room (Nat.le_of_ble_eq_true rfl)) dT_line_36 ⟨Nat.zero_le _, Nat.zero_le _⟩) (fun H locs hP hD hS => ?_)
          refine W.eq (g2 := F0 m 39 ls (.ref (tkT_controllerOf_r ad x0) :: [])) rfl ?_
          refine tk_topr (show tkT_controllerOf_r ad x0 = ad 2 from if_neg h4_) ?_
          refine W.eq (g2 := F0 m 39 ls [.ref (ad 2)]) rfl ?_
          refine lv_iload_n hx hb dT_line_39 rfl (lv_at hl 2 rfl) ?_
          refine lv_iload_n hx hb dT_line_40 rfl (lv_at hl 3 rfl) ?_
          refine tk_call1 (cell := (ad 2, .inr (0, FC (g 2)))) (cell' := (ad 2, .inr (0, FC (tkC_setLine_s (g 2) x1 x2)))) 2 hP hD hS hA rfl rfl (va_runV (As := [.int x1, .int x2]) (rest := []) ⟨hx, hb, hml, hown, hw⟩ (kC_setLine l D (ad 2) (g 2) x1 x2 H.size) (cwV 2 hw (tk_gV tkW_good wM_T_76 wI_C_setLine wS_C_setLine wZ_C wC_C_setLine) rfl rfl rfl (by decide +kernel) ⟨Nat.le_of_ble_eq_true rfl, Nat.le_of_ble_eq_true rfl⟩) (tk_preV (q0 := 2) hK hN hP hD [2] [] rfl rfl rfl rfl rfl) rfl rfl hl.1 rfl (lv_room (Nat.le_of_ble_eq_true rfl)) dT_line_41 ⟨Nat.zero_le _, Nat.zero_le _⟩) (fun H locs hP hD hS => ?_)
          have hP : va_P D vwCl (WT ad cA (tk_up g 2 (tkC_setLine_s (g 2) x1 x2))) H := hP
          have hD : va_D A (WT ad cA (tk_up g 2 (tkC_setLine_s (g 2) x1 x2))) := hD
          refine W.eq (g2 := F0 m 44 ls []) rfl ?_
          refine lv_aload_n hx hb dT_line_44 rfl (lv_at hl 0 rfl) ?_
          refine tk_callA hD hS hA (va_runV (As := []) (rest := []) ⟨hx, hb, hml, hown, hw⟩ (kT_followLines l D ad cA (tk_up g 2 (tkC_setLine_s (g 2) x1 x2)) H.size) (cwV 0 hw (tk_gV tkW_good wM_T_59 wI_T_followLines wS_T_followLines wZ_T wC_T_followLines) rfl rfl rfl (by decide +kernel) ⟨Nat.le_of_ble_eq_true rfl, Nat.le_of_ble_eq_true rfl⟩) (tk_preT hK hN hP hD) rfl rfl hl.1 rfl (lv_room (Nat.le_of_ble_eq_true rfl)) dT_line_45 ⟨Nat.zero_le _, Nat.zero_le _⟩) (fun H locs hP hD hS => ?_)
          refine W.eq (g2 := F0 m 48 ls []) rfl ?_
          refine lv_iconst (v := 1) hx hb dT_line_48 (by decide) ?_
          exact tk_zret hx hb hr hlk hP hD hS dT_line_49 rfl (by unfold tkT_line_r; rw [if_neg h1_, if_neg h2_, if_pos h3_, if_neg h4_]) (congrArg (WT ad cA) (by unfold tkT_line_s; rw [if_neg h1_, if_neg h2_, if_pos h3_, if_neg h4_]))
        · refine lv_iload_n hx hb dT_line_23 rfl (lv_at hl 2 rfl) ?_
          refine lv_if_eq (tgt := 32) hx hb dT_line_24 (by decide) (fun (h5_ : x1 = 0) => ?_) (fun (h5_ : ¬ (x1 = 0)) => ?_)
          · refine lv_iconst (v := 0) hx hb dT_line_32 (by decide) ?_
            exact tk_zret hx hb hr hlk hP hD hS dT_line_33 rfl (by unfold tkT_line_r; rw [if_neg h1_, if_neg h2_, if_pos h3_, if_pos h4_, if_pos h5_]) (congrArg (WT ad cA) (by unfold tkT_line_s; rw [if_neg h1_, if_neg h2_, if_pos h3_, if_pos h4_, if_pos h5_]))
          · refine lv_iload_n hx hb dT_line_27 rfl (lv_at hl 2 rfl) ?_
            refine lv_iconst (v := 2) hx hb dT_line_28 (by decide) ?_
            refine lv_icmp_ne (tgt := 34) hx hb dT_line_29 (by decide) (fun (h6_ : ¬ (x1 = 2)) => ?_) (fun (h6_ : x1 = 2) => ?_)
            · refine lv_aload_n hx hb dT_line_34 rfl (lv_at hl 0 rfl) ?_
              refine lv_iload_n hx hb dT_line_35 rfl (lv_at hl 1 rfl) ?_
              refine tk_callA hD hS hA (va_runV (As := [.int x0]) (rest := []) ⟨hx, hb, hml, hown, hw⟩ (kT_controllerOf l D ad cA g x0 H.size) (cwV 1 hw (tk_gV tkW_good wM_T_49 wI_T_controllerOf wS_T_controllerOf wZ_T wC_T_controllerOf) rfl rfl rfl (by decide +kernel) ⟨Nat.le_of_ble_eq_true rfl, Nat.le_of_ble_eq_true rfl⟩) (tk_preT hK hN hP hD) rfl rfl hl.1 rfl (lv_room (Nat.le_of_ble_eq_true rfl)) dT_line_36 ⟨Nat.zero_le _, Nat.zero_le _⟩) (fun H locs hP hD hS => ?_)
              refine W.eq (g2 := F0 m 39 ls (.ref (tkT_controllerOf_r ad x0) :: [])) rfl ?_
              refine tk_topr (show tkT_controllerOf_r ad x0 = ad 1 from if_pos h4_) ?_
              refine W.eq (g2 := F0 m 39 ls [.ref (ad 1)]) rfl ?_
              refine lv_iload_n hx hb dT_line_39 rfl (lv_at hl 2 rfl) ?_
              refine lv_iload_n hx hb dT_line_40 rfl (lv_at hl 3 rfl) ?_
              refine tk_call1 (cell := (ad 1, .inr (0, FC (g 1)))) (cell' := (ad 1, .inr (0, FC (tkC_setLine_s (g 1) x1 x2)))) 1 hP hD hS hA rfl rfl (va_runV (As := [.int x1, .int x2]) (rest := []) ⟨hx, hb, hml, hown, hw⟩ (kC_setLine l D (ad 1) (g 1) x1 x2 H.size) (cwV 2 hw (tk_gV tkW_good wM_T_76 wI_C_setLine wS_C_setLine wZ_C wC_C_setLine) rfl rfl rfl (by decide +kernel) ⟨Nat.le_of_ble_eq_true rfl, Nat.le_of_ble_eq_true rfl⟩) (tk_preV (q0 := 1) hK hN hP hD [1] [] rfl rfl rfl rfl rfl) rfl rfl hl.1 rfl (lv_room (Nat.le_of_ble_eq_true rfl)) dT_line_41 ⟨Nat.zero_le _, Nat.zero_le _⟩) (fun H locs hP hD hS => ?_)
              have hP : va_P D vwCl (WT ad cA (tk_up g 1 (tkC_setLine_s (g 1) x1 x2))) H := hP
              have hD : va_D A (WT ad cA (tk_up g 1 (tkC_setLine_s (g 1) x1 x2))) := hD
              refine W.eq (g2 := F0 m 44 ls []) rfl ?_
              refine lv_aload_n hx hb dT_line_44 rfl (lv_at hl 0 rfl) ?_
              refine tk_callA hD hS hA (va_runV (As := []) (rest := []) ⟨hx, hb, hml, hown, hw⟩ (kT_followLines l D ad cA (tk_up g 1 (tkC_setLine_s (g 1) x1 x2)) H.size) (cwV 0 hw (tk_gV tkW_good wM_T_59 wI_T_followLines wS_T_followLines wZ_T wC_T_followLines) rfl rfl rfl (by decide +kernel) ⟨Nat.le_of_ble_eq_true rfl, Nat.le_of_ble_eq_true rfl⟩) (tk_preT hK hN hP hD) rfl rfl hl.1 rfl (lv_room (Nat.le_of_ble_eq_true rfl)) dT_line_45 ⟨Nat.zero_le _, Nat.zero_le _⟩) (fun H locs hP hD hS => ?_)
              refine W.eq (g2 := F0 m 48 ls []) rfl ?_
              refine lv_iconst (v := 1) hx hb dT_line_48 (by decide) ?_
              exact tk_zret hx hb hr hlk hP hD hS dT_line_49 rfl (by unfold tkT_line_r; rw [if_neg h1_, if_neg h2_, if_pos h3_, if_pos h4_, if_neg h5_, if_neg h6_]) (congrArg (WT ad cA) (by unfold tkT_line_s; rw [if_neg h1_, if_neg h2_, if_pos h3_, if_pos h4_, if_neg h5_, if_neg h6_]))
            · refine lv_iconst (v := 0) hx hb dT_line_32 (by decide) ?_
              exact tk_zret hx hb hr hlk hP hD hS dT_line_33 rfl (by unfold tkT_line_r; rw [if_neg h1_, if_neg h2_, if_pos h3_, if_pos h4_, if_neg h5_, if_pos h6_]) (congrArg (WT ad cA) (by unfold tkT_line_s; rw [if_neg h1_, if_neg h2_, if_pos h3_, if_pos h4_, if_neg h5_, if_pos h6_]))
      · refine lv_iconst (v := 0) hx hb dT_line_17 (by decide) ?_
        exact tk_zret hx hb hr hlk hP hD hS dT_line_18 rfl (by unfold tkT_line_r; rw [if_neg h1_, if_neg h2_, if_neg h3_]) (congrArg (WT ad cA) (by unfold tkT_line_s; rw [if_neg h1_, if_neg h2_, if_neg h3_]))
def tkT_gate_r (g : Nat → Nat → Int32) (x0 x1 : Int32) : Int32 :=
  if tkT_isCounter_r x0 = 0 then 0
  else 1
def tkT_gate_s (g : Nat → Nat → Int32) (x0 x1 : Int32) : Nat → Nat → Int32 :=
  if tkT_isCounter_r x0 = 0 then g
  else if x0 = 0 then tkT_followLines_s (tk_up g 4 (tkN_setGate_s (g 4) x1))
    else if x0 = 1 then tkT_followLines_s (tk_up g 5 (tkN_setGate_s (g 5) x1))
      else tkT_followLines_s (tk_up g 6 (tkN_setGate_s (g 6) x1))
set_option maxHeartbeats 1000000 in
set_option maxRecDepth 100000 in
theorem kT_gate (l : Launch) (D : va_G) (ad : Nat → Nat) (cA : ClassId) (g : Nat → Nat → Int32) (x0 x1 : Int32) (hb1 : x1 = 0 ∨ x1 = 1) : tk_M l yT_gate wsT_gate { frames := 3, cells := 0, slots := 0, locals := 66 } D [(cA, .object "TickLines$Counter")] [.ref (ad 0), .int x0, .int x1] (WT ad cA g) (WT ad cA (tkT_gate_s g x0 x1)) (some (.int (tkT_gate_r g x0 x1))) := by
  refine tk_M.of (cc := cT_gate) (maxL := 3) (ret := (some .boolean)) (by decide) rfl (Nat.le_of_ble_eq_true rfl) ?_
  intro p e s m below meth co A H locs ls hB hK hN hA hP hD hS hl
  obtain ⟨hx, hb, hr, hml, hown, hlk, hnm, hts⟩ := hB
  have hown : s.vm.findClass RT = some m.cls := hown
  have hl : lv_has ls 3 [(0, .ref (ad 0)), (1, .int x0), (2, .int x1)] := hl
  have hw : ∀ w ∈ tkW, w.before _ s = true := fun w h => hts w (List.mem_cons_of_mem _ h)
  have f24 := hw _ wF_T_24
  refine lv_iload_n hx hb dT_gate_0 rfl (lv_at hl 1 rfl) ?_
  refine tk_call0 hP hD hS hA (va_runS (As := [.int x0]) (rest := []) ⟨hx, hb, hml, hown, hw⟩ (kT_isCounter l D x0 H.size) (va_cwS 1 hw (tk_gS tkW_good wM_T_80 wT_T_isCounter wZ_T wC_T_isCounter) rfl rfl rfl (by decide +kernel) ⟨Nat.le_of_ble_eq_true rfl, Nat.le_of_ble_eq_true rfl⟩) (tk_preS hK hN hP hD [] [] rfl rfl rfl) rfl rfl hl.1 rfl (lv_room (Nat.le_of_ble_eq_true rfl)) dT_gate_1 ⟨Nat.zero_le _, Nat.zero_le _⟩) (fun H locs hP hD hS => ?_)
  refine W.eq (g2 := F0 m 4 ls [.int (tkT_isCounter_r x0)]) rfl ?_
  refine lv_if_ne (tgt := 9) hx hb dT_gate_4 (by decide) (fun (h1_ : ¬ (tkT_isCounter_r x0 = 0)) => ?_) (fun (h1_ : tkT_isCounter_r x0 = 0) => ?_)
  · refine lv_aload_n hx hb dT_gate_9 rfl (lv_at hl 0 rfl) ?_
    refine va_get (D := D) (ci := 2) (v := .ref (ad 3)) (C := RT) (T := TT) (N := 3) hx hb hw inT hown hK hP 0 rfl rfl 2 (by decide) f24 (fun _ h9 => h9) rfl dT_gate_10 ?_
    refine lv_iload_n hx hb dT_gate_13 rfl (lv_at hl 1 rfl) ?_
    rcases (tkT_isCounter_c _ h1_) with h2_ | h2_ | h2_
    · refine tk_top h2_ ?_
      refine va_aldq hx hb hK hP 3 0 rfl rfl (by unfold vp_in; decide) dT_gate_14 ?_
      refine W.eq (g2 := F0 m 15 ls [.ref (ad 4)]) rfl ?_
      refine lv_iload_n hx hb dT_gate_15 rfl (lv_at hl 2 rfl) ?_
      refine tk_call1 (cell := (ad 4, .inr (1, FN (g 4)))) (cell' := (ad 4, .inr (1, FN (tkN_setGate_s (g 4) x1)))) 4 hP hD hS hA rfl rfl (va_runV (As := [.int x1]) (rest := []) ⟨hx, hb, hml, hown, hw⟩ (kN_setGate l D (ad 4) (g 4) x1 hb1 H.size) (cwV 1 hw (tk_gV tkW_good wM_T_83 wI_N_setGate wS_N_setGate wZ_N wC_N_setGate) rfl rfl rfl (by decide +kernel) ⟨Nat.le_of_ble_eq_true rfl, Nat.le_of_ble_eq_true rfl⟩) (tk_preV (q0 := 4) hK hN hP hD [4] [] rfl rfl rfl rfl rfl) rfl rfl hl.1 rfl (lv_room (Nat.le_of_ble_eq_true rfl)) dT_gate_16 ⟨Nat.zero_le _, Nat.zero_le _⟩) (fun H locs hP hD hS => ?_)
      have hP : va_P D vwCl (WT ad cA (tk_up g 4 (tkN_setGate_s (g 4) x1))) H := hP
      have hD : va_D A (WT ad cA (tk_up g 4 (tkN_setGate_s (g 4) x1))) := hD
      refine W.eq (g2 := F0 m 19 ls []) rfl ?_
      refine lv_aload_n hx hb dT_gate_19 rfl (lv_at hl 0 rfl) ?_
      refine tk_callA hD hS hA (va_runV (As := []) (rest := []) ⟨hx, hb, hml, hown, hw⟩ (kT_followLines l D ad cA (tk_up g 4 (tkN_setGate_s (g 4) x1)) H.size) (cwV 0 hw (tk_gV tkW_good wM_T_59 wI_T_followLines wS_T_followLines wZ_T wC_T_followLines) rfl rfl rfl (by decide +kernel) ⟨Nat.le_of_ble_eq_true rfl, Nat.le_of_ble_eq_true rfl⟩) (tk_preT hK hN hP hD) rfl rfl hl.1 rfl (lv_room (Nat.le_of_ble_eq_true rfl)) dT_gate_20 ⟨Nat.zero_le _, Nat.zero_le _⟩) (fun H locs hP hD hS => ?_)
      refine W.eq (g2 := F0 m 23 ls []) rfl ?_
      refine lv_iconst (v := 1) hx hb dT_gate_23 (by decide) ?_
      exact tk_zret hx hb hr hlk hP hD hS dT_gate_24 rfl (by unfold tkT_gate_r; rw [if_neg h1_]) (congrArg (WT ad cA) (by unfold tkT_gate_s; rw [if_neg h1_, if_pos h2_]))
    · have h3_ : ¬ x0 = 0 := by rw [h2_]; decide
      refine tk_top h2_ ?_
      refine va_aldq hx hb hK hP 3 0 rfl rfl (by unfold vp_in; decide) dT_gate_14 ?_
      refine W.eq (g2 := F0 m 15 ls [.ref (ad 5)]) rfl ?_
      refine lv_iload_n hx hb dT_gate_15 rfl (lv_at hl 2 rfl) ?_
      refine tk_call1 (cell := (ad 5, .inr (1, FN (g 5)))) (cell' := (ad 5, .inr (1, FN (tkN_setGate_s (g 5) x1)))) 5 hP hD hS hA rfl rfl (va_runV (As := [.int x1]) (rest := []) ⟨hx, hb, hml, hown, hw⟩ (kN_setGate l D (ad 5) (g 5) x1 hb1 H.size) (cwV 1 hw (tk_gV tkW_good wM_T_83 wI_N_setGate wS_N_setGate wZ_N wC_N_setGate) rfl rfl rfl (by decide +kernel) ⟨Nat.le_of_ble_eq_true rfl, Nat.le_of_ble_eq_true rfl⟩) (tk_preV (q0 := 5) hK hN hP hD [5] [] rfl rfl rfl rfl rfl) rfl rfl hl.1 rfl (lv_room (Nat.le_of_ble_eq_true rfl)) dT_gate_16 ⟨Nat.zero_le _, Nat.zero_le _⟩) (fun H locs hP hD hS => ?_)
      have hP : va_P D vwCl (WT ad cA (tk_up g 5 (tkN_setGate_s (g 5) x1))) H := hP
      have hD : va_D A (WT ad cA (tk_up g 5 (tkN_setGate_s (g 5) x1))) := hD
      refine W.eq (g2 := F0 m 19 ls []) rfl ?_
      refine lv_aload_n hx hb dT_gate_19 rfl (lv_at hl 0 rfl) ?_
      refine tk_callA hD hS hA (va_runV (As := []) (rest := []) ⟨hx, hb, hml, hown, hw⟩ (kT_followLines l D ad cA (tk_up g 5 (tkN_setGate_s (g 5) x1)) H.size) (cwV 0 hw (tk_gV tkW_good wM_T_59 wI_T_followLines wS_T_followLines wZ_T wC_T_followLines) rfl rfl rfl (by decide +kernel) ⟨Nat.le_of_ble_eq_true rfl, Nat.le_of_ble_eq_true rfl⟩) (tk_preT hK hN hP hD) rfl rfl hl.1 rfl (lv_room (Nat.le_of_ble_eq_true rfl)) dT_gate_20 ⟨Nat.zero_le _, Nat.zero_le _⟩) (fun H locs hP hD hS => ?_)
      refine W.eq (g2 := F0 m 23 ls []) rfl ?_
      refine lv_iconst (v := 1) hx hb dT_gate_23 (by decide) ?_
      exact tk_zret hx hb hr hlk hP hD hS dT_gate_24 rfl (by unfold tkT_gate_r; rw [if_neg h1_]) (congrArg (WT ad cA) (by unfold tkT_gate_s; rw [if_neg h1_, if_neg h3_, if_pos h2_]))
    · have h4_ : ¬ x0 = 0 := by rw [h2_]; decide
      have h5_ : ¬ x0 = 1 := by rw [h2_]; decide
      refine tk_top h2_ ?_
      refine va_aldq hx hb hK hP 3 0 rfl rfl (by unfold vp_in; decide) dT_gate_14 ?_
      refine W.eq (g2 := F0 m 15 ls [.ref (ad 6)]) rfl ?_
      refine lv_iload_n hx hb dT_gate_15 rfl (lv_at hl 2 rfl) ?_
      refine tk_call1 (cell := (ad 6, .inr (1, FN (g 6)))) (cell' := (ad 6, .inr (1, FN (tkN_setGate_s (g 6) x1)))) 6 hP hD hS hA rfl rfl (va_runV (As := [.int x1]) (rest := []) ⟨hx, hb, hml, hown, hw⟩ (kN_setGate l D (ad 6) (g 6) x1 hb1 H.size) (cwV 1 hw (tk_gV tkW_good wM_T_83 wI_N_setGate wS_N_setGate wZ_N wC_N_setGate) rfl rfl rfl (by decide +kernel) ⟨Nat.le_of_ble_eq_true rfl, Nat.le_of_ble_eq_true rfl⟩) (tk_preV (q0 := 6) hK hN hP hD [6] [] rfl rfl rfl rfl rfl) rfl rfl hl.1 rfl (lv_room (Nat.le_of_ble_eq_true rfl)) dT_gate_16 ⟨Nat.zero_le _, Nat.zero_le _⟩) (fun H locs hP hD hS => ?_)
      have hP : va_P D vwCl (WT ad cA (tk_up g 6 (tkN_setGate_s (g 6) x1))) H := hP
      have hD : va_D A (WT ad cA (tk_up g 6 (tkN_setGate_s (g 6) x1))) := hD
      refine W.eq (g2 := F0 m 19 ls []) rfl ?_
      refine lv_aload_n hx hb dT_gate_19 rfl (lv_at hl 0 rfl) ?_
      refine tk_callA hD hS hA (va_runV (As := []) (rest := []) ⟨hx, hb, hml, hown, hw⟩ (kT_followLines l D ad cA (tk_up g 6 (tkN_setGate_s (g 6) x1)) H.size) (cwV 0 hw (tk_gV tkW_good wM_T_59 wI_T_followLines wS_T_followLines wZ_T wC_T_followLines) rfl rfl rfl (by decide +kernel) ⟨Nat.le_of_ble_eq_true rfl, Nat.le_of_ble_eq_true rfl⟩) (tk_preT hK hN hP hD) rfl rfl hl.1 rfl (lv_room (Nat.le_of_ble_eq_true rfl)) dT_gate_20 ⟨Nat.zero_le _, Nat.zero_le _⟩) (fun H locs hP hD hS => ?_)
      refine W.eq (g2 := F0 m 23 ls []) rfl ?_
      refine lv_iconst (v := 1) hx hb dT_gate_23 (by decide) ?_
      exact tk_zret hx hb hr hlk hP hD hS dT_gate_24 rfl (by unfold tkT_gate_r; rw [if_neg h1_]) (congrArg (WT ad cA) (by unfold tkT_gate_s; rw [if_neg h1_, if_neg h4_, if_neg h5_]))
  · refine lv_iconst (v := 0) hx hb dT_gate_7 (by decide) ?_
    exact tk_zret hx hb hr hlk hP hD hS dT_gate_8 rfl (by unfold tkT_gate_r; rw [if_pos h1_]) (congrArg (WT ad cA) (by unfold tkT_gate_s; rw [if_pos h1_]))
def tkT_chosen_r (g : Nat → Nat → Int32) (x0 : Int32) : Int32 :=
  if tkT_isController_r x0 = 0 then (-1)
  else if x0 = 0 then tkC_chosenLevel_r (g 1)
    else tkC_chosenLevel_r (g 2)
set_option maxHeartbeats 1000000 in
set_option maxRecDepth 100000 in
theorem kT_chosen (l : Launch) (D : va_G) (ad : Nat → Nat) (cA : ClassId) (g : Nat → Nat → Int32) (x0 : Int32) : tk_M l yT_chosen wsT_chosen { frames := 2, cells := 0, slots := 0, locals := 46 } D [(cA, .object "TickLines$Counter")] [.ref (ad 0), .int x0] (WT ad cA g) (WT ad cA g) (some (.int (tkT_chosen_r g x0))) := by
  refine tk_M.of (cc := cT_chosen) (maxL := 2) (ret := (some .int)) (by decide) rfl (Nat.le_of_ble_eq_true rfl) ?_
  intro p e s m below meth co A H locs ls hB hK hN hA hP hD hS hl
  obtain ⟨hx, hb, hr, hml, hown, hlk, hnm, hts⟩ := hB
  have hown : s.vm.findClass RT = some m.cls := hown
  have hl : lv_has ls 2 [(0, .ref (ad 0)), (1, .int x0)] := hl
  have hw : ∀ w ∈ tkW, w.before _ s = true := fun w h => hts w (List.mem_cons_of_mem _ h)
  refine lv_iload_n hx hb dT_chosen_0 rfl (lv_at hl 1 rfl) ?_
  refine tk_call0 hP hD hS hA (va_runS (As := [.int x0]) (rest := []) ⟨hx, hb, hml, hown, hw⟩ (kT_isController l D x0 H.size) (va_cwS 1 hw (tk_gS tkW_good wM_T_73 wT_T_isController wZ_T wC_T_isController) rfl rfl rfl (by decide +kernel) ⟨Nat.le_of_ble_eq_true rfl, Nat.le_of_ble_eq_true rfl⟩) (tk_preS hK hN hP hD [] [] rfl rfl rfl) rfl rfl hl.1 rfl (lv_room (Nat.le_of_ble_eq_true rfl)) dT_chosen_1 ⟨Nat.zero_le _, Nat.zero_le _⟩) (fun H locs hP hD hS => ?_)
  refine W.eq (g2 := F0 m 4 ls [.int (tkT_isController_r x0)]) rfl ?_
  refine lv_if_eq (tgt := 18) hx hb dT_chosen_4 (by decide) (fun (h1_ : tkT_isController_r x0 = 0) => ?_) (fun (h1_ : ¬ (tkT_isController_r x0 = 0)) => ?_)
  · refine lv_iconst (v := -1) hx hb dT_chosen_18 (by decide) ?_
    exact tk_iret hx hb hr hlk hP hD hS dT_chosen_19 (by unfold tkT_chosen_r; rw [if_pos h1_]) rfl
  · refine lv_aload_n hx hb dT_chosen_7 rfl (lv_at hl 0 rfl) ?_
    refine lv_iload_n hx hb dT_chosen_8 rfl (lv_at hl 1 rfl) ?_
    refine tk_callA hD hS hA (va_runV (As := [.int x0]) (rest := []) ⟨hx, hb, hml, hown, hw⟩ (kT_controllerOf l D ad cA g x0 H.size) (cwV 1 hw (tk_gV tkW_good wM_T_49 wI_T_controllerOf wS_T_controllerOf wZ_T wC_T_controllerOf) rfl rfl rfl (by decide +kernel) ⟨Nat.le_of_ble_eq_true rfl, Nat.le_of_ble_eq_true rfl⟩) (tk_preT hK hN hP hD) rfl rfl hl.1 rfl (lv_room (Nat.le_of_ble_eq_true rfl)) dT_chosen_9 ⟨Nat.zero_le _, Nat.zero_le _⟩) (fun H locs hP hD hS => ?_)
    refine W.eq (g2 := F0 m 12 ls (.ref (tkT_controllerOf_r ad x0) :: [])) rfl ?_
    by_cases h2_ : x0 = 0
    · refine tk_topr (show tkT_controllerOf_r ad x0 = ad 1 from if_pos h2_) ?_
      refine W.eq (g2 := F0 m 12 ls [.ref (ad 1)]) rfl ?_
      refine tk_call1 (cell := (ad 1, .inr (0, FC (g 1)))) (cell' := (ad 1, .inr (0, FC (g 1)))) 1 hP hD hS hA rfl rfl (va_runV (As := []) (rest := []) ⟨hx, hb, hml, hown, hw⟩ (kC_chosenLevel l D (ad 1) (g 1) H.size) (cwV 0 hw (tk_gV tkW_good wM_T_109 wI_C_chosenLevel wS_C_chosenLevel wZ_C wC_C_chosenLevel) rfl rfl rfl (by decide +kernel) ⟨Nat.le_of_ble_eq_true rfl, Nat.le_of_ble_eq_true rfl⟩) (tk_preV (q0 := 1) hK hN hP hD [1] [] rfl rfl rfl rfl rfl) rfl rfl hl.1 rfl (lv_room (Nat.le_of_ble_eq_true rfl)) dT_chosen_12 ⟨Nat.zero_le _, Nat.zero_le _⟩) (fun H locs hP hD hS => ?_)
      have hP : va_P D vwCl (WT ad cA g) H := hP
      have hD : va_D A (WT ad cA g) := hD
      refine W.eq (g2 := F0 m 15 ls [.int (tkC_chosenLevel_r (g 1))]) rfl ?_
      refine lv_goto (tgt := 19) hx hb dT_chosen_15 (by decide) ?_
      exact tk_iret hx hb hr hlk hP hD hS dT_chosen_19 (by unfold tkT_chosen_r; rw [if_neg h1_, if_pos h2_]) rfl
    · refine tk_topr (show tkT_controllerOf_r ad x0 = ad 2 from if_neg h2_) ?_
      refine W.eq (g2 := F0 m 12 ls [.ref (ad 2)]) rfl ?_
      refine tk_call1 (cell := (ad 2, .inr (0, FC (g 2)))) (cell' := (ad 2, .inr (0, FC (g 2)))) 2 hP hD hS hA rfl rfl (va_runV (As := []) (rest := []) ⟨hx, hb, hml, hown, hw⟩ (kC_chosenLevel l D (ad 2) (g 2) H.size) (cwV 0 hw (tk_gV tkW_good wM_T_109 wI_C_chosenLevel wS_C_chosenLevel wZ_C wC_C_chosenLevel) rfl rfl rfl (by decide +kernel) ⟨Nat.le_of_ble_eq_true rfl, Nat.le_of_ble_eq_true rfl⟩) (tk_preV (q0 := 2) hK hN hP hD [2] [] rfl rfl rfl rfl rfl) rfl rfl hl.1 rfl (lv_room (Nat.le_of_ble_eq_true rfl)) dT_chosen_12 ⟨Nat.zero_le _, Nat.zero_le _⟩) (fun H locs hP hD hS => ?_)
      have hP : va_P D vwCl (WT ad cA g) H := hP
      have hD : va_D A (WT ad cA g) := hD
      refine W.eq (g2 := F0 m 15 ls [.int (tkC_chosenLevel_r (g 2))]) rfl ?_
      refine lv_goto (tgt := 19) hx hb dT_chosen_15 (by decide) ?_
      exact tk_iret hx hb hr hlk hP hD hS dT_chosen_19 (by unfold tkT_chosen_r; rw [if_neg h1_, if_neg h2_]) rfl
def tkT_about_r (g : Nat → Nat → Int32) (x0 x1 : Int32) : Int32 :=
  if tkT_isController_r x0 = 0 then (-1)
  else if x0 = 0 then tkC_tell_r (g 1) x1
    else tkC_tell_r (g 2) x1
set_option maxHeartbeats 1000000 in
set_option maxRecDepth 100000 in
theorem kT_about (l : Launch) (D : va_G) (ad : Nat → Nat) (cA : ClassId) (g : Nat → Nat → Int32) (x0 x1 : Int32) : tk_M l yT_about wsT_about { frames := 2, cells := 0, slots := 0, locals := 41 } D [(cA, .object "TickLines$Counter")] [.ref (ad 0), .int x0, .int x1] (WT ad cA g) (WT ad cA g) (some (.int (tkT_about_r g x0 x1))) := by
  refine tk_M.of (cc := cT_about) (maxL := 3) (ret := (some .int)) (by decide) rfl (Nat.le_of_ble_eq_true rfl) ?_
  intro p e s m below meth co A H locs ls hB hK hN hA hP hD hS hl
  obtain ⟨hx, hb, hr, hml, hown, hlk, hnm, hts⟩ := hB
  have hown : s.vm.findClass RT = some m.cls := hown
  have hl : lv_has ls 3 [(0, .ref (ad 0)), (1, .int x0), (2, .int x1)] := hl
  have hw : ∀ w ∈ tkW, w.before _ s = true := fun w h => hts w (List.mem_cons_of_mem _ h)
  refine lv_iload_n hx hb dT_about_0 rfl (lv_at hl 1 rfl) ?_
  refine tk_call0 hP hD hS hA (va_runS (As := [.int x0]) (rest := []) ⟨hx, hb, hml, hown, hw⟩ (kT_isController l D x0 H.size) (va_cwS 1 hw (tk_gS tkW_good wM_T_73 wT_T_isController wZ_T wC_T_isController) rfl rfl rfl (by decide +kernel) ⟨Nat.le_of_ble_eq_true rfl, Nat.le_of_ble_eq_true rfl⟩) (tk_preS hK hN hP hD [] [] rfl rfl rfl) rfl rfl hl.1 rfl (lv_room (Nat.le_of_ble_eq_true rfl)) dT_about_1 ⟨Nat.zero_le _, Nat.zero_le _⟩) (fun H locs hP hD hS => ?_)
  refine W.eq (g2 := F0 m 4 ls [.int (tkT_isController_r x0)]) rfl ?_
  refine lv_if_eq (tgt := 19) hx hb dT_about_4 (by decide) (fun (h1_ : tkT_isController_r x0 = 0) => ?_) (fun (h1_ : ¬ (tkT_isController_r x0 = 0)) => ?_)
  · refine lv_iconst (v := -1) hx hb dT_about_19 (by decide) ?_
    exact tk_iret hx hb hr hlk hP hD hS dT_about_20 (by unfold tkT_about_r; rw [if_pos h1_]) rfl
  · refine lv_aload_n hx hb dT_about_7 rfl (lv_at hl 0 rfl) ?_
    refine lv_iload_n hx hb dT_about_8 rfl (lv_at hl 1 rfl) ?_
    refine tk_callA hD hS hA (va_runV (As := [.int x0]) (rest := []) ⟨hx, hb, hml, hown, hw⟩ (kT_controllerOf l D ad cA g x0 H.size) (cwV 1 hw (tk_gV tkW_good wM_T_49 wI_T_controllerOf wS_T_controllerOf wZ_T wC_T_controllerOf) rfl rfl rfl (by decide +kernel) ⟨Nat.le_of_ble_eq_true rfl, Nat.le_of_ble_eq_true rfl⟩) (tk_preT hK hN hP hD) rfl rfl hl.1 rfl (lv_room (Nat.le_of_ble_eq_true rfl)) dT_about_9 ⟨Nat.zero_le _, Nat.zero_le _⟩) (fun H locs hP hD hS => ?_)
    refine W.eq (g2 := F0 m 12 ls (.ref (tkT_controllerOf_r ad x0) :: [])) rfl ?_
    by_cases h2_ : x0 = 0
    · refine tk_topr (show tkT_controllerOf_r ad x0 = ad 1 from if_pos h2_) ?_
      refine W.eq (g2 := F0 m 12 ls [.ref (ad 1)]) rfl ?_
      refine lv_iload_n hx hb dT_about_12 rfl (lv_at hl 2 rfl) ?_
      refine tk_call1 (cell := (ad 1, .inr (0, FC (g 1)))) (cell' := (ad 1, .inr (0, FC (g 1)))) 1 hP hD hS hA rfl rfl (va_runV (As := [.int x1]) (rest := []) ⟨hx, hb, hml, hown, hw⟩ (kC_tell l D (ad 1) (g 1) x1 H.size) (cwV 1 hw (tk_gV tkW_good wM_T_112 wI_C_tell wS_C_tell wZ_C wC_C_tell) rfl rfl rfl (by decide +kernel) ⟨Nat.le_of_ble_eq_true rfl, Nat.le_of_ble_eq_true rfl⟩) (tk_preV (q0 := 1) hK hN hP hD [1] [] rfl rfl rfl rfl rfl) rfl rfl hl.1 rfl (lv_room (Nat.le_of_ble_eq_true rfl)) dT_about_13 ⟨Nat.zero_le _, Nat.zero_le _⟩) (fun H locs hP hD hS => ?_)
      have hP : va_P D vwCl (WT ad cA g) H := hP
      have hD : va_D A (WT ad cA g) := hD
      refine W.eq (g2 := F0 m 16 ls [.int (tkC_tell_r (g 1) x1)]) rfl ?_
      refine lv_goto (tgt := 20) hx hb dT_about_16 (by decide) ?_
      exact tk_iret hx hb hr hlk hP hD hS dT_about_20 (by unfold tkT_about_r; rw [if_neg h1_, if_pos h2_]) rfl
    · refine tk_topr (show tkT_controllerOf_r ad x0 = ad 2 from if_neg h2_) ?_
      refine W.eq (g2 := F0 m 12 ls [.ref (ad 2)]) rfl ?_
      refine lv_iload_n hx hb dT_about_12 rfl (lv_at hl 2 rfl) ?_
      refine tk_call1 (cell := (ad 2, .inr (0, FC (g 2)))) (cell' := (ad 2, .inr (0, FC (g 2)))) 2 hP hD hS hA rfl rfl (va_runV (As := [.int x1]) (rest := []) ⟨hx, hb, hml, hown, hw⟩ (kC_tell l D (ad 2) (g 2) x1 H.size) (cwV 1 hw (tk_gV tkW_good wM_T_112 wI_C_tell wS_C_tell wZ_C wC_C_tell) rfl rfl rfl (by decide +kernel) ⟨Nat.le_of_ble_eq_true rfl, Nat.le_of_ble_eq_true rfl⟩) (tk_preV (q0 := 2) hK hN hP hD [2] [] rfl rfl rfl rfl rfl) rfl rfl hl.1 rfl (lv_room (Nat.le_of_ble_eq_true rfl)) dT_about_13 ⟨Nat.zero_le _, Nat.zero_le _⟩) (fun H locs hP hD hS => ?_)
      have hP : va_P D vwCl (WT ad cA g) H := hP
      have hD : va_D A (WT ad cA g) := hD
      refine W.eq (g2 := F0 m 16 ls [.int (tkC_tell_r (g 2) x1)]) rfl ?_
      refine lv_goto (tgt := 20) hx hb dT_about_16 (by decide) ?_
      exact tk_iret hx hb hr hlk hP hD hS dT_about_20 (by unfold tkT_about_r; rw [if_neg h1_, if_neg h2_]) rfl
def tkT_counter_r (g : Nat → Nat → Int32) (x0 x1 : Int32) : Int32 :=
  if tkT_isCounter_r x0 = 0 then (-1)
  else if x0 = 0 then tkN_tell_r (g 4) x1
    else if x0 = 1 then tkN_tell_r (g 5) x1
      else tkN_tell_r (g 6) x1
set_option maxHeartbeats 1000000 in
set_option maxRecDepth 100000 in
theorem kT_counter (l : Launch) (D : va_G) (ad : Nat → Nat) (cA : ClassId) (g : Nat → Nat → Int32) (x0 x1 : Int32) : tk_M l yT_counter wsT_counter { frames := 2, cells := 0, slots := 0, locals := 41 } D [(cA, .object "TickLines$Counter")] [.ref (ad 0), .int x0, .int x1] (WT ad cA g) (WT ad cA g) (some (.int (tkT_counter_r g x0 x1))) := by
  refine tk_M.of (cc := cT_counter) (maxL := 3) (ret := (some .int)) (by decide) rfl (Nat.le_of_ble_eq_true rfl) ?_
  intro p e s m below meth co A H locs ls hB hK hN hA hP hD hS hl
  obtain ⟨hx, hb, hr, hml, hown, hlk, hnm, hts⟩ := hB
  have hown : s.vm.findClass RT = some m.cls := hown
  have hl : lv_has ls 3 [(0, .ref (ad 0)), (1, .int x0), (2, .int x1)] := hl
  have hw : ∀ w ∈ tkW, w.before _ s = true := fun w h => hts w (List.mem_cons_of_mem _ h)
  have f24 := hw _ wF_T_24
  refine lv_iload_n hx hb dT_counter_0 rfl (lv_at hl 1 rfl) ?_
  refine tk_call0 hP hD hS hA (va_runS (As := [.int x0]) (rest := []) ⟨hx, hb, hml, hown, hw⟩ (kT_isCounter l D x0 H.size) (va_cwS 1 hw (tk_gS tkW_good wM_T_80 wT_T_isCounter wZ_T wC_T_isCounter) rfl rfl rfl (by decide +kernel) ⟨Nat.le_of_ble_eq_true rfl, Nat.le_of_ble_eq_true rfl⟩) (tk_preS hK hN hP hD [] [] rfl rfl rfl) rfl rfl hl.1 rfl (lv_room (Nat.le_of_ble_eq_true rfl)) dT_counter_1 ⟨Nat.zero_le _, Nat.zero_le _⟩) (fun H locs hP hD hS => ?_)
  refine W.eq (g2 := F0 m 4 ls [.int (tkT_isCounter_r x0)]) rfl ?_
  refine lv_if_eq (tgt := 20) hx hb dT_counter_4 (by decide) (fun (h1_ : tkT_isCounter_r x0 = 0) => ?_) (fun (h1_ : ¬ (tkT_isCounter_r x0 = 0)) => ?_)
  · refine lv_iconst (v := -1) hx hb dT_counter_20 (by decide) ?_
    exact tk_iret hx hb hr hlk hP hD hS dT_counter_21 (by unfold tkT_counter_r; rw [if_pos h1_]) rfl
  · refine lv_aload_n hx hb dT_counter_7 rfl (lv_at hl 0 rfl) ?_
    refine va_get (D := D) (ci := 2) (v := .ref (ad 3)) (C := RT) (T := TT) (N := 3) hx hb hw inT hown hK hP 0 rfl rfl 2 (by decide) f24 (fun _ h9 => h9) rfl dT_counter_8 ?_
    refine lv_iload_n hx hb dT_counter_11 rfl (lv_at hl 1 rfl) ?_
    rcases (tkT_isCounter_c _ h1_) with h2_ | h2_ | h2_
    · refine tk_top h2_ ?_
      refine va_aldq hx hb hK hP 3 0 rfl rfl (by unfold vp_in; decide) dT_counter_12 ?_
      refine W.eq (g2 := F0 m 13 ls [.ref (ad 4)]) rfl ?_
      refine lv_iload_n hx hb dT_counter_13 rfl (lv_at hl 2 rfl) ?_
      refine tk_call1 (cell := (ad 4, .inr (1, FN (g 4)))) (cell' := (ad 4, .inr (1, FN (g 4)))) 4 hP hD hS hA rfl rfl (va_runV (As := [.int x1]) (rest := []) ⟨hx, hb, hml, hown, hw⟩ (kN_tell l D (ad 4) (g 4) x1 H.size) (cwV 1 hw (tk_gV tkW_good wM_T_115 wI_N_tell wS_N_tell wZ_N wC_N_tell) rfl rfl rfl (by decide +kernel) ⟨Nat.le_of_ble_eq_true rfl, Nat.le_of_ble_eq_true rfl⟩) (tk_preV (q0 := 4) hK hN hP hD [4] [] rfl rfl rfl rfl rfl) rfl rfl hl.1 rfl (lv_room (Nat.le_of_ble_eq_true rfl)) dT_counter_14 ⟨Nat.zero_le _, Nat.zero_le _⟩) (fun H locs hP hD hS => ?_)
      have hP : va_P D vwCl (WT ad cA g) H := hP
      have hD : va_D A (WT ad cA g) := hD
      refine W.eq (g2 := F0 m 17 ls [.int (tkN_tell_r (g 4) x1)]) rfl ?_
      refine lv_goto (tgt := 21) hx hb dT_counter_17 (by decide) ?_
      exact tk_iret hx hb hr hlk hP hD hS dT_counter_21 (by unfold tkT_counter_r; rw [if_neg h1_, if_pos h2_]) rfl
    · have h3_ : ¬ x0 = 0 := by rw [h2_]; decide
      refine tk_top h2_ ?_
      refine va_aldq hx hb hK hP 3 0 rfl rfl (by unfold vp_in; decide) dT_counter_12 ?_
      refine W.eq (g2 := F0 m 13 ls [.ref (ad 5)]) rfl ?_
      refine lv_iload_n hx hb dT_counter_13 rfl (lv_at hl 2 rfl) ?_
      refine tk_call1 (cell := (ad 5, .inr (1, FN (g 5)))) (cell' := (ad 5, .inr (1, FN (g 5)))) 5 hP hD hS hA rfl rfl (va_runV (As := [.int x1]) (rest := []) ⟨hx, hb, hml, hown, hw⟩ (kN_tell l D (ad 5) (g 5) x1 H.size) (cwV 1 hw (tk_gV tkW_good wM_T_115 wI_N_tell wS_N_tell wZ_N wC_N_tell) rfl rfl rfl (by decide +kernel) ⟨Nat.le_of_ble_eq_true rfl, Nat.le_of_ble_eq_true rfl⟩) (tk_preV (q0 := 5) hK hN hP hD [5] [] rfl rfl rfl rfl rfl) rfl rfl hl.1 rfl (lv_room (Nat.le_of_ble_eq_true rfl)) dT_counter_14 ⟨Nat.zero_le _, Nat.zero_le _⟩) (fun H locs hP hD hS => ?_)
      have hP : va_P D vwCl (WT ad cA g) H := hP
      have hD : va_D A (WT ad cA g) := hD
      refine W.eq (g2 := F0 m 17 ls [.int (tkN_tell_r (g 5) x1)]) rfl ?_
      refine lv_goto (tgt := 21) hx hb dT_counter_17 (by decide) ?_
      exact tk_iret hx hb hr hlk hP hD hS dT_counter_21 (by unfold tkT_counter_r; rw [if_neg h1_, if_neg h3_, if_pos h2_]) rfl
    · have h4_ : ¬ x0 = 0 := by rw [h2_]; decide
      have h5_ : ¬ x0 = 1 := by rw [h2_]; decide
      refine tk_top h2_ ?_
      refine va_aldq hx hb hK hP 3 0 rfl rfl (by unfold vp_in; decide) dT_counter_12 ?_
      refine W.eq (g2 := F0 m 13 ls [.ref (ad 6)]) rfl ?_
      refine lv_iload_n hx hb dT_counter_13 rfl (lv_at hl 2 rfl) ?_
      refine tk_call1 (cell := (ad 6, .inr (1, FN (g 6)))) (cell' := (ad 6, .inr (1, FN (g 6)))) 6 hP hD hS hA rfl rfl (va_runV (As := [.int x1]) (rest := []) ⟨hx, hb, hml, hown, hw⟩ (kN_tell l D (ad 6) (g 6) x1 H.size) (cwV 1 hw (tk_gV tkW_good wM_T_115 wI_N_tell wS_N_tell wZ_N wC_N_tell) rfl rfl rfl (by decide +kernel) ⟨Nat.le_of_ble_eq_true rfl, Nat.le_of_ble_eq_true rfl⟩) (tk_preV (q0 := 6) hK hN hP hD [6] [] rfl rfl rfl rfl rfl) rfl rfl hl.1 rfl (lv_room (Nat.le_of_ble_eq_true rfl)) dT_counter_14 ⟨Nat.zero_le _, Nat.zero_le _⟩) (fun H locs hP hD hS => ?_)
      have hP : va_P D vwCl (WT ad cA g) H := hP
      have hD : va_D A (WT ad cA g) := hD
      refine W.eq (g2 := F0 m 17 ls [.int (tkN_tell_r (g 6) x1)]) rfl ?_
      refine lv_goto (tgt := 21) hx hb dT_counter_17 (by decide) ?_
      exact tk_iret hx hb hr hlk hP hD hS dT_counter_21 (by unfold tkT_counter_r; rw [if_neg h1_, if_neg h4_, if_neg h5_]) rfl
end
