-- ===== PART A: goes FIRST, ahead of the names: the tables' words, and 'selects' of the private methods out of them =====
/-- a private method of a class that the tables say can be made, by its rows of tables_1 -/
def lw_okq (q : MethodName × Nat) : Prop := (q.1.cls ≠ "java/lang/invoke/MethodHandle" ∧ q.1.cls ≠ "java/lang/invoke/VarHandle") ∧ Cond.instantiable q.1.cls q.2 ∈ tables_1 ∧ Cond.privateMethod q.1 ∈ tables_1 ∧ Cond.instanceMethod q.1 ∈ tables_1
theorem lw_p0 : lw_okq (⟨"VelvetHand$Text", "begin", "()V"⟩, 11) := ⟨⟨by decide +kernel, by decide +kernel⟩, List.mem_of_getElem? (i := 63) (by decide +kernel), List.mem_of_getElem? (i := 252) (by decide +kernel), List.mem_of_getElem? (i := 253) (by decide +kernel)⟩
theorem lw_p1 : lw_okq (⟨"VelvetHand$Text", "readToken", "()V"⟩, 11) := ⟨⟨by decide +kernel, by decide +kernel⟩, List.mem_of_getElem? (i := 63) (by decide +kernel), List.mem_of_getElem? (i := 260) (by decide +kernel), List.mem_of_getElem? (i := 261) (by decide +kernel)⟩
theorem lw_p2 : lw_okq (⟨"VelvetHand$Text", "readNumber", "()V"⟩, 11) := ⟨⟨by decide +kernel, by decide +kernel⟩, List.mem_of_getElem? (i := 63) (by decide +kernel), List.mem_of_getElem? (i := 270) (by decide +kernel), List.mem_of_getElem? (i := 271) (by decide +kernel)⟩
theorem lw_p3 : lw_okq (⟨"VelvetHand$Text", "takeToken", "(LVelvetHand$Setting;)Z"⟩, 11) := ⟨⟨by decide +kernel, by decide +kernel⟩, List.mem_of_getElem? (i := 63) (by decide +kernel), List.mem_of_getElem? (i := 277) (by decide +kernel), List.mem_of_getElem? (i := 278) (by decide +kernel)⟩
theorem lw_p4 : lw_okq (⟨"VelvetHand$Text", "takeLetter", "(LVelvetHand$Setting;)Z"⟩, 11) := ⟨⟨by decide +kernel, by decide +kernel⟩, List.mem_of_getElem? (i := 63) (by decide +kernel), List.mem_of_getElem? (i := 281) (by decide +kernel), List.mem_of_getElem? (i := 282) (by decide +kernel)⟩
theorem lw_p5 : lw_okq (⟨"VelvetHand$Text", "takeNumber", "(LVelvetHand$Setting;)Z"⟩, 11) := ⟨⟨by decide +kernel, by decide +kernel⟩, List.mem_of_getElem? (i := 63) (by decide +kernel), List.mem_of_getElem? (i := 285) (by decide +kernel), List.mem_of_getElem? (i := 286) (by decide +kernel)⟩
theorem lw_p6 : lw_okq (⟨"VelvetHand$Text", "leastNumber", "()I"⟩, 11) := ⟨⟨by decide +kernel, by decide +kernel⟩, List.mem_of_getElem? (i := 63) (by decide +kernel), List.mem_of_getElem? (i := 289) (by decide +kernel), List.mem_of_getElem? (i := 290) (by decide +kernel)⟩
theorem lw_p7 : lw_okq (⟨"VelvetHand$Text", "mostNumber", "()I"⟩, 11) := ⟨⟨by decide +kernel, by decide +kernel⟩, List.mem_of_getElem? (i := 63) (by decide +kernel), List.mem_of_getElem? (i := 293) (by decide +kernel), List.mem_of_getElem? (i := 294) (by decide +kernel)⟩
theorem lw_p8 : lw_okq (⟨"VelvetHand", "isCaller", "(I)Z"⟩, 11) := ⟨⟨by decide +kernel, by decide +kernel⟩, List.mem_of_getElem? (i := 11) (by decide +kernel), List.mem_of_getElem? (i := 306) (by decide +kernel), List.mem_of_getElem? (i := 307) (by decide +kernel)⟩
theorem lw_p9 : lw_okq (⟨"VelvetHand", "ringOf", "(I)I"⟩, 11) := ⟨⟨by decide +kernel, by decide +kernel⟩, List.mem_of_getElem? (i := 11) (by decide +kernel), List.mem_of_getElem? (i := 314) (by decide +kernel), List.mem_of_getElem? (i := 315) (by decide +kernel)⟩
theorem lw_p10 : lw_okq (⟨"VelvetHand", "landOf", "(I)I"⟩, 11) := ⟨⟨by decide +kernel, by decide +kernel⟩, List.mem_of_getElem? (i := 11) (by decide +kernel), List.mem_of_getElem? (i := 322) (by decide +kernel), List.mem_of_getElem? (i := 323) (by decide +kernel)⟩
theorem lw_p11 : lw_okq (⟨"VelvetHand", "traded", "()I"⟩, 11) := ⟨⟨by decide +kernel, by decide +kernel⟩, List.mem_of_getElem? (i := 11) (by decide +kernel), List.mem_of_getElem? (i := 326) (by decide +kernel), List.mem_of_getElem? (i := 327) (by decide +kernel)⟩
theorem lw_p12 : lw_okq (⟨"VelvetHand", "bruise", "(I)I"⟩, 11) := ⟨⟨by decide +kernel, by decide +kernel⟩, List.mem_of_getElem? (i := 11) (by decide +kernel), List.mem_of_getElem? (i := 351) (by decide +kernel), List.mem_of_getElem? (i := 352) (by decide +kernel)⟩
theorem lw_p13 : lw_okq (⟨"VelvetHand", "warmth", "(I)I"⟩, 11) := ⟨⟨by decide +kernel, by decide +kernel⟩, List.mem_of_getElem? (i := 11) (by decide +kernel), List.mem_of_getElem? (i := 356) (by decide +kernel), List.mem_of_getElem? (i := 357) (by decide +kernel)⟩
theorem lw_p14 : lw_okq (⟨"VelvetHand", "decide", "(I)I"⟩, 11) := ⟨⟨by decide +kernel, by decide +kernel⟩, List.mem_of_getElem? (i := 11) (by decide +kernel), List.mem_of_getElem? (i := 360) (by decide +kernel), List.mem_of_getElem? (i := 361) (by decide +kernel)⟩
theorem lw_p15 : lw_okq (⟨"VelvetHand", "wouldYield", "(III)Z"⟩, 11) := ⟨⟨by decide +kernel, by decide +kernel⟩, List.mem_of_getElem? (i := 11) (by decide +kernel), List.mem_of_getElem? (i := 364) (by decide +kernel), List.mem_of_getElem? (i := 365) (by decide +kernel)⟩
def lw_privs_1 : List (MethodName × Nat) := [(⟨"VelvetHand$Text", "begin", "()V"⟩, 11), (⟨"VelvetHand$Text", "readToken", "()V"⟩, 11), (⟨"VelvetHand$Text", "readNumber", "()V"⟩, 11), (⟨"VelvetHand$Text", "takeToken", "(LVelvetHand$Setting;)Z"⟩, 11), (⟨"VelvetHand$Text", "takeLetter", "(LVelvetHand$Setting;)Z"⟩, 11), (⟨"VelvetHand$Text", "takeNumber", "(LVelvetHand$Setting;)Z"⟩, 11), (⟨"VelvetHand$Text", "leastNumber", "()I"⟩, 11), (⟨"VelvetHand$Text", "mostNumber", "()I"⟩, 11), (⟨"VelvetHand", "isCaller", "(I)Z"⟩, 11), (⟨"VelvetHand", "ringOf", "(I)I"⟩, 11), (⟨"VelvetHand", "landOf", "(I)I"⟩, 11), (⟨"VelvetHand", "traded", "()I"⟩, 11), (⟨"VelvetHand", "bruise", "(I)I"⟩, 11), (⟨"VelvetHand", "warmth", "(I)I"⟩, 11), (⟨"VelvetHand", "decide", "(I)I"⟩, 11), (⟨"VelvetHand", "wouldYield", "(III)Z"⟩, 11)]
theorem lw_r1 : ∀ q ∈ lw_privs_1, lw_okq q := List.forall_mem_cons.mpr ⟨lw_p0, List.forall_mem_cons.mpr ⟨lw_p1, List.forall_mem_cons.mpr ⟨lw_p2, List.forall_mem_cons.mpr ⟨lw_p3, List.forall_mem_cons.mpr ⟨lw_p4, List.forall_mem_cons.mpr ⟨lw_p5, List.forall_mem_cons.mpr ⟨lw_p6, List.forall_mem_cons.mpr ⟨lw_p7, List.forall_mem_cons.mpr ⟨lw_p8, List.forall_mem_cons.mpr ⟨lw_p9, List.forall_mem_cons.mpr ⟨lw_p10, List.forall_mem_cons.mpr ⟨lw_p11, List.forall_mem_cons.mpr ⟨lw_p12, List.forall_mem_cons.mpr ⟨lw_p13, List.forall_mem_cons.mpr ⟨lw_p14, List.forall_mem_cons.mpr ⟨lw_p15, fun _ h => absurd h List.not_mem_nil⟩⟩⟩⟩⟩⟩⟩⟩⟩⟩⟩⟩⟩⟩⟩⟩
theorem lw_p16 : lw_okq (⟨"VelvetHand", "wouldLeave", "(II)Z"⟩, 11) := ⟨⟨by decide +kernel, by decide +kernel⟩, List.mem_of_getElem? (i := 11) (by decide +kernel), List.mem_of_getElem? (i := 368) (by decide +kernel), List.mem_of_getElem? (i := 369) (by decide +kernel)⟩
theorem lw_p17 : lw_okq (⟨"VelvetHand", "countShake", "(I)V"⟩, 11) := ⟨⟨by decide +kernel, by decide +kernel⟩, List.mem_of_getElem? (i := 11) (by decide +kernel), List.mem_of_getElem? (i := 372) (by decide +kernel), List.mem_of_getElem? (i := 373) (by decide +kernel)⟩
theorem lw_p18 : lw_okq (⟨"VelvetHand", "mayBeWon", "(I)Z"⟩, 11) := ⟨⟨by decide +kernel, by decide +kernel⟩, List.mem_of_getElem? (i := 11) (by decide +kernel), List.mem_of_getElem? (i := 404) (by decide +kernel), List.mem_of_getElem? (i := 405) (by decide +kernel)⟩
theorem lw_p19 : lw_okq (⟨"VelvetHand", "reckonWay", "(I)I"⟩, 11) := ⟨⟨by decide +kernel, by decide +kernel⟩, List.mem_of_getElem? (i := 11) (by decide +kernel), List.mem_of_getElem? (i := 408) (by decide +kernel), List.mem_of_getElem? (i := 409) (by decide +kernel)⟩
theorem lw_p20 : lw_okq (⟨"VelvetHand", "fewestBehind", "(III)I"⟩, 11) := ⟨⟨by decide +kernel, by decide +kernel⟩, List.mem_of_getElem? (i := 11) (by decide +kernel), List.mem_of_getElem? (i := 415) (by decide +kernel), List.mem_of_getElem? (i := 416) (by decide +kernel)⟩
theorem lw_p21 : lw_okq (⟨"VelvetHand", "fewestNext", "(III)I"⟩, 11) := ⟨⟨by decide +kernel, by decide +kernel⟩, List.mem_of_getElem? (i := 11) (by decide +kernel), List.mem_of_getElem? (i := 419) (by decide +kernel), List.mem_of_getElem? (i := 420) (by decide +kernel)⟩
theorem lw_p22 : lw_okq (⟨"VelvetHand", "turnOfWay", "(I)I"⟩, 11) := ⟨⟨by decide +kernel, by decide +kernel⟩, List.mem_of_getElem? (i := 11) (by decide +kernel), List.mem_of_getElem? (i := 423) (by decide +kernel), List.mem_of_getElem? (i := 424) (by decide +kernel)⟩
theorem lw_p23 : lw_okq (⟨"VelvetHand", "measureWays", "()V"⟩, 11) := ⟨⟨by decide +kernel, by decide +kernel⟩, List.mem_of_getElem? (i := 11) (by decide +kernel), List.mem_of_getElem? (i := 431) (by decide +kernel), List.mem_of_getElem? (i := 432) (by decide +kernel)⟩
theorem lw_p24 : lw_okq (⟨"VelvetHand", "lengthOfWays", "(I)I"⟩, 11) := ⟨⟨by decide +kernel, by decide +kernel⟩, List.mem_of_getElem? (i := 11) (by decide +kernel), List.mem_of_getElem? (i := 435) (by decide +kernel), List.mem_of_getElem? (i := 436) (by decide +kernel)⟩
theorem lw_p25 : lw_okq (⟨"VelvetHand", "bringsJust", "(IIII)Z"⟩, 11) := ⟨⟨by decide +kernel, by decide +kernel⟩, List.mem_of_getElem? (i := 11) (by decide +kernel), List.mem_of_getElem? (i := 443) (by decide +kernel), List.mem_of_getElem? (i := 444) (by decide +kernel)⟩
theorem lw_p26 : lw_okq (⟨"VelvetHand", "tryPlain", "(IIII)I"⟩, 11) := ⟨⟨by decide +kernel, by decide +kernel⟩, List.mem_of_getElem? (i := 11) (by decide +kernel), List.mem_of_getElem? (i := 447) (by decide +kernel), List.mem_of_getElem? (i := 448) (by decide +kernel)⟩
theorem lw_p27 : lw_okq (⟨"VelvetHand", "yieldingVelvets", "(II)I"⟩, 11) := ⟨⟨by decide +kernel, by decide +kernel⟩, List.mem_of_getElem? (i := 11) (by decide +kernel), List.mem_of_getElem? (i := 488) (by decide +kernel), List.mem_of_getElem? (i := 489) (by decide +kernel)⟩
theorem lw_p28 : lw_okq (⟨"VelvetHand", "rateCaller", "(I)I"⟩, 11) := ⟨⟨by decide +kernel, by decide +kernel⟩, List.mem_of_getElem? (i := 11) (by decide +kernel), List.mem_of_getElem? (i := 505) (by decide +kernel), List.mem_of_getElem? (i := 506) (by decide +kernel)⟩
theorem lw_p29 : lw_okq (⟨"VelvetHand", "rateCount", "(I)I"⟩, 11) := ⟨⟨by decide +kernel, by decide +kernel⟩, List.mem_of_getElem? (i := 11) (by decide +kernel), List.mem_of_getElem? (i := 509) (by decide +kernel), List.mem_of_getElem? (i := 510) (by decide +kernel)⟩
theorem lw_p30 : lw_okq (⟨"VelvetHand", "rateCharge", "(I)I"⟩, 11) := ⟨⟨by decide +kernel, by decide +kernel⟩, List.mem_of_getElem? (i := 11) (by decide +kernel), List.mem_of_getElem? (i := 514) (by decide +kernel), List.mem_of_getElem? (i := 515) (by decide +kernel)⟩
theorem lw_p31 : lw_okq (⟨"VelvetHand", "rateNuncio", "(I)I"⟩, 11) := ⟨⟨by decide +kernel, by decide +kernel⟩, List.mem_of_getElem? (i := 11) (by decide +kernel), List.mem_of_getElem? (i := 519) (by decide +kernel), List.mem_of_getElem? (i := 520) (by decide +kernel)⟩
def lw_privs_2 : List (MethodName × Nat) := [(⟨"VelvetHand", "wouldLeave", "(II)Z"⟩, 11), (⟨"VelvetHand", "countShake", "(I)V"⟩, 11), (⟨"VelvetHand", "mayBeWon", "(I)Z"⟩, 11), (⟨"VelvetHand", "reckonWay", "(I)I"⟩, 11), (⟨"VelvetHand", "fewestBehind", "(III)I"⟩, 11), (⟨"VelvetHand", "fewestNext", "(III)I"⟩, 11), (⟨"VelvetHand", "turnOfWay", "(I)I"⟩, 11), (⟨"VelvetHand", "measureWays", "()V"⟩, 11), (⟨"VelvetHand", "lengthOfWays", "(I)I"⟩, 11), (⟨"VelvetHand", "bringsJust", "(IIII)Z"⟩, 11), (⟨"VelvetHand", "tryPlain", "(IIII)I"⟩, 11), (⟨"VelvetHand", "yieldingVelvets", "(II)I"⟩, 11), (⟨"VelvetHand", "rateCaller", "(I)I"⟩, 11), (⟨"VelvetHand", "rateCount", "(I)I"⟩, 11), (⟨"VelvetHand", "rateCharge", "(I)I"⟩, 11), (⟨"VelvetHand", "rateNuncio", "(I)I"⟩, 11)]
theorem lw_r2 : ∀ q ∈ lw_privs_2, lw_okq q := List.forall_mem_cons.mpr ⟨lw_p16, List.forall_mem_cons.mpr ⟨lw_p17, List.forall_mem_cons.mpr ⟨lw_p18, List.forall_mem_cons.mpr ⟨lw_p19, List.forall_mem_cons.mpr ⟨lw_p20, List.forall_mem_cons.mpr ⟨lw_p21, List.forall_mem_cons.mpr ⟨lw_p22, List.forall_mem_cons.mpr ⟨lw_p23, List.forall_mem_cons.mpr ⟨lw_p24, List.forall_mem_cons.mpr ⟨lw_p25, List.forall_mem_cons.mpr ⟨lw_p26, List.forall_mem_cons.mpr ⟨lw_p27, List.forall_mem_cons.mpr ⟨lw_p28, List.forall_mem_cons.mpr ⟨lw_p29, List.forall_mem_cons.mpr ⟨lw_p30, List.forall_mem_cons.mpr ⟨lw_p31, fun _ h => absurd h List.not_mem_nil⟩⟩⟩⟩⟩⟩⟩⟩⟩⟩⟩⟩⟩⟩⟩⟩
theorem lw_p32 : lw_okq (⟨"VelvetHand", "rateEnvoy", "(I)I"⟩, 11) := ⟨⟨by decide +kernel, by decide +kernel⟩, List.mem_of_getElem? (i := 11) (by decide +kernel), List.mem_of_getElem? (i := 524) (by decide +kernel), List.mem_of_getElem? (i := 525) (by decide +kernel)⟩
theorem lw_p33 : lw_okq (⟨"VelvetHand", "rateNun", "(I)I"⟩, 11) := ⟨⟨by decide +kernel, by decide +kernel⟩, List.mem_of_getElem? (i := 11) (by decide +kernel), List.mem_of_getElem? (i := 529) (by decide +kernel), List.mem_of_getElem? (i := 530) (by decide +kernel)⟩
theorem lw_p34 : lw_okq (⟨"VelvetHandModel", "begins", "()V"⟩, 27) := ⟨⟨by decide +kernel, by decide +kernel⟩, List.mem_of_getElem? (i := 552) (by decide +kernel), List.mem_of_getElem? (i := 558) (by decide +kernel), List.mem_of_getElem? (i := 559) (by decide +kernel)⟩
theorem lw_p35 : lw_okq (⟨"VelvetHandModel", "settles", "()V"⟩, 27) := ⟨⟨by decide +kernel, by decide +kernel⟩, List.mem_of_getElem? (i := 552) (by decide +kernel), List.mem_of_getElem? (i := 562) (by decide +kernel), List.mem_of_getElem? (i := 563) (by decide +kernel)⟩
theorem lw_p36 : lw_okq (⟨"VelvetHandModel", "advances", "()V"⟩, 27) := ⟨⟨by decide +kernel, by decide +kernel⟩, List.mem_of_getElem? (i := 552) (by decide +kernel), List.mem_of_getElem? (i := 664) (by decide +kernel), List.mem_of_getElem? (i := 665) (by decide +kernel)⟩
theorem lw_p37 : lw_okq (⟨"VelvetHandModel", "letterAt", "(I)I"⟩, 27) := ⟨⟨by decide +kernel, by decide +kernel⟩, List.mem_of_getElem? (i := 552) (by decide +kernel), List.mem_of_getElem? (i := 668) (by decide +kernel), List.mem_of_getElem? (i := 669) (by decide +kernel)⟩
theorem lw_p38 : lw_okq (⟨"VelvetHandModel", "isWell", "()Z"⟩, 27) := ⟨⟨by decide +kernel, by decide +kernel⟩, List.mem_of_getElem? (i := 552) (by decide +kernel), List.mem_of_getElem? (i := 675) (by decide +kernel), List.mem_of_getElem? (i := 676) (by decide +kernel)⟩
theorem lw_p39 : lw_okq (⟨"VelvetHandModel", "mayBegin", "()Z"⟩, 27) := ⟨⟨by decide +kernel, by decide +kernel⟩, List.mem_of_getElem? (i := 552) (by decide +kernel), List.mem_of_getElem? (i := 679) (by decide +kernel), List.mem_of_getElem? (i := 680) (by decide +kernel)⟩
theorem lw_p40 : lw_okq (⟨"VelvetHandModel", "takes", "(Z)I"⟩, 27) := ⟨⟨by decide +kernel, by decide +kernel⟩, List.mem_of_getElem? (i := 552) (by decide +kernel), List.mem_of_getElem? (i := 686) (by decide +kernel), List.mem_of_getElem? (i := 687) (by decide +kernel)⟩
theorem lw_p41 : lw_okq (⟨"VelvetHandModel", "readsItem", "(I)V"⟩, 27) := ⟨⟨by decide +kernel, by decide +kernel⟩, List.mem_of_getElem? (i := 552) (by decide +kernel), List.mem_of_getElem? (i := 690) (by decide +kernel), List.mem_of_getElem? (i := 691) (by decide +kernel)⟩
theorem lw_p42 : lw_okq (⟨"VelvetHandModel", "number", "(II)I"⟩, 27) := ⟨⟨by decide +kernel, by decide +kernel⟩, List.mem_of_getElem? (i := 552) (by decide +kernel), List.mem_of_getElem? (i := 694) (by decide +kernel), List.mem_of_getElem? (i := 695) (by decide +kernel)⟩
theorem lw_p43 : lw_okq (⟨"VelvetHandModel", "isCaller", "(I)Z"⟩, 27) := ⟨⟨by decide +kernel, by decide +kernel⟩, List.mem_of_getElem? (i := 552) (by decide +kernel), List.mem_of_getElem? (i := 702) (by decide +kernel), List.mem_of_getElem? (i := 703) (by decide +kernel)⟩
theorem lw_p44 : lw_okq (⟨"VelvetHandModel", "ringOf", "(I)I"⟩, 27) := ⟨⟨by decide +kernel, by decide +kernel⟩, List.mem_of_getElem? (i := 552) (by decide +kernel), List.mem_of_getElem? (i := 706) (by decide +kernel), List.mem_of_getElem? (i := 707) (by decide +kernel)⟩
theorem lw_p45 : lw_okq (⟨"VelvetHandModel", "landOf", "(I)I"⟩, 27) := ⟨⟨by decide +kernel, by decide +kernel⟩, List.mem_of_getElem? (i := 552) (by decide +kernel), List.mem_of_getElem? (i := 714) (by decide +kernel), List.mem_of_getElem? (i := 715) (by decide +kernel)⟩
theorem lw_p46 : lw_okq (⟨"VelvetHandModel", "traded", "()I"⟩, 27) := ⟨⟨by decide +kernel, by decide +kernel⟩, List.mem_of_getElem? (i := 552) (by decide +kernel), List.mem_of_getElem? (i := 721) (by decide +kernel), List.mem_of_getElem? (i := 722) (by decide +kernel)⟩
theorem lw_p47 : lw_okq (⟨"VelvetHandModel", "notes", "()V"⟩, 27) := ⟨⟨by decide +kernel, by decide +kernel⟩, List.mem_of_getElem? (i := 552) (by decide +kernel), List.mem_of_getElem? (i := 729) (by decide +kernel), List.mem_of_getElem? (i := 730) (by decide +kernel)⟩
def lw_privs_3 : List (MethodName × Nat) := [(⟨"VelvetHand", "rateEnvoy", "(I)I"⟩, 11), (⟨"VelvetHand", "rateNun", "(I)I"⟩, 11), (⟨"VelvetHandModel", "begins", "()V"⟩, 27), (⟨"VelvetHandModel", "settles", "()V"⟩, 27), (⟨"VelvetHandModel", "advances", "()V"⟩, 27), (⟨"VelvetHandModel", "letterAt", "(I)I"⟩, 27), (⟨"VelvetHandModel", "isWell", "()Z"⟩, 27), (⟨"VelvetHandModel", "mayBegin", "()Z"⟩, 27), (⟨"VelvetHandModel", "takes", "(Z)I"⟩, 27), (⟨"VelvetHandModel", "readsItem", "(I)V"⟩, 27), (⟨"VelvetHandModel", "number", "(II)I"⟩, 27), (⟨"VelvetHandModel", "isCaller", "(I)Z"⟩, 27), (⟨"VelvetHandModel", "ringOf", "(I)I"⟩, 27), (⟨"VelvetHandModel", "landOf", "(I)I"⟩, 27), (⟨"VelvetHandModel", "traded", "()I"⟩, 27), (⟨"VelvetHandModel", "notes", "()V"⟩, 27)]
theorem lw_r3 : ∀ q ∈ lw_privs_3, lw_okq q := List.forall_mem_cons.mpr ⟨lw_p32, List.forall_mem_cons.mpr ⟨lw_p33, List.forall_mem_cons.mpr ⟨lw_p34, List.forall_mem_cons.mpr ⟨lw_p35, List.forall_mem_cons.mpr ⟨lw_p36, List.forall_mem_cons.mpr ⟨lw_p37, List.forall_mem_cons.mpr ⟨lw_p38, List.forall_mem_cons.mpr ⟨lw_p39, List.forall_mem_cons.mpr ⟨lw_p40, List.forall_mem_cons.mpr ⟨lw_p41, List.forall_mem_cons.mpr ⟨lw_p42, List.forall_mem_cons.mpr ⟨lw_p43, List.forall_mem_cons.mpr ⟨lw_p44, List.forall_mem_cons.mpr ⟨lw_p45, List.forall_mem_cons.mpr ⟨lw_p46, List.forall_mem_cons.mpr ⟨lw_p47, fun _ h => absurd h List.not_mem_nil⟩⟩⟩⟩⟩⟩⟩⟩⟩⟩⟩⟩⟩⟩⟩⟩
theorem lw_p48 : lw_okq (⟨"VelvetHandModel", "aside", "(I)V"⟩, 27) := ⟨⟨by decide +kernel, by decide +kernel⟩, List.mem_of_getElem? (i := 552) (by decide +kernel), List.mem_of_getElem? (i := 733) (by decide +kernel), List.mem_of_getElem? (i := 734) (by decide +kernel)⟩
theorem lw_p49 : lw_okq (⟨"VelvetHandModel", "shake", "(IIII)I"⟩, 27) := ⟨⟨by decide +kernel, by decide +kernel⟩, List.mem_of_getElem? (i := 552) (by decide +kernel), List.mem_of_getElem? (i := 737) (by decide +kernel), List.mem_of_getElem? (i := 738) (by decide +kernel)⟩
theorem lw_p50 : lw_okq (⟨"VelvetHandModel", "isGone", "(I)Z"⟩, 27) := ⟨⟨by decide +kernel, by decide +kernel⟩, List.mem_of_getElem? (i := 552) (by decide +kernel), List.mem_of_getElem? (i := 765) (by decide +kernel), List.mem_of_getElem? (i := 766) (by decide +kernel)⟩
theorem lw_p51 : lw_okq (⟨"VelvetHandModel", "wayBy", "(I)I"⟩, 27) := ⟨⟨by decide +kernel, by decide +kernel⟩, List.mem_of_getElem? (i := 552) (by decide +kernel), List.mem_of_getElem? (i := 769) (by decide +kernel), List.mem_of_getElem? (i := 770) (by decide +kernel)⟩
theorem lw_p52 : lw_okq (⟨"VelvetHandModel", "yieldsBy", "(III)Z"⟩, 27) := ⟨⟨by decide +kernel, by decide +kernel⟩, List.mem_of_getElem? (i := 552) (by decide +kernel), List.mem_of_getElem? (i := 773) (by decide +kernel), List.mem_of_getElem? (i := 774) (by decide +kernel)⟩
theorem lw_p53 : lw_okq (⟨"VelvetHandModel", "shakesFor", "(I)I"⟩, 27) := ⟨⟨by decide +kernel, by decide +kernel⟩, List.mem_of_getElem? (i := 552) (by decide +kernel), List.mem_of_getElem? (i := 782) (by decide +kernel), List.mem_of_getElem? (i := 783) (by decide +kernel)⟩
theorem lw_p54 : lw_okq (⟨"VelvetHandModel", "comesOf", "(IIII)I"⟩, 27) := ⟨⟨by decide +kernel, by decide +kernel⟩, List.mem_of_getElem? (i := 552) (by decide +kernel), List.mem_of_getElem? (i := 790) (by decide +kernel), List.mem_of_getElem? (i := 791) (by decide +kernel)⟩
theorem lw_p55 : lw_okq (⟨"VelvetHandModel", "softOnes", "()I"⟩, 27) := ⟨⟨by decide +kernel, by decide +kernel⟩, List.mem_of_getElem? (i := 552) (by decide +kernel), List.mem_of_getElem? (i := 819) (by decide +kernel), List.mem_of_getElem? (i := 820) (by decide +kernel)⟩
def lw_privs_4 : List (MethodName × Nat) := [(⟨"VelvetHandModel", "aside", "(I)V"⟩, 27), (⟨"VelvetHandModel", "shake", "(IIII)I"⟩, 27), (⟨"VelvetHandModel", "isGone", "(I)Z"⟩, 27), (⟨"VelvetHandModel", "wayBy", "(I)I"⟩, 27), (⟨"VelvetHandModel", "yieldsBy", "(III)Z"⟩, 27), (⟨"VelvetHandModel", "shakesFor", "(I)I"⟩, 27), (⟨"VelvetHandModel", "comesOf", "(IIII)I"⟩, 27), (⟨"VelvetHandModel", "softOnes", "()I"⟩, 27)]
theorem lw_r4 : ∀ q ∈ lw_privs_4, lw_okq q := List.forall_mem_cons.mpr ⟨lw_p48, List.forall_mem_cons.mpr ⟨lw_p49, List.forall_mem_cons.mpr ⟨lw_p50, List.forall_mem_cons.mpr ⟨lw_p51, List.forall_mem_cons.mpr ⟨lw_p52, List.forall_mem_cons.mpr ⟨lw_p53, List.forall_mem_cons.mpr ⟨lw_p54, List.forall_mem_cons.mpr ⟨lw_p55, fun _ h => absurd h List.not_mem_nil⟩⟩⟩⟩⟩⟩⟩⟩
def lw_privs : List (MethodName × Nat) := lw_privs_1 ++ (lw_privs_2 ++ (lw_privs_3 ++ (lw_privs_4)))
def lw_tbl : List Cond := k2_sels lw_privs ++ tables_1
theorem lw_privs_ok : ∀ q ∈ lw_privs, lw_okq q := by
  show ∀ q ∈ lw_privs_1 ++ (lw_privs_2 ++ (lw_privs_3 ++ (lw_privs_4))), lw_okq q
  exact List.forall_mem_append.mpr ⟨lw_r1, List.forall_mem_append.mpr ⟨lw_r2, List.forall_mem_append.mpr ⟨lw_r3, lw_r4⟩⟩⟩

def RX0 : String := "VelvetHand$Hearsay"
def TX0 : u_T := fun k => match k with
  | 0 => ("VelvetHand$Hearsay", "who", "[I", true)
  | 1 => ("VelvetHand$Hearsay", "times", "[I", true)
  | 2 => ("VelvetHand$Hearsay", "yielded", "[I", true)
  | _ => ("VelvetHand$Hearsay", "size", "I", false)
def tyX0 : Nat → FieldType := fun k => match k with
  | 0 => .array .int
  | 1 => .array .int
  | 2 => .array .int
  | _ => .int
abbrev wsX00 : List Cond := u_ws RX0 TX0 4
theorem nmX0 : ∀ a, a < 4 → ∀ b, b < 4 → a ≠ b → (TX0 a).2.1 ≠ (TX0 b).2.1 := by decide +kernel
theorem tyX0_ok : ∀ k, k < 4 → parseFieldDescriptor (TX0 k).2.2.1 = some (tyX0 k) := by decide +kernel
abbrev cX0_init : ByteArray := prog_2_method_1_code
def yX0_init : MethodName := ⟨RX0, "<init>", "()V"⟩
abbrev cX0_add : ByteArray := prog_2_method_2_code
def yX0_add : MethodName := ⟨RX0, "add", "(III)Z"⟩
def RX1 : String := "VelvetHand$Moment"
def TX1 : u_T := fun k => match k with
  | 0 => ("VelvetHand$Moment", "bruised", "[I", true)
  | 1 => ("VelvetHand$Moment", "warm", "[I", true)
  | 2 => ("VelvetHand$Moment", "yielded", "I", false)
  | 3 => ("VelvetHand$Moment", "left", "I", false)
  | 4 => ("VelvetHand$Moment", "shaken", "I", false)
  | 5 => ("VelvetHand$Moment", "hurt", "I", false)
  | 6 => ("VelvetHand$Moment", "velvet", "I", false)
  | _ => ("VelvetHand$Moment", "shutOn", "I", false)
def tyX1 : Nat → FieldType := fun k => match k with
  | 0 => .array .int
  | 1 => .array .int
  | 2 => .int
  | 3 => .int
  | 4 => .int
  | 5 => .int
  | 6 => .int
  | _ => .int
abbrev wsX10 : List Cond := u_ws RX1 TX1 8
theorem nmX1 : ∀ a, a < 8 → ∀ b, b < 8 → a ≠ b → (TX1 a).2.1 ≠ (TX1 b).2.1 := by decide +kernel
theorem tyX1_ok : ∀ k, k < 8 → parseFieldDescriptor (TX1 k).2.2.1 = some (tyX1 k) := by decide +kernel
abbrev cX1_init : ByteArray := prog_3_method_1_code
def yX1_init : MethodName := ⟨RX1, "<init>", "()V"⟩
abbrev cX1_begin : ByteArray := prog_3_method_2_code
def yX1_begin : MethodName := ⟨RX1, "begin", "(I)V"⟩
abbrev cX1_become : ByteArray := prog_3_method_3_code
def yX1_become : MethodName := ⟨RX1, "become", "(LVelvetHand$Moment;)V"⟩
def RX2 : String := "VelvetHand$Past"
def TX2 : u_T := fun k => match k with
  | 0 => ("VelvetHand$Past", "rows", "[LVelvetHand$Moment;", true)
  | 1 => ("VelvetHand$Past", "next", "I", false)
  | _ => ("VelvetHand$Past", "known", "I", false)
def tyX2 : Nat → FieldType := fun k => match k with
  | 0 => .array (.object "VelvetHand$Moment")
  | 1 => .int
  | _ => .int
abbrev wsX20 : List Cond := u_ws RX2 TX2 3
theorem nmX2 : ∀ a, a < 3 → ∀ b, b < 3 → a ≠ b → (TX2 a).2.1 ≠ (TX2 b).2.1 := by decide +kernel
theorem tyX2_ok : ∀ k, k < 3 → parseFieldDescriptor (TX2 k).2.2.1 = some (tyX2 k) := by decide +kernel
abbrev cX2_init : ByteArray := prog_4_method_1_code
def yX2_init : MethodName := ⟨RX2, "<init>", "()V"⟩
abbrev cX2_remember : ByteArray := prog_4_method_2_code
def yX2_remember : MethodName := ⟨RX2, "remember", "(LVelvetHand$Moment;)V"⟩
abbrev cX2_recall : ByteArray := prog_4_method_3_code
def yX2_recall : MethodName := ⟨RX2, "recall", "(LVelvetHand$Moment;)V"⟩
def RX3 : String := "VelvetHand$Setting"
def TX3 : u_T := fun k => match k with
  | 0 => ("VelvetHand$Setting", "grip", "I", false)
  | 1 => ("VelvetHand$Setting", "velvet", "I", false)
  | 2 => ("VelvetHand$Setting", "spring", "I", false)
  | 3 => ("VelvetHand$Setting", "callers", "I", false)
  | 4 => ("VelvetHand$Setting", "pride", "[I", true)
  | 5 => ("VelvetHand$Setting", "heart", "[I", true)
  | 6 => ("VelvetHand$Setting", "land", "[I", true)
  | _ => ("VelvetHand$Setting", "wants", "[I", true)
def tyX3 : Nat → FieldType := fun k => match k with
  | 0 => .int
  | 1 => .int
  | 2 => .int
  | 3 => .int
  | 4 => .array .int
  | 5 => .array .int
  | 6 => .array .int
  | _ => .array .int
abbrev wsX30 : List Cond := u_ws RX3 TX3 8
theorem nmX3 : ∀ a, a < 8 → ∀ b, b < 8 → a ≠ b → (TX3 a).2.1 ≠ (TX3 b).2.1 := by decide +kernel
theorem tyX3_ok : ∀ k, k < 8 → parseFieldDescriptor (TX3 k).2.2.1 = some (tyX3 k) := by decide +kernel
abbrev cX3_init : ByteArray := prog_5_method_1_code
def yX3_init : MethodName := ⟨RX3, "<init>", "()V"⟩
abbrev cX3_begin : ByteArray := prog_5_method_2_code
def yX3_begin : MethodName := ⟨RX3, "begin", "()V"⟩
abbrev cX3_tellCaller : ByteArray := prog_5_method_3_code
def yX3_tellCaller : MethodName := ⟨RX3, "tellCaller", "(II)V"⟩
def RX4 : String := "VelvetHand$Text"
def TX4 : u_T := fun k => match k with
  | 0 => ("VelvetHand$Text", "letters", "[I", true)
  | 1 => ("VelvetHand$Text", "length", "I", false)
  | 2 => ("VelvetHand$Text", "place", "I", false)
  | 3 => ("VelvetHand$Text", "token", "I", false)
  | 4 => ("VelvetHand$Text", "tokenPlace", "I", false)
  | 5 => ("VelvetHand$Text", "number", "I", false)
  | 6 => ("VelvetHand$Text", "item", "I", false)
  | 7 => ("VelvetHand$Text", "numbers", "I", false)
  | 8 => ("VelvetHand$Text", "gripTold", "Z", false)
  | 9 => ("VelvetHand$Text", "velvetTold", "Z", false)
  | _ => ("VelvetHand$Text", "springTold", "Z", false)
def tyX4 : Nat → FieldType := fun k => match k with
  | 0 => .array .int
  | 1 => .int
  | 2 => .int
  | 3 => .int
  | 4 => .int
  | 5 => .int
  | 6 => .int
  | 7 => .int
  | 8 => .boolean
  | 9 => .boolean
  | _ => .boolean
abbrev wsX40 : List Cond := u_ws RX4 TX4 11
theorem nmX4 : ∀ a, a < 11 → ∀ b, b < 11 → a ≠ b → (TX4 a).2.1 ≠ (TX4 b).2.1 := by decide +kernel
theorem tyX4_ok : ∀ k, k < 11 → parseFieldDescriptor (TX4 k).2.2.1 = some (tyX4 k) := by decide +kernel
abbrev cX4_init : ByteArray := prog_6_method_1_code
def yX4_init : MethodName := ⟨RX4, "<init>", "()V"⟩
abbrev cX4_add : ByteArray := prog_6_method_2_code
def yX4_add : MethodName := ⟨RX4, "add", "(I)Z"⟩
abbrev cX4_empty : ByteArray := prog_6_method_3_code
def yX4_empty : MethodName := ⟨RX4, "empty", "()I"⟩
abbrev cX4_tell : ByteArray := prog_6_method_4_code
def yX4_tell : MethodName := ⟨RX4, "tell", "(LVelvetHand$Setting;)I"⟩
abbrev cX4_begin : ByteArray := prog_6_method_5_code
def yX4_begin : MethodName := ⟨RX4, "begin", "()V"⟩
abbrev cX4_takeToken : ByteArray := prog_6_method_6_code
def yX4_takeToken : MethodName := ⟨RX4, "takeToken", "(LVelvetHand$Setting;)Z"⟩
abbrev cX4_takeLetter : ByteArray := prog_6_method_7_code
def yX4_takeLetter : MethodName := ⟨RX4, "takeLetter", "(LVelvetHand$Setting;)Z"⟩
abbrev cX4_takeNumber : ByteArray := prog_6_method_8_code
def yX4_takeNumber : MethodName := ⟨RX4, "takeNumber", "(LVelvetHand$Setting;)Z"⟩
abbrev cX4_leastNumber : ByteArray := prog_6_method_9_code
def yX4_leastNumber : MethodName := ⟨RX4, "leastNumber", "()I"⟩
abbrev cX4_mostNumber : ByteArray := prog_6_method_10_code
def yX4_mostNumber : MethodName := ⟨RX4, "mostNumber", "()I"⟩
abbrev cX4_readToken : ByteArray := prog_6_method_11_code
def yX4_readToken : MethodName := ⟨RX4, "readToken", "()V"⟩
abbrev cX4_readNumber : ByteArray := prog_6_method_12_code
def yX4_readNumber : MethodName := ⟨RX4, "readNumber", "()V"⟩
abbrev cX4_isDigit : ByteArray := prog_6_method_13_code
def yX4_isDigit : MethodName := ⟨RX4, "isDigit", "(I)Z"⟩
def RX5 : String := "VelvetHand"
def TX5 : u_T := fun k => match k with
  | 0 => ("VelvetHand", "setting", "LVelvetHand$Setting;", false)
  | 1 => ("VelvetHand", "spare", "LVelvetHand$Setting;", false)
  | 2 => ("VelvetHand", "text", "LVelvetHand$Text;", true)
  | 3 => ("VelvetHand", "moment", "LVelvetHand$Moment;", true)
  | 4 => ("VelvetHand", "past", "LVelvetHand$Past;", true)
  | 5 => ("VelvetHand", "images", "[LVelvetHand$Moment;", true)
  | 6 => ("VelvetHand", "kept", "I", false)
  | 7 => ("VelvetHand", "hearsay", "LVelvetHand$Hearsay;", true)
  | 8 => ("VelvetHand", "wayLengths", "[I", true)
  | 9 => ("VelvetHand", "fewest", "[I", true)
  | _ => ("VelvetHand", "asked", "J", false)
def tyX5 : Nat → FieldType := fun k => match k with
  | 0 => .object "VelvetHand$Setting"
  | 1 => .object "VelvetHand$Setting"
  | 2 => .object "VelvetHand$Text"
  | 3 => .object "VelvetHand$Moment"
  | 4 => .object "VelvetHand$Past"
  | 5 => .array (.object "VelvetHand$Moment")
  | 6 => .int
  | 7 => .object "VelvetHand$Hearsay"
  | 8 => .array .int
  | 9 => .array .int
  | _ => .long
abbrev wsX50 : List Cond := u_ws RX5 TX5 11
theorem nmX5 : ∀ a, a < 11 → ∀ b, b < 11 → a ≠ b → (TX5 a).2.1 ≠ (TX5 b).2.1 := by decide +kernel
theorem tyX5_ok : ∀ k, k < 11 → parseFieldDescriptor (TX5 k).2.2.1 = some (tyX5 k) := by decide +kernel
abbrev cX5_init : ByteArray := prog_1_method_1_code
def yX5_init : MethodName := ⟨RX5, "<init>", "()V"⟩
abbrev cX5_type : ByteArray := prog_1_method_2_code
def yX5_type : MethodName := ⟨RX5, "type", "(I)I"⟩
abbrev cX5_clear : ByteArray := prog_1_method_3_code
def yX5_clear : MethodName := ⟨RX5, "clear", "()I"⟩
abbrev cX5_embassy : ByteArray := prog_1_method_4_code
def yX5_embassy : MethodName := ⟨RX5, "embassy", "()I"⟩
abbrev cX5_caller : ByteArray := prog_1_method_5_code
def yX5_caller : MethodName := ⟨RX5, "caller", "(II)I"⟩
abbrev cX5_now : ByteArray := prog_1_method_6_code
def yX5_now : MethodName := ⟨RX5, "now", "(I)I"⟩
abbrev cX5_isCaller : ByteArray := prog_1_method_7_code
def yX5_isCaller : MethodName := ⟨RX5, "isCaller", "(I)Z"⟩
abbrev cX5_landOf : ByteArray := prog_1_method_8_code
def yX5_landOf : MethodName := ⟨RX5, "landOf", "(I)I"⟩
abbrev cX5_ringOf : ByteArray := prog_1_method_9_code
def yX5_ringOf : MethodName := ⟨RX5, "ringOf", "(I)I"⟩
abbrev cX5_traded : ByteArray := prog_1_method_10_code
def yX5_traded : MethodName := ⟨RX5, "traded", "()I"⟩
abbrev cX5_shakes : ByteArray := prog_1_method_11_code
def yX5_shakes : MethodName := ⟨RX5, "shakes", "(II)I"⟩
abbrev cX5_opens : ByteArray := prog_1_method_12_code
def yX5_opens : MethodName := ⟨RX5, "opens", "()I"⟩
abbrev cX5_lines : ByteArray := prog_1_method_13_code
def yX5_lines : MethodName := ⟨RX5, "lines", "(I)I"⟩
abbrev cX5_winds : ByteArray := prog_1_method_14_code
def yX5_winds : MethodName := ⟨RX5, "winds", "()I"⟩
abbrev cX5_consoles : ByteArray := prog_1_method_15_code
def yX5_consoles : MethodName := ⟨RX5, "consoles", "(I)I"⟩
abbrev cX5_undo : ByteArray := prog_1_method_16_code
def yX5_undo : MethodName := ⟨RX5, "undo", "()I"⟩
abbrev cX5_bruise : ByteArray := prog_1_method_17_code
def yX5_bruise : MethodName := ⟨RX5, "bruise", "(I)I"⟩
abbrev cX5_warmth : ByteArray := prog_1_method_18_code
def yX5_warmth : MethodName := ⟨RX5, "warmth", "(I)I"⟩
abbrev cX5_decide : ByteArray := prog_1_method_19_code
def yX5_decide : MethodName := ⟨RX5, "decide", "(I)I"⟩
abbrev cX5_countShake : ByteArray := prog_1_method_20_code
def yX5_countShake : MethodName := ⟨RX5, "countShake", "(I)V"⟩
abbrev cX5_wouldYield : ByteArray := prog_1_method_21_code
def yX5_wouldYield : MethodName := ⟨RX5, "wouldYield", "(III)Z"⟩
abbrev cX5_wouldLeave : ByteArray := prog_1_method_22_code
def yX5_wouldLeave : MethodName := ⟨RX5, "wouldLeave", "(II)Z"⟩
abbrev cX5_way : ByteArray := prog_1_method_23_code
def yX5_way : MethodName := ⟨RX5, "way", "(II)I"⟩
abbrev cX5_gain : ByteArray := prog_1_method_24_code
def yX5_gain : MethodName := ⟨RX5, "gain", "(II)I"⟩
abbrev cX5_tune : ByteArray := prog_1_method_25_code
def yX5_tune : MethodName := ⟨RX5, "tune", "(II)I"⟩
abbrev cX5_odds : ByteArray := prog_1_method_26_code
def yX5_odds : MethodName := ⟨RX5, "odds", "(III)I"⟩
abbrev cX5_mayBeWon : ByteArray := prog_1_method_27_code
def yX5_mayBeWon : MethodName := ⟨RX5, "mayBeWon", "(I)Z"⟩
abbrev cX5_reckonWay : ByteArray := prog_1_method_28_code
def yX5_reckonWay : MethodName := ⟨RX5, "reckonWay", "(I)I"⟩
abbrev cX5_cell : ByteArray := prog_1_method_29_code
def yX5_cell : MethodName := ⟨RX5, "cell", "(II)I"⟩
abbrev cX5_fewestBehind : ByteArray := prog_1_method_30_code
def yX5_fewestBehind : MethodName := ⟨RX5, "fewestBehind", "(III)I"⟩
abbrev cX5_fewestNext : ByteArray := prog_1_method_31_code
def yX5_fewestNext : MethodName := ⟨RX5, "fewestNext", "(III)I"⟩
abbrev cX5_turnOfWay : ByteArray := prog_1_method_32_code
def yX5_turnOfWay : MethodName := ⟨RX5, "turnOfWay", "(I)I"⟩
abbrev cX5_measureWays : ByteArray := prog_1_method_33_code
def yX5_measureWays : MethodName := ⟨RX5, "measureWays", "()V"⟩
abbrev cX5_lengthOfWays : ByteArray := prog_1_method_34_code
def yX5_lengthOfWays : MethodName := ⟨RX5, "lengthOfWays", "(I)I"⟩
abbrev cX5_bringsJust : ByteArray := prog_1_method_35_code
def yX5_bringsJust : MethodName := ⟨RX5, "bringsJust", "(IIII)Z"⟩
abbrev cX5_tryPlain : ByteArray := prog_1_method_36_code
def yX5_tryPlain : MethodName := ⟨RX5, "tryPlain", "(IIII)I"⟩
abbrev cX5_waysToLeave : ByteArray := prog_1_method_37_code
def yX5_waysToLeave : MethodName := ⟨RX5, "waysToLeave", "(III)I"⟩
abbrev cX5_power : ByteArray := prog_1_method_38_code
def yX5_power : MethodName := ⟨RX5, "power", "(II)I"⟩
abbrev cX5_commonDivisor : ByteArray := prog_1_method_39_code
def yX5_commonDivisor : MethodName := ⟨RX5, "commonDivisor", "(II)I"⟩
abbrev cX5_tells : ByteArray := prog_1_method_40_code
def yX5_tells : MethodName := ⟨RX5, "tells", "(III)I"⟩
abbrev cX5_forget : ByteArray := prog_1_method_41_code
def yX5_forget : MethodName := ⟨RX5, "forget", "()I"⟩
abbrev cX5_soft : ByteArray := prog_1_method_42_code
def yX5_soft : MethodName := ⟨RX5, "soft", "()I"⟩
abbrev cX5_ask : ByteArray := prog_1_method_43_code
def yX5_ask : MethodName := ⟨RX5, "ask", "(I)I"⟩
abbrev cX5_yieldingVelvets : ByteArray := prog_1_method_44_code
def yX5_yieldingVelvets : MethodName := ⟨RX5, "yieldingVelvets", "(II)I"⟩
abbrev cX5_rate : ByteArray := prog_1_method_45_code
def yX5_rate : MethodName := ⟨RX5, "rate", "(II)I"⟩
abbrev cX5_keep : ByteArray := prog_1_method_46_code
def yX5_keep : MethodName := ⟨RX5, "keep", "(I)I"⟩
abbrev cX5_back : ByteArray := prog_1_method_47_code
def yX5_back : MethodName := ⟨RX5, "back", "(I)I"⟩
abbrev cX5_count : ByteArray := prog_1_method_48_code
def yX5_count : MethodName := ⟨RX5, "count", "(I)I"⟩
abbrev cX5_trace : ByteArray := prog_1_method_49_code
def yX5_trace : MethodName := ⟨RX5, "trace", "()J"⟩
abbrev cX5_rateCaller : ByteArray := prog_1_method_50_code
def yX5_rateCaller : MethodName := ⟨RX5, "rateCaller", "(I)I"⟩
abbrev cX5_rateCount : ByteArray := prog_1_method_51_code
def yX5_rateCount : MethodName := ⟨RX5, "rateCount", "(I)I"⟩
abbrev cX5_rateCharge : ByteArray := prog_1_method_52_code
def yX5_rateCharge : MethodName := ⟨RX5, "rateCharge", "(I)I"⟩
abbrev cX5_rateNuncio : ByteArray := prog_1_method_53_code
def yX5_rateNuncio : MethodName := ⟨RX5, "rateNuncio", "(I)I"⟩
abbrev cX5_rateEnvoy : ByteArray := prog_1_method_54_code
def yX5_rateEnvoy : MethodName := ⟨RX5, "rateEnvoy", "(I)I"⟩
abbrev cX5_rateNun : ByteArray := prog_1_method_55_code
def yX5_rateNun : MethodName := ⟨RX5, "rateNun", "(I)I"⟩
abbrev cX5_at : ByteArray := prog_1_method_56_code
def yX5_at : MethodName := ⟨RX5, "at", "([II)I"⟩
abbrev cX5_put : ByteArray := prog_1_method_57_code
def yX5_put : MethodName := ⟨RX5, "put", "([III)V"⟩
abbrev cX5_momentAt : ByteArray := prog_1_method_58_code
def yX5_momentAt : MethodName := ⟨RX5, "momentAt", "([LVelvetHand$Moment;I)LVelvetHand$Moment;"⟩
abbrev cX5_isIn : ByteArray := prog_1_method_59_code
def yX5_isIn : MethodName := ⟨RX5, "isIn", "(II)Z"⟩
abbrev cX5_isOneOrZero : ByteArray := prog_1_method_60_code
def yX5_isOneOrZero : MethodName := ⟨RX5, "isOneOrZero", "(I)Z"⟩
def RX6 : String := "VelvetHandModel"
def TX6 : u_T := fun k => match k with
  | 0 => ("VelvetHandModel", "thrown", "I", false)
  | 1 => ("VelvetHandModel", "trace", "J", false)
  | 2 => ("VelvetHandModel", "text", "[I", true)
  | 3 => ("VelvetHandModel", "typed", "I", false)
  | 4 => ("VelvetHandModel", "next", "I", false)
  | 5 => ("VelvetHandModel", "token", "I", false)
  | 6 => ("VelvetHandModel", "place", "I", false)
  | 7 => ("VelvetHandModel", "value", "I", false)
  | 8 => ("VelvetHandModel", "fault", "I", false)
  | 9 => ("VelvetHandModel", "told", "I", false)
  | 10 => ("VelvetHandModel", "many", "[I", true)
  | 11 => ("VelvetHandModel", "pride", "[I", true)
  | 12 => ("VelvetHandModel", "heart", "[I", true)
  | 13 => ("VelvetHandModel", "land", "[I", true)
  | 14 => ("VelvetHandModel", "wants", "[I", true)
  | 15 => ("VelvetHandModel", "s", "[I", true)
  | 16 => ("VelvetHandModel", "kept", "[I", true)
  | 17 => ("VelvetHandModel", "isKept", "[Z", true)
  | 18 => ("VelvetHandModel", "undos", "[I", true)
  | 19 => ("VelvetHandModel", "undoMany", "I", false)
  | 20 => ("VelvetHandModel", "toldOf", "[I", true)
  | 21 => ("VelvetHandModel", "toldTimes", "[I", true)
  | 22 => ("VelvetHandModel", "toldYield", "[I", true)
  | 23 => ("VelvetHandModel", "tellings", "I", false)
  | 24 => ("VelvetHandModel", "hard", "I", false)
  | 25 => ("VelvetHandModel", "warm", "I", false)
  | _ => ("VelvetHandModel", "wayOf", "[I", true)
def tyX6 : Nat → FieldType := fun k => match k with
  | 0 => .int
  | 1 => .long
  | 2 => .array .int
  | 3 => .int
  | 4 => .int
  | 5 => .int
  | 6 => .int
  | 7 => .int
  | 8 => .int
  | 9 => .int
  | 10 => .array .int
  | 11 => .array .int
  | 12 => .array .int
  | 13 => .array .int
  | 14 => .array .int
  | 15 => .array .int
  | 16 => .array .int
  | 17 => .array .boolean
  | 18 => .array .int
  | 19 => .int
  | 20 => .array .int
  | 21 => .array .int
  | 22 => .array .int
  | 23 => .int
  | 24 => .int
  | 25 => .int
  | _ => .array .int
abbrev wsX60 : List Cond := u_ws RX6 TX6 27
theorem nmX6 : ∀ a, a < 27 → ∀ b, b < 27 → a ≠ b → (TX6 a).2.1 ≠ (TX6 b).2.1 := by decide +kernel
theorem tyX6_ok : ∀ k, k < 27 → parseFieldDescriptor (TX6 k).2.2.1 = some (tyX6 k) := by decide +kernel
abbrev cX6_init : ByteArray := prog_8_method_1_code
def yX6_init : MethodName := ⟨RX6, "<init>", "()V"⟩
abbrev cX6_in : ByteArray := prog_8_method_3_code
def yX6_in : MethodName := ⟨RX6, "in", "(III)Z"⟩
abbrev cX6_has : ByteArray := prog_8_method_4_code
def yX6_has : MethodName := ⟨RX6, "has", "(II)Z"⟩
abbrev cX6_ones : ByteArray := prog_8_method_5_code
def yX6_ones : MethodName := ⟨RX6, "ones", "(I)I"⟩
abbrev cX6_type : ByteArray := prog_8_method_6_code
def yX6_type : MethodName := ⟨RX6, "type", "(I)I"⟩
abbrev cX6_clear : ByteArray := prog_8_method_7_code
def yX6_clear : MethodName := ⟨RX6, "clear", "()I"⟩
abbrev cX6_letterAt : ByteArray := prog_8_method_8_code
def yX6_letterAt : MethodName := ⟨RX6, "letterAt", "(I)I"⟩
abbrev cX6_isLetter : ByteArray := prog_8_method_9_code
def yX6_isLetter : MethodName := ⟨RX6, "isLetter", "(I)Z"⟩
abbrev cX6_advances : ByteArray := prog_8_method_10_code
def yX6_advances : MethodName := ⟨RX6, "advances", "()V"⟩
abbrev cX6_isWell : ByteArray := prog_8_method_11_code
def yX6_isWell : MethodName := ⟨RX6, "isWell", "()Z"⟩
abbrev cX6_takes : ByteArray := prog_8_method_12_code
def yX6_takes : MethodName := ⟨RX6, "takes", "(Z)I"⟩
abbrev cX6_number : ByteArray := prog_8_method_13_code
def yX6_number : MethodName := ⟨RX6, "number", "(II)I"⟩
abbrev cX6_begins : ByteArray := prog_8_method_14_code
def yX6_begins : MethodName := ⟨RX6, "begins", "()V"⟩
abbrev cX6_bitOf : ByteArray := prog_8_method_15_code
def yX6_bitOf : MethodName := ⟨RX6, "bitOf", "(I)I"⟩
abbrev cX6_mayBegin : ByteArray := prog_8_method_16_code
def yX6_mayBegin : MethodName := ⟨RX6, "mayBegin", "()Z"⟩
abbrev cX6_readsItem : ByteArray := prog_8_method_17_code
def yX6_readsItem : MethodName := ⟨RX6, "readsItem", "(I)V"⟩
abbrev cX6_embassy : ByteArray := prog_8_method_18_code
def yX6_embassy : MethodName := ⟨RX6, "embassy", "()I"⟩
abbrev cX6_settles : ByteArray := prog_8_method_19_code
def yX6_settles : MethodName := ⟨RX6, "settles", "()V"⟩
abbrev cX6_isCaller : ByteArray := prog_8_method_20_code
def yX6_isCaller : MethodName := ⟨RX6, "isCaller", "(I)Z"⟩
abbrev cX6_ringOf : ByteArray := prog_8_method_21_code
def yX6_ringOf : MethodName := ⟨RX6, "ringOf", "(I)I"⟩
abbrev cX6_caller : ByteArray := prog_8_method_22_code
def yX6_caller : MethodName := ⟨RX6, "caller", "(II)I"⟩
abbrev cX6_landOf : ByteArray := prog_8_method_23_code
def yX6_landOf : MethodName := ⟨RX6, "landOf", "(I)I"⟩
abbrev cX6_traded : ByteArray := prog_8_method_24_code
def yX6_traded : MethodName := ⟨RX6, "traded", "()I"⟩
abbrev cX6_now : ByteArray := prog_8_method_25_code
def yX6_now : MethodName := ⟨RX6, "now", "(I)I"⟩
abbrev cX6_notes : ByteArray := prog_8_method_26_code
def yX6_notes : MethodName := ⟨RX6, "notes", "()V"⟩
abbrev cX6_shake : ByteArray := prog_8_method_27_code
def yX6_shake : MethodName := ⟨RX6, "shake", "(IIII)I"⟩
abbrev cX6_aside : ByteArray := prog_8_method_28_code
def yX6_aside : MethodName := ⟨RX6, "aside", "(I)V"⟩
abbrev cX6_shakes : ByteArray := prog_8_method_29_code
def yX6_shakes : MethodName := ⟨RX6, "shakes", "(II)I"⟩
abbrev cX6_opens : ByteArray := prog_8_method_30_code
def yX6_opens : MethodName := ⟨RX6, "opens", "()I"⟩
abbrev cX6_lines : ByteArray := prog_8_method_31_code
def yX6_lines : MethodName := ⟨RX6, "lines", "(I)I"⟩
abbrev cX6_winds : ByteArray := prog_8_method_32_code
def yX6_winds : MethodName := ⟨RX6, "winds", "()I"⟩
abbrev cX6_consoles : ByteArray := prog_8_method_33_code
def yX6_consoles : MethodName := ⟨RX6, "consoles", "(I)I"⟩
abbrev cX6_undo : ByteArray := prog_8_method_34_code
def yX6_undo : MethodName := ⟨RX6, "undo", "()I"⟩
abbrev cX6_yieldsBy : ByteArray := prog_8_method_35_code
def yX6_yieldsBy : MethodName := ⟨RX6, "yieldsBy", "(III)Z"⟩
abbrev cX6_wayBy : ByteArray := prog_8_method_36_code
def yX6_wayBy : MethodName := ⟨RX6, "wayBy", "(I)I"⟩
abbrev cX6_isGone : ByteArray := prog_8_method_37_code
def yX6_isGone : MethodName := ⟨RX6, "isGone", "(I)Z"⟩
abbrev cX6_way : ByteArray := prog_8_method_38_code
def yX6_way : MethodName := ⟨RX6, "way", "(II)I"⟩
abbrev cX6_shakesFor : ByteArray := prog_8_method_39_code
def yX6_shakesFor : MethodName := ⟨RX6, "shakesFor", "(I)I"⟩
abbrev cX6_gain : ByteArray := prog_8_method_40_code
def yX6_gain : MethodName := ⟨RX6, "gain", "(II)I"⟩
abbrev cX6_comesOf : ByteArray := prog_8_method_41_code
def yX6_comesOf : MethodName := ⟨RX6, "comesOf", "(IIII)I"⟩
abbrev cX6_tune : ByteArray := prog_8_method_42_code
def yX6_tune : MethodName := ⟨RX6, "tune", "(II)I"⟩
abbrev cX6_power : ByteArray := prog_8_method_43_code
def yX6_power : MethodName := ⟨RX6, "power", "(II)I"⟩
abbrev cX6_gcd : ByteArray := prog_8_method_44_code
def yX6_gcd : MethodName := ⟨RX6, "gcd", "(II)I"⟩
abbrev cX6_odds : ByteArray := prog_8_method_45_code
def yX6_odds : MethodName := ⟨RX6, "odds", "(III)I"⟩
abbrev cX6_tells : ByteArray := prog_8_method_46_code
def yX6_tells : MethodName := ⟨RX6, "tells", "(III)I"⟩
abbrev cX6_forget : ByteArray := prog_8_method_47_code
def yX6_forget : MethodName := ⟨RX6, "forget", "()I"⟩
abbrev cX6_softOnes : ByteArray := prog_8_method_48_code
def yX6_softOnes : MethodName := ⟨RX6, "softOnes", "()I"⟩
abbrev cX6_soft : ByteArray := prog_8_method_49_code
def yX6_soft : MethodName := ⟨RX6, "soft", "()I"⟩
abbrev cX6_ask : ByteArray := prog_8_method_50_code
def yX6_ask : MethodName := ⟨RX6, "ask", "(I)I"⟩
abbrev cX6_rate : ByteArray := prog_8_method_51_code
def yX6_rate : MethodName := ⟨RX6, "rate", "(II)I"⟩
abbrev cX6_keep : ByteArray := prog_8_method_52_code
def yX6_keep : MethodName := ⟨RX6, "keep", "(I)I"⟩
abbrev cX6_back : ByteArray := prog_8_method_53_code
def yX6_back : MethodName := ⟨RX6, "back", "(I)I"⟩
abbrev cX6_count : ByteArray := prog_8_method_54_code
def yX6_count : MethodName := ⟨RX6, "count", "(I)I"⟩
abbrev cX6_trace : ByteArray := prog_8_method_55_code
def yX6_trace : MethodName := ⟨RX6, "trace", "()J"⟩
def RJ6 : String := "java/lang/Integer"
abbrev cJ6_bitCount_0f7a4 : ByteArray := prog_9_method_49_code
def yJ6_bitCount_0f7a4 : MethodName := ⟨RJ6, "bitCount", "(I)I"⟩
def RJ9 : String := "java/lang/Math"
abbrev cJ9_max_7cf53 : ByteArray := prog_10_method_65_code
def yJ9_max_7cf53 : MethodName := ⟨RJ9, "max", "(II)I"⟩
abbrev cJ9_min_7cf53 : ByteArray := prog_10_method_69_code
def yJ9_min_7cf53 : MethodName := ⟨RJ9, "min", "(II)I"⟩
def RL : String := "VelvetHandLaw"
abbrev cL_law : ByteArray := code
def yL_law : MethodName := ⟨RL, "law", "([I)Z"⟩
abbrev vwCl : List vw_C := [(RX0, TX0, 4), (RX1, TX1, 8), (RX2, TX2, 3), (RX3, TX3, 8), (RX4, TX4, 11), (RX5, TX5, 11), (RX6, TX6, 27)]
