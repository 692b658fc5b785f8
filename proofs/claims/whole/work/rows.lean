section
-- ===== PART A: goes FIRST, ahead of the names: the tables' words, and 'selects' of the private methods out of them =====
/-- a private method of a class that the tables say can be made, by its rows of tables_1 -/
def lw_okq (q : MethodName × Nat) : Prop := (q.1.cls ≠ "java/lang/invoke/MethodHandle" ∧ q.1.cls ≠ "java/lang/invoke/VarHandle") ∧ Cond.instantiable q.1.cls q.2 ∈ tables_1 ∧ Cond.privateMethod q.1 ∈ tables_1 ∧ Cond.instanceMethod q.1 ∈ tables_1
theorem lw_p0 : lw_okq (⟨"VelvetHand$Text", "begin", "()V"⟩, 11) := ⟨⟨by decide +kernel, by decide +kernel⟩, List.mem_of_getElem? (i := 63) (by decide +kernel), List.mem_of_getElem? (i := 252) (by decide +kernel), List.mem_of_getElem? (i := 253) (by decide +kernel)⟩
theorem lw_p1 : lw_okq (⟨"VelvetHand$Text", "readToken", "()V"⟩, 11) := ⟨⟨by decide +kernel, by decide +kernel⟩, List.mem_of_getElem? (i := 63) (by decide +kernel), List.mem_of_getElem? (i := 260) (by decide +kernel), List.mem_of_getElem? (i := 261) (by decide +kernel)⟩
theorem lw_p2 : lw_okq (⟨"VelvetHand$Text", "readNumber", "()V"⟩, 11) := ⟨⟨by decide +kernel, by decide +kernel⟩, List.mem_of_getElem? (i := 63) (by decide +kernel), List.mem_of_getElem? (i := 270) (by decide +kernel), List.mem_of_getElem? (i := 271) (by decide +kernel)⟩
theorem lw_p3 : lw_okq (⟨"VelvetHand$Text", "takeToken", "(LVelvetHand$Setting;)Z"⟩, 11) := ⟨⟨by decide +kernel, by decide +kernel⟩, List.mem_of_getElem? (i := 63) (by decide +kernel), List.mem_of_getElem? (i := 277) (by decide +kernel), List.mem_of_getElem? (i := 278) (by decide +kernel)⟩
theorem lw_p4 : lw_okq (⟨"VelvetHand$Text", "takeLetter", "(LVelvetHand$Setting;)Z"⟩, 11) := ⟨⟨by decide +kernel, by decide +kernel⟩, List.mem_of_getElem? (i := 63) (by decide +kernel), List.mem_of_getElem? (i := 281) (by decide +kernel), List.mem_of_getElem? (i := 282) (by decide +kernel)⟩
theorem lw_p5 : lw_okq (⟨"VelvetHand$Text", "takeNumber", "(LVelvetHand$Setting;)Z"⟩, 11) := ⟨⟨by decide +kernel, by decide +kernel⟩, List.mem_of_getElem? (i := 63) (by decide +kernel), List.mem_of_getElem? (i := 285) (by decide +kernel), List.mem_of_getElem? (i := 286) (by decide +kernel)⟩
theorem lw_p6 : lw_okq (⟨"VelvetHand$Text", "leastNumber", "()I"⟩, 11) := ⟨⟨by decide +kernel, by decide +kernel⟩, List.mem_of_getElem? (i := 63) (by decide +kernel), List.mem_of_getElem? (i := 289) (by decide +kernel), List.mem_of_getElem? (i := 290) (by decide +kernel)⟩
theorem lw_p7 : lw_okq (⟨"VelvetHand$Text", "mostNumber", "()I"⟩, 11) := ⟨⟨by decide +kernel, by decide +kernel⟩, List.mem_of_getElem? (i := 63) (by decide +kernel), List.mem_of_getElem? (i := 293) (by decide +kernel), List.mem_of_getElem? (i := 294) (by decide +kernel)⟩
theorem lw_p8 : lw_okq (⟨"VelvetHand", "isCaller", "(I)Z"⟩, 11) := ⟨⟨by decide +kernel, by decide +kernel⟩, List.mem_of_getElem? (i := 11) (by decide +kernel), List.mem_of_getElem? (i := 306) (by decide +kernel), List.mem_of_getElem? (i := 307) (by decide +kernel)⟩
theorem lw_p9 : lw_okq (⟨"VelvetHand", "ringOf", "(I)I"⟩, 11) := ⟨⟨by decide +kernel, by decide +kernel⟩, List.mem_of_getElem? (i := 11) (by decide +kernel), List.mem_of_getElem? (i := 314) (by decide +kernel), List.mem_of_getElem? (i := 315) (by decide +kernel)⟩
theorem lw_p10 : lw_okq (⟨"VelvetHand", "landOf", "(I)I"⟩, 11) := ⟨⟨by decide +kernel, by decide +kernel⟩, List.mem_of_getElem? (i := 11) (by decide +kernel), List.mem_of_getElem? (i := 322) (by decide +kernel), List.mem_of_getElem? (i := 323) (by decide +kernel)⟩
theorem lw_p11 : lw_okq (⟨"VelvetHand", "traded", "()I"⟩, 11) := ⟨⟨by decide +kernel, by decide +kernel⟩, List.mem_of_getElem? (i := 11) (by decide +kernel), List.mem_of_getElem? (i := 326) (by decide +kernel), List.mem_of_getElem? (i := 327) (by decide +kernel)⟩
theorem lw_p12 : lw_okq (⟨"VelvetHand", "bruise", "(I)I"⟩, 11) := ⟨⟨by decide +kernel, by decide +kernel⟩, List.mem_of_getElem? (i := 11) (by decide +kernel), List.mem_of_getElem? (i := 351) (by decide +kernel), List.mem_of_getElem? (i := 352) (by decide +kernel)⟩
theorem lw_p13 : lw_okq (⟨"VelvetHand", "warmth", "(I)I"⟩, 11) := ⟨⟨by decide +kernel, by decide +kernel⟩, List.mem_of_getElem? (i := 11) (by decide +kernel), List.mem_of_getElem? (i := 356) (by decide +kernel), List.mem_of_getElem? (i := 357) (by decide +kernel)⟩
theorem lw_p14 : lw_okq (⟨"VelvetHand", "decide", "(I)I"⟩, 11) := ⟨⟨by decide +kernel, by decide +kernel⟩, List.mem_of_getElem? (i := 11) (by decide +kernel), List.mem_of_getElem? (i := 360) (by decide +kernel), List.mem_of_getElem? (i := 361) (by decide +kernel)⟩
theorem lw_p15 : lw_okq (⟨"VelvetHand", "wouldYield", "(III)Z"⟩, 11) := ⟨⟨by decide +kernel, by decide +kernel⟩, List.mem_of_getElem? (i := 11) (by decide +kernel), List.mem_of_getElem? (i := 364) (by decide +kernel), List.mem_of_getElem? (i := 365) (by decide +kernel)⟩
def lw_privs_1 : List (MethodName × Nat) := [(⟨"VelvetHand$Text", "begin", "()V"⟩, 11), (⟨"VelvetHand$Text", "readToken", "()V"⟩, 11), (⟨"VelvetHand$Text", "readNumber", "()V"⟩, 11), (⟨"VelvetHand$Text", "takeToken", "(LVelvetHand$Setting;)Z"⟩, 11), (⟨"VelvetHand$Text", "takeLetter", "(LVelvetHand$Setting;)Z"⟩, 11), (⟨"VelvetHand$Text", "takeNumber", "(LVelvetHand$Setting;)Z"⟩, 11), (⟨"VelvetHand$Text", "leastNumber", "()I"⟩, 11), (⟨"VelvetHand$Text", "mostNumber", "()I"⟩, 11), (⟨"VelvetHand", "isCaller", "(I)Z"⟩, 11), (⟨"VelvetHand", "ringOf", "(I)I"⟩, 11), (⟨"VelvetHand", "landOf", "(I)I"⟩, 11), (⟨"VelvetHand", "traded", "()I"⟩, 11), (⟨"VelvetHand", "bruise", "(I)I"⟩, 11), (⟨"VelvetHand", "warmth", "(I)I"⟩, 11), (⟨"VelvetHand", "decide", "(I)I"⟩, 11), (⟨"VelvetHand", "wouldYield", "(III)Z"⟩, 11)]
theorem lw_r1 : ∀ q ∈ lw_privs_1, lw_okq q := List.forall_mem_cons.mpr ⟨lw_p0, List.forall_mem_cons.mpr ⟨lw_p1, List.forall_mem_cons.mpr ⟨lw_p2, List.forall_mem_cons.mpr ⟨lw_p3, List.forall_mem_cons.mpr ⟨lw_p4, List.forall_mem_cons.mpr ⟨lw_p5, List.forall_mem_cons.mpr ⟨lw_p6, List.forall_mem_cons.mpr ⟨lw_p7, List.forall_mem_cons.mpr ⟨lw_p8, List.forall_mem_cons.mpr ⟨lw_p9, List.forall_mem_cons.mpr ⟨lw_p10, List.forall_mem_cons.mpr ⟨lw_p11, List.forall_mem_cons.mpr ⟨lw_p12, List.forall_mem_cons.mpr ⟨lw_p13, List.forall_mem_cons.mpr ⟨lw_p14, List.forall_mem_cons.mpr ⟨lw_p15, fun _ h => absurd h List.not_mem_nil⟩⟩⟩⟩⟩⟩⟩⟩⟩⟩⟩⟩⟩⟩⟩⟩
theorem lw_p16 : lw_okq (⟨"VelvetHand", "wouldLeave", "(II)Z"⟩, 11) := ⟨⟨by decide +kernel, by decide +kernel⟩, List.mem_of_getElem? (i := 11) (by decide +kernel), List.mem_of_getElem? (i := 368) (by decide +kernel), List.mem_of_getElem? (i := 369) (by decide +kernel)⟩
theorem lw_p17 : lw_okq (⟨"VelvetHand", "countShake", "(I)V"⟩, 11) := ⟨⟨by decide +kernel, by decide +kernel⟩, List.mem_of_getElem? (i := 11) (by decide +kernel), List.mem_of_getElem? (i := 372) (by decide +kernel), List.mem_of_getElem? (i := 373) (by decide +kernel)⟩
theorem lw_p18 : lw_okq (⟨"VelvetHand", "mayBeWon", "(I)Z"⟩, 11) := ⟨⟨by decide +kernel, by decide +kernel⟩, List.mem_of_getElem? (i := 11) (by decide +kernel), List.mem_of_getElem? (i := 404) (by decide +kernel), List.mem_of_getElem? (i := 405) (by decide +kernel)⟩
theorem lw_p19 : lw_okq (⟨"VelvetHand", "reckonWay", "(I)I"⟩, 11) := ⟨⟨by decide +kernel, by decide +kernel⟩, List.mem_of_getElem? (i := 11) (by decide +kernel), List.mem_of_getElem? (i := 408) (by decide +kernel), List.mem_of_getElem? (i := 409) (by decide +kernel)⟩
theorem lw_p20 : lw_okq (⟨"VelvetHand", "fewestBehind", "(III)I"⟩, 11) := ⟨⟨by decide +kernel, by decide +kernel⟩, List.mem_of_getElem? (i := 11) (by decide +kernel), List.mem_of_getElem? (i := 415) (by decide +kernel), List.mem_of_getElem? (i := 416) (by decide +kernel)⟩
theorem lw_p21 : lw_okq (⟨"VelvetHand", "fewestNext", "(III)I"⟩, 11) := ⟨⟨by decide +kernel, by decide +kernel⟩, List.mem_of_getElem? (i := 11) (by decide +kernel), List.mem_of_getElem? (i := 419) (by decide +kernel), List.mem_of_getElem? (i := 420) (by decide +kernel)⟩
theorem lw_p22 : lw_okq (⟨"VelvetHand", "turnOfWay", "(I)I"⟩, 11) := ⟨⟨by decide +kernel, by decide +kernel⟩, List.mem_of_getElem? (i := 11) (by decide +kernel), List.mem_of_getElem? (i := 423) (by decide +kernel), List.mem_of_getElem? (i := 424) (by decide +kernel)⟩
theorem lw_p23 : lw_okq (⟨"VelvetHand", "measureWays", "()V"⟩, 11) := ⟨⟨by decide +kernel, by decide +kernel⟩, List.mem_of_getElem? (i := 11) (by decide +kernel), List.mem_of_getElem? (i := 431) (by decide +kernel), List.mem_of_getElem? (i := 432) (by decide +kernel)⟩
theorem lw_p24 : lw_okq (⟨"VelvetHand", "lengthOfWays", "(I)I"⟩, 11) := ⟨⟨by decide +kernel, by decide +kernel⟩, List.mem_of_getElem? (i := 11) (by decide +kernel), List.mem_of_getElem? (i := 435) (by decide +kernel), List.mem_of_getElem? (i := 436) (by decide +kernel)⟩
theorem lw_p25 : lw_okq (⟨"VelvetHand", "bringsJust", "(IIII)Z"⟩, 11) := ⟨⟨by decide +kernel, by decide +kernel⟩, List.mem_of_getElem? (i := 11) (by decide +kernel), List.mem_of_getElem? (i := 443) (by decide +kernel), List.mem_of_getElem? (i := 444) (by decide +kernel)⟩
theorem lw_p26 : lw_okq (⟨"VelvetHand", "tryPlain", "(IIII)I"⟩, 11) := ⟨⟨by decide +kernel, by decide +kernel⟩, List.mem_of_getElem? (i := 11) (by decide +kernel), List.mem_of_getElem? (i := 447) (by decide +kernel), List.mem_of_getElem? (i := 448) (by decide +kernel)⟩
theorem lw_p27 : lw_okq (⟨"VelvetHand", "yieldingVelvets", "(II)I"⟩, 11) := ⟨⟨by decide +kernel, by decide +kernel⟩, List.mem_of_getElem? (i := 11) (by decide +kernel), List.mem_of_getElem? (i := 488) (by decide +kernel), List.mem_of_getElem? (i := 489) (by decide +kernel)⟩
theorem lw_p28 : lw_okq (⟨"VelvetHand", "rateCaller", "(I)I"⟩, 11) := ⟨⟨by decide +kernel, by decide +kernel⟩, List.mem_of_getElem? (i := 11) (by decide +kernel), List.mem_of_getElem? (i := 505) (by decide +kernel), List.mem_of_getElem? (i := 506) (by decide +kernel)⟩
theorem lw_p29 : lw_okq (⟨"VelvetHand", "rateCount", "(I)I"⟩, 11) := ⟨⟨by decide +kernel, by decide +kernel⟩, List.mem_of_getElem? (i := 11) (by decide +kernel), List.mem_of_getElem? (i := 509) (by decide +kernel), List.mem_of_getElem? (i := 510) (by decide +kernel)⟩
theorem lw_p30 : lw_okq (⟨"VelvetHand", "rateCharge", "(I)I"⟩, 11) := ⟨⟨by decide +kernel, by decide +kernel⟩, List.mem_of_getElem? (i := 11) (by decide +kernel), List.mem_of_getElem? (i := 514) (by decide +kernel), List.mem_of_getElem? (i := 515) (by decide +kernel)⟩
theorem lw_p31 : lw_okq (⟨"VelvetHand", "rateNuncio", "(I)I"⟩, 11) := ⟨⟨by decide +kernel, by decide +kernel⟩, List.mem_of_getElem? (i := 11) (by decide +kernel), List.mem_of_getElem? (i := 519) (by decide +kernel), List.mem_of_getElem? (i := 520) (by decide +kernel)⟩
def lw_privs_2 : List (MethodName × Nat) := [(⟨"VelvetHand", "wouldLeave", "(II)Z"⟩, 11), (⟨"VelvetHand", "countShake", "(I)V"⟩, 11), (⟨"VelvetHand", "mayBeWon", "(I)Z"⟩, 11), (⟨"VelvetHand", "reckonWay", "(I)I"⟩, 11), (⟨"VelvetHand", "fewestBehind", "(III)I"⟩, 11), (⟨"VelvetHand", "fewestNext", "(III)I"⟩, 11), (⟨"VelvetHand", "turnOfWay", "(I)I"⟩, 11), (⟨"VelvetHand", "measureWays", "()V"⟩, 11), (⟨"VelvetHand", "lengthOfWays", "(I)I"⟩, 11), (⟨"VelvetHand", "bringsJust", "(IIII)Z"⟩, 11), (⟨"VelvetHand", "tryPlain", "(IIII)I"⟩, 11), (⟨"VelvetHand", "yieldingVelvets", "(II)I"⟩, 11), (⟨"VelvetHand", "rateCaller", "(I)I"⟩, 11), (⟨"VelvetHand", "rateCount", "(I)I"⟩, 11), (⟨"VelvetHand", "rateCharge", "(I)I"⟩, 11), (⟨"VelvetHand", "rateNuncio", "(I)I"⟩, 11)]
theorem lw_r2 : ∀ q ∈ lw_privs_2, lw_okq q := List.forall_mem_cons.mpr ⟨lw_p16, List.forall_mem_cons.mpr ⟨lw_p17, List.forall_mem_cons.mpr ⟨lw_p18, List.forall_mem_cons.mpr ⟨lw_p19, List.forall_mem_cons.mpr ⟨lw_p20, List.forall_mem_cons.mpr ⟨lw_p21, List.forall_mem_cons.mpr ⟨lw_p22, List.forall_mem_cons.mpr ⟨lw_p23, List.forall_mem_cons.mpr ⟨lw_p24, List.forall_mem_cons.mpr ⟨lw_p25, List.forall_mem_cons.mpr ⟨lw_p26, List.forall_mem_cons.mpr ⟨lw_p27, List.forall_mem_cons.mpr ⟨lw_p28, List.forall_mem_cons.mpr ⟨lw_p29, List.forall_mem_cons.mpr ⟨lw_p30, List.forall_mem_cons.mpr ⟨lw_p31, fun _ h => absurd h List.not_mem_nil⟩⟩⟩⟩⟩⟩⟩⟩⟩⟩⟩⟩⟩⟩⟩⟩
theorem lw_p32 : lw_okq (⟨"VelvetHand", "rateEnvoy", "(I)I"⟩, 11) := ⟨⟨by decide +kernel, by decide +kernel⟩, List.mem_of_getElem? (i := 11) (by decide +kernel), List.mem_of_getElem? (i := 524) (by decide +kernel), List.mem_of_getElem? (i := 525) (by decide +kernel)⟩
theorem lw_p33 : lw_okq (⟨"VelvetHand", "rateNun", "(I)I"⟩, 11) := ⟨⟨by decide +kernel, by decide +kernel⟩, List.mem_of_getElem? (i := 11) (by decide +kernel), List.mem_of_getElem? (i := 529) (by decide +kernel), List.mem_of_getElem? (i := 530) (by decide +kernel)⟩
theorem lw_p34 : lw_okq (⟨"VelvetHandModel", "begins", "()V"⟩, 27) := ⟨⟨by decide +kernel, by decide +kernel⟩, List.mem_of_getElem? (i := 552) (by decide +kernel), List.mem_of_getElem? (i := 558) (by decide +kernel), List.mem_of_getElem? (i := 559) (by decide +kernel)⟩
theorem lw_p35 : lw_okq (⟨"VelvetHandModel", "settles", "()V"⟩, 27) := ⟨⟨by decide +kernel, by decide +kernel⟩, List.mem_of_getElem? (i := 552) (by decide +kernel), List.mem_of_getElem? (i := 562) (by decide +kernel), List.mem_of_getElem? (i := 563) (by decide +kernel)⟩
theorem lw_p36 : lw_okq (⟨"VelvetHandModel", "advances", "()V"⟩, 27) := ⟨⟨by decide +kernel, by decide +kernel⟩, List.mem_of_getElem? (i := 552) (by decide +kernel), List.mem_of_getElem? (i := 664) (by decide +kernel), List.mem_of_getElem? (i := 665) (by decide +kernel)⟩
theorem lw_p37 : lw_okq (⟨"VelvetHandModel", "letterAt", "(I)I"⟩, 27) := ⟨⟨by decide +kernel, by decide +kernel⟩, List.mem_of_getElem? (i := 552) (by decide +kernel), List.mem_of_getElem? (i := 668) (by decide +kernel), List.mem_of_getElem? (i := 669) (by decide +kernel)⟩
theorem lw_p38 : lw_okq (⟨"VelvetHandModel", "isWell", "()Z"⟩, 27) := ⟨⟨by decide +kernel, by decide +kernel⟩, List.mem_of_getElem? (i := 552) (by decide +kernel), List.mem_of_getElem? (i := 675) (by decide +kernel), List.mem_of_getElem? (i := 676) (by decide +kernel)⟩
theorem lw_p39 : lw_okq (⟨"VelvetHandModel", "mayBegin", "()Z"⟩, 27) := ⟨⟨by decide +kernel, by decide +kernel⟩, List.mem_of_getElem? (i := 552) (by decide +kernel), List.mem_of_getElem? (i := 679) (by decide +kernel), List.mem_of_getElem? (i := 680) (by decide +kernel)⟩
theorem lw_p40 : lw_okq (⟨"VelvetHandModel", "takes", "(Z)I"⟩, 27) := ⟨⟨by decide +kernel, by decide +kernel⟩, List.mem_of_getElem? (i := 552) (by decide +kernel), List.mem_of_getElem? (i := 686) (by decide +kernel), List.mem_of_getElem? (i := 687) (by decide +kernel)⟩
theorem lw_p41 : lw_okq (⟨"VelvetHandModel", "readsItem", "(I)V"⟩, 27) := ⟨⟨by decide +kernel, by decide +kernel⟩, List.mem_of_getElem? (i := 552) (by decide +kernel), List.mem_of_getElem? (i := 690) (by decide +kernel), List.mem_of_getElem? (i := 691) (by decide +kernel)⟩
theorem lw_p42 : lw_okq (⟨"VelvetHandModel", "number", "(II)I"⟩, 27) := ⟨⟨by decide +kernel, by decide +kernel⟩, List.mem_of_getElem? (i := 552) (by decide +kernel), List.mem_of_getElem? (i := 694) (by decide +kernel), List.mem_of_getElem? (i := 695) (by decide +kernel)⟩
theorem lw_p43 : lw_okq (⟨"VelvetHandModel", "isCaller", "(I)Z"⟩, 27) := ⟨⟨by decide +kernel, by decide +kernel⟩, List.mem_of_getElem? (i := 552) (by decide +kernel), List.mem_of_getElem? (i := 702) (by decide +kernel), List.mem_of_getElem? (i := 703) (by decide +kernel)⟩
theorem lw_p44 : lw_okq (⟨"VelvetHandModel", "ringOf", "(I)I"⟩, 27) := ⟨⟨by decide +kernel, by decide +kernel⟩, List.mem_of_getElem? (i := 552) (by decide +kernel), List.mem_of_getElem? (i := 706) (by decide +kernel), List.mem_of_getElem? (i := 707) (by decide +kernel)⟩
theorem lw_p45 : lw_okq (⟨"VelvetHandModel", "landOf", "(I)I"⟩, 27) := ⟨⟨by decide +kernel, by decide +kernel⟩, List.mem_of_getElem? (i := 552) (by decide +kernel), List.mem_of_getElem? (i := 714) (by decide +kernel), List.mem_of_getElem? (i := 715) (by decide +kernel)⟩
theorem lw_p46 : lw_okq (⟨"VelvetHandModel", "traded", "()I"⟩, 27) := ⟨⟨by decide +kernel, by decide +kernel⟩, List.mem_of_getElem? (i := 552) (by decide +kernel), List.mem_of_getElem? (i := 721) (by decide +kernel), List.mem_of_getElem? (i := 722) (by decide +kernel)⟩
theorem lw_p47 : lw_okq (⟨"VelvetHandModel", "notes", "()V"⟩, 27) := ⟨⟨by decide +kernel, by decide +kernel⟩, List.mem_of_getElem? (i := 552) (by decide +kernel), List.mem_of_getElem? (i := 729) (by decide +kernel), List.mem_of_getElem? (i := 730) (by decide +kernel)⟩
def lw_privs_3 : List (MethodName × Nat) := [(⟨"VelvetHand", "rateEnvoy", "(I)I"⟩, 11), (⟨"VelvetHand", "rateNun", "(I)I"⟩, 11), (⟨"VelvetHandModel", "begins", "()V"⟩, 27), (⟨"VelvetHandModel", "settles", "()V"⟩, 27), (⟨"VelvetHandModel", "advances", "()V"⟩, 27), (⟨"VelvetHandModel", "letterAt", "(I)I"⟩, 27), (⟨"VelvetHandModel", "isWell", "()Z"⟩, 27), (⟨"VelvetHandModel", "mayBegin", "()Z"⟩, 27), (⟨"VelvetHandModel", "takes", "(Z)I"⟩, 27), (⟨"VelvetHandModel", "readsItem", "(I)V"⟩, 27), (⟨"VelvetHandModel", "number", "(II)I"⟩, 27), (⟨"VelvetHandModel", "isCaller", "(I)Z"⟩, 27), (⟨"VelvetHandModel", "ringOf", "(I)I"⟩, 27), (⟨"VelvetHandModel", "landOf", "(I)I"⟩, 27), (⟨"VelvetHandModel", "traded", "()I"⟩, 27), (⟨"VelvetHandModel", "notes", "()V"⟩, 27)]
theorem lw_r3 : ∀ q ∈ lw_privs_3, lw_okq q := List.forall_mem_cons.mpr ⟨lw_p32, List.forall_mem_cons.mpr ⟨lw_p33, List.forall_mem_cons.mpr ⟨lw_p34, List.forall_mem_cons.mpr ⟨lw_p35, List.forall_mem_cons.mpr ⟨lw_p36, List.forall_mem_cons.mpr ⟨lw_p37, List.forall_mem_cons.mpr ⟨lw_p38, List.forall_mem_cons.mpr ⟨lw_p39, List.forall_mem_cons.mpr ⟨lw_p40, List.forall_mem_cons.mpr ⟨lw_p41, List.forall_mem_cons.mpr ⟨lw_p42, List.forall_mem_cons.mpr ⟨lw_p43, List.forall_mem_cons.mpr ⟨lw_p44, List.forall_mem_cons.mpr ⟨lw_p45, List.forall_mem_cons.mpr ⟨lw_p46, List.forall_mem_cons.mpr ⟨lw_p47, fun _ h => absurd h List.not_mem_nil⟩⟩⟩⟩⟩⟩⟩⟩⟩⟩⟩⟩⟩⟩⟩⟩
theorem lw_p48 : lw_okq (⟨"VelvetHandModel", "aside", "(I)V"⟩, 27) := ⟨⟨by decide +kernel, by decide +kernel⟩, List.mem_of_getElem? (i := 552) (by decide +kernel), List.mem_of_getElem? (i := 733) (by decide +kernel), List.mem_of_getElem? (i := 734) (by decide +kernel)⟩
theorem lw_p49 : lw_okq (⟨"VelvetHandModel", "shake", "(IIII)I"⟩, 27) := ⟨⟨by decide +kernel, by decide +kernel⟩, List.mem_of_getElem? (i := 552) (by decide +kernel), List.mem_of_getElem? (i := 737) (by decide +kernel), List.mem_of_getElem? (i := 738) (by decide +kernel)⟩
theorem lw_p50 : lw_okq (⟨"VelvetHandModel", "isGone", "(I)Z"⟩, 27) := ⟨⟨by decide +kernel, by decide +kernel⟩, List.mem_of_getElem? (i := 552) (by decide +kernel), List.mem_of_getElem? (i := 765) (by decide +kernel), List.mem_of_getElem? (i := 766) (by decide +kernel)⟩
theorem lw_p51 : lw_okq (⟨"VelvetHandModel", "wayBy", "(I)I"⟩, 27) := ⟨⟨by decide +kernel, by decide +kernel⟩, List.mem_of_getElem? (i := 552) (by decide +kernel), List.mem_of_getElem? (i := 769) (by decide +kernel), List.mem_of_getElem? (i := 770) (by decide +kernel)⟩
theorem lw_p52 : lw_okq (⟨"VelvetHandModel", "yieldsBy", "(III)Z"⟩, 27) := ⟨⟨by decide +kernel, by decide +kernel⟩, List.mem_of_getElem? (i := 552) (by decide +kernel), List.mem_of_getElem? (i := 773) (by decide +kernel), List.mem_of_getElem? (i := 774) (by decide +kernel)⟩
theorem lw_p53 : lw_okq (⟨"VelvetHandModel", "shakesFor", "(I)I"⟩, 27) := ⟨⟨by decide +kernel, by decide +kernel⟩, List.mem_of_getElem? (i := 552) (by decide +kernel), List.mem_of_getElem? (i := 782) (by decide +kernel), List.mem_of_getElem? (i := 783) (by decide +kernel)⟩
theorem lw_p54 : lw_okq (⟨"VelvetHandModel", "comesOf", "(IIII)I"⟩, 27) := ⟨⟨by decide +kernel, by decide +kernel⟩, List.mem_of_getElem? (i := 552) (by decide +kernel), List.mem_of_getElem? (i := 790) (by decide +kernel), List.mem_of_getElem? (i := 791) (by decide +kernel)⟩
theorem lw_p55 : lw_okq (⟨"VelvetHandModel", "softOnes", "()I"⟩, 27) := ⟨⟨by decide +kernel, by decide +kernel⟩, List.mem_of_getElem? (i := 552) (by decide +kernel), List.mem_of_getElem? (i := 819) (by decide +kernel), List.mem_of_getElem? (i := 820) (by decide +kernel)⟩
def lw_privs_4 : List (MethodName × Nat) := [(⟨"VelvetHandModel", "aside", "(I)V"⟩, 27), (⟨"VelvetHandModel", "shake", "(IIII)I"⟩, 27), (⟨"VelvetHandModel", "isGone", "(I)Z"⟩, 27), (⟨"VelvetHandModel", "wayBy", "(I)I"⟩, 27), (⟨"VelvetHandModel", "yieldsBy", "(III)Z"⟩, 27), (⟨"VelvetHandModel", "shakesFor", "(I)I"⟩, 27), (⟨"VelvetHandModel", "comesOf", "(IIII)I"⟩, 27), (⟨"VelvetHandModel", "softOnes", "()I"⟩, 27)]
theorem lw_r4 : ∀ q ∈ lw_privs_4, lw_okq q := List.forall_mem_cons.mpr ⟨lw_p48, List.forall_mem_cons.mpr ⟨lw_p49, List.forall_mem_cons.mpr ⟨lw_p50, List.forall_mem_cons.mpr ⟨lw_p51, List.forall_mem_cons.mpr ⟨lw_p52, List.forall_mem_cons.mpr ⟨lw_p53, List.forall_mem_cons.mpr ⟨lw_p54, List.forall_mem_cons.mpr ⟨lw_p55, fun _ h => absurd h List.not_mem_nil⟩⟩⟩⟩⟩⟩⟩⟩
def lw_privs : List (MethodName × Nat) := lw_privs_1 ++ (lw_privs_2 ++ (lw_privs_3 ++ (lw_privs_4)))
def lw_tbl : List Cond := k2_sels lw_privs ++ tables_1
theorem lw_privs_ok : ∀ q ∈ lw_privs, lw_okq q := by
  show ∀ q ∈ lw_privs_1 ++ (lw_privs_2 ++ (lw_privs_3 ++ (lw_privs_4))), lw_okq q
  exact List.forall_mem_append.mpr ⟨lw_r1, List.forall_mem_append.mpr ⟨lw_r2, List.forall_mem_append.mpr ⟨lw_r3, lw_r4⟩⟩⟩

def RX0 : String := "VelvetHand$Hearsay"
def TX0 : u_T := fun k => match k with
  | 0 => ("VelvetHand$Hearsay", "who", "[I", true)
  | 1 => ("VelvetHand$Hearsay", "times", "[I", true)
  | 2 => ("VelvetHand$Hearsay", "yielded", "[I", true)
  | _ => ("VelvetHand$Hearsay", "size", "I", false)
def tyX0 : Nat → FieldType := fun k => match k with
  | 0 => .array .int
  | 1 => .array .int
  | 2 => .array .int
  | _ => .int
abbrev wsX00 : List Cond := u_ws RX0 TX0 4
theorem nmX0 : ∀ a, a < 4 → ∀ b, b < 4 → a ≠ b → (TX0 a).2.1 ≠ (TX0 b).2.1 := by decide +kernel
theorem tyX0_ok : ∀ k, k < 4 → parseFieldDescriptor (TX0 k).2.2.1 = some (tyX0 k) := by decide +kernel
abbrev cX0_init : ByteArray := prog_2_method_1_code
def yX0_init : MethodName := ⟨RX0, "<init>", "()V"⟩
abbrev cX0_add : ByteArray := prog_2_method_2_code
def yX0_add : MethodName := ⟨RX0, "add", "(III)Z"⟩
def RX1 : String := "VelvetHand$Moment"
def TX1 : u_T := fun k => match k with
  | 0 => ("VelvetHand$Moment", "bruised", "[I", true)
  | 1 => ("VelvetHand$Moment", "warm", "[I", true)
  | 2 => ("VelvetHand$Moment", "yielded", "I", false)
  | 3 => ("VelvetHand$Moment", "left", "I", false)
  | 4 => ("VelvetHand$Moment", "shaken", "I", false)
  | 5 => ("VelvetHand$Moment", "hurt", "I", false)
  | 6 => ("VelvetHand$Moment", "velvet", "I", false)
  | _ => ("VelvetHand$Moment", "shutOn", "I", false)
def tyX1 : Nat → FieldType := fun k => match k with
  | 0 => .array .int
  | 1 => .array .int
  | 2 => .int
  | 3 => .int
  | 4 => .int
  | 5 => .int
  | 6 => .int
  | _ => .int
abbrev wsX10 : List Cond := u_ws RX1 TX1 8
theorem nmX1 : ∀ a, a < 8 → ∀ b, b < 8 → a ≠ b → (TX1 a).2.1 ≠ (TX1 b).2.1 := by decide +kernel
theorem tyX1_ok : ∀ k, k < 8 → parseFieldDescriptor (TX1 k).2.2.1 = some (tyX1 k) := by decide +kernel
abbrev cX1_init : ByteArray := prog_3_method_1_code
def yX1_init : MethodName := ⟨RX1, "<init>", "()V"⟩
abbrev cX1_begin : ByteArray := prog_3_method_2_code
def yX1_begin : MethodName := ⟨RX1, "begin", "(I)V"⟩
abbrev cX1_become : ByteArray := prog_3_method_3_code
def yX1_become : MethodName := ⟨RX1, "become", "(LVelvetHand$Moment;)V"⟩
def RX2 : String := "VelvetHand$Past"
def TX2 : u_T := fun k => match k with
  | 0 => ("VelvetHand$Past", "rows", "[LVelvetHand$Moment;", true)
  | 1 => ("VelvetHand$Past", "next", "I", false)
  | _ => ("VelvetHand$Past", "known", "I", false)
def tyX2 : Nat → FieldType := fun k => match k with
  | 0 => .array (.object "VelvetHand$Moment")
  | 1 => .int
  | _ => .int
abbrev wsX20 : List Cond := u_ws RX2 TX2 3
theorem nmX2 : ∀ a, a < 3 → ∀ b, b < 3 → a ≠ b → (TX2 a).2.1 ≠ (TX2 b).2.1 := by decide +kernel
theorem tyX2_ok : ∀ k, k < 3 → parseFieldDescriptor (TX2 k).2.2.1 = some (tyX2 k) := by decide +kernel
abbrev cX2_init : ByteArray := prog_4_method_1_code
def yX2_init : MethodName := ⟨RX2, "<init>", "()V"⟩
abbrev cX2_remember : ByteArray := prog_4_method_2_code
def yX2_remember : MethodName := ⟨RX2, "remember", "(LVelvetHand$Moment;)V"⟩
abbrev cX2_recall : ByteArray := prog_4_method_3_code
def yX2_recall : MethodName := ⟨RX2, "recall", "(LVelvetHand$Moment;)V"⟩
def RX3 : String := "VelvetHand$Setting"
def TX3 : u_T := fun k => match k with
  | 0 => ("VelvetHand$Setting", "grip", "I", false)
  | 1 => ("VelvetHand$Setting", "velvet", "I", false)
  | 2 => ("VelvetHand$Setting", "spring", "I", false)
  | 3 => ("VelvetHand$Setting", "callers", "I", false)
  | 4 => ("VelvetHand$Setting", "pride", "[I", true)
  | 5 => ("VelvetHand$Setting", "heart", "[I", true)
  | 6 => ("VelvetHand$Setting", "land", "[I", true)
  | _ => ("VelvetHand$Setting", "wants", "[I", true)
def tyX3 : Nat → FieldType := fun k => match k with
  | 0 => .int
  | 1 => .int
  | 2 => .int
  | 3 => .int
  | 4 => .array .int
  | 5 => .array .int
  | 6 => .array .int
  | _ => .array .int
abbrev wsX30 : List Cond := u_ws RX3 TX3 8
theorem nmX3 : ∀ a, a < 8 → ∀ b, b < 8 → a ≠ b → (TX3 a).2.1 ≠ (TX3 b).2.1 := by decide +kernel
theorem tyX3_ok : ∀ k, k < 8 → parseFieldDescriptor (TX3 k).2.2.1 = some (tyX3 k) := by decide +kernel
abbrev cX3_init : ByteArray := prog_5_method_1_code
def yX3_init : MethodName := ⟨RX3, "<init>", "()V"⟩
abbrev cX3_begin : ByteArray := prog_5_method_2_code
def yX3_begin : MethodName := ⟨RX3, "begin", "()V"⟩
abbrev cX3_tellCaller : ByteArray := prog_5_method_3_code
def yX3_tellCaller : MethodName := ⟨RX3, "tellCaller", "(II)V"⟩
def RX4 : String := "VelvetHand$Text"
def TX4 : u_T := fun k => match k with
  | 0 => ("VelvetHand$Text", "letters", "[I", true)
  | 1 => ("VelvetHand$Text", "length", "I", false)
  | 2 => ("VelvetHand$Text", "place", "I", false)
  | 3 => ("VelvetHand$Text", "token", "I", false)
  | 4 => ("VelvetHand$Text", "tokenPlace", "I", false)
  | 5 => ("VelvetHand$Text", "number", "I", false)
  | 6 => ("VelvetHand$Text", "item", "I", false)
  | 7 => ("VelvetHand$Text", "numbers", "I", false)
  | 8 => ("VelvetHand$Text", "gripTold", "Z", false)
  | 9 => ("VelvetHand$Text", "velvetTold", "Z", false)
  | _ => ("VelvetHand$Text", "springTold", "Z", false)
def tyX4 : Nat → FieldType := fun k => match k with
  | 0 => .array .int
  | 1 => .int
  | 2 => .int
  | 3 => .int
  | 4 => .int
  | 5 => .int
  | 6 => .int
  | 7 => .int
  | 8 => .boolean
  | 9 => .boolean
  | _ => .boolean
abbrev wsX40 : List Cond := u_ws RX4 TX4 11
theorem nmX4 : ∀ a, a < 11 → ∀ b, b < 11 → a ≠ b → (TX4 a).2.1 ≠ (TX4 b).2.1 := by decide +kernel
theorem tyX4_ok : ∀ k, k < 11 → parseFieldDescriptor (TX4 k).2.2.1 = some (tyX4 k) := by decide +kernel
abbrev cX4_init : ByteArray := prog_6_method_1_code
def yX4_init : MethodName := ⟨RX4, "<init>", "()V"⟩
abbrev cX4_add : ByteArray := prog_6_method_2_code
def yX4_add : MethodName := ⟨RX4, "add", "(I)Z"⟩
abbrev cX4_empty : ByteArray := prog_6_method_3_code
def yX4_empty : MethodName := ⟨RX4, "empty", "()I"⟩
abbrev cX4_tell : ByteArray := prog_6_method_4_code
def yX4_tell : MethodName := ⟨RX4, "tell", "(LVelvetHand$Setting;)I"⟩
abbrev cX4_begin : ByteArray := prog_6_method_5_code
def yX4_begin : MethodName := ⟨RX4, "begin", "()V"⟩
abbrev cX4_takeToken : ByteArray := prog_6_method_6_code
def yX4_takeToken : MethodName := ⟨RX4, "takeToken", "(LVelvetHand$Setting;)Z"⟩
abbrev cX4_takeLetter : ByteArray := prog_6_method_7_code
def yX4_takeLetter : MethodName := ⟨RX4, "takeLetter", "(LVelvetHand$Setting;)Z"⟩
abbrev cX4_takeNumber : ByteArray := prog_6_method_8_code
def yX4_takeNumber : MethodName := ⟨RX4, "takeNumber", "(LVelvetHand$Setting;)Z"⟩
abbrev cX4_leastNumber : ByteArray := prog_6_method_9_code
def yX4_leastNumber : MethodName := ⟨RX4, "leastNumber", "()I"⟩
abbrev cX4_mostNumber : ByteArray := prog_6_method_10_code
def yX4_mostNumber : MethodName := ⟨RX4, "mostNumber", "()I"⟩
abbrev cX4_readToken : ByteArray := prog_6_method_11_code
def yX4_readToken : MethodName := ⟨RX4, "readToken", "()V"⟩
abbrev cX4_readNumber : ByteArray := prog_6_method_12_code
def yX4_readNumber : MethodName := ⟨RX4, "readNumber", "()V"⟩
abbrev cX4_isDigit : ByteArray := prog_6_method_13_code
def yX4_isDigit : MethodName := ⟨RX4, "isDigit", "(I)Z"⟩
def RX5 : String := "VelvetHand"
def TX5 : u_T := fun k => match k with
  | 0 => ("VelvetHand", "setting", "LVelvetHand$Setting;", false)
  | 1 => ("VelvetHand", "spare", "LVelvetHand$Setting;", false)
  | 2 => ("VelvetHand", "text", "LVelvetHand$Text;", true)
  | 3 => ("VelvetHand", "moment", "LVelvetHand$Moment;", true)
  | 4 => ("VelvetHand", "past", "LVelvetHand$Past;", true)
  | 5 => ("VelvetHand", "images", "[LVelvetHand$Moment;", true)
  | 6 => ("VelvetHand", "kept", "I", false)
  | 7 => ("VelvetHand", "hearsay", "LVelvetHand$Hearsay;", true)
  | 8 => ("VelvetHand", "wayLengths", "[I", true)
  | 9 => ("VelvetHand", "fewest", "[I", true)
  | _ => ("VelvetHand", "asked", "J", false)
def tyX5 : Nat → FieldType := fun k => match k with
  | 0 => .object "VelvetHand$Setting"
  | 1 => .object "VelvetHand$Setting"
  | 2 => .object "VelvetHand$Text"
  | 3 => .object "VelvetHand$Moment"
  | 4 => .object "VelvetHand$Past"
  | 5 => .array (.object "VelvetHand$Moment")
  | 6 => .int
  | 7 => .object "VelvetHand$Hearsay"
  | 8 => .array .int
  | 9 => .array .int
  | _ => .long
abbrev wsX50 : List Cond := u_ws RX5 TX5 11
theorem nmX5 : ∀ a, a < 11 → ∀ b, b < 11 → a ≠ b → (TX5 a).2.1 ≠ (TX5 b).2.1 := by decide +kernel
theorem tyX5_ok : ∀ k, k < 11 → parseFieldDescriptor (TX5 k).2.2.1 = some (tyX5 k) := by decide +kernel
abbrev cX5_init : ByteArray := prog_1_method_1_code
def yX5_init : MethodName := ⟨RX5, "<init>", "()V"⟩
abbrev cX5_type : ByteArray := prog_1_method_2_code
def yX5_type : MethodName := ⟨RX5, "type", "(I)I"⟩
abbrev cX5_clear : ByteArray := prog_1_method_3_code
def yX5_clear : MethodName := ⟨RX5, "clear", "()I"⟩
abbrev cX5_embassy : ByteArray := prog_1_method_4_code
def yX5_embassy : MethodName := ⟨RX5, "embassy", "()I"⟩
abbrev cX5_caller : ByteArray := prog_1_method_5_code
def yX5_caller : MethodName := ⟨RX5, "caller", "(II)I"⟩
abbrev cX5_now : ByteArray := prog_1_method_6_code
def yX5_now : MethodName := ⟨RX5, "now", "(I)I"⟩
abbrev cX5_isCaller : ByteArray := prog_1_method_7_code
def yX5_isCaller : MethodName := ⟨RX5, "isCaller", "(I)Z"⟩
abbrev cX5_landOf : ByteArray := prog_1_method_8_code
def yX5_landOf : MethodName := ⟨RX5, "landOf", "(I)I"⟩
abbrev cX5_ringOf : ByteArray := prog_1_method_9_code
def yX5_ringOf : MethodName := ⟨RX5, "ringOf", "(I)I"⟩
abbrev cX5_traded : ByteArray := prog_1_method_10_code
def yX5_traded : MethodName := ⟨RX5, "traded", "()I"⟩
abbrev cX5_shakes : ByteArray := prog_1_method_11_code
def yX5_shakes : MethodName := ⟨RX5, "shakes", "(II)I"⟩
abbrev cX5_opens : ByteArray := prog_1_method_12_code
def yX5_opens : MethodName := ⟨RX5, "opens", "()I"⟩
abbrev cX5_lines : ByteArray := prog_1_method_13_code
def yX5_lines : MethodName := ⟨RX5, "lines", "(I)I"⟩
abbrev cX5_winds : ByteArray := prog_1_method_14_code
def yX5_winds : MethodName := ⟨RX5, "winds", "()I"⟩
abbrev cX5_consoles : ByteArray := prog_1_method_15_code
def yX5_consoles : MethodName := ⟨RX5, "consoles", "(I)I"⟩
abbrev cX5_undo : ByteArray := prog_1_method_16_code
def yX5_undo : MethodName := ⟨RX5, "undo", "()I"⟩
abbrev cX5_bruise : ByteArray := prog_1_method_17_code
def yX5_bruise : MethodName := ⟨RX5, "bruise", "(I)I"⟩
abbrev cX5_warmth : ByteArray := prog_1_method_18_code
def yX5_warmth : MethodName := ⟨RX5, "warmth", "(I)I"⟩
abbrev cX5_decide : ByteArray := prog_1_method_19_code
def yX5_decide : MethodName := ⟨RX5, "decide", "(I)I"⟩
abbrev cX5_countShake : ByteArray := prog_1_method_20_code
def yX5_countShake : MethodName := ⟨RX5, "countShake", "(I)V"⟩
abbrev cX5_wouldYield : ByteArray := prog_1_method_21_code
def yX5_wouldYield : MethodName := ⟨RX5, "wouldYield", "(III)Z"⟩
abbrev cX5_wouldLeave : ByteArray := prog_1_method_22_code
def yX5_wouldLeave : MethodName := ⟨RX5, "wouldLeave", "(II)Z"⟩
abbrev cX5_way : ByteArray := prog_1_method_23_code
def yX5_way : MethodName := ⟨RX5, "way", "(II)I"⟩
abbrev cX5_gain : ByteArray := prog_1_method_24_code
def yX5_gain : MethodName := ⟨RX5, "gain", "(II)I"⟩
abbrev cX5_tune : ByteArray := prog_1_method_25_code
def yX5_tune : MethodName := ⟨RX5, "tune", "(II)I"⟩
abbrev cX5_odds : ByteArray := prog_1_method_26_code
def yX5_odds : MethodName := ⟨RX5, "odds", "(III)I"⟩
abbrev cX5_mayBeWon : ByteArray := prog_1_method_27_code
def yX5_mayBeWon : MethodName := ⟨RX5, "mayBeWon", "(I)Z"⟩
abbrev cX5_reckonWay : ByteArray := prog_1_method_28_code
def yX5_reckonWay : MethodName := ⟨RX5, "reckonWay", "(I)I"⟩
abbrev cX5_cell : ByteArray := prog_1_method_29_code
def yX5_cell : MethodName := ⟨RX5, "cell", "(II)I"⟩
abbrev cX5_fewestBehind : ByteArray := prog_1_method_30_code
def yX5_fewestBehind : MethodName := ⟨RX5, "fewestBehind", "(III)I"⟩
abbrev cX5_fewestNext : ByteArray := prog_1_method_31_code
def yX5_fewestNext : MethodName := ⟨RX5, "fewestNext", "(III)I"⟩
abbrev cX5_turnOfWay : ByteArray := prog_1_method_32_code
def yX5_turnOfWay : MethodName := ⟨RX5, "turnOfWay", "(I)I"⟩
abbrev cX5_measureWays : ByteArray := prog_1_method_33_code
def yX5_measureWays : MethodName := ⟨RX5, "measureWays", "()V"⟩
abbrev cX5_lengthOfWays : ByteArray := prog_1_method_34_code
def yX5_lengthOfWays : MethodName := ⟨RX5, "lengthOfWays", "(I)I"⟩
abbrev cX5_bringsJust : ByteArray := prog_1_method_35_code
def yX5_bringsJust : MethodName := ⟨RX5, "bringsJust", "(IIII)Z"⟩
abbrev cX5_tryPlain : ByteArray := prog_1_method_36_code
def yX5_tryPlain : MethodName := ⟨RX5, "tryPlain", "(IIII)I"⟩
abbrev cX5_waysToLeave : ByteArray := prog_1_method_37_code
def yX5_waysToLeave : MethodName := ⟨RX5, "waysToLeave", "(III)I"⟩
abbrev cX5_power : ByteArray := prog_1_method_38_code
def yX5_power : MethodName := ⟨RX5, "power", "(II)I"⟩
abbrev cX5_commonDivisor : ByteArray := prog_1_method_39_code
def yX5_commonDivisor : MethodName := ⟨RX5, "commonDivisor", "(II)I"⟩
abbrev cX5_tells : ByteArray := prog_1_method_40_code
def yX5_tells : MethodName := ⟨RX5, "tells", "(III)I"⟩
abbrev cX5_forget : ByteArray := prog_1_method_41_code
def yX5_forget : MethodName := ⟨RX5, "forget", "()I"⟩
abbrev cX5_soft : ByteArray := prog_1_method_42_code
def yX5_soft : MethodName := ⟨RX5, "soft", "()I"⟩
abbrev cX5_ask : ByteArray := prog_1_method_43_code
def yX5_ask : MethodName := ⟨RX5, "ask", "(I)I"⟩
abbrev cX5_yieldingVelvets : ByteArray := prog_1_method_44_code
def yX5_yieldingVelvets : MethodName := ⟨RX5, "yieldingVelvets", "(II)I"⟩
abbrev cX5_rate : ByteArray := prog_1_method_45_code
def yX5_rate : MethodName := ⟨RX5, "rate", "(II)I"⟩
abbrev cX5_keep : ByteArray := prog_1_method_46_code
def yX5_keep : MethodName := ⟨RX5, "keep", "(I)I"⟩
abbrev cX5_back : ByteArray := prog_1_method_47_code
def yX5_back : MethodName := ⟨RX5, "back", "(I)I"⟩
abbrev cX5_count : ByteArray := prog_1_method_48_code
def yX5_count : MethodName := ⟨RX5, "count", "(I)I"⟩
abbrev cX5_trace : ByteArray := prog_1_method_49_code
def yX5_trace : MethodName := ⟨RX5, "trace", "()J"⟩
abbrev cX5_rateCaller : ByteArray := prog_1_method_50_code
def yX5_rateCaller : MethodName := ⟨RX5, "rateCaller", "(I)I"⟩
abbrev cX5_rateCount : ByteArray := prog_1_method_51_code
def yX5_rateCount : MethodName := ⟨RX5, "rateCount", "(I)I"⟩
abbrev cX5_rateCharge : ByteArray := prog_1_method_52_code
def yX5_rateCharge : MethodName := ⟨RX5, "rateCharge", "(I)I"⟩
abbrev cX5_rateNuncio : ByteArray := prog_1_method_53_code
def yX5_rateNuncio : MethodName := ⟨RX5, "rateNuncio", "(I)I"⟩
abbrev cX5_rateEnvoy : ByteArray := prog_1_method_54_code
def yX5_rateEnvoy : MethodName := ⟨RX5, "rateEnvoy", "(I)I"⟩
abbrev cX5_rateNun : ByteArray := prog_1_method_55_code
def yX5_rateNun : MethodName := ⟨RX5, "rateNun", "(I)I"⟩
abbrev cX5_at : ByteArray := prog_1_method_56_code
def yX5_at : MethodName := ⟨RX5, "at", "([II)I"⟩
abbrev cX5_put : ByteArray := prog_1_method_57_code
def yX5_put : MethodName := ⟨RX5, "put", "([III)V"⟩
abbrev cX5_momentAt : ByteArray := prog_1_method_58_code
def yX5_momentAt : MethodName := ⟨RX5, "momentAt", "([LVelvetHand$Moment;I)LVelvetHand$Moment;"⟩
abbrev cX5_isIn : ByteArray := prog_1_method_59_code
def yX5_isIn : MethodName := ⟨RX5, "isIn", "(II)Z"⟩
abbrev cX5_isOneOrZero : ByteArray := prog_1_method_60_code
def yX5_isOneOrZero : MethodName := ⟨RX5, "isOneOrZero", "(I)Z"⟩
def RX6 : String := "VelvetHandModel"
def TX6 : u_T := fun k => match k with
  | 0 => ("VelvetHandModel", "thrown", "I", false)
  | 1 => ("VelvetHandModel", "trace", "J", false)
  | 2 => ("VelvetHandModel", "text", "[I", true)
  | 3 => ("VelvetHandModel", "typed", "I", false)
  | 4 => ("VelvetHandModel", "next", "I", false)
  | 5 => ("VelvetHandModel", "token", "I", false)
  | 6 => ("VelvetHandModel", "place", "I", false)
  | 7 => ("VelvetHandModel", "value", "I", false)
  | 8 => ("VelvetHandModel", "fault", "I", false)
  | 9 => ("VelvetHandModel", "told", "I", false)
  | 10 => ("VelvetHandModel", "many", "[I", true)
  | 11 => ("VelvetHandModel", "pride", "[I", true)
  | 12 => ("VelvetHandModel", "heart", "[I", true)
  | 13 => ("VelvetHandModel", "land", "[I", true)
  | 14 => ("VelvetHandModel", "wants", "[I", true)
  | 15 => ("VelvetHandModel", "s", "[I", true)
  | 16 => ("VelvetHandModel", "kept", "[I", true)
  | 17 => ("VelvetHandModel", "isKept", "[Z", true)
  | 18 => ("VelvetHandModel", "undos", "[I", true)
  | 19 => ("VelvetHandModel", "undoMany", "I", false)
  | 20 => ("VelvetHandModel", "toldOf", "[I", true)
  | 21 => ("VelvetHandModel", "toldTimes", "[I", true)
  | 22 => ("VelvetHandModel", "toldYield", "[I", true)
  | 23 => ("VelvetHandModel", "tellings", "I", false)
  | 24 => ("VelvetHandModel", "hard", "I", false)
  | 25 => ("VelvetHandModel", "warm", "I", false)
  | _ => ("VelvetHandModel", "wayOf", "[I", true)
def tyX6 : Nat → FieldType := fun k => match k with
  | 0 => .int
  | 1 => .long
  | 2 => .array .int
  | 3 => .int
  | 4 => .int
  | 5 => .int
  | 6 => .int
  | 7 => .int
  | 8 => .int
  | 9 => .int
  | 10 => .array .int
  | 11 => .array .int
  | 12 => .array .int
  | 13 => .array .int
  | 14 => .array .int
  | 15 => .array .int
  | 16 => .array .int
  | 17 => .array .boolean
  | 18 => .array .int
  | 19 => .int
  | 20 => .array .int
  | 21 => .array .int
  | 22 => .array .int
  | 23 => .int
  | 24 => .int
  | 25 => .int
  | _ => .array .int
abbrev wsX60 : List Cond := u_ws RX6 TX6 27
theorem nmX6 : ∀ a, a < 27 → ∀ b, b < 27 → a ≠ b → (TX6 a).2.1 ≠ (TX6 b).2.1 := by decide +kernel
theorem tyX6_ok : ∀ k, k < 27 → parseFieldDescriptor (TX6 k).2.2.1 = some (tyX6 k) := by decide +kernel
abbrev cX6_init : ByteArray := prog_8_method_1_code
def yX6_init : MethodName := ⟨RX6, "<init>", "()V"⟩
abbrev cX6_in : ByteArray := prog_8_method_3_code
def yX6_in : MethodName := ⟨RX6, "in", "(III)Z"⟩
abbrev cX6_has : ByteArray := prog_8_method_4_code
def yX6_has : MethodName := ⟨RX6, "has", "(II)Z"⟩
abbrev cX6_ones : ByteArray := prog_8_method_5_code
def yX6_ones : MethodName := ⟨RX6, "ones", "(I)I"⟩
abbrev cX6_type : ByteArray := prog_8_method_6_code
def yX6_type : MethodName := ⟨RX6, "type", "(I)I"⟩
abbrev cX6_clear : ByteArray := prog_8_method_7_code
def yX6_clear : MethodName := ⟨RX6, "clear", "()I"⟩
abbrev cX6_letterAt : ByteArray := prog_8_method_8_code
def yX6_letterAt : MethodName := ⟨RX6, "letterAt", "(I)I"⟩
abbrev cX6_isLetter : ByteArray := prog_8_method_9_code
def yX6_isLetter : MethodName := ⟨RX6, "isLetter", "(I)Z"⟩
abbrev cX6_advances : ByteArray := prog_8_method_10_code
def yX6_advances : MethodName := ⟨RX6, "advances", "()V"⟩
abbrev cX6_isWell : ByteArray := prog_8_method_11_code
def yX6_isWell : MethodName := ⟨RX6, "isWell", "()Z"⟩
abbrev cX6_takes : ByteArray := prog_8_method_12_code
def yX6_takes : MethodName := ⟨RX6, "takes", "(Z)I"⟩
abbrev cX6_number : ByteArray := prog_8_method_13_code
def yX6_number : MethodName := ⟨RX6, "number", "(II)I"⟩
abbrev cX6_begins : ByteArray := prog_8_method_14_code
def yX6_begins : MethodName := ⟨RX6, "begins", "()V"⟩
abbrev cX6_bitOf : ByteArray := prog_8_method_15_code
def yX6_bitOf : MethodName := ⟨RX6, "bitOf", "(I)I"⟩
abbrev cX6_mayBegin : ByteArray := prog_8_method_16_code
def yX6_mayBegin : MethodName := ⟨RX6, "mayBegin", "()Z"⟩
abbrev cX6_readsItem : ByteArray := prog_8_method_17_code
def yX6_readsItem : MethodName := ⟨RX6, "readsItem", "(I)V"⟩
abbrev cX6_embassy : ByteArray := prog_8_method_18_code
def yX6_embassy : MethodName := ⟨RX6, "embassy", "()I"⟩
abbrev cX6_settles : ByteArray := prog_8_method_19_code
def yX6_settles : MethodName := ⟨RX6, "settles", "()V"⟩
abbrev cX6_isCaller : ByteArray := prog_8_method_20_code
def yX6_isCaller : MethodName := ⟨RX6, "isCaller", "(I)Z"⟩
abbrev cX6_ringOf : ByteArray := prog_8_method_21_code
def yX6_ringOf : MethodName := ⟨RX6, "ringOf", "(I)I"⟩
abbrev cX6_caller : ByteArray := prog_8_method_22_code
def yX6_caller : MethodName := ⟨RX6, "caller", "(II)I"⟩
abbrev cX6_landOf : ByteArray := prog_8_method_23_code
def yX6_landOf : MethodName := ⟨RX6, "landOf", "(I)I"⟩
abbrev cX6_traded : ByteArray := prog_8_method_24_code
def yX6_traded : MethodName := ⟨RX6, "traded", "()I"⟩
abbrev cX6_now : ByteArray := prog_8_method_25_code
def yX6_now : MethodName := ⟨RX6, "now", "(I)I"⟩
abbrev cX6_notes : ByteArray := prog_8_method_26_code
def yX6_notes : MethodName := ⟨RX6, "notes", "()V"⟩
abbrev cX6_shake : ByteArray := prog_8_method_27_code
def yX6_shake : MethodName := ⟨RX6, "shake", "(IIII)I"⟩
abbrev cX6_aside : ByteArray := prog_8_method_28_code
def yX6_aside : MethodName := ⟨RX6, "aside", "(I)V"⟩
abbrev cX6_shakes : ByteArray := prog_8_method_29_code
def yX6_shakes : MethodName := ⟨RX6, "shakes", "(II)I"⟩
abbrev cX6_opens : ByteArray := prog_8_method_30_code
def yX6_opens : MethodName := ⟨RX6, "opens", "()I"⟩
abbrev cX6_lines : ByteArray := prog_8_method_31_code
def yX6_lines : MethodName := ⟨RX6, "lines", "(I)I"⟩
abbrev cX6_winds : ByteArray := prog_8_method_32_code
def yX6_winds : MethodName := ⟨RX6, "winds", "()I"⟩
abbrev cX6_consoles : ByteArray := prog_8_method_33_code
def yX6_consoles : MethodName := ⟨RX6, "consoles", "(I)I"⟩
abbrev cX6_undo : ByteArray := prog_8_method_34_code
def yX6_undo : MethodName := ⟨RX6, "undo", "()I"⟩
abbrev cX6_yieldsBy : ByteArray := prog_8_method_35_code
def yX6_yieldsBy : MethodName := ⟨RX6, "yieldsBy", "(III)Z"⟩
abbrev cX6_wayBy : ByteArray := prog_8_method_36_code
def yX6_wayBy : MethodName := ⟨RX6, "wayBy", "(I)I"⟩
abbrev cX6_isGone : ByteArray := prog_8_method_37_code
def yX6_isGone : MethodName := ⟨RX6, "isGone", "(I)Z"⟩
abbrev cX6_way : ByteArray := prog_8_method_38_code
def yX6_way : MethodName := ⟨RX6, "way", "(II)I"⟩
abbrev cX6_shakesFor : ByteArray := prog_8_method_39_code
def yX6_shakesFor : MethodName := ⟨RX6, "shakesFor", "(I)I"⟩
abbrev cX6_gain : ByteArray := prog_8_method_40_code
def yX6_gain : MethodName := ⟨RX6, "gain", "(II)I"⟩
abbrev cX6_comesOf : ByteArray := prog_8_method_41_code
def yX6_comesOf : MethodName := ⟨RX6, "comesOf", "(IIII)I"⟩
abbrev cX6_tune : ByteArray := prog_8_method_42_code
def yX6_tune : MethodName := ⟨RX6, "tune", "(II)I"⟩
abbrev cX6_power : ByteArray := prog_8_method_43_code
def yX6_power : MethodName := ⟨RX6, "power", "(II)I"⟩
abbrev cX6_gcd : ByteArray := prog_8_method_44_code
def yX6_gcd : MethodName := ⟨RX6, "gcd", "(II)I"⟩
abbrev cX6_odds : ByteArray := prog_8_method_45_code
def yX6_odds : MethodName := ⟨RX6, "odds", "(III)I"⟩
abbrev cX6_tells : ByteArray := prog_8_method_46_code
def yX6_tells : MethodName := ⟨RX6, "tells", "(III)I"⟩
abbrev cX6_forget : ByteArray := prog_8_method_47_code
def yX6_forget : MethodName := ⟨RX6, "forget", "()I"⟩
abbrev cX6_softOnes : ByteArray := prog_8_method_48_code
def yX6_softOnes : MethodName := ⟨RX6, "softOnes", "()I"⟩
abbrev cX6_soft : ByteArray := prog_8_method_49_code
def yX6_soft : MethodName := ⟨RX6, "soft", "()I"⟩
abbrev cX6_ask : ByteArray := prog_8_method_50_code
def yX6_ask : MethodName := ⟨RX6, "ask", "(I)I"⟩
abbrev cX6_rate : ByteArray := prog_8_method_51_code
def yX6_rate : MethodName := ⟨RX6, "rate", "(II)I"⟩
abbrev cX6_keep : ByteArray := prog_8_method_52_code
def yX6_keep : MethodName := ⟨RX6, "keep", "(I)I"⟩
abbrev cX6_back : ByteArray := prog_8_method_53_code
def yX6_back : MethodName := ⟨RX6, "back", "(I)I"⟩
abbrev cX6_count : ByteArray := prog_8_method_54_code
def yX6_count : MethodName := ⟨RX6, "count", "(I)I"⟩
abbrev cX6_trace : ByteArray := prog_8_method_55_code
def yX6_trace : MethodName := ⟨RX6, "trace", "()J"⟩
def RJ6 : String := "java/lang/Integer"
abbrev cJ6_bitCount_0f7a4 : ByteArray := prog_9_method_49_code
def yJ6_bitCount_0f7a4 : MethodName := ⟨RJ6, "bitCount", "(I)I"⟩
def RJ9 : String := "java/lang/Math"
abbrev cJ9_max_7cf53 : ByteArray := prog_10_method_65_code
def yJ9_max_7cf53 : MethodName := ⟨RJ9, "max", "(II)I"⟩
abbrev cJ9_min_7cf53 : ByteArray := prog_10_method_69_code
def yJ9_min_7cf53 : MethodName := ⟨RJ9, "min", "(II)I"⟩
def RL : String := "VelvetHandLaw"
abbrev cL_law : ByteArray := code
def yL_law : MethodName := ⟨RL, "law", "([I)Z"⟩
abbrev vwCl : List vw_C := [(RX0, TX0, 4), (RX1, TX1, 8), (RX2, TX2, 3), (RX3, TX3, 8), (RX4, TX4, 11), (RX5, TX5, 11), (RX6, TX6, 27)]
end
section
/-! An abstract interpreter of bytecode: a value's .ref 0 is the script, .ref (k + 1) the k-th cell of an abstract heap; every step that isn't modelled answers none. -/
abbrev ai_H : Type := List va_E
abbrev ai_I : Type := Nat × Nat × Nat × Nat × Int32
abbrev ai_T : Type := Nat × Nat × Nat × Nat × Nat × List (Int32 × Nat)
abbrev ai_B : Type := Nat × List ai_I × ai_T
abbrev ai_X : Type := List Value × List Value × ai_H
abbrev ai_S : Type := Nat × (Nat → Int32)
abbrev ai_A : Type := Option (Option Value × ai_H)
abbrev ai_O : Type := ai_S → Nat → Nat → Nat → Int32 → List Value → List Value → ai_H → Option ai_X
/-- a local that isn't set -/
def ai_u : Value := .retAddr 0
/-- the cell that a place names -/
def ai_cell (h : ai_H) (q : Nat) : Option va_E := match q with
  | 0 => none
  | q + 1 => h[q]?
def ai_gf (h : ai_H) (q ci k : Nat) : Option Value := match ai_cell h q with
  | some (.inr (c, fs)) => if c = ci then fs[k]? else none
  | _ => none
def ai_pf (h : ai_H) (q ci k : Nat) (v : Value) : Option ai_H := match ai_cell h q with
  | some (.inr (c, fs)) => if c = ci ∧ k < fs.length then some (h.set (q - 1) (.inr (c, fs.set k v))) else none
  | _ => none
/-- an array of ints (0), booleans (1): its length, what it holds -/
def ai_ia (h : ai_H) (q t : Nat) : Option (Nat × (Nat → Int32)) := match ai_cell h q with
  | some (.inl (t', n, .inl f)) => if t' = t then some (n, f) else none
  | _ => none
def ai_pa (h : ai_H) (q t : Nat) (f' : Nat → Int32) : Option ai_H := match ai_cell h q with
  | some (.inl (t', n, .inl _)) => if t' = t then some (h.set (q - 1) (.inl (t, n, .inl f'))) else none
  | _ => none
/-- an array of references (2) -/
def ai_ra (h : ai_H) (q : Nat) : Option (Nat × (Nat → Option Nat)) := match ai_cell h q with
  | some (.inl (t', n, .inr (.inr (.inr (.inr f))))) => if t' = 2 then some (n, f) else none
  | _ => none
def ai_pra (h : ai_H) (q : Nat) (f' : Nat → Option Nat) : Option ai_H := match ai_cell h q with
  | some (.inl (t', n, .inr (.inr (.inr (.inr _))))) => if t' = 2 then some (h.set (q - 1) (.inl (2, n, .inr (.inr (.inr (.inr f')))))) else none
  | _ => none
def ai_io (h : ai_H) (q ci : Nat) : Bool := match ai_cell h q with
  | some (.inr (c, _)) => c == ci
  | _ => false
def ai_alen (h : ai_H) (q : Nat) : Option Nat := match ai_cell h q with
  | some (.inl (_, n, _)) => some n
  | _ => none
def ai_out (i : Int32) (n : Nat) : Prop := i < 0 ∨ n ≤ i.toNatClampNeg
def ai_oi {α : Type} (o : Option Value) (f : Int32 → Option α) : Option α := match o with
  | some (.int x) => f x
  | _ => none
/-- what a new object of a kind holds -/
def ai_fresh : Nat → List Value
  | 0 => [.null, .null, .null, .int 0]
  | 1 => [.null, .null, .int 0, .int 0, .int 0, .int 0, .int 0, .int 0]
  | 2 => [.null, .int 0, .int 0]
  | 3 => [.int 0, .int 0, .int 0, .int 0, .null, .null, .null, .null]
  | 4 => [.null, .int 0, .int 0, .int 0, .int 0, .int 0, .int 0, .int 0, .int 0, .int 0, .int 0]
  | 5 => [.null, .null, .null, .null, .null, .null, .int 0, .null, .null, .null, .long 0]
  | _ => [.int 0, .long 0, .null, .int 0, .int 0, .int 0, .int 0, .int 0, .int 0, .int 0, .null, .null, .null, .null, .null, .null, .null, .null, .null, .int 0, .null, .null, .null, .int 0, .int 0, .int 0, .null]
-- the steps
def ai_const : ai_O := fun _ _ _ _ z ls st h => some (ls, .int z :: st, h)
def ai_iload : ai_O := fun _ a _ _ _ ls st h => match ls[a]? with
  | some (.int x) => some (ls, .int x :: st, h)
  | _ => none
def ai_aload : ai_O := fun _ a _ _ _ ls st h => match ls[a]? with
  | some (.ref q) => some (ls, .ref q :: st, h)
  | some .null => some (ls, .null :: st, h)
  | _ => none
def ai_istore : ai_O := fun _ a _ _ _ ls st h => match st with
  | .int x :: st => if a < ls.length then some (ls.set a (.int x), st, h) else none
  | _ => none
def ai_astore : ai_O := fun _ a _ _ _ ls st h => match st with
  | .ref q :: st => if a < ls.length then some (ls.set a (.ref q), st, h) else none
  | .null :: st => if a < ls.length then some (ls.set a .null, st, h) else none
  | _ => none
def ai_iinc : ai_O := fun _ a _ _ z ls st h => match ls[a]? with
  | some (.int x) => some (ls.set a (.int (x + z)), st, h)
  | _ => none
def ai_bin (f : Int32 → Int32 → Int32) : ai_O := fun _ _ _ _ _ ls st h => match st with
  | .int y :: .int x :: st => some (ls, .int (f x y) :: st, h)
  | _ => none
def ai_div (f : Int32 → Int32 → Int32) : ai_O := fun _ _ _ _ _ ls st h => match st with
  | .int y :: .int x :: st => if y = 0 then none else some (ls, .int (f x y) :: st, h)
  | _ => none
def ai_dup : ai_O := fun _ _ _ _ _ ls st h => match st with
  | v :: st => if v.category = 1 then some (ls, v :: v :: st, h) else none
  | _ => none
def ai_dup2 : ai_O := fun _ _ _ _ _ ls st h => match st with
  | v :: w :: st => if v.category = 1 ∧ w.category = 1 then some (ls, v :: w :: v :: w :: st, h) else none
  | _ => none
def ai_pop : ai_O := fun _ _ _ _ _ ls st h => match st with
  | v :: st => if v.category = 1 then some (ls, st, h) else none
  | _ => none
def ai_get : ai_O := fun _ a b _ _ ls st h => match st with
  | .ref q :: st => (match ai_gf h q a b with
    | some v => some (ls, v :: st, h)
    | none => none)
  | _ => none
def ai_putI : ai_O := fun _ a b _ _ ls st h => match st with
  | .int x :: .ref q :: st => (match ai_pf h q a b (.int x) with
    | some h' => some (ls, st, h')
    | none => none)
  | _ => none
def ai_putZ : ai_O := fun _ a b _ _ ls st h => match st with
  | .int x :: .ref q :: st => if x = 0 ∨ x = 1 then (match ai_pf h q a b (.int x) with
    | some h' => some (ls, st, h')
    | none => none) else none
  | _ => none
def ai_putJ : ai_O := fun _ a b _ _ ls st h => match st with
  | .long x :: .ref q :: st => (match ai_pf h q a b (.long x) with
    | some h' => some (ls, st, h')
    | none => none)
  | _ => none
def ai_putR : ai_O := fun _ a b _ _ ls st h => match st with
  | .ref x :: .ref q :: st => (match ai_pf h q a b (.ref x) with
    | some h' => some (ls, st, h')
    | none => none)
  | _ => none
def ai_iald : ai_O := fun S _ _ _ _ ls st h => match st with
  | .int i :: .ref 0 :: st => if i < 0 ∨ S.1 ≤ i.toNatClampNeg then none else some (ls, .int (S.2 i.toNatClampNeg) :: st, h)
  | .int i :: .ref q :: st => (match ai_ia h q 0 with
    | some (n, f) => if i < 0 ∨ n ≤ i.toNatClampNeg then none else some (ls, .int (f i.toNatClampNeg) :: st, h)
    | none => none)
  | _ => none
def ai_bald : ai_O := fun _ _ _ _ _ ls st h => match st with
  | .int i :: .ref q :: st => (match ai_ia h q 1 with
    | some (n, f) => if i < 0 ∨ n ≤ i.toNatClampNeg then none else some (ls, .int (f i.toNatClampNeg) :: st, h)
    | none => none)
  | _ => none
def ai_iast : ai_O := fun _ _ _ _ _ ls st h => match st with
  | .int x :: .int i :: .ref q :: st => (match ai_ia h q 0 with
    | some (n, f) => if i < 0 ∨ n ≤ i.toNatClampNeg then none else (match ai_pa h q 0 (upd f i.toNatClampNeg x) with
      | some h' => some (ls, st, h')
      | none => none)
    | none => none)
  | _ => none
def ai_bast : ai_O := fun _ _ _ _ _ ls st h => match st with
  | .int x :: .int i :: .ref q :: st => (match ai_ia h q 1 with
    | some (n, f) => if i < 0 ∨ n ≤ i.toNatClampNeg then none else (match ai_pa h q 1 (upd f i.toNatClampNeg (vp_nar .boolean x)) with
      | some h' => some (ls, st, h')
      | none => none)
    | none => none)
  | _ => none
def ai_aald : ai_O := fun _ _ _ _ _ ls st h => match st with
  | .int i :: .ref q :: st => (match ai_ra h q with
    | some (n, f) => if i < 0 ∨ n ≤ i.toNatClampNeg then none else some (ls, va_rf (f i.toNatClampNeg) :: st, h)
    | none => none)
  | _ => none
def ai_aast : ai_O := fun _ _ _ _ _ ls st h => match st with
  | .ref v :: .int i :: .ref q :: st => (match ai_ra h q with
    | some (n, f) => if i < 0 ∨ n ≤ i.toNatClampNeg then none else if ai_io h v 1 = true then (match ai_pra h q (va_up f i.toNatClampNeg (some v)) with
      | some h' => some (ls, st, h')
      | none => none) else none
    | none => none)
  | _ => none
def ai_len : ai_O := fun S _ _ _ _ ls st h => match st with
  | .ref 0 :: st => some (ls, .int (Int32.ofNat S.1) :: st, h)
  | .ref q :: st => (match ai_cell h q with
    | some (.inl (t, n, _)) => if t < 3 then some (ls, .int (Int32.ofNat n) :: st, h) else none
    | _ => none)
  | _ => none
def ai_newa (t : Nat) : ai_O := fun _ _ _ _ _ ls st h => match st with
  | .int n :: st => if n < 0 ∨ 1000 < n.toNatClampNeg then none else some (ls, .ref (h.length + 1) :: st, h ++ [.inl (t, n.toNatClampNeg, .inl (fun _ => 0))])
  | _ => none
def ai_newr : ai_O := fun _ _ _ _ _ ls st h => match st with
  | .int n :: st => if n < 0 ∨ 1000 < n.toNatClampNeg then none else some (ls, .ref (h.length + 1) :: st, h ++ [.inl (2, n.toNatClampNeg, .inr (.inr (.inr (.inr (fun _ => none)))))])
  | _ => none
def ai_newo : ai_O := fun _ a _ _ _ ls st h => some (ls, .ref (h.length + 1) :: st, h ++ [.inr (a, ai_fresh a)])
def ai_lcon : ai_O := fun _ _ _ _ z ls st h => some (ls, .long z.toInt64 :: st, h)
def ai_ladd : ai_O := fun _ _ _ _ _ ls st h => match st with
  | .long y :: .long x :: st => some (ls, .long (x + y) :: st, h)
  | _ => none
def ai_lcmp : ai_O := fun _ _ _ _ _ ls st h => match st with
  | .long y :: .long x :: st => some (ls, .int (lg_cmp x y) :: st, h)
  | _ => none
def ai_null : ai_O := fun _ _ _ _ _ ls st h => some (ls, .null :: st, h)
def ai_obj : ai_O := fun _ _ _ _ _ ls st h => match st with
  | .ref _ :: st => if (st.map fun v => v.category).sum ≤ 8 then some (ls, st, h) else none
  | _ => none
def ai_mm (f : Int32 → Int32 → Int32) : ai_O := fun _ _ _ _ _ ls st h => match st with
  | .int y :: .int x :: st => if (st.map fun v => v.category).sum ≤ 7 then some (ls, .int (f x y) :: st, h) else none
  | _ => none
def ai_ops : List ai_O := [ai_const, ai_const, ai_const, ai_iload, ai_iload, ai_aload, ai_istore, ai_istore, ai_astore, ai_iinc,
  ai_bin (fun x y => x + y), ai_bin (fun x y => x - y), ai_bin (fun x y => x * y), ai_bin (fun x y => x &&& y), ai_bin (fun x y => x ||| y), ai_bin (fun x y => x <<< (y &&& 31)), ai_bin (fun x y => x >>> (y &&& 31)), ai_bin (fun x y => (x.toUInt32 >>> (y.toUInt32 &&& Int32.toUInt32 31)).toInt32), ai_div (fun x y => x / y), ai_div (fun x y => x - x / y * y),
  ai_dup, ai_dup2, ai_pop, ai_get, ai_putI, ai_putZ, ai_putJ, ai_putR, ai_putR, ai_iald,
  ai_iast, ai_bald, ai_bast, ai_aald, ai_aast, ai_len, ai_newa 0, ai_newa 1, ai_newr, ai_newo,
  ai_const, ai_const, ai_lcon, ai_lcon, ai_ladd, ai_lcmp, ai_null, ai_obj,
  ai_mm (fun x y => if y < x then y else x), ai_mm (fun x y => if x < y then y else x)]
def ai_op (S : ai_S) (i : ai_I) (ls st : List Value) (h : ai_H) : Option ai_X := match ai_ops[i.1]? with
  | some f => f S i.2.1 i.2.2.1 i.2.2.2.1 i.2.2.2.2 ls st h
  | none => none
def ai_xl (S : ai_S) : List ai_I → List Value → List Value → ai_H → Option ai_X
  | [], ls, st, h => some (ls, st, h)
  | i :: is, ls, st, h => match ai_op S i ls st h with
    | some (ls', st', h') => ai_xl S is ls' st' h'
    | none => none
-- the ends of blocks
abbrev ai_Rec : Type := Nat → Nat → List Value → List Value → ai_H → ai_A
abbrev ai_Cal : Type := Nat → List Value → ai_H → ai_A
def ai_if (P : Int32 → Prop) [DecidablePred P] (r : ai_Rec) (m b1 b2 : Nat) (ls st : List Value) (h : ai_H) : ai_A := match st with
  | .int x :: st => if P x then r m b1 ls st h else r m b2 ls st h
  | _ => none
def ai_if2 (P : Int32 → Int32 → Prop) [∀ x y, Decidable (P x y)] (r : ai_Rec) (m b1 b2 : Nat) (ls st : List Value) (h : ai_H) : ai_A := match st with
  | .int y :: .int x :: st => if P x y then r m b1 ls st h else r m b2 ls st h
  | _ => none
def ai_nul (r : ai_Rec) (m b1 b2 : Nat) (ls st : List Value) (h : ai_H) : ai_A := match st with
  | .null :: st => r m b1 ls st h
  | .ref _ :: st => r m b2 ls st h
  | _ => none
def ai_sw (r : ai_Rec) (m d : Nat) (ls st : List Value) (h : ai_H) (x : Int32) : List (Int32 × Nat) → ai_A
  | [] => r m d ls st h
  | (k, b) :: t => if x = k then r m b ls st h else ai_sw r m d ls st h x t
def ai_swt (r : ai_Rec) (m d : Nat) (t : List (Int32 × Nat)) (ls st : List Value) (h : ai_H) : ai_A := match st with
  | .int x :: st => ai_sw r m d ls st h x t
  | _ => none
def ai_split : Nat → List Value → List Value → Option (List Value × List Value)
  | 0, acc, st => some (acc, st)
  | n + 1, acc, v :: st => ai_split n (v :: acc) st
  | _ + 1, _, [] => none
def ai_recv (ck ci : Nat) (as : List Value) (h : ai_H) : Bool := match ck with
  | 0 => (match as with
    | .ref q :: _ => ai_io h q ci
    | _ => false)
  | 1 => true
  | 4 => true
  | _ => (match as with
    | .ref _ :: _ => true
    | _ => false)
def ai_cal (r : ai_Rec) (cl : ai_Cal) (m b1 b2 n : Nat) (ck ci : Nat) (ls st : List Value) (h : ai_H) : ai_A := match ai_split n [] st with
  | some (as, rest) => if ai_recv ck ci as h = true ∧ rest.length ≤ 4 then (match cl b2 as h with
    | some (v, h') => r m b1 ls (v.toList ++ rest) h'
    | none => none) else none
  | none => none
def ai_ret (k : Nat) (st : List Value) (h : ai_H) : ai_A := match k, st with
  | 0, [.int x] => some (some (.int x), h)
  | 1, [.int x] => if x = 0 ∨ x = 1 then some (some (.int x), h) else none
  | 2, [.long x] => some (some (.long x), h)
  | 3, [.ref x] => some (some (.ref x), h)
  | 3, [.null] => some (some .null, h)
  | 4, [] => some (none, h)
  | _, _ => none
def ai_term (r : ai_Rec) (cl : ai_Cal) (m : Nat) (t : ai_T) (ls st : List Value) (h : ai_H) : ai_A :=
  match t.1 with
  | 0 => r m t.2.1 ls st h
  | 1 => r m t.2.1 ls st h
  | 2 => ai_if (fun x => x = 0) r m t.2.1 t.2.2.1 ls st h
  | 3 => ai_if (fun x => ¬ x = 0) r m t.2.1 t.2.2.1 ls st h
  | 4 => ai_if (fun x => x < 0) r m t.2.1 t.2.2.1 ls st h
  | 5 => ai_if (fun x => 0 ≤ x) r m t.2.1 t.2.2.1 ls st h
  | 6 => ai_if (fun x => 0 < x) r m t.2.1 t.2.2.1 ls st h
  | 7 => ai_if (fun x => x ≤ 0) r m t.2.1 t.2.2.1 ls st h
  | 8 => ai_if2 (fun x y => x = y) r m t.2.1 t.2.2.1 ls st h
  | 9 => ai_if2 (fun x y => ¬ x = y) r m t.2.1 t.2.2.1 ls st h
  | 10 => ai_if2 (fun x y => x < y) r m t.2.1 t.2.2.1 ls st h
  | 11 => ai_if2 (fun x y => y ≤ x) r m t.2.1 t.2.2.1 ls st h
  | 12 => ai_if2 (fun x y => y < x) r m t.2.1 t.2.2.1 ls st h
  | 13 => ai_if2 (fun x y => x ≤ y) r m t.2.1 t.2.2.1 ls st h
  | 14 => ai_nul r m t.2.1 t.2.2.1 ls st h
  | 15 => ai_nul r m t.2.2.1 t.2.1 ls st h
  | 16 => ai_swt r m t.2.1 t.2.2.2.2.2 ls st h
  | 17 => ai_swt r m t.2.1 t.2.2.2.2.2 ls st h
  | 18 => ai_cal r cl m t.2.1 t.2.2.1 t.2.2.2.1 0 t.2.2.2.2.1 ls st h
  | 19 => ai_cal r cl m t.2.1 t.2.2.1 t.2.2.2.1 1 0 ls st h
  | 20 => ai_cal r cl m t.2.1 t.2.2.1 t.2.2.2.1 2 0 ls st h
  | 21 => ai_cal r cl m t.2.1 t.2.2.1 t.2.2.2.1 4 0 ls st h
  | 22 => ai_cal r cl m t.2.1 t.2.2.1 t.2.2.2.1 5 0 ls st h
  | 23 => ai_ret 0 st h
  | 24 => ai_ret 1 st h
  | 25 => ai_ret 2 st h
  | 26 => ai_ret 3 st h
  | 27 => ai_ret 4 st h
  | _ => none
end
section
/-! the program: methods as blocks (written by gen.py out of the printed names) -/
def ai_TB : List Cond := lw_tbl.filter goodWord
def ai_owns : List String := [RX0, RX1, RX2, RX3, RX4, RX5, RX6, RL, RJ6, RJ9]
def ai_own (o : Nat) : String := ai_owns.getD o ""
/-- X0_init (0) -/
def ai_p0 : List ai_B := [(0, [(5, 0, 0, 0, 0), (47, 0, 0, 3, 0), (5, 0, 0, 0, 0), (1, 0, 0, 0, 6), (36, 0, 0, 0, 0), (28, 0, 0, 9, 0), (5, 0, 0, 0, 0), (1, 0, 0, 0, 6), (36, 0, 0, 0, 0), (28, 0, 1, 15, 0), (5, 0, 0, 0, 0), (1, 0, 0, 0, 6), (36, 0, 0, 0, 0), (28, 0, 2, 18, 0)], (27, 0, 0, 0, 0, []))]
/-- X0_add (1) -/
def ai_p1 : List ai_B := [(0, [(5, 0, 0, 0, 0), (23, 0, 3, 21, 0), (1, 0, 0, 0, 6)], (10, 2, 1, 0, 0, [])),
  (9, [(0, 0, 0, 0, 0)], (24, 0, 0, 0, 0, [])),
  (11, [(5, 0, 0, 0, 0), (23, 0, 0, 9, 0), (5, 0, 0, 0, 0), (23, 0, 3, 21, 0), (3, 1, 0, 0, 0)], (21, 3, 80, 3, 0, [(0, 25)])),
  (23, [(5, 0, 0, 0, 0), (23, 0, 1, 15, 0), (5, 0, 0, 0, 0), (23, 0, 3, 21, 0), (3, 2, 0, 0, 0)], (21, 4, 80, 3, 0, [(0, 25)])),
  (35, [(5, 0, 0, 0, 0), (23, 0, 2, 18, 0), (5, 0, 0, 0, 0), (23, 0, 3, 21, 0), (3, 3, 0, 0, 0)], (21, 5, 80, 3, 0, [(0, 25)])),
  (47, [(5, 0, 0, 0, 0), (20, 0, 0, 0, 0), (23, 0, 3, 21, 0), (0, 0, 0, 0, 1), (10, 0, 0, 0, 0), (24, 0, 3, 21, 0), (0, 0, 0, 0, 1)], (24, 0, 0, 0, 0, []))]
/-- X1_init (2) -/
def ai_p2 : List ai_B := [(0, [(5, 0, 0, 0, 0), (47, 0, 0, 3, 0), (5, 0, 0, 0, 0), (1, 0, 0, 0, 6), (36, 0, 0, 0, 0), (28, 1, 0, 9, 0), (5, 0, 0, 0, 0), (1, 0, 0, 0, 6), (36, 0, 0, 0, 0), (28, 1, 1, 15, 0), (5, 0, 0, 0, 0), (1, 0, 0, 0, (-9)), (24, 1, 7, 18, 0)], (27, 0, 0, 0, 0, []))]
/-- X1_begin (3) -/
def ai_p3 : List ai_B := [(0, [(0, 0, 0, 0, 0), (6, 2, 0, 0, 0)], (0, 1, 0, 0, 0, [])),
  (2, [(3, 2, 0, 0, 0), (1, 0, 0, 0, 6)], (11, 5, 2, 0, 0, [])),
  (8, [(5, 0, 0, 0, 0), (23, 1, 0, 9, 0), (3, 2, 0, 0, 0), (0, 0, 0, 0, 0)], (21, 3, 80, 3, 0, [(0, 22)])),
  (17, [(5, 0, 0, 0, 0), (23, 1, 1, 15, 0), (3, 2, 0, 0, 0), (0, 0, 0, 0, 0)], (21, 4, 80, 3, 0, [(0, 22)])),
  (26, [(9, 2, 0, 0, 1)], (1, 1, 0, 0, 0, [])),
  (32, [(5, 0, 0, 0, 0), (0, 0, 0, 0, 0), (24, 1, 2, 26, 0), (5, 0, 0, 0, 0), (0, 0, 0, 0, 0), (24, 1, 3, 29, 0), (5, 0, 0, 0, 0), (0, 0, 0, 0, 0), (24, 1, 4, 32, 0), (5, 0, 0, 0, 0), (0, 0, 0, 0, 0), (24, 1, 5, 35, 0), (5, 0, 0, 0, 0), (3, 1, 0, 0, 0), (24, 1, 6, 38, 0), (5, 0, 0, 0, 0), (1, 0, 0, 0, (-9)), (24, 1, 7, 18, 0)], (27, 0, 0, 0, 0, []))]
/-- X1_become (4) -/
def ai_p4 : List ai_B := [(0, [(0, 0, 0, 0, 0), (6, 2, 0, 0, 0)], (0, 1, 0, 0, 0, [])),
  (2, [(3, 2, 0, 0, 0), (1, 0, 0, 0, 6)], (11, 7, 2, 0, 0, [])),
  (8, [(5, 0, 0, 0, 0), (23, 1, 0, 9, 0), (3, 2, 0, 0, 0), (5, 1, 0, 0, 0), (23, 1, 0, 9, 0), (3, 2, 0, 0, 0)], (21, 3, 79, 2, 0, [(0, 41)])),
  (21, [], (21, 4, 80, 3, 0, [(0, 22)])),
  (24, [(5, 0, 0, 0, 0), (23, 1, 1, 15, 0), (3, 2, 0, 0, 0), (5, 1, 0, 0, 0), (23, 1, 1, 15, 0), (3, 2, 0, 0, 0)], (21, 5, 79, 2, 0, [(0, 41)])),
  (37, [], (21, 6, 80, 3, 0, [(0, 22)])),
  (40, [(9, 2, 0, 0, 1)], (1, 1, 0, 0, 0, [])),
  (46, [(5, 0, 0, 0, 0), (5, 1, 0, 0, 0), (23, 1, 2, 26, 0), (24, 1, 2, 26, 0), (5, 0, 0, 0, 0), (5, 1, 0, 0, 0), (23, 1, 3, 29, 0), (24, 1, 3, 29, 0), (5, 0, 0, 0, 0), (5, 1, 0, 0, 0), (23, 1, 4, 32, 0), (24, 1, 4, 32, 0), (5, 0, 0, 0, 0), (5, 1, 0, 0, 0), (23, 1, 5, 35, 0), (24, 1, 5, 35, 0), (5, 0, 0, 0, 0), (5, 1, 0, 0, 0), (23, 1, 6, 38, 0), (24, 1, 6, 38, 0), (5, 0, 0, 0, 0), (5, 1, 0, 0, 0), (23, 1, 7, 18, 0), (24, 1, 7, 18, 0)], (27, 0, 0, 0, 0, []))]
/-- X2_init (5) -/
def ai_p5 : List ai_B := [(0, [(5, 0, 0, 0, 0), (47, 0, 0, 3, 0), (5, 0, 0, 0, 0), (1, 0, 0, 0, 10), (38, 0, 0, 9, 0), (28, 2, 0, 11, 0), (0, 0, 0, 0, 0), (6, 1, 0, 0, 0)], (0, 1, 0, 0, 0, [])),
  (15, [(3, 1, 0, 0, 0), (1, 0, 0, 0, 10)], (11, 4, 2, 0, 0, [])),
  (21, [(5, 0, 0, 0, 0), (23, 2, 0, 11, 0), (3, 1, 0, 0, 0), (39, 1, 0, 9, 0), (20, 0, 0, 0, 0)], (22, 3, 2, 1, 0, [(0, 17)])),
  (33, [(34, 0, 0, 0, 0), (9, 1, 0, 0, 1)], (1, 1, 0, 0, 0, [])),
  (40, [], (27, 0, 0, 0, 0, []))]
/-- X2_remember (6) -/
def ai_p6 : List ai_B := [(0, [(5, 0, 0, 0, 0), (23, 2, 0, 11, 0), (5, 0, 0, 0, 0), (23, 2, 1, 18, 0)], (21, 1, 81, 2, 0, [(0, 22)])),
  (11, [(8, 2, 0, 0, 0), (5, 2, 0, 0, 0)], (14, 4, 2, 0, 0, [])),
  (16, [(5, 2, 0, 0, 0), (5, 1, 0, 0, 0)], (18, 3, 4, 2, 1, [(0, 26)])),
  (21, [(5, 0, 0, 0, 0), (5, 0, 0, 0, 0), (23, 2, 1, 18, 0), (0, 0, 0, 0, 1), (10, 0, 0, 0, 0), (1, 0, 0, 0, 10), (19, 0, 0, 0, 0), (24, 2, 1, 18, 0), (5, 0, 0, 0, 0), (1, 0, 0, 0, 10), (5, 0, 0, 0, 0), (23, 2, 2, 30, 0), (0, 0, 0, 0, 1), (10, 0, 0, 0, 0), (48, 0, 0, 33, 0), (24, 2, 2, 30, 0)], (0, 4, 0, 0, 0, [])),
  (49, [], (27, 0, 0, 0, 0, []))]
/-- X2_recall (7) -/
def ai_p7 : List ai_B := [(0, [(5, 0, 0, 0, 0), (23, 2, 1, 18, 0), (1, 0, 0, 0, 10), (10, 0, 0, 0, 0), (0, 0, 0, 0, 1), (11, 0, 0, 0, 0), (1, 0, 0, 0, 10), (19, 0, 0, 0, 0), (6, 2, 0, 0, 0), (5, 0, 0, 0, 0), (23, 2, 0, 11, 0), (3, 2, 0, 0, 0)], (21, 1, 81, 2, 0, [(0, 22)])),
  (21, [(8, 3, 0, 0, 0), (5, 0, 0, 0, 0), (23, 2, 2, 30, 0)], (7, 5, 2, 0, 0, [])),
  (29, [(5, 3, 0, 0, 0)], (14, 5, 3, 0, 0, [])),
  (33, [(5, 1, 0, 0, 0), (5, 3, 0, 0, 0)], (18, 4, 4, 2, 1, [(0, 26)])),
  (38, [(5, 0, 0, 0, 0), (3, 2, 0, 0, 0), (24, 2, 1, 18, 0), (5, 0, 0, 0, 0), (20, 0, 0, 0, 0), (23, 2, 2, 30, 0), (0, 0, 0, 0, 1), (11, 0, 0, 0, 0), (24, 2, 2, 30, 0)], (0, 5, 0, 0, 0, [])),
  (53, [], (27, 0, 0, 0, 0, []))]
/-- X3_init (8) -/
def ai_p8 : List ai_B := [(0, [(5, 0, 0, 0, 0), (47, 0, 0, 3, 0), (5, 0, 0, 0, 0), (0, 0, 0, 0, 4), (24, 3, 0, 9, 0), (5, 0, 0, 0, 0), (0, 0, 0, 0, 3), (24, 3, 1, 15, 0), (5, 0, 0, 0, 0), (1, 0, 0, 0, 20), (24, 3, 2, 18, 0), (5, 0, 0, 0, 0), (1, 0, 0, 0, 6), (36, 0, 0, 0, 0), (28, 3, 4, 21, 0), (5, 0, 0, 0, 0), (1, 0, 0, 0, 6), (36, 0, 0, 0, 0), (28, 3, 5, 25, 0), (5, 0, 0, 0, 0), (1, 0, 0, 0, 6), (36, 0, 0, 0, 0), (28, 3, 6, 28, 0), (5, 0, 0, 0, 0), (1, 0, 0, 0, 6), (36, 0, 0, 0, 0), (28, 3, 7, 31, 0)], (27, 0, 0, 0, 0, []))]
/-- X3_begin (9) -/
def ai_p9 : List ai_B := [(0, [(5, 0, 0, 0, 0), (0, 0, 0, 0, 4), (24, 3, 0, 9, 0), (5, 0, 0, 0, 0), (0, 0, 0, 0, 3), (24, 3, 1, 15, 0), (5, 0, 0, 0, 0), (1, 0, 0, 0, 20), (24, 3, 2, 18, 0), (5, 0, 0, 0, 0), (0, 0, 0, 0, 0), (24, 3, 3, 34, 0)], (27, 0, 0, 0, 0, []))]
/-- X3_tellCaller (10) -/
def ai_p10 : List ai_B := [(0, [(3, 1, 0, 0, 0)], (16, 7, 0, 27, 0, [(0, 1), (1, 3), (2, 5)])),
  (28, [(5, 0, 0, 0, 0), (23, 3, 4, 21, 0), (5, 0, 0, 0, 0), (23, 3, 3, 34, 0), (0, 0, 0, 0, 1), (11, 0, 0, 0, 0), (3, 2, 0, 0, 0)], (21, 2, 80, 3, 0, [(0, 37)])),
  (42, [], (1, 8, 0, 0, 0, [])),
  (45, [(5, 0, 0, 0, 0), (23, 3, 5, 25, 0), (5, 0, 0, 0, 0), (23, 3, 3, 34, 0), (0, 0, 0, 0, 1), (11, 0, 0, 0, 0), (3, 2, 0, 0, 0)], (21, 4, 80, 3, 0, [(0, 37)])),
  (59, [], (1, 8, 0, 0, 0, [])),
  (62, [(5, 0, 0, 0, 0), (23, 3, 6, 28, 0), (5, 0, 0, 0, 0), (23, 3, 3, 34, 0), (0, 0, 0, 0, 1), (11, 0, 0, 0, 0), (3, 2, 0, 0, 0)], (21, 6, 80, 3, 0, [(0, 37)])),
  (76, [], (1, 8, 0, 0, 0, [])),
  (79, [(5, 0, 0, 0, 0), (23, 3, 7, 31, 0), (5, 0, 0, 0, 0), (23, 3, 3, 34, 0), (0, 0, 0, 0, 1), (11, 0, 0, 0, 0), (3, 2, 0, 0, 0)], (21, 8, 80, 3, 0, [(0, 37)])),
  (93, [], (27, 0, 0, 0, 0, []))]
/-- X4_init (11) -/
def ai_p11 : List ai_B := [(0, [(5, 0, 0, 0, 0), (47, 0, 0, 3, 0), (5, 0, 0, 0, 0), (1, 0, 0, 0, 120), (36, 0, 0, 0, 0), (28, 4, 0, 9, 0)], (27, 0, 0, 0, 0, []))]
/-- X4_add (12) -/
def ai_p12 : List ai_B := [(0, [(5, 0, 0, 0, 0), (23, 4, 1, 15, 0), (1, 0, 0, 0, 120)], (10, 2, 1, 0, 0, [])),
  (9, [(0, 0, 0, 0, 0)], (24, 0, 0, 0, 0, [])),
  (11, [(5, 0, 0, 0, 0), (23, 4, 0, 9, 0), (5, 0, 0, 0, 0), (23, 4, 1, 15, 0), (3, 1, 0, 0, 0)], (21, 3, 80, 3, 0, [(0, 19)])),
  (23, [(5, 0, 0, 0, 0), (20, 0, 0, 0, 0), (23, 4, 1, 15, 0), (0, 0, 0, 0, 1), (10, 0, 0, 0, 0), (24, 4, 1, 15, 0), (0, 0, 0, 0, 1)], (24, 0, 0, 0, 0, []))]
/-- X4_empty (13) -/
def ai_p13 : List ai_B := [(0, [(5, 0, 0, 0, 0), (23, 4, 1, 15, 0), (6, 1, 0, 0, 0), (5, 0, 0, 0, 0), (0, 0, 0, 0, 0), (24, 4, 1, 15, 0), (3, 1, 0, 0, 0)], (23, 0, 0, 0, 0, []))]
/-- X4_tell (14) -/
def ai_p14 : List ai_B := [(0, [(5, 0, 0, 0, 0)], (18, 1, 15, 1, 4, [(0, 23)])),
  (4, [(5, 1, 0, 0, 0)], (18, 2, 9, 1, 3, [(0, 26)])),
  (8, [(0, 0, 0, 0, 0), (6, 2, 0, 0, 0), (5, 0, 0, 0, 0)], (18, 3, 21, 1, 4, [(0, 29)])),
  (14, [(0, 0, 0, 0, 0), (6, 3, 0, 0, 0)], (0, 4, 0, 0, 0, [])),
  (16, [(3, 3, 0, 0, 0), (1, 0, 0, 0, 120)], (11, 13, 5, 0, 0, [])),
  (22, [(5, 0, 0, 0, 0), (23, 4, 3, 32, 0), (2, 0, 0, 0, 256)], (8, 13, 6, 0, 0, [])),
  (32, [(5, 0, 0, 0, 0), (5, 1, 0, 0, 0)], (18, 7, 16, 2, 4, [(0, 35)])),
  (37, [], (3, 9, 8, 0, 0, [])),
  (40, [(1, 0, 0, 0, (-10)), (5, 0, 0, 0, 0), (23, 4, 4, 39, 0), (11, 0, 0, 0, 0)], (23, 0, 0, 0, 0, [])),
  (48, [(5, 0, 0, 0, 0), (23, 4, 3, 32, 0), (1, 0, 0, 0, 59)], (9, 11, 10, 0, 0, [])),
  (57, [(9, 2, 0, 0, 1)], (0, 11, 0, 0, 0, [])),
  (60, [(5, 0, 0, 0, 0)], (18, 12, 21, 1, 4, [(0, 29)])),
  (64, [(9, 3, 0, 0, 1)], (1, 4, 0, 0, 0, [])),
  (70, [(5, 0, 0, 0, 0), (23, 4, 6, 42, 0)], (3, 15, 14, 0, 0, [])),
  (77, [(3, 2, 0, 0, 0)], (1, 16, 0, 0, 0, [])),
  (81, [(1, 0, 0, 0, (-10)), (5, 0, 0, 0, 0), (23, 4, 4, 39, 0), (11, 0, 0, 0, 0)], (0, 16, 0, 0, 0, [])),
  (88, [], (23, 0, 0, 0, 0, []))]
/-- X4_begin (15) -/
def ai_p15 : List ai_B := [(0, [(5, 0, 0, 0, 0), (0, 0, 0, 0, 0), (24, 4, 2, 45, 0), (5, 0, 0, 0, 0), (0, 0, 0, 0, 0), (24, 4, 6, 42, 0), (5, 0, 0, 0, 0), (0, 0, 0, 0, 0), (25, 4, 8, 48, 0), (5, 0, 0, 0, 0), (0, 0, 0, 0, 0), (25, 4, 9, 52, 0), (5, 0, 0, 0, 0), (0, 0, 0, 0, 0), (25, 4, 10, 55, 0)], (27, 0, 0, 0, 0, []))]
/-- X4_takeToken (16) -/
def ai_p16 : List ai_B := [(0, [(5, 0, 0, 0, 0), (23, 4, 6, 42, 0)], (3, 3, 1, 0, 0, [])),
  (7, [(5, 0, 0, 0, 0), (5, 1, 0, 0, 0)], (18, 2, 17, 2, 4, [(0, 58)])),
  (12, [], (24, 0, 0, 0, 0, [])),
  (13, [(5, 0, 0, 0, 0), (23, 4, 7, 61, 0), (5, 0, 0, 0, 0), (23, 4, 6, 42, 0), (1, 0, 0, 0, 99)], (9, 5, 4, 0, 0, [])),
  (26, [(0, 0, 0, 0, 4)], (1, 6, 0, 0, 0, [])),
  (30, [(0, 0, 0, 0, 1)], (0, 6, 0, 0, 0, [])),
  (31, [], (11, 9, 7, 0, 0, [])),
  (34, [(5, 0, 0, 0, 0), (5, 1, 0, 0, 0)], (18, 8, 18, 2, 4, [(0, 64)])),
  (39, [], (24, 0, 0, 0, 0, [])),
  (40, [(5, 0, 0, 0, 0), (0, 0, 0, 0, 0), (24, 4, 6, 42, 0), (5, 0, 0, 0, 0), (23, 4, 3, 32, 0), (1, 0, 0, 0, 59)], (9, 11, 10, 0, 0, [])),
  (54, [(0, 0, 0, 0, 1)], (1, 12, 0, 0, 0, [])),
  (58, [(0, 0, 0, 0, 0)], (0, 12, 0, 0, 0, [])),
  (59, [], (24, 0, 0, 0, 0, []))]
/-- X4_takeLetter (17) -/
def ai_p17 : List ai_B := [(0, [(5, 0, 0, 0, 0), (23, 4, 3, 32, 0)], (17, 11, 0, 44, 0, [(99, 1), (103, 8), (115, 10), (118, 9)])),
  (48, [(5, 1, 0, 0, 0), (23, 3, 3, 67, 0), (1, 0, 0, 0, 6)], (10, 3, 2, 0, 0, [])),
  (57, [(0, 0, 0, 0, 1)], (1, 4, 0, 0, 0, [])),
  (61, [(0, 0, 0, 0, 0)], (0, 4, 0, 0, 0, [])),
  (62, [(6, 2, 0, 0, 0), (5, 1, 0, 0, 0), (20, 0, 0, 0, 0), (23, 3, 3, 67, 0), (3, 2, 0, 0, 0)], (2, 6, 5, 0, 0, [])),
  (72, [(0, 0, 0, 0, 0)], (1, 7, 0, 0, 0, [])),
  (76, [(0, 0, 0, 0, 1)], (0, 7, 0, 0, 0, [])),
  (77, [(10, 0, 0, 0, 0), (24, 3, 3, 67, 0)], (1, 12, 0, 0, 0, [])),
  (84, [(5, 0, 0, 0, 0), (23, 4, 8, 48, 0), (6, 2, 0, 0, 0), (5, 0, 0, 0, 0), (0, 0, 0, 0, 1), (25, 4, 8, 48, 0)], (1, 12, 0, 0, 0, [])),
  (97, [(5, 0, 0, 0, 0), (23, 4, 9, 52, 0), (6, 2, 0, 0, 0), (5, 0, 0, 0, 0), (0, 0, 0, 0, 1), (25, 4, 9, 52, 0)], (1, 12, 0, 0, 0, [])),
  (110, [(5, 0, 0, 0, 0), (23, 4, 10, 55, 0), (6, 2, 0, 0, 0), (5, 0, 0, 0, 0), (0, 0, 0, 0, 1), (25, 4, 10, 55, 0)], (1, 12, 0, 0, 0, [])),
  (123, [(0, 0, 0, 0, 0)], (24, 0, 0, 0, 0, [])),
  (125, [(5, 0, 0, 0, 0), (5, 0, 0, 0, 0), (23, 4, 3, 32, 0), (24, 4, 6, 42, 0), (5, 0, 0, 0, 0), (0, 0, 0, 0, 0), (24, 4, 7, 61, 0), (3, 2, 0, 0, 0)], (3, 14, 13, 0, 0, [])),
  (142, [(0, 0, 0, 0, 1)], (1, 15, 0, 0, 0, [])),
  (146, [(0, 0, 0, 0, 0)], (0, 15, 0, 0, 0, [])),
  (147, [], (24, 0, 0, 0, 0, []))]
/-- X4_takeNumber (18) -/
def ai_p18 : List ai_B := [(0, [(5, 0, 0, 0, 0), (23, 4, 3, 32, 0), (2, 0, 0, 0, 257)], (9, 5, 1, 0, 0, [])),
  (10, [(5, 0, 0, 0, 0), (23, 4, 5, 70, 0), (5, 0, 0, 0, 0)], (18, 2, 19, 1, 4, [(0, 73)])),
  (18, [], (10, 5, 3, 0, 0, [])),
  (21, [(5, 0, 0, 0, 0), (23, 4, 5, 70, 0), (5, 0, 0, 0, 0)], (18, 4, 20, 1, 4, [(0, 77)])),
  (29, [], (13, 6, 5, 0, 0, [])),
  (32, [(0, 0, 0, 0, 0)], (24, 0, 0, 0, 0, [])),
  (34, [(5, 0, 0, 0, 0), (23, 4, 6, 42, 0)], (17, 10, 0, 34, 0, [(103, 7), (115, 9), (118, 8)])),
  (72, [(5, 1, 0, 0, 0), (5, 0, 0, 0, 0), (23, 4, 5, 70, 0), (24, 3, 0, 80, 0)], (1, 11, 0, 0, 0, [])),
  (83, [(5, 1, 0, 0, 0), (5, 0, 0, 0, 0), (23, 4, 5, 70, 0), (24, 3, 1, 83, 0)], (1, 11, 0, 0, 0, [])),
  (94, [(5, 1, 0, 0, 0), (5, 0, 0, 0, 0), (23, 4, 5, 70, 0), (24, 3, 2, 86, 0)], (1, 11, 0, 0, 0, [])),
  (105, [(5, 1, 0, 0, 0), (5, 0, 0, 0, 0), (23, 4, 7, 61, 0), (5, 0, 0, 0, 0), (23, 4, 5, 70, 0)], (18, 11, 10, 3, 3, [(0, 89)])),
  (117, [(5, 0, 0, 0, 0), (20, 0, 0, 0, 0), (23, 4, 7, 61, 0), (0, 0, 0, 0, 1), (10, 0, 0, 0, 0), (24, 4, 7, 61, 0), (0, 0, 0, 0, 1)], (24, 0, 0, 0, 0, []))]
/-- X4_leastNumber (19) -/
def ai_p19 : List ai_B := [(0, [(5, 0, 0, 0, 0), (23, 4, 6, 42, 0), (1, 0, 0, 0, 99)], (9, 3, 1, 0, 0, [])),
  (9, [(5, 0, 0, 0, 0), (23, 4, 7, 61, 0)], (3, 3, 2, 0, 0, [])),
  (16, [(0, 0, 0, 0, 1)], (1, 4, 0, 0, 0, [])),
  (20, [(0, 0, 0, 0, 0)], (0, 4, 0, 0, 0, [])),
  (21, [(6, 1, 0, 0, 0), (3, 1, 0, 0, 0)], (3, 6, 5, 0, 0, [])),
  (26, [(5, 0, 0, 0, 0), (23, 4, 6, 42, 0), (1, 0, 0, 0, 115)], (9, 7, 6, 0, 0, [])),
  (35, [(0, 0, 0, 0, 1)], (1, 8, 0, 0, 0, [])),
  (39, [(0, 0, 0, 0, 0)], (0, 8, 0, 0, 0, [])),
  (40, [], (23, 0, 0, 0, 0, []))]
/-- X4_mostNumber (20) -/
def ai_p20 : List ai_B := [(0, [(5, 0, 0, 0, 0), (23, 4, 6, 42, 0), (1, 0, 0, 0, 99)], (8, 5, 1, 0, 0, [])),
  (9, [(5, 0, 0, 0, 0), (23, 4, 6, 42, 0), (1, 0, 0, 0, 115)], (9, 3, 2, 0, 0, [])),
  (18, [(1, 0, 0, 0, 60)], (1, 4, 0, 0, 0, [])),
  (23, [(1, 0, 0, 0, 9)], (0, 4, 0, 0, 0, [])),
  (25, [], (23, 0, 0, 0, 0, [])),
  (26, [(5, 0, 0, 0, 0), (23, 4, 7, 61, 0)], (16, 9, 0, 26, 0, [(0, 6), (1, 7), (2, 8)])),
  (56, [(1, 0, 0, 0, 30)], (23, 0, 0, 0, 0, [])),
  (59, [(1, 0, 0, 0, 30)], (23, 0, 0, 0, 0, [])),
  (62, [(1, 0, 0, 0, 9)], (23, 0, 0, 0, 0, [])),
  (65, [(0, 0, 0, 0, 5)], (23, 0, 0, 0, 0, []))]
/-- X4_readToken (21) -/
def ai_p21 : List ai_B := [(0, [(5, 0, 0, 0, 0), (23, 4, 2, 45, 0), (5, 0, 0, 0, 0), (23, 4, 1, 15, 0)], (11, 4, 1, 0, 0, [])),
  (11, [(5, 0, 0, 0, 0), (23, 4, 0, 9, 0), (5, 0, 0, 0, 0), (23, 4, 2, 45, 0)], (21, 2, 79, 2, 0, [(0, 93)])),
  (22, [(1, 0, 0, 0, 32)], (9, 4, 3, 0, 0, [])),
  (27, [(5, 0, 0, 0, 0), (20, 0, 0, 0, 0), (23, 4, 2, 45, 0), (0, 0, 0, 0, 1), (10, 0, 0, 0, 0), (24, 4, 2, 45, 0)], (1, 0, 0, 0, 0, [])),
  (40, [(5, 0, 0, 0, 0), (5, 0, 0, 0, 0), (23, 4, 2, 45, 0), (24, 4, 4, 39, 0), (5, 0, 0, 0, 0), (23, 4, 2, 45, 0), (5, 0, 0, 0, 0), (23, 4, 1, 15, 0)], (10, 6, 5, 0, 0, [])),
  (59, [(5, 0, 0, 0, 0), (2, 0, 0, 0, 256), (24, 4, 3, 32, 0)], (27, 0, 0, 0, 0, [])),
  (67, [(5, 0, 0, 0, 0), (5, 0, 0, 0, 0), (23, 4, 0, 9, 0), (5, 0, 0, 0, 0), (23, 4, 2, 45, 0)], (21, 7, 79, 2, 0, [(0, 93)])),
  (79, [(24, 4, 3, 32, 0), (5, 0, 0, 0, 0), (23, 4, 3, 32, 0)], (19, 8, 23, 1, 0, [(0, 97)])),
  (89, [], (2, 11, 9, 0, 0, [])),
  (92, [(5, 0, 0, 0, 0)], (18, 10, 22, 1, 4, [(0, 101)])),
  (96, [], (1, 12, 0, 0, 0, [])),
  (99, [(5, 0, 0, 0, 0), (20, 0, 0, 0, 0), (23, 4, 2, 45, 0), (0, 0, 0, 0, 1), (10, 0, 0, 0, 0), (24, 4, 2, 45, 0)], (0, 12, 0, 0, 0, [])),
  (109, [], (27, 0, 0, 0, 0, []))]
/-- X4_readNumber (22) -/
def ai_p22 : List ai_B := [(0, [(5, 0, 0, 0, 0), (23, 4, 0, 9, 0), (5, 0, 0, 0, 0), (23, 4, 2, 45, 0)], (21, 1, 79, 2, 0, [(0, 93)])),
  (11, [(1, 0, 0, 0, 48)], (9, 3, 2, 0, 0, [])),
  (16, [(0, 0, 0, 0, 1)], (1, 4, 0, 0, 0, [])),
  (20, [(0, 0, 0, 0, 0)], (0, 4, 0, 0, 0, [])),
  (21, [(6, 1, 0, 0, 0), (5, 0, 0, 0, 0), (0, 0, 0, 0, 0), (24, 4, 5, 70, 0)], (0, 5, 0, 0, 0, [])),
  (27, [(5, 0, 0, 0, 0), (23, 4, 2, 45, 0), (5, 0, 0, 0, 0), (23, 4, 1, 15, 0)], (11, 11, 6, 0, 0, [])),
  (38, [(5, 0, 0, 0, 0), (23, 4, 0, 9, 0), (5, 0, 0, 0, 0), (23, 4, 2, 45, 0)], (21, 7, 79, 2, 0, [(0, 93)])),
  (49, [], (19, 8, 23, 1, 0, [(0, 97)])),
  (52, [], (2, 11, 9, 0, 0, [])),
  (55, [(5, 0, 0, 0, 0), (1, 0, 0, 0, 100), (1, 0, 0, 0, 10), (5, 0, 0, 0, 0), (23, 4, 5, 70, 0), (12, 0, 0, 0, 0), (5, 0, 0, 0, 0), (23, 4, 0, 9, 0), (5, 0, 0, 0, 0), (23, 4, 2, 45, 0)], (21, 10, 79, 2, 0, [(0, 93)])),
  (76, [(10, 0, 0, 0, 0), (1, 0, 0, 0, 48), (11, 0, 0, 0, 0), (48, 0, 0, 104, 0), (24, 4, 5, 70, 0), (5, 0, 0, 0, 0), (20, 0, 0, 0, 0), (23, 4, 2, 45, 0), (0, 0, 0, 0, 1), (10, 0, 0, 0, 0), (24, 4, 2, 45, 0)], (1, 5, 0, 0, 0, [])),
  (99, [(5, 0, 0, 0, 0), (23, 4, 2, 45, 0), (5, 0, 0, 0, 0), (23, 4, 4, 39, 0), (11, 0, 0, 0, 0), (0, 0, 0, 0, 1)], (13, 13, 12, 0, 0, [])),
  (112, [(0, 0, 0, 0, 1)], (1, 14, 0, 0, 0, [])),
  (116, [(0, 0, 0, 0, 0)], (0, 14, 0, 0, 0, [])),
  (117, [(6, 2, 0, 0, 0), (5, 0, 0, 0, 0), (5, 0, 0, 0, 0), (23, 4, 5, 70, 0), (1, 0, 0, 0, 99)], (12, 17, 15, 0, 0, [])),
  (128, [(3, 1, 0, 0, 0)], (2, 18, 16, 0, 0, [])),
  (132, [(3, 2, 0, 0, 0)], (2, 18, 17, 0, 0, [])),
  (136, [(2, 0, 0, 0, 258)], (1, 19, 0, 0, 0, [])),
  (142, [(2, 0, 0, 0, 257)], (0, 19, 0, 0, 0, [])),
  (145, [(24, 4, 3, 32, 0)], (27, 0, 0, 0, 0, []))]
/-- X4_isDigit (23) -/
def ai_p23 : List ai_B := [(0, [(3, 0, 0, 0, 0), (1, 0, 0, 0, 48)], (10, 3, 1, 0, 0, [])),
  (6, [(3, 0, 0, 0, 0), (1, 0, 0, 0, 57)], (12, 3, 2, 0, 0, [])),
  (12, [(0, 0, 0, 0, 1)], (1, 4, 0, 0, 0, [])),
  (16, [(0, 0, 0, 0, 0)], (0, 4, 0, 0, 0, [])),
  (17, [], (24, 0, 0, 0, 0, []))]
/-- X5_init (24) -/
def ai_p24 : List ai_B := [(0, [(5, 0, 0, 0, 0), (47, 0, 0, 1, 0), (5, 0, 0, 0, 0), (39, 3, 0, 7, 0), (20, 0, 0, 0, 0)], (22, 1, 8, 1, 0, [(0, 9)])),
  (12, [(27, 5, 0, 10, 0), (5, 0, 0, 0, 0), (39, 3, 0, 7, 0), (20, 0, 0, 0, 0)], (22, 2, 8, 1, 0, [(0, 9)])),
  (23, [(27, 5, 1, 16, 0), (5, 0, 0, 0, 0), (39, 4, 0, 19, 0), (20, 0, 0, 0, 0)], (22, 3, 11, 1, 0, [(0, 21)])),
  (34, [(28, 5, 2, 22, 0), (5, 0, 0, 0, 0), (39, 1, 0, 26, 0), (20, 0, 0, 0, 0)], (22, 4, 2, 1, 0, [(0, 28)])),
  (45, [(28, 5, 3, 29, 0), (5, 0, 0, 0, 0), (39, 2, 0, 33, 0), (20, 0, 0, 0, 0)], (20, 5, 5, 1, 0, [(0, 35)])),
  (56, [(28, 5, 4, 36, 0), (5, 0, 0, 0, 0), (0, 0, 0, 0, 2), (38, 0, 0, 26, 0), (28, 5, 5, 40, 0), (0, 0, 0, 0, 0), (6, 1, 0, 0, 0)], (0, 6, 0, 0, 0, [])),
  (69, [(3, 1, 0, 0, 0), (0, 0, 0, 0, 2)], (11, 9, 7, 0, 0, [])),
  (74, [(5, 0, 0, 0, 0), (23, 5, 5, 40, 0), (3, 1, 0, 0, 0), (39, 1, 0, 26, 0), (20, 0, 0, 0, 0)], (22, 8, 2, 1, 0, [(0, 28)])),
  (86, [(34, 0, 0, 0, 0), (9, 1, 0, 0, 1)], (1, 6, 0, 0, 0, [])),
  (93, [(5, 0, 0, 0, 0), (39, 0, 0, 44, 0), (20, 0, 0, 0, 0)], (22, 10, 0, 1, 0, [(0, 46)])),
  (101, [(28, 5, 7, 47, 0), (5, 0, 0, 0, 0), (1, 0, 0, 0, 6), (36, 0, 0, 0, 0), (28, 5, 8, 51, 0), (5, 0, 0, 0, 0), (1, 0, 0, 0, 121), (36, 0, 0, 0, 0), (28, 5, 9, 55, 0), (5, 0, 0, 0, 0), (23, 5, 3, 29, 0), (5, 0, 0, 0, 0), (23, 5, 0, 10, 0), (23, 3, 1, 58, 0)], (18, 11, 3, 2, 1, [(0, 62)])),
  (134, [], (27, 0, 0, 0, 0, []))]
/-- X5_type (25) -/
def ai_p25 : List ai_B := [(0, [(3, 1, 0, 0, 0)], (4, 2, 1, 0, 0, [])),
  (4, [(3, 1, 0, 0, 0), (2, 0, 0, 0, 255)], (13, 3, 2, 0, 0, [])),
  (11, [(0, 0, 0, 0, (-1))], (23, 0, 0, 0, 0, [])),
  (13, [(5, 0, 0, 0, 0), (23, 5, 2, 22, 0), (3, 1, 0, 0, 0)], (18, 4, 12, 2, 4, [(0, 66)])),
  (21, [], (2, 6, 5, 0, 0, [])),
  (24, [(5, 0, 0, 0, 0), (23, 5, 2, 22, 0), (23, 4, 1, 70, 0)], (1, 7, 0, 0, 0, [])),
  (34, [(1, 0, 0, 0, (-3))], (0, 7, 0, 0, 0, [])),
  (36, [], (23, 0, 0, 0, 0, []))]
/-- X5_clear (26) -/
def ai_p26 : List ai_B := [(0, [(5, 0, 0, 0, 0), (23, 5, 2, 22, 0)], (18, 1, 13, 1, 4, [(0, 73)])),
  (7, [], (23, 0, 0, 0, 0, []))]
/-- X5_embassy (27) -/
def ai_p27 : List ai_B := [(0, [(5, 0, 0, 0, 0), (23, 5, 2, 22, 0), (5, 0, 0, 0, 0), (23, 5, 1, 16, 0)], (18, 1, 14, 2, 4, [(0, 77)])),
  (11, [(6, 1, 0, 0, 0), (3, 1, 0, 0, 0)], (5, 3, 2, 0, 0, [])),
  (16, [(3, 1, 0, 0, 0)], (23, 0, 0, 0, 0, [])),
  (18, [(5, 0, 0, 0, 0), (23, 5, 1, 16, 0), (8, 2, 0, 0, 0), (5, 0, 0, 0, 0), (5, 0, 0, 0, 0), (23, 5, 0, 10, 0), (27, 5, 1, 16, 0), (5, 0, 0, 0, 0), (5, 2, 0, 0, 0), (27, 5, 0, 10, 0), (5, 0, 0, 0, 0), (23, 5, 2, 22, 0)], (18, 4, 13, 1, 4, [(0, 73)])),
  (43, [(22, 0, 0, 0, 0), (5, 0, 0, 0, 0), (23, 5, 3, 29, 0), (5, 0, 0, 0, 0), (23, 5, 0, 10, 0), (23, 3, 1, 58, 0)], (18, 5, 3, 2, 1, [(0, 62)])),
  (58, [(5, 0, 0, 0, 0), (23, 5, 4, 36, 0), (0, 0, 0, 0, 0), (24, 2, 2, 81, 0), (5, 0, 0, 0, 0), (0, 0, 0, 0, 0), (24, 5, 6, 84, 0), (5, 0, 0, 0, 0), (23, 5, 7, 47, 0), (0, 0, 0, 0, 0), (24, 0, 3, 87, 0), (3, 1, 0, 0, 0)], (23, 0, 0, 0, 0, []))]
/-- X5_caller (28) -/
def ai_p28 : List ai_B := [(0, [(5, 0, 0, 0, 0), (3, 1, 0, 0, 0)], (18, 1, 30, 2, 5, [(0, 90)])),
  (5, [], (3, 3, 2, 0, 0, [])),
  (8, [(0, 0, 0, 0, (-1))], (23, 0, 0, 0, 0, [])),
  (10, [(3, 2, 0, 0, 0)], (16, 28, 0, 49, 0, [(0, 4), (1, 6), (2, 8), (3, 10), (4, 12), (5, 14), (6, 16), (7, 21), (8, 26)])),
  (60, [(5, 0, 0, 0, 0), (23, 5, 0, 10, 0), (23, 3, 4, 93, 0), (3, 1, 0, 0, 0)], (19, 5, 79, 2, 0, [(0, 96)])),
  (71, [], (23, 0, 0, 0, 0, [])),
  (72, [(5, 0, 0, 0, 0), (23, 5, 0, 10, 0), (23, 3, 5, 100, 0), (3, 1, 0, 0, 0)], (19, 7, 79, 2, 0, [(0, 96)])),
  (83, [], (23, 0, 0, 0, 0, [])),
  (84, [(5, 0, 0, 0, 0), (23, 5, 0, 10, 0), (23, 3, 6, 103, 0), (3, 1, 0, 0, 0)], (19, 9, 79, 2, 0, [(0, 96)])),
  (95, [], (23, 0, 0, 0, 0, [])),
  (96, [(5, 0, 0, 0, 0), (23, 5, 0, 10, 0), (23, 3, 7, 106, 0), (3, 1, 0, 0, 0)], (19, 11, 79, 2, 0, [(0, 96)])),
  (107, [], (23, 0, 0, 0, 0, [])),
  (108, [(5, 0, 0, 0, 0), (23, 5, 3, 29, 0), (23, 1, 0, 109, 0), (3, 1, 0, 0, 0)], (19, 13, 79, 2, 0, [(0, 96)])),
  (119, [], (23, 0, 0, 0, 0, [])),
  (120, [(5, 0, 0, 0, 0), (23, 5, 3, 29, 0), (23, 1, 1, 112, 0), (3, 1, 0, 0, 0)], (19, 15, 79, 2, 0, [(0, 96)])),
  (131, [], (23, 0, 0, 0, 0, [])),
  (132, [(5, 0, 0, 0, 0), (23, 5, 3, 29, 0), (23, 1, 2, 115, 0), (3, 1, 0, 0, 0)], (19, 17, 82, 2, 0, [(0, 118)])),
  (143, [], (2, 19, 18, 0, 0, [])),
  (146, [(0, 0, 0, 0, 1)], (1, 20, 0, 0, 0, [])),
  (150, [(0, 0, 0, 0, 0)], (0, 20, 0, 0, 0, [])),
  (151, [], (23, 0, 0, 0, 0, [])),
  (152, [(5, 0, 0, 0, 0), (23, 5, 3, 29, 0), (23, 1, 3, 122, 0), (3, 1, 0, 0, 0)], (19, 22, 82, 2, 0, [(0, 118)])),
  (163, [], (2, 24, 23, 0, 0, [])),
  (166, [(0, 0, 0, 0, 1)], (1, 25, 0, 0, 0, [])),
  (170, [(0, 0, 0, 0, 0)], (0, 25, 0, 0, 0, [])),
  (171, [], (23, 0, 0, 0, 0, [])),
  (172, [(5, 0, 0, 0, 0), (3, 1, 0, 0, 0)], (18, 27, 32, 2, 5, [(0, 125)])),
  (177, [], (23, 0, 0, 0, 0, [])),
  (178, [(0, 0, 0, 0, (-1))], (23, 0, 0, 0, 0, []))]
/-- X5_now (29) -/
def ai_p29 : List ai_B := [(0, [(3, 1, 0, 0, 0)], (16, 10, 0, 43, 0, [(0, 1), (1, 2), (2, 3), (3, 4), (4, 5), (5, 7), (6, 9)])),
  (44, [(5, 0, 0, 0, 0), (23, 5, 3, 29, 0), (23, 1, 6, 129, 0)], (23, 0, 0, 0, 0, [])),
  (52, [(5, 0, 0, 0, 0), (23, 5, 3, 29, 0), (23, 1, 4, 130, 0)], (23, 0, 0, 0, 0, [])),
  (60, [(5, 0, 0, 0, 0), (23, 5, 3, 29, 0), (23, 1, 5, 133, 0)], (23, 0, 0, 0, 0, [])),
  (68, [(5, 0, 0, 0, 0), (23, 5, 3, 29, 0), (23, 1, 7, 136, 0)], (23, 0, 0, 0, 0, [])),
  (76, [(5, 0, 0, 0, 0), (5, 0, 0, 0, 0), (23, 5, 3, 29, 0), (23, 1, 2, 115, 0)], (18, 6, 31, 2, 5, [(0, 139)])),
  (87, [], (23, 0, 0, 0, 0, [])),
  (88, [(5, 0, 0, 0, 0)], (18, 8, 33, 1, 5, [(0, 142)])),
  (92, [], (23, 0, 0, 0, 0, [])),
  (93, [(5, 0, 0, 0, 0), (23, 5, 4, 36, 0), (23, 2, 2, 81, 0)], (23, 0, 0, 0, 0, [])),
  (101, [(0, 0, 0, 0, (-1))], (23, 0, 0, 0, 0, []))]
/-- X5_isCaller (30) -/
def ai_p30 : List ai_B := [(0, [(3, 1, 0, 0, 0)], (4, 3, 1, 0, 0, [])),
  (4, [(3, 1, 0, 0, 0), (5, 0, 0, 0, 0), (23, 5, 0, 10, 0), (23, 3, 3, 145, 0)], (11, 3, 2, 0, 0, [])),
  (15, [(0, 0, 0, 0, 1)], (1, 4, 0, 0, 0, [])),
  (19, [(0, 0, 0, 0, 0)], (0, 4, 0, 0, 0, [])),
  (20, [], (24, 0, 0, 0, 0, []))]
/-- X5_landOf (31) -/
def ai_p31 : List ai_B := [(0, [(0, 0, 0, 0, 0), (6, 2, 0, 0, 0), (0, 0, 0, 0, 0), (6, 3, 0, 0, 0)], (0, 1, 0, 0, 0, [])),
  (4, [(3, 3, 0, 0, 0), (5, 0, 0, 0, 0), (23, 5, 0, 10, 0), (23, 3, 3, 145, 0)], (11, 7, 2, 0, 0, [])),
  (15, [(3, 1, 0, 0, 0), (3, 3, 0, 0, 0)], (19, 3, 82, 2, 0, [(0, 118)])),
  (20, [], (2, 6, 4, 0, 0, [])),
  (23, [(3, 2, 0, 0, 0), (5, 0, 0, 0, 0), (23, 5, 0, 10, 0), (23, 3, 6, 103, 0), (3, 3, 0, 0, 0)], (19, 5, 79, 2, 0, [(0, 96)])),
  (35, [(10, 0, 0, 0, 0), (6, 2, 0, 0, 0)], (0, 6, 0, 0, 0, [])),
  (37, [(9, 3, 0, 0, 1)], (1, 1, 0, 0, 0, [])),
  (43, [(3, 2, 0, 0, 0)], (23, 0, 0, 0, 0, []))]
/-- X5_ringOf (32) -/
def ai_p32 : List ai_B := [(0, [(3, 1, 0, 0, 0), (6, 2, 0, 0, 0), (0, 0, 0, 0, 1), (6, 3, 0, 0, 0)], (0, 1, 0, 0, 0, [])),
  (4, [(3, 3, 0, 0, 0), (1, 0, 0, 0, 6)], (12, 9, 2, 0, 0, [])),
  (10, [(5, 0, 0, 0, 0), (23, 5, 0, 10, 0), (23, 3, 7, 106, 0), (3, 2, 0, 0, 0)], (19, 3, 79, 2, 0, [(0, 96)])),
  (21, [(6, 2, 0, 0, 0), (5, 0, 0, 0, 0), (3, 2, 0, 0, 0)], (18, 4, 30, 2, 5, [(0, 90)])),
  (27, [], (3, 6, 5, 0, 0, [])),
  (30, [(0, 0, 0, 0, 0)], (23, 0, 0, 0, 0, [])),
  (32, [(3, 2, 0, 0, 0), (3, 1, 0, 0, 0)], (9, 8, 7, 0, 0, [])),
  (37, [(3, 3, 0, 0, 0)], (23, 0, 0, 0, 0, [])),
  (39, [(9, 3, 0, 0, 1)], (1, 1, 0, 0, 0, [])),
  (45, [(0, 0, 0, 0, 0)], (23, 0, 0, 0, 0, []))]
/-- X5_traded (33) -/
def ai_p33 : List ai_B := [(0, [(0, 0, 0, 0, 0), (6, 1, 0, 0, 0), (0, 0, 0, 0, 0), (6, 2, 0, 0, 0)], (0, 1, 0, 0, 0, [])),
  (4, [(3, 2, 0, 0, 0), (5, 0, 0, 0, 0), (23, 5, 0, 10, 0), (23, 3, 3, 145, 0)], (11, 6, 2, 0, 0, [])),
  (15, [(5, 0, 0, 0, 0), (3, 2, 0, 0, 0)], (18, 3, 32, 2, 5, [(0, 125)])),
  (20, [], (7, 5, 4, 0, 0, [])),
  (23, [(3, 1, 0, 0, 0), (0, 0, 0, 0, 1), (3, 2, 0, 0, 0), (15, 0, 0, 0, 0), (14, 0, 0, 0, 0), (6, 1, 0, 0, 0)], (0, 5, 0, 0, 0, [])),
  (29, [(9, 2, 0, 0, 1)], (1, 1, 0, 0, 0, [])),
  (35, [(3, 1, 0, 0, 0)], (23, 0, 0, 0, 0, []))]
/-- X5_shakes (34) -/
def ai_p34 : List ai_B := [(0, [(5, 0, 0, 0, 0), (3, 1, 0, 0, 0)], (18, 1, 30, 2, 5, [(0, 90)])),
  (5, [], (2, 4, 2, 0, 0, [])),
  (8, [(3, 2, 0, 0, 0)], (19, 3, 83, 1, 0, [(0, 148)])),
  (12, [], (3, 5, 4, 0, 0, [])),
  (15, [(0, 0, 0, 0, (-1))], (23, 0, 0, 0, 0, [])),
  (17, [(5, 0, 0, 0, 0), (23, 5, 3, 29, 0), (23, 1, 7, 136, 0), (1, 0, 0, 0, (-9))], (9, 8, 6, 0, 0, [])),
  (29, [(5, 0, 0, 0, 0), (23, 5, 3, 29, 0), (23, 1, 3, 122, 0), (3, 1, 0, 0, 0)], (19, 7, 82, 2, 0, [(0, 118)])),
  (40, [], (2, 9, 8, 0, 0, [])),
  (43, [(1, 0, 0, 0, (-2))], (23, 0, 0, 0, 0, [])),
  (46, [(5, 0, 0, 0, 0), (23, 5, 4, 36, 0), (5, 0, 0, 0, 0), (23, 5, 3, 29, 0)], (18, 10, 6, 2, 2, [(0, 151)])),
  (57, [(3, 2, 0, 0, 0), (0, 0, 0, 0, 1)], (9, 12, 11, 0, 0, [])),
  (62, [(5, 0, 0, 0, 0), (23, 5, 3, 29, 0), (2, 0, 0, 0, 999), (5, 0, 0, 0, 0), (23, 5, 3, 29, 0), (23, 1, 5, 133, 0), (5, 0, 0, 0, 0), (23, 5, 0, 10, 0), (23, 3, 0, 155, 0), (10, 0, 0, 0, 0), (48, 0, 0, 158, 0), (24, 1, 5, 133, 0)], (0, 12, 0, 0, 0, [])),
  (90, [(5, 0, 0, 0, 0), (23, 5, 3, 29, 0), (23, 1, 0, 109, 0), (3, 1, 0, 0, 0), (5, 0, 0, 0, 0), (23, 5, 3, 29, 0), (23, 1, 0, 109, 0), (3, 1, 0, 0, 0)], (19, 13, 79, 2, 0, [(0, 96)])),
  (109, [(5, 0, 0, 0, 0), (3, 2, 0, 0, 0)], (18, 14, 40, 2, 5, [(0, 164)])),
  (114, [(10, 0, 0, 0, 0)], (19, 15, 80, 3, 0, [(0, 167)])),
  (118, [(5, 0, 0, 0, 0), (23, 5, 3, 29, 0), (23, 1, 1, 112, 0), (3, 1, 0, 0, 0), (5, 0, 0, 0, 0), (23, 5, 3, 29, 0), (23, 1, 1, 112, 0), (3, 1, 0, 0, 0)], (19, 16, 79, 2, 0, [(0, 96)])),
  (137, [(5, 0, 0, 0, 0), (3, 2, 0, 0, 0)], (18, 17, 41, 2, 5, [(0, 171)])),
  (142, [(10, 0, 0, 0, 0)], (19, 18, 80, 3, 0, [(0, 167)])),
  (146, [(5, 0, 0, 0, 0), (3, 1, 0, 0, 0)], (18, 19, 42, 2, 5, [(0, 174)])),
  (151, [(6, 3, 0, 0, 0), (5, 0, 0, 0, 0), (3, 1, 0, 0, 0)], (18, 20, 43, 2, 5, [(0, 177)])),
  (157, [(3, 3, 0, 0, 0)], (23, 0, 0, 0, 0, []))]
/-- X5_opens (35) -/
def ai_p35 : List ai_B := [(0, [(5, 0, 0, 0, 0), (23, 5, 3, 29, 0), (23, 1, 7, 136, 0), (6, 1, 0, 0, 0), (3, 1, 0, 0, 0), (1, 0, 0, 0, (-9))], (9, 2, 1, 0, 0, [])),
  (14, [(1, 0, 0, 0, (-2))], (23, 0, 0, 0, 0, [])),
  (17, [(5, 0, 0, 0, 0), (23, 5, 4, 36, 0), (5, 0, 0, 0, 0), (23, 5, 3, 29, 0)], (18, 3, 6, 2, 2, [(0, 151)])),
  (28, [(5, 0, 0, 0, 0), (23, 5, 3, 29, 0), (1, 0, 0, 0, (-9)), (24, 1, 7, 136, 0), (3, 1, 0, 0, 0)], (23, 0, 0, 0, 0, []))]
/-- X5_lines (36) -/
def ai_p36 : List ai_B := [(0, [(3, 1, 0, 0, 0)], (4, 2, 1, 0, 0, [])),
  (4, [(3, 1, 0, 0, 0), (1, 0, 0, 0, 10)], (10, 3, 2, 0, 0, [])),
  (10, [(0, 0, 0, 0, (-1))], (23, 0, 0, 0, 0, [])),
  (12, [(5, 0, 0, 0, 0), (23, 5, 3, 29, 0), (23, 1, 6, 129, 0), (6, 2, 0, 0, 0), (3, 2, 0, 0, 0), (3, 1, 0, 0, 0)], (9, 5, 4, 0, 0, [])),
  (25, [(1, 0, 0, 0, (-2))], (23, 0, 0, 0, 0, [])),
  (28, [(5, 0, 0, 0, 0), (23, 5, 4, 36, 0), (5, 0, 0, 0, 0), (23, 5, 3, 29, 0)], (18, 6, 6, 2, 2, [(0, 151)])),
  (39, [(5, 0, 0, 0, 0), (23, 5, 3, 29, 0), (3, 1, 0, 0, 0), (24, 1, 6, 129, 0), (3, 2, 0, 0, 0)], (23, 0, 0, 0, 0, []))]
/-- X5_winds (37) -/
def ai_p37 : List ai_B := [(0, [(5, 0, 0, 0, 0), (23, 5, 3, 29, 0), (23, 1, 4, 130, 0), (6, 1, 0, 0, 0), (3, 1, 0, 0, 0)], (3, 2, 1, 0, 0, [])),
  (12, [(1, 0, 0, 0, (-2))], (23, 0, 0, 0, 0, [])),
  (15, [(5, 0, 0, 0, 0), (23, 5, 4, 36, 0), (5, 0, 0, 0, 0), (23, 5, 3, 29, 0)], (18, 3, 6, 2, 2, [(0, 151)])),
  (26, [(5, 0, 0, 0, 0), (23, 5, 3, 29, 0), (0, 0, 0, 0, 0), (24, 1, 4, 130, 0), (3, 1, 0, 0, 0)], (23, 0, 0, 0, 0, []))]
/-- X5_consoles (38) -/
def ai_p38 : List ai_B := [(0, [(5, 0, 0, 0, 0), (3, 1, 0, 0, 0)], (18, 1, 30, 2, 5, [(0, 90)])),
  (5, [], (3, 3, 2, 0, 0, [])),
  (8, [(0, 0, 0, 0, (-1))], (23, 0, 0, 0, 0, [])),
  (10, [(5, 0, 0, 0, 0), (23, 5, 3, 29, 0), (23, 1, 0, 109, 0), (3, 1, 0, 0, 0)], (19, 4, 79, 2, 0, [(0, 96)])),
  (21, [(6, 2, 0, 0, 0), (3, 2, 0, 0, 0)], (2, 7, 5, 0, 0, [])),
  (26, [(5, 0, 0, 0, 0), (23, 5, 3, 29, 0), (23, 1, 3, 122, 0), (3, 1, 0, 0, 0)], (19, 6, 82, 2, 0, [(0, 118)])),
  (37, [], (2, 8, 7, 0, 0, [])),
  (40, [(1, 0, 0, 0, (-2))], (23, 0, 0, 0, 0, [])),
  (43, [(5, 0, 0, 0, 0), (23, 5, 4, 36, 0), (5, 0, 0, 0, 0), (23, 5, 3, 29, 0)], (18, 9, 6, 2, 2, [(0, 151)])),
  (54, [(5, 0, 0, 0, 0), (23, 5, 3, 29, 0), (23, 1, 0, 109, 0), (3, 1, 0, 0, 0), (0, 0, 0, 0, 0)], (19, 10, 80, 3, 0, [(0, 167)])),
  (66, [(3, 2, 0, 0, 0)], (23, 0, 0, 0, 0, []))]
/-- X5_undo (39) -/
def ai_p39 : List ai_B := [(0, [(5, 0, 0, 0, 0), (23, 5, 4, 36, 0), (23, 2, 2, 81, 0)], (3, 2, 1, 0, 0, [])),
  (10, [(1, 0, 0, 0, (-2))], (23, 0, 0, 0, 0, [])),
  (13, [(5, 0, 0, 0, 0), (23, 5, 4, 36, 0), (5, 0, 0, 0, 0), (23, 5, 3, 29, 0)], (18, 3, 7, 2, 2, [(0, 180)])),
  (24, [(5, 0, 0, 0, 0), (23, 5, 4, 36, 0), (23, 2, 2, 81, 0)], (23, 0, 0, 0, 0, []))]
/-- X5_bruise (40) -/
def ai_p40 : List ai_B := [(0, [(3, 1, 0, 0, 0), (0, 0, 0, 0, 1)], (9, 2, 1, 0, 0, [])),
  (5, [(0, 0, 0, 0, 0)], (1, 3, 0, 0, 0, [])),
  (9, [(5, 0, 0, 0, 0), (23, 5, 0, 10, 0), (23, 3, 0, 155, 0)], (0, 3, 0, 0, 0, [])),
  (16, [], (23, 0, 0, 0, 0, []))]
/-- X5_warmth (41) -/
def ai_p41 : List ai_B := [(0, [(3, 1, 0, 0, 0), (0, 0, 0, 0, 1)], (9, 2, 1, 0, 0, [])),
  (5, [(0, 0, 0, 0, 2), (5, 0, 0, 0, 0), (23, 5, 3, 29, 0), (23, 1, 6, 129, 0), (12, 0, 0, 0, 0)], (1, 3, 0, 0, 0, [])),
  (17, [(5, 0, 0, 0, 0), (23, 5, 3, 29, 0), (23, 1, 6, 129, 0)], (0, 3, 0, 0, 0, [])),
  (24, [], (23, 0, 0, 0, 0, []))]
/-- X5_decide (42) -/
def ai_p42 : List ai_B := [(0, [(5, 0, 0, 0, 0), (23, 5, 3, 29, 0), (23, 1, 0, 109, 0), (3, 1, 0, 0, 0)], (19, 1, 79, 2, 0, [(0, 96)])),
  (11, [(6, 2, 0, 0, 0), (5, 0, 0, 0, 0), (3, 1, 0, 0, 0), (3, 2, 0, 0, 0), (5, 0, 0, 0, 0), (23, 5, 3, 29, 0), (23, 1, 1, 112, 0), (3, 1, 0, 0, 0)], (19, 2, 79, 2, 0, [(0, 96)])),
  (26, [], (18, 3, 44, 4, 5, [(0, 183)])),
  (29, [], (2, 7, 4, 0, 0, [])),
  (32, [(5, 0, 0, 0, 0), (23, 5, 3, 29, 0), (20, 0, 0, 0, 0), (23, 1, 2, 115, 0), (0, 0, 0, 0, 1), (3, 1, 0, 0, 0), (15, 0, 0, 0, 0), (14, 0, 0, 0, 0), (24, 1, 2, 115, 0), (5, 0, 0, 0, 0), (23, 5, 3, 29, 0), (23, 1, 0, 109, 0), (3, 1, 0, 0, 0), (0, 0, 0, 0, 0)], (19, 5, 80, 3, 0, [(0, 167)])),
  (59, [(5, 0, 0, 0, 0), (23, 5, 3, 29, 0), (23, 1, 1, 112, 0), (3, 1, 0, 0, 0), (0, 0, 0, 0, 0)], (19, 6, 80, 3, 0, [(0, 167)])),
  (71, [(0, 0, 0, 0, 1)], (23, 0, 0, 0, 0, [])),
  (73, [(5, 0, 0, 0, 0), (3, 1, 0, 0, 0), (3, 2, 0, 0, 0)], (18, 8, 45, 3, 5, [(0, 187)])),
  (79, [], (2, 10, 9, 0, 0, [])),
  (82, [(5, 0, 0, 0, 0), (23, 5, 3, 29, 0), (20, 0, 0, 0, 0), (23, 1, 3, 122, 0), (0, 0, 0, 0, 1), (3, 1, 0, 0, 0), (15, 0, 0, 0, 0), (14, 0, 0, 0, 0), (24, 1, 3, 122, 0), (0, 0, 0, 0, 2)], (23, 0, 0, 0, 0, [])),
  (99, [(0, 0, 0, 0, 0)], (23, 0, 0, 0, 0, []))]
/-- X5_countShake (43) -/
def ai_p43 : List ai_B := [(0, [(5, 0, 0, 0, 0), (23, 5, 3, 29, 0), (20, 0, 0, 0, 0), (23, 1, 4, 130, 0), (0, 0, 0, 0, 1), (10, 0, 0, 0, 0), (24, 1, 4, 130, 0), (5, 0, 0, 0, 0), (23, 5, 3, 29, 0), (23, 1, 4, 130, 0), (5, 0, 0, 0, 0), (23, 5, 0, 10, 0), (23, 3, 2, 190, 0)], (9, 2, 1, 0, 0, [])),
  (30, [(5, 0, 0, 0, 0), (23, 5, 3, 29, 0), (3, 1, 0, 0, 0), (24, 1, 7, 136, 0), (5, 0, 0, 0, 0), (23, 5, 3, 29, 0), (0, 0, 0, 0, 0), (24, 1, 4, 130, 0)], (0, 2, 0, 0, 0, [])),
  (46, [], (27, 0, 0, 0, 0, []))]
/-- X5_wouldYield (44) -/
def ai_p44 : List ai_B := [(0, [(3, 3, 0, 0, 0), (5, 0, 0, 0, 0), (23, 5, 0, 10, 0), (23, 3, 5, 100, 0), (3, 1, 0, 0, 0)], (19, 1, 79, 2, 0, [(0, 96)])),
  (12, [], (10, 5, 2, 0, 0, [])),
  (15, [(3, 2, 0, 0, 0), (5, 0, 0, 0, 0), (23, 5, 0, 10, 0), (23, 3, 4, 93, 0), (3, 1, 0, 0, 0)], (19, 3, 79, 2, 0, [(0, 96)])),
  (27, [], (10, 5, 4, 0, 0, [])),
  (30, [(0, 0, 0, 0, 1)], (1, 6, 0, 0, 0, [])),
  (34, [(0, 0, 0, 0, 0)], (0, 6, 0, 0, 0, [])),
  (35, [], (24, 0, 0, 0, 0, []))]
/-- X5_wouldLeave (45) -/
def ai_p45 : List ai_B := [(0, [(3, 2, 0, 0, 0), (5, 0, 0, 0, 0), (23, 5, 0, 10, 0), (23, 3, 4, 93, 0), (3, 1, 0, 0, 0)], (19, 1, 79, 2, 0, [(0, 96)])),
  (12, [(1, 0, 0, 0, 10), (10, 0, 0, 0, 0)], (13, 3, 2, 0, 0, [])),
  (18, [(0, 0, 0, 0, 1)], (1, 4, 0, 0, 0, [])),
  (22, [(0, 0, 0, 0, 0)], (0, 4, 0, 0, 0, [])),
  (23, [], (24, 0, 0, 0, 0, []))]
/-- X5_way (46) -/
def ai_p46 : List ai_B := [(0, [(5, 0, 0, 0, 0), (3, 1, 0, 0, 0)], (18, 1, 30, 2, 5, [(0, 90)])),
  (5, [], (2, 4, 2, 0, 0, [])),
  (8, [(3, 2, 0, 0, 0), (0, 0, 0, 0, (-1))], (10, 4, 3, 0, 0, [])),
  (13, [(3, 2, 0, 0, 0), (1, 0, 0, 0, 10)], (10, 5, 4, 0, 0, [])),
  (19, [(0, 0, 0, 0, (-1))], (23, 0, 0, 0, 0, [])),
  (21, [(5, 0, 0, 0, 0), (3, 1, 0, 0, 0)], (18, 6, 50, 2, 5, [(0, 193)])),
  (26, [], (3, 8, 7, 0, 0, [])),
  (29, [(1, 0, 0, 0, (-2))], (23, 0, 0, 0, 0, [])),
  (32, [(5, 0, 0, 0, 0), (3, 1, 0, 0, 0)], (18, 9, 51, 2, 5, [(0, 196)])),
  (37, [(6, 3, 0, 0, 0), (3, 3, 0, 0, 0), (2, 0, 0, 0, 1000)], (8, 11, 10, 0, 0, [])),
  (45, [(3, 2, 0, 0, 0), (3, 3, 0, 0, 0)], (10, 12, 11, 0, 0, [])),
  (50, [(1, 0, 0, 0, (-9))], (23, 0, 0, 0, 0, [])),
  (53, [(3, 2, 0, 0, 0), (0, 0, 0, 0, (-1))], (9, 14, 13, 0, 0, [])),
  (58, [(3, 3, 0, 0, 0)], (1, 15, 0, 0, 0, [])),
  (62, [(5, 0, 0, 0, 0), (3, 2, 0, 0, 0)], (18, 15, 55, 2, 5, [(0, 199)])),
  (67, [], (23, 0, 0, 0, 0, []))]
/-- X5_gain (47) -/
def ai_p47 : List ai_B := [(0, [(3, 1, 0, 0, 0)], (4, 4, 1, 0, 0, [])),
  (4, [(3, 1, 0, 0, 0), (1, 0, 0, 0, 40)], (12, 4, 2, 0, 0, [])),
  (10, [(3, 2, 0, 0, 0)], (19, 3, 83, 1, 0, [(0, 148)])),
  (14, [], (3, 5, 4, 0, 0, [])),
  (17, [(0, 0, 0, 0, (-1))], (23, 0, 0, 0, 0, [])),
  (19, [(5, 0, 0, 0, 0)], (18, 6, 56, 1, 5, [(0, 202)])),
  (23, [(0, 0, 0, 0, 0), (6, 3, 0, 0, 0), (0, 0, 0, 0, 0), (7, 4, 0, 0, 0), (0, 0, 0, 0, 0), (7, 5, 0, 0, 0), (0, 0, 0, 0, 1), (7, 6, 0, 0, 0)], (0, 7, 0, 0, 0, [])),
  (34, [(4, 6, 0, 0, 0), (0, 0, 0, 0, 1), (5, 0, 0, 0, 0), (23, 5, 0, 10, 0), (23, 3, 3, 145, 0), (15, 0, 0, 0, 0)], (11, 19, 8, 0, 0, [])),
  (48, [(5, 0, 0, 0, 0), (4, 6, 0, 0, 0)], (18, 9, 57, 2, 5, [(0, 205)])),
  (54, [(7, 7, 0, 0, 0), (5, 0, 0, 0, 0), (4, 6, 0, 0, 0)], (18, 10, 31, 2, 5, [(0, 139)])),
  (62, [(7, 8, 0, 0, 0), (4, 8, 0, 0, 0), (4, 4, 0, 0, 0)], (12, 13, 11, 0, 0, [])),
  (71, [(4, 8, 0, 0, 0), (4, 4, 0, 0, 0)], (9, 14, 12, 0, 0, [])),
  (78, [(4, 7, 0, 0, 0), (4, 5, 0, 0, 0)], (11, 14, 13, 0, 0, [])),
  (85, [(0, 0, 0, 0, 1)], (1, 15, 0, 0, 0, [])),
  (89, [(0, 0, 0, 0, 0)], (0, 15, 0, 0, 0, [])),
  (90, [(7, 9, 0, 0, 0), (4, 7, 0, 0, 0), (3, 1, 0, 0, 0)], (12, 18, 16, 0, 0, [])),
  (98, [(4, 9, 0, 0, 0)], (2, 18, 17, 0, 0, [])),
  (103, [(4, 6, 0, 0, 0), (6, 3, 0, 0, 0), (4, 8, 0, 0, 0), (7, 4, 0, 0, 0), (4, 7, 0, 0, 0), (7, 5, 0, 0, 0)], (0, 18, 0, 0, 0, [])),
  (114, [(9, 6, 0, 0, 1)], (1, 7, 0, 0, 0, [])),
  (120, [(3, 2, 0, 0, 0)], (3, 21, 20, 0, 0, [])),
  (124, [(4, 4, 0, 0, 0)], (1, 22, 0, 0, 0, [])),
  (129, [(3, 3, 0, 0, 0)], (0, 22, 0, 0, 0, [])),
  (130, [], (23, 0, 0, 0, 0, []))]
/-- X5_tune (48) -/
def ai_p48 : List ai_B := [(0, [(3, 1, 0, 0, 0)], (4, 4, 1, 0, 0, [])),
  (4, [(3, 1, 0, 0, 0), (0, 0, 0, 0, 1), (5, 0, 0, 0, 0), (23, 5, 0, 10, 0), (23, 3, 3, 145, 0), (15, 0, 0, 0, 0)], (11, 4, 2, 0, 0, [])),
  (17, [(3, 2, 0, 0, 0), (0, 0, 0, 0, 1)], (10, 4, 3, 0, 0, [])),
  (22, [(3, 2, 0, 0, 0), (0, 0, 0, 0, 5)], (13, 5, 4, 0, 0, [])),
  (27, [(0, 0, 0, 0, (-1))], (23, 0, 0, 0, 0, [])),
  (29, [(0, 0, 0, 0, 0), (6, 3, 0, 0, 0)], (0, 6, 0, 0, 0, [])),
  (31, [(3, 3, 0, 0, 0), (1, 0, 0, 0, 10)], (11, 14, 7, 0, 0, [])),
  (37, [(0, 0, 0, 0, 0), (7, 4, 0, 0, 0)], (0, 8, 0, 0, 0, [])),
  (40, [(4, 4, 0, 0, 0), (1, 0, 0, 0, 10)], (11, 13, 9, 0, 0, [])),
  (47, [(5, 0, 0, 0, 0), (3, 1, 0, 0, 0), (3, 2, 0, 0, 0), (3, 3, 0, 0, 0), (4, 4, 0, 0, 0)], (18, 10, 58, 5, 5, [(0, 208)])),
  (56, [], (2, 12, 11, 0, 0, [])),
  (59, [(1, 0, 0, 0, 10), (3, 3, 0, 0, 0), (12, 0, 0, 0, 0), (4, 4, 0, 0, 0), (10, 0, 0, 0, 0)], (23, 0, 0, 0, 0, [])),
  (67, [(9, 4, 0, 0, 1)], (1, 8, 0, 0, 0, [])),
  (73, [(9, 3, 0, 0, 1)], (1, 6, 0, 0, 0, [])),
  (79, [(1, 0, 0, 0, (-9))], (23, 0, 0, 0, 0, []))]
/-- X5_odds (49) -/
def ai_p49 : List ai_B := [(0, [(3, 1, 0, 0, 0)], (4, 6, 1, 0, 0, [])),
  (4, [(3, 1, 0, 0, 0), (1, 0, 0, 0, 10)], (12, 6, 2, 0, 0, [])),
  (10, [(3, 2, 0, 0, 0)], (4, 6, 3, 0, 0, [])),
  (14, [(3, 2, 0, 0, 0), (1, 0, 0, 0, 6)], (12, 6, 4, 0, 0, [])),
  (20, [(3, 3, 0, 0, 0)], (19, 5, 83, 1, 0, [(0, 148)])),
  (24, [], (3, 7, 6, 0, 0, [])),
  (27, [(0, 0, 0, 0, (-1))], (23, 0, 0, 0, 0, [])),
  (29, [(5, 0, 0, 0, 0), (23, 5, 0, 10, 0), (23, 3, 3, 145, 0), (5, 0, 0, 0, 0), (23, 5, 3, 29, 0), (23, 1, 3, 122, 0)], (19, 8, 138, 1, 0, [(0, 212)])),
  (46, [(11, 0, 0, 0, 0), (7, 4, 0, 0, 0), (4, 4, 0, 0, 0), (3, 1, 0, 0, 0), (3, 2, 0, 0, 0)], (19, 9, 60, 3, 0, [(0, 217)])),
  (56, [(7, 5, 0, 0, 0), (1, 0, 0, 0, 10), (4, 4, 0, 0, 0)], (19, 10, 61, 2, 0, [(0, 221)])),
  (65, [(7, 6, 0, 0, 0), (4, 6, 0, 0, 0), (4, 5, 0, 0, 0)], (19, 11, 62, 2, 0, [(0, 224)])),
  (74, [(7, 7, 0, 0, 0), (4, 7, 0, 0, 0)], (3, 13, 12, 0, 0, [])),
  (81, [(1, 0, 0, 0, (-9))], (23, 0, 0, 0, 0, [])),
  (84, [(3, 3, 0, 0, 0)], (3, 15, 14, 0, 0, [])),
  (88, [(4, 5, 0, 0, 0), (4, 7, 0, 0, 0), (18, 0, 0, 0, 0)], (1, 16, 0, 0, 0, [])),
  (96, [(4, 6, 0, 0, 0), (4, 7, 0, 0, 0), (18, 0, 0, 0, 0)], (0, 16, 0, 0, 0, [])),
  (101, [], (23, 0, 0, 0, 0, []))]
/-- X5_mayBeWon (50) -/
def ai_p50 : List ai_B := [(0, [(5, 0, 0, 0, 0), (23, 5, 3, 29, 0), (23, 1, 2, 115, 0), (5, 0, 0, 0, 0), (23, 5, 3, 29, 0), (23, 1, 3, 122, 0), (14, 0, 0, 0, 0), (3, 1, 0, 0, 0)], (19, 1, 82, 2, 0, [(0, 118)])),
  (19, [], (3, 3, 2, 0, 0, [])),
  (22, [(0, 0, 0, 0, 1)], (1, 4, 0, 0, 0, [])),
  (26, [(0, 0, 0, 0, 0)], (0, 4, 0, 0, 0, [])),
  (27, [], (24, 0, 0, 0, 0, []))]
/-- X5_reckonWay (51) -/
def ai_p51 : List ai_B := [(0, [(1, 0, 0, 0, 10), (6, 2, 0, 0, 0)], (0, 1, 0, 0, 0, [])),
  (3, [(3, 2, 0, 0, 0)], (4, 9, 2, 0, 0, [])),
  (7, [(0, 0, 0, 0, 0), (6, 3, 0, 0, 0)], (0, 3, 0, 0, 0, [])),
  (9, [(3, 3, 0, 0, 0), (3, 2, 0, 0, 0)], (12, 8, 4, 0, 0, [])),
  (14, [(5, 0, 0, 0, 0), (23, 5, 9, 55, 0), (3, 2, 0, 0, 0), (3, 3, 0, 0, 0)], (19, 5, 52, 2, 0, [(0, 227)])),
  (23, [(5, 0, 0, 0, 0), (3, 1, 0, 0, 0), (3, 2, 0, 0, 0), (3, 3, 0, 0, 0)], (18, 6, 53, 4, 5, [(0, 230)])),
  (30, [], (19, 7, 80, 3, 0, [(0, 167)])),
  (33, [(9, 3, 0, 0, 1)], (1, 3, 0, 0, 0, [])),
  (39, [(9, 2, 0, 0, (-1))], (1, 1, 0, 0, 0, [])),
  (45, [(5, 0, 0, 0, 0), (23, 5, 9, 55, 0), (0, 0, 0, 0, 0), (0, 0, 0, 0, 0)], (19, 10, 52, 2, 0, [(0, 227)])),
  (54, [], (19, 11, 79, 2, 0, [(0, 96)])),
  (57, [], (23, 0, 0, 0, 0, []))]
/-- X5_cell (52) -/
def ai_p52 : List ai_B := [(0, [(3, 0, 0, 0, 0), (1, 0, 0, 0, 11), (12, 0, 0, 0, 0), (3, 1, 0, 0, 0), (10, 0, 0, 0, 0)], (23, 0, 0, 0, 0, []))]
/-- X5_fewestBehind (53) -/
def ai_p53 : List ai_B := [(0, [(3, 2, 0, 0, 0), (3, 3, 0, 0, 0), (11, 0, 0, 0, 0), (7, 4, 0, 0, 0), (5, 0, 0, 0, 0), (23, 5, 3, 29, 0), (23, 1, 0, 109, 0), (3, 1, 0, 0, 0)], (19, 1, 79, 2, 0, [(0, 96)])),
  (16, [(3, 3, 0, 0, 0), (5, 0, 0, 0, 0), (0, 0, 0, 0, 0)], (18, 2, 40, 2, 5, [(0, 164)])),
  (22, [(12, 0, 0, 0, 0), (10, 0, 0, 0, 0), (7, 5, 0, 0, 0), (5, 0, 0, 0, 0), (23, 5, 3, 29, 0), (23, 1, 1, 112, 0), (3, 1, 0, 0, 0)], (19, 3, 79, 2, 0, [(0, 96)])),
  (37, [(3, 3, 0, 0, 0), (5, 0, 0, 0, 0), (0, 0, 0, 0, 0)], (18, 4, 41, 2, 5, [(0, 171)])),
  (43, [(12, 0, 0, 0, 0), (10, 0, 0, 0, 0), (4, 4, 0, 0, 0), (5, 0, 0, 0, 0), (0, 0, 0, 0, 1)], (18, 5, 41, 2, 5, [(0, 171)])),
  (52, [(12, 0, 0, 0, 0), (10, 0, 0, 0, 0), (7, 6, 0, 0, 0), (3, 2, 0, 0, 0)], (7, 9, 6, 0, 0, [])),
  (60, [(5, 0, 0, 0, 0), (3, 1, 0, 0, 0), (4, 5, 0, 0, 0), (4, 6, 0, 0, 0)], (18, 7, 44, 4, 5, [(0, 183)])),
  (69, [], (2, 9, 8, 0, 0, [])),
  (72, [(0, 0, 0, 0, 0)], (23, 0, 0, 0, 0, [])),
  (74, [(3, 2, 0, 0, 0), (1, 0, 0, 0, 10)], (8, 13, 10, 0, 0, [])),
  (80, [(3, 2, 0, 0, 0)], (7, 14, 11, 0, 0, [])),
  (84, [(5, 0, 0, 0, 0), (3, 1, 0, 0, 0), (4, 5, 0, 0, 0)], (18, 12, 45, 3, 5, [(0, 187)])),
  (91, [], (2, 14, 13, 0, 0, [])),
  (94, [(2, 0, 0, 0, 1000)], (23, 0, 0, 0, 0, [])),
  (98, [(2, 0, 0, 0, 1000), (0, 0, 0, 0, 1), (5, 0, 0, 0, 0), (3, 2, 0, 0, 0), (3, 3, 0, 0, 0), (0, 0, 0, 0, 0)], (18, 15, 54, 4, 5, [(0, 233)])),
  (109, [(5, 0, 0, 0, 0), (3, 2, 0, 0, 0), (3, 3, 0, 0, 0), (0, 0, 0, 0, 1)], (18, 16, 54, 4, 5, [(0, 233)])),
  (116, [(48, 0, 0, 158, 0), (10, 0, 0, 0, 0), (48, 0, 0, 158, 0)], (23, 0, 0, 0, 0, []))]
/-- X5_fewestNext (54) -/
def ai_p54 : List ai_B := [(0, [(5, 0, 0, 0, 0), (23, 5, 9, 55, 0), (3, 1, 0, 0, 0), (0, 0, 0, 0, 1), (10, 0, 0, 0, 0), (3, 2, 0, 0, 0), (0, 0, 0, 0, 1), (10, 0, 0, 0, 0), (3, 3, 0, 0, 0), (11, 0, 0, 0, 0)], (19, 1, 52, 2, 0, [(0, 227)])),
  (15, [], (19, 2, 79, 2, 0, [(0, 96)])),
  (18, [], (23, 0, 0, 0, 0, []))]
/-- X5_turnOfWay (55) -/
def ai_p55 : List ai_B := [(0, [(0, 0, 0, 0, 0), (6, 2, 0, 0, 0), (0, 0, 0, 0, 0), (6, 3, 0, 0, 0), (0, 0, 0, 0, 0), (7, 4, 0, 0, 0)], (0, 1, 0, 0, 0, [])),
  (7, [(4, 4, 0, 0, 0), (3, 1, 0, 0, 0)], (12, 8, 2, 0, 0, [])),
  (13, [(5, 0, 0, 0, 0), (4, 4, 0, 0, 0), (3, 2, 0, 0, 0), (0, 0, 0, 0, 0)], (18, 3, 54, 4, 5, [(0, 233)])),
  (21, [(5, 0, 0, 0, 0), (4, 4, 0, 0, 0), (3, 2, 0, 0, 0), (0, 0, 0, 0, 1)], (18, 4, 54, 4, 5, [(0, 233)])),
  (29, [], (12, 6, 5, 0, 0, [])),
  (32, [(0, 0, 0, 0, 0)], (1, 7, 0, 0, 0, [])),
  (36, [(0, 0, 0, 0, 1)], (0, 7, 0, 0, 0, [])),
  (37, [(6, 3, 0, 0, 0), (3, 2, 0, 0, 0), (0, 0, 0, 0, 1), (3, 3, 0, 0, 0), (11, 0, 0, 0, 0), (10, 0, 0, 0, 0), (6, 2, 0, 0, 0), (9, 4, 0, 0, 1)], (1, 1, 0, 0, 0, [])),
  (50, [(3, 3, 0, 0, 0)], (23, 0, 0, 0, 0, []))]
/-- X5_measureWays (56) -/
def ai_p56 : List ai_B := [(0, [(0, 0, 0, 0, 0), (6, 1, 0, 0, 0)], (0, 1, 0, 0, 0, [])),
  (2, [(3, 1, 0, 0, 0), (5, 0, 0, 0, 0), (23, 5, 0, 10, 0), (23, 3, 3, 145, 0)], (11, 9, 2, 0, 0, [])),
  (13, [(5, 0, 0, 0, 0), (23, 5, 8, 51, 0), (3, 1, 0, 0, 0), (5, 0, 0, 0, 0), (3, 1, 0, 0, 0)], (18, 3, 50, 2, 5, [(0, 193)])),
  (23, [], (2, 6, 4, 0, 0, [])),
  (26, [(5, 0, 0, 0, 0), (3, 1, 0, 0, 0)], (18, 5, 51, 2, 5, [(0, 196)])),
  (31, [], (1, 7, 0, 0, 0, [])),
  (34, [(2, 0, 0, 0, 1000)], (0, 7, 0, 0, 0, [])),
  (37, [], (19, 8, 80, 3, 0, [(0, 167)])),
  (40, [(9, 1, 0, 0, 1)], (1, 1, 0, 0, 0, [])),
  (46, [], (27, 0, 0, 0, 0, []))]
/-- X5_lengthOfWays (57) -/
def ai_p57 : List ai_B := [(0, [(0, 0, 0, 0, 0), (6, 2, 0, 0, 0), (0, 0, 0, 0, 0), (6, 3, 0, 0, 0)], (0, 1, 0, 0, 0, [])),
  (4, [(3, 3, 0, 0, 0), (5, 0, 0, 0, 0), (23, 5, 0, 10, 0), (23, 3, 3, 145, 0)], (11, 7, 2, 0, 0, [])),
  (15, [(3, 1, 0, 0, 0), (3, 3, 0, 0, 0)], (19, 3, 82, 2, 0, [(0, 118)])),
  (20, [], (2, 6, 4, 0, 0, [])),
  (23, [(3, 2, 0, 0, 0), (5, 0, 0, 0, 0), (23, 5, 8, 51, 0), (3, 3, 0, 0, 0)], (19, 5, 79, 2, 0, [(0, 96)])),
  (32, [(10, 0, 0, 0, 0), (6, 2, 0, 0, 0)], (0, 6, 0, 0, 0, [])),
  (34, [(9, 3, 0, 0, 1)], (1, 1, 0, 0, 0, [])),
  (40, [(3, 2, 0, 0, 0)], (23, 0, 0, 0, 0, []))]
/-- X5_bringsJust (58) -/
def ai_p58 : List ai_B := [(0, [(0, 0, 0, 0, 0), (7, 5, 0, 0, 0)], (0, 1, 0, 0, 0, [])),
  (3, [(4, 5, 0, 0, 0), (5, 0, 0, 0, 0), (23, 5, 0, 10, 0), (23, 3, 3, 145, 0)], (11, 10, 2, 0, 0, [])),
  (15, [(3, 1, 0, 0, 0), (4, 5, 0, 0, 0)], (19, 3, 82, 2, 0, [(0, 118)])),
  (21, [], (2, 5, 4, 0, 0, [])),
  (24, [(0, 0, 0, 0, 1)], (1, 6, 0, 0, 0, [])),
  (28, [(0, 0, 0, 0, 0)], (0, 6, 0, 0, 0, [])),
  (29, [(7, 6, 0, 0, 0), (5, 0, 0, 0, 0), (4, 5, 0, 0, 0), (3, 2, 0, 0, 0), (3, 3, 0, 0, 0), (4, 4, 0, 0, 0)], (18, 7, 59, 5, 5, [(0, 236)])),
  (41, [(4, 6, 0, 0, 0)], (8, 9, 8, 0, 0, [])),
  (46, [(0, 0, 0, 0, 0)], (24, 0, 0, 0, 0, [])),
  (48, [(9, 5, 0, 0, 1)], (1, 1, 0, 0, 0, [])),
  (54, [(0, 0, 0, 0, 1)], (24, 0, 0, 0, 0, []))]
/-- X5_tryPlain (59) -/
def ai_p59 : List ai_B := [(0, [(0, 0, 0, 0, 0), (7, 5, 0, 0, 0), (0, 0, 0, 0, 0), (7, 6, 0, 0, 0), (0, 0, 0, 0, 0), (7, 7, 0, 0, 0), (0, 0, 0, 0, 0), (7, 8, 0, 0, 0)], (0, 1, 0, 0, 0, [])),
  (12, [(4, 8, 0, 0, 0), (3, 2, 0, 0, 0)], (11, 9, 2, 0, 0, [])),
  (18, [(4, 5, 0, 0, 0), (3, 3, 0, 0, 0), (10, 0, 0, 0, 0), (7, 5, 0, 0, 0), (4, 6, 0, 0, 0), (4, 4, 0, 0, 0), (10, 0, 0, 0, 0), (7, 6, 0, 0, 0), (5, 0, 0, 0, 0), (3, 1, 0, 0, 0), (4, 5, 0, 0, 0), (4, 6, 0, 0, 0)], (18, 3, 44, 4, 5, [(0, 183)])),
  (40, [], (2, 5, 4, 0, 0, [])),
  (43, [(4, 7, 0, 0, 0), (0, 0, 0, 0, 1), (14, 0, 0, 0, 0), (7, 7, 0, 0, 0), (0, 0, 0, 0, 0), (7, 5, 0, 0, 0), (0, 0, 0, 0, 0), (7, 6, 0, 0, 0)], (1, 8, 0, 0, 0, [])),
  (58, [(5, 0, 0, 0, 0), (3, 1, 0, 0, 0), (4, 5, 0, 0, 0)], (18, 6, 45, 3, 5, [(0, 187)])),
  (65, [], (2, 8, 7, 0, 0, [])),
  (68, [(4, 7, 0, 0, 0), (0, 0, 0, 0, 2), (14, 0, 0, 0, 0)], (23, 0, 0, 0, 0, [])),
  (73, [(9, 8, 0, 0, 1)], (1, 1, 0, 0, 0, [])),
  (79, [(4, 7, 0, 0, 0)], (23, 0, 0, 0, 0, []))]
/-- X5_waysToLeave (60) -/
def ai_p60 : List ai_B := [(0, [(0, 0, 0, 0, 0), (6, 3, 0, 0, 0), (0, 0, 0, 0, 0), (7, 4, 0, 0, 0)], (0, 1, 0, 0, 0, [])),
  (5, [(4, 4, 0, 0, 0), (0, 0, 0, 0, 1), (3, 0, 0, 0, 0), (15, 0, 0, 0, 0)], (11, 8, 2, 0, 0, [])),
  (13, [(4, 4, 0, 0, 0)], (19, 3, 138, 1, 0, [(0, 212)])),
  (18, [(7, 5, 0, 0, 0), (4, 5, 0, 0, 0), (3, 2, 0, 0, 0)], (12, 7, 4, 0, 0, [])),
  (26, [(3, 3, 0, 0, 0), (3, 1, 0, 0, 0), (4, 5, 0, 0, 0)], (19, 5, 61, 2, 0, [(0, 221)])),
  (33, [(1, 0, 0, 0, 10), (3, 1, 0, 0, 0), (11, 0, 0, 0, 0), (3, 0, 0, 0, 0), (4, 5, 0, 0, 0), (11, 0, 0, 0, 0)], (19, 6, 61, 2, 0, [(0, 221)])),
  (44, [(12, 0, 0, 0, 0), (10, 0, 0, 0, 0), (6, 3, 0, 0, 0)], (0, 7, 0, 0, 0, [])),
  (47, [(9, 4, 0, 0, 1)], (1, 1, 0, 0, 0, [])),
  (53, [(3, 3, 0, 0, 0)], (23, 0, 0, 0, 0, []))]
/-- X5_power (61) -/
def ai_p61 : List ai_B := [(0, [(0, 0, 0, 0, 1), (6, 2, 0, 0, 0), (0, 0, 0, 0, 0), (6, 3, 0, 0, 0)], (0, 1, 0, 0, 0, [])),
  (4, [(3, 3, 0, 0, 0), (3, 1, 0, 0, 0)], (11, 3, 2, 0, 0, [])),
  (9, [(3, 2, 0, 0, 0), (3, 0, 0, 0, 0), (12, 0, 0, 0, 0), (6, 2, 0, 0, 0), (9, 3, 0, 0, 1)], (1, 1, 0, 0, 0, [])),
  (19, [(3, 2, 0, 0, 0)], (23, 0, 0, 0, 0, []))]
/-- X5_commonDivisor (62) -/
def ai_p62 : List ai_B := [(0, [(3, 0, 0, 0, 0), (6, 2, 0, 0, 0), (3, 1, 0, 0, 0), (6, 3, 0, 0, 0), (0, 0, 0, 0, 0), (7, 4, 0, 0, 0)], (0, 1, 0, 0, 0, [])),
  (7, [(4, 4, 0, 0, 0), (40, 0, 0, 240, 1000000)], (11, 4, 2, 0, 0, [])),
  (14, [(3, 3, 0, 0, 0)], (2, 4, 3, 0, 0, [])),
  (18, [(3, 2, 0, 0, 0), (3, 3, 0, 0, 0), (19, 0, 0, 0, 0), (7, 5, 0, 0, 0), (3, 3, 0, 0, 0), (6, 2, 0, 0, 0), (4, 5, 0, 0, 0), (6, 3, 0, 0, 0), (9, 4, 0, 0, 1)], (1, 1, 0, 0, 0, [])),
  (34, [(3, 2, 0, 0, 0)], (23, 0, 0, 0, 0, []))]
/-- X5_tells (63) -/
def ai_p63 : List ai_B := [(0, [(5, 0, 0, 0, 0), (3, 1, 0, 0, 0)], (18, 1, 30, 2, 5, [(0, 90)])),
  (5, [], (2, 6, 2, 0, 0, [])),
  (8, [(3, 2, 0, 0, 0), (0, 0, 0, 0, 1)], (10, 6, 3, 0, 0, [])),
  (13, [(3, 2, 0, 0, 0), (1, 0, 0, 0, 9)], (12, 6, 4, 0, 0, [])),
  (19, [(3, 3, 0, 0, 0)], (19, 5, 83, 1, 0, [(0, 148)])),
  (23, [], (3, 7, 6, 0, 0, [])),
  (26, [(0, 0, 0, 0, (-1))], (23, 0, 0, 0, 0, [])),
  (28, [(5, 0, 0, 0, 0), (23, 5, 7, 47, 0), (3, 1, 0, 0, 0), (3, 2, 0, 0, 0), (3, 3, 0, 0, 0)], (18, 8, 1, 4, 0, [(0, 241)])),
  (38, [], (2, 10, 9, 0, 0, [])),
  (41, [(5, 0, 0, 0, 0), (23, 5, 7, 47, 0), (23, 0, 3, 87, 0)], (1, 11, 0, 0, 0, [])),
  (51, [(1, 0, 0, 0, (-3))], (0, 11, 0, 0, 0, [])),
  (53, [], (23, 0, 0, 0, 0, []))]
/-- X5_forget (64) -/
def ai_p64 : List ai_B := [(0, [(5, 0, 0, 0, 0), (23, 5, 7, 47, 0), (23, 0, 3, 87, 0), (6, 1, 0, 0, 0), (5, 0, 0, 0, 0), (23, 5, 7, 47, 0), (0, 0, 0, 0, 0), (24, 0, 3, 87, 0), (3, 1, 0, 0, 0)], (23, 0, 0, 0, 0, []))]
/-- X5_soft (65) -/
def ai_p65 : List ai_B := [(0, [(2, 0, 0, 0, 1023), (6, 1, 0, 0, 0), (3, 1, 0, 0, 0), (6, 2, 0, 0, 0), (0, 0, 0, 0, 0), (6, 3, 0, 0, 0)], (0, 1, 0, 0, 0, [])),
  (8, [(3, 3, 0, 0, 0), (5, 0, 0, 0, 0), (23, 5, 7, 47, 0), (23, 0, 3, 87, 0)], (11, 10, 2, 0, 0, [])),
  (19, [(5, 0, 0, 0, 0), (5, 0, 0, 0, 0), (23, 5, 7, 47, 0), (23, 0, 0, 243, 0), (3, 3, 0, 0, 0)], (19, 3, 79, 2, 0, [(0, 96)])),
  (31, [(5, 0, 0, 0, 0), (23, 5, 7, 47, 0), (23, 0, 1, 246, 0), (3, 3, 0, 0, 0)], (19, 4, 79, 2, 0, [(0, 96)])),
  (42, [], (18, 5, 67, 3, 5, [(0, 249)])),
  (45, [(7, 4, 0, 0, 0), (3, 2, 0, 0, 0), (5, 0, 0, 0, 0), (23, 5, 7, 47, 0), (23, 0, 2, 252, 0), (3, 3, 0, 0, 0)], (19, 6, 79, 2, 0, [(0, 96)])),
  (59, [(0, 0, 0, 0, 1)], (9, 8, 7, 0, 0, [])),
  (63, [(4, 4, 0, 0, 0)], (1, 9, 0, 0, 0, [])),
  (68, [(3, 1, 0, 0, 0), (4, 4, 0, 0, 0), (11, 0, 0, 0, 0)], (0, 9, 0, 0, 0, [])),
  (72, [(13, 0, 0, 0, 0), (6, 2, 0, 0, 0), (9, 3, 0, 0, 1)], (1, 1, 0, 0, 0, [])),
  (80, [(3, 2, 0, 0, 0)], (23, 0, 0, 0, 0, []))]
/-- X5_ask (66) -/
def ai_p66 : List ai_B := [(0, [(3, 1, 0, 0, 0), (0, 0, 0, 0, 1)], (10, 2, 1, 0, 0, [])),
  (5, [(3, 1, 0, 0, 0), (1, 0, 0, 0, 9)], (13, 3, 2, 0, 0, [])),
  (11, [(0, 0, 0, 0, (-1))], (23, 0, 0, 0, 0, [])),
  (13, [(5, 0, 0, 0, 0)], (18, 4, 65, 1, 5, [(0, 254)])),
  (17, [(6, 2, 0, 0, 0), (3, 2, 0, 0, 0)], (19, 5, 138, 1, 0, [(0, 212)])),
  (22, [(6, 3, 0, 0, 0), (3, 3, 0, 0, 0), (0, 0, 0, 0, 1)], (12, 7, 6, 0, 0, [])),
  (28, [(1, 0, 0, 0, (-9))], (23, 0, 0, 0, 0, [])),
  (31, [(1, 0, 0, 0, (-9)), (7, 4, 0, 0, 0), (3, 3, 0, 0, 0), (0, 0, 0, 0, 1), (10, 0, 0, 0, 0), (7, 5, 0, 0, 0), (0, 0, 0, 0, 0), (7, 6, 0, 0, 0)], (0, 8, 0, 0, 0, [])),
  (43, [(4, 6, 0, 0, 0), (5, 0, 0, 0, 0), (23, 5, 0, 10, 0), (23, 3, 3, 145, 0)], (11, 14, 9, 0, 0, [])),
  (55, [(3, 2, 0, 0, 0), (5, 0, 0, 0, 0), (4, 6, 0, 0, 0), (3, 1, 0, 0, 0)], (18, 10, 67, 3, 5, [(0, 249)])),
  (63, [(13, 0, 0, 0, 0)], (19, 11, 138, 1, 0, [(0, 212)])),
  (67, [(7, 7, 0, 0, 0), (4, 7, 0, 0, 0), (3, 3, 0, 0, 0), (4, 7, 0, 0, 0), (11, 0, 0, 0, 0), (49, 0, 0, 257, 0), (7, 8, 0, 0, 0), (4, 8, 0, 0, 0), (4, 5, 0, 0, 0)], (11, 13, 12, 0, 0, [])),
  (87, [(4, 6, 0, 0, 0), (7, 4, 0, 0, 0), (4, 8, 0, 0, 0), (7, 5, 0, 0, 0)], (0, 13, 0, 0, 0, [])),
  (95, [(9, 6, 0, 0, 1)], (1, 8, 0, 0, 0, [])),
  (101, [(4, 4, 0, 0, 0)], (23, 0, 0, 0, 0, []))]
/-- X5_yieldingVelvets (67) -/
def ai_p67 : List ai_B := [(0, [(0, 0, 0, 0, 0), (6, 3, 0, 0, 0), (0, 0, 0, 0, 0), (7, 4, 0, 0, 0)], (0, 1, 0, 0, 0, [])),
  (5, [(4, 4, 0, 0, 0), (1, 0, 0, 0, 10)], (11, 6, 2, 0, 0, [])),
  (12, [(5, 0, 0, 0, 0), (3, 1, 0, 0, 0), (3, 2, 0, 0, 0), (5, 0, 0, 0, 0), (23, 5, 0, 10, 0), (23, 3, 0, 155, 0), (4, 4, 0, 0, 0)], (18, 3, 59, 5, 5, [(0, 236)])),
  (27, [(0, 0, 0, 0, 1), (13, 0, 0, 0, 0)], (2, 5, 4, 0, 0, [])),
  (32, [(3, 3, 0, 0, 0), (0, 0, 0, 0, 1), (4, 4, 0, 0, 0), (15, 0, 0, 0, 0), (14, 0, 0, 0, 0), (6, 3, 0, 0, 0)], (0, 5, 0, 0, 0, [])),
  (39, [(9, 4, 0, 0, 1)], (1, 1, 0, 0, 0, [])),
  (45, [(3, 3, 0, 0, 0)], (23, 0, 0, 0, 0, []))]
/-- X5_rate (68) -/
def ai_p68 : List ai_B := [(0, [(5, 0, 0, 0, 0), (3, 2, 0, 0, 0)], (18, 1, 30, 2, 5, [(0, 90)])),
  (5, [], (3, 3, 2, 0, 0, [])),
  (8, [(41, 0, 0, 260, (-1000000))], (23, 0, 0, 0, 0, [])),
  (12, [(3, 1, 0, 0, 0)], (16, 16, 0, 39, 0, [(0, 4), (1, 6), (2, 8), (3, 10), (4, 12), (5, 14)])),
  (52, [(5, 0, 0, 0, 0), (3, 2, 0, 0, 0)], (18, 5, 73, 2, 5, [(0, 261)])),
  (57, [], (23, 0, 0, 0, 0, [])),
  (58, [(5, 0, 0, 0, 0), (3, 2, 0, 0, 0)], (18, 7, 74, 2, 5, [(0, 264)])),
  (63, [], (23, 0, 0, 0, 0, [])),
  (64, [(5, 0, 0, 0, 0), (3, 2, 0, 0, 0)], (18, 9, 75, 2, 5, [(0, 267)])),
  (69, [], (23, 0, 0, 0, 0, [])),
  (70, [(5, 0, 0, 0, 0), (3, 2, 0, 0, 0)], (18, 11, 76, 2, 5, [(0, 270)])),
  (75, [], (23, 0, 0, 0, 0, [])),
  (76, [(5, 0, 0, 0, 0), (3, 2, 0, 0, 0)], (18, 13, 77, 2, 5, [(0, 273)])),
  (81, [], (23, 0, 0, 0, 0, [])),
  (82, [(5, 0, 0, 0, 0), (3, 2, 0, 0, 0)], (18, 15, 78, 2, 5, [(0, 276)])),
  (87, [], (23, 0, 0, 0, 0, [])),
  (88, [(41, 0, 0, 260, (-1000000))], (23, 0, 0, 0, 0, []))]
/-- X5_keep (69) -/
def ai_p69 : List ai_B := [(0, [(5, 0, 0, 0, 0), (23, 5, 5, 40, 0), (3, 1, 0, 0, 0)], (19, 1, 81, 2, 0, [(0, 279)])),
  (8, [(8, 2, 0, 0, 0), (5, 2, 0, 0, 0)], (15, 3, 2, 0, 0, [])),
  (13, [(0, 0, 0, 0, (-1))], (23, 0, 0, 0, 0, [])),
  (15, [(5, 2, 0, 0, 0), (5, 0, 0, 0, 0), (23, 5, 3, 29, 0)], (18, 4, 4, 2, 1, [(0, 283)])),
  (23, [(5, 0, 0, 0, 0), (20, 0, 0, 0, 0), (23, 5, 6, 84, 0), (0, 0, 0, 0, 1), (3, 1, 0, 0, 0), (15, 0, 0, 0, 0), (14, 0, 0, 0, 0), (24, 5, 6, 84, 0), (5, 0, 0, 0, 0), (23, 5, 3, 29, 0), (23, 1, 2, 115, 0)], (19, 5, 138, 1, 0, [(0, 212)])),
  (45, [], (23, 0, 0, 0, 0, []))]
/-- X5_back (70) -/
def ai_p70 : List ai_B := [(0, [(5, 0, 0, 0, 0), (23, 5, 5, 40, 0), (3, 1, 0, 0, 0)], (19, 1, 81, 2, 0, [(0, 279)])),
  (8, [(8, 2, 0, 0, 0), (5, 2, 0, 0, 0)], (15, 3, 2, 0, 0, [])),
  (13, [(0, 0, 0, 0, (-1))], (23, 0, 0, 0, 0, [])),
  (15, [(5, 0, 0, 0, 0), (23, 5, 6, 84, 0), (3, 1, 0, 0, 0)], (19, 4, 82, 2, 0, [(0, 118)])),
  (23, [], (3, 6, 5, 0, 0, [])),
  (26, [(1, 0, 0, 0, (-2))], (23, 0, 0, 0, 0, [])),
  (29, [(5, 0, 0, 0, 0), (23, 5, 3, 29, 0), (5, 2, 0, 0, 0)], (18, 7, 4, 2, 1, [(0, 283)])),
  (37, [(5, 0, 0, 0, 0), (23, 5, 4, 36, 0), (0, 0, 0, 0, 0), (24, 2, 2, 81, 0), (5, 0, 0, 0, 0), (23, 5, 3, 29, 0), (23, 1, 2, 115, 0)], (19, 8, 138, 1, 0, [(0, 212)])),
  (55, [], (23, 0, 0, 0, 0, []))]
/-- X5_count (71) -/
def ai_p71 : List ai_B := [(0, [(3, 1, 0, 0, 0)], (16, 7, 0, 39, 0, [(0, 1), (1, 2), (2, 3), (3, 4), (4, 5), (5, 6)])),
  (40, [(5, 0, 0, 0, 0), (23, 5, 0, 10, 0), (23, 3, 3, 145, 0)], (23, 0, 0, 0, 0, [])),
  (48, [(5, 0, 0, 0, 0), (23, 5, 0, 10, 0), (23, 3, 0, 155, 0)], (23, 0, 0, 0, 0, [])),
  (56, [(5, 0, 0, 0, 0), (23, 5, 0, 10, 0), (23, 3, 1, 58, 0)], (23, 0, 0, 0, 0, [])),
  (64, [(5, 0, 0, 0, 0), (23, 5, 0, 10, 0), (23, 3, 2, 190, 0)], (23, 0, 0, 0, 0, [])),
  (72, [(5, 0, 0, 0, 0), (23, 5, 7, 47, 0), (23, 0, 3, 87, 0)], (23, 0, 0, 0, 0, [])),
  (80, [(5, 0, 0, 0, 0), (23, 5, 2, 22, 0), (23, 4, 1, 70, 0)], (23, 0, 0, 0, 0, [])),
  (88, [(0, 0, 0, 0, (-1))], (23, 0, 0, 0, 0, []))]
/-- X5_trace (72) -/
def ai_p72 : List ai_B := [(0, [(5, 0, 0, 0, 0), (23, 5, 10, 286, 0)], (25, 0, 0, 0, 0, []))]
/-- X5_rateCaller (73) -/
def ai_p73 : List ai_B := [(0, [(5, 0, 0, 0, 0), (20, 0, 0, 0, 0), (23, 5, 10, 286, 0), (43, 1, 0, 0, 1), (44, 0, 0, 0, 0), (26, 5, 10, 286, 0), (5, 0, 0, 0, 0), (23, 5, 0, 10, 0), (23, 3, 6, 103, 0), (3, 1, 0, 0, 0)], (19, 1, 79, 2, 0, [(0, 96)])),
  (21, [], (23, 0, 0, 0, 0, []))]
/-- X5_rateCount (74) -/
def ai_p74 : List ai_B := [(0, [(5, 0, 0, 0, 0), (20, 0, 0, 0, 0), (23, 5, 10, 286, 0), (42, 0, 0, 290, 10), (44, 0, 0, 0, 0), (26, 5, 10, 286, 0), (5, 0, 0, 0, 0), (3, 1, 0, 0, 0)], (18, 1, 73, 2, 5, [(0, 261)])),
  (17, [(5, 0, 0, 0, 0), (23, 5, 3, 29, 0), (23, 1, 1, 112, 0), (3, 1, 0, 0, 0)], (19, 2, 79, 2, 0, [(0, 96)])),
  (28, [(10, 0, 0, 0, 0)], (23, 0, 0, 0, 0, []))]
/-- X5_rateCharge (75) -/
def ai_p75 : List ai_B := [(0, [(5, 0, 0, 0, 0), (20, 0, 0, 0, 0), (23, 5, 10, 286, 0), (42, 0, 0, 292, 100), (44, 0, 0, 0, 0), (26, 5, 10, 286, 0), (5, 0, 0, 0, 0), (3, 1, 0, 0, 0)], (18, 1, 73, 2, 5, [(0, 261)])),
  (17, [(5, 0, 0, 0, 0), (23, 5, 3, 29, 0), (23, 1, 0, 109, 0), (3, 1, 0, 0, 0)], (19, 2, 79, 2, 0, [(0, 96)])),
  (28, [(11, 0, 0, 0, 0)], (23, 0, 0, 0, 0, []))]
/-- X5_rateNuncio (76) -/
def ai_p76 : List ai_B := [(0, [(5, 0, 0, 0, 0), (20, 0, 0, 0, 0), (23, 5, 10, 286, 0), (42, 0, 0, 294, 1000), (44, 0, 0, 0, 0), (26, 5, 10, 286, 0), (0, 0, 0, 0, 2), (5, 0, 0, 0, 0), (3, 1, 0, 0, 0)], (18, 1, 74, 2, 5, [(0, 264)])),
  (18, [(12, 0, 0, 0, 0)], (23, 0, 0, 0, 0, []))]
/-- X5_rateEnvoy (77) -/
def ai_p77 : List ai_B := [(0, [(5, 0, 0, 0, 0), (20, 0, 0, 0, 0), (23, 5, 10, 286, 0), (42, 0, 0, 296, 10000), (44, 0, 0, 0, 0), (26, 5, 10, 286, 0), (5, 0, 0, 0, 0), (3, 1, 0, 0, 0)], (18, 1, 75, 2, 5, [(0, 267)])),
  (17, [(3, 1, 0, 0, 0), (10, 0, 0, 0, 0)], (23, 0, 0, 0, 0, []))]
/-- X5_rateNun (78) -/
def ai_p78 : List ai_B := [(0, [(5, 0, 0, 0, 0), (20, 0, 0, 0, 0), (23, 5, 10, 286, 0), (42, 0, 0, 298, 100000), (44, 0, 0, 0, 0), (26, 5, 10, 286, 0), (5, 0, 0, 0, 0), (3, 1, 0, 0, 0)], (18, 1, 73, 2, 5, [(0, 261)])),
  (17, [(5, 0, 0, 0, 0), (23, 5, 3, 29, 0), (23, 1, 5, 133, 0), (10, 0, 0, 0, 0)], (23, 0, 0, 0, 0, []))]
/-- X5_at (79) -/
def ai_p79 : List ai_B := [(0, [(3, 1, 0, 0, 0)], (4, 3, 1, 0, 0, [])),
  (4, [(3, 1, 0, 0, 0), (5, 0, 0, 0, 0), (35, 0, 0, 0, 0)], (11, 3, 2, 0, 0, [])),
  (10, [(5, 0, 0, 0, 0), (3, 1, 0, 0, 0), (29, 0, 0, 0, 0)], (1, 4, 0, 0, 0, [])),
  (16, [(0, 0, 0, 0, 0)], (0, 4, 0, 0, 0, [])),
  (17, [], (23, 0, 0, 0, 0, []))]
/-- X5_put (80) -/
def ai_p80 : List ai_B := [(0, [(3, 1, 0, 0, 0)], (4, 3, 1, 0, 0, [])),
  (4, [(3, 1, 0, 0, 0), (5, 0, 0, 0, 0), (35, 0, 0, 0, 0)], (11, 3, 2, 0, 0, [])),
  (10, [(5, 0, 0, 0, 0), (3, 1, 0, 0, 0), (3, 2, 0, 0, 0), (30, 0, 0, 0, 0)], (0, 3, 0, 0, 0, [])),
  (14, [], (27, 0, 0, 0, 0, []))]
/-- X5_momentAt (81) -/
def ai_p81 : List ai_B := [(0, [(3, 1, 0, 0, 0)], (4, 3, 1, 0, 0, [])),
  (4, [(3, 1, 0, 0, 0), (5, 0, 0, 0, 0), (35, 0, 0, 0, 0)], (11, 3, 2, 0, 0, [])),
  (10, [(5, 0, 0, 0, 0), (3, 1, 0, 0, 0), (33, 0, 0, 0, 0)], (1, 4, 0, 0, 0, [])),
  (16, [(46, 0, 0, 0, 0)], (0, 4, 0, 0, 0, [])),
  (17, [], (26, 0, 0, 0, 0, []))]
/-- X5_isIn (82) -/
def ai_p82 : List ai_B := [(0, [(3, 0, 0, 0, 0), (3, 1, 0, 0, 0), (16, 0, 0, 0, 0), (0, 0, 0, 0, 1), (13, 0, 0, 0, 0), (0, 0, 0, 0, 1)], (9, 2, 1, 0, 0, [])),
  (9, [(0, 0, 0, 0, 1)], (1, 3, 0, 0, 0, [])),
  (13, [(0, 0, 0, 0, 0)], (0, 3, 0, 0, 0, [])),
  (14, [], (24, 0, 0, 0, 0, []))]
/-- X5_isOneOrZero (83) -/
def ai_p83 : List ai_B := [(0, [(3, 0, 0, 0, 0)], (2, 2, 1, 0, 0, [])),
  (4, [(3, 0, 0, 0, 0), (0, 0, 0, 0, 1)], (9, 3, 2, 0, 0, [])),
  (9, [(0, 0, 0, 0, 1)], (1, 4, 0, 0, 0, [])),
  (13, [(0, 0, 0, 0, 0)], (0, 4, 0, 0, 0, [])),
  (14, [], (24, 0, 0, 0, 0, []))]
/-- X6_init (84) -/
def ai_p84 : List ai_B := [(0, [(5, 0, 0, 0, 0), (47, 0, 0, 1, 0), (5, 0, 0, 0, 0), (1, 0, 0, 0, 120), (36, 0, 0, 0, 0), (28, 6, 2, 7, 0), (5, 0, 0, 0, 0), (1, 0, 0, 0, 8), (36, 0, 0, 0, 0), (28, 6, 10, 13, 0), (5, 0, 0, 0, 0), (1, 0, 0, 0, 12), (36, 0, 0, 0, 0), (28, 6, 11, 16, 0), (5, 0, 0, 0, 0), (1, 0, 0, 0, 12), (36, 0, 0, 0, 0), (28, 6, 12, 19, 0), (5, 0, 0, 0, 0), (1, 0, 0, 0, 12), (36, 0, 0, 0, 0), (28, 6, 13, 22, 0), (5, 0, 0, 0, 0), (1, 0, 0, 0, 12), (36, 0, 0, 0, 0), (28, 6, 14, 25, 0), (5, 0, 0, 0, 0), (1, 0, 0, 0, 18), (36, 0, 0, 0, 0), (28, 6, 15, 28, 0), (5, 0, 0, 0, 0), (1, 0, 0, 0, 36), (36, 0, 0, 0, 0), (28, 6, 16, 31, 0), (5, 0, 0, 0, 0), (0, 0, 0, 0, 2), (37, 0, 0, 0, 0), (28, 6, 17, 34, 0), (5, 0, 0, 0, 0), (2, 0, 0, 0, 180), (36, 0, 0, 0, 0), (28, 6, 18, 38, 0), (5, 0, 0, 0, 0), (1, 0, 0, 0, 6), (36, 0, 0, 0, 0), (28, 6, 20, 41, 0), (5, 0, 0, 0, 0), (1, 0, 0, 0, 6), (36, 0, 0, 0, 0), (28, 6, 21, 44, 0), (5, 0, 0, 0, 0), (1, 0, 0, 0, 6), (36, 0, 0, 0, 0), (28, 6, 22, 47, 0), (5, 0, 0, 0, 0), (1, 0, 0, 0, 6), (36, 0, 0, 0, 0), (28, 6, 26, 50, 0), (5, 0, 0, 0, 0)], (18, 1, 96, 1, 6, [(0, 53)])),
  (120, [(5, 0, 0, 0, 0)], (18, 2, 101, 1, 6, [(0, 56)])),
  (124, [], (27, 0, 0, 0, 0, []))]
/-- X6_in (85) -/
def ai_p85 : List ai_B := [(0, [(3, 0, 0, 0, 0), (3, 1, 0, 0, 0)], (10, 3, 1, 0, 0, [])),
  (5, [(3, 0, 0, 0, 0), (3, 2, 0, 0, 0)], (12, 3, 2, 0, 0, [])),
  (10, [(0, 0, 0, 0, 1)], (1, 4, 0, 0, 0, [])),
  (14, [(0, 0, 0, 0, 0)], (0, 4, 0, 0, 0, [])),
  (15, [], (24, 0, 0, 0, 0, []))]
/-- X6_has (86) -/
def ai_p86 : List ai_B := [(0, [(3, 0, 0, 0, 0), (3, 1, 0, 0, 0), (16, 0, 0, 0, 0), (0, 0, 0, 0, 1), (13, 0, 0, 0, 0), (0, 0, 0, 0, 1)], (9, 2, 1, 0, 0, [])),
  (9, [(0, 0, 0, 0, 1)], (1, 3, 0, 0, 0, [])),
  (13, [(0, 0, 0, 0, 0)], (0, 3, 0, 0, 0, [])),
  (14, [], (24, 0, 0, 0, 0, []))]
/-- X6_ones (87) -/
def ai_p87 : List ai_B := [(0, [(0, 0, 0, 0, 0), (6, 1, 0, 0, 0), (0, 0, 0, 0, 0), (6, 2, 0, 0, 0)], (0, 1, 0, 0, 0, [])),
  (4, [(3, 2, 0, 0, 0), (1, 0, 0, 0, 10)], (11, 3, 2, 0, 0, [])),
  (10, [(3, 1, 0, 0, 0), (3, 0, 0, 0, 0), (3, 2, 0, 0, 0), (16, 0, 0, 0, 0), (0, 0, 0, 0, 1), (13, 0, 0, 0, 0), (10, 0, 0, 0, 0), (6, 1, 0, 0, 0), (9, 2, 0, 0, 1)], (1, 1, 0, 0, 0, [])),
  (24, [(3, 1, 0, 0, 0)], (23, 0, 0, 0, 0, []))]
/-- X6_type (88) -/
def ai_p88 : List ai_B := [(0, [(5, 0, 0, 0, 0), (0, 0, 0, 0, 0), (24, 6, 0, 59, 0), (3, 1, 0, 0, 0), (0, 0, 0, 0, 0), (2, 0, 0, 0, 255)], (19, 1, 85, 3, 0, [(0, 63)])),
  (13, [], (3, 3, 2, 0, 0, [])),
  (16, [(0, 0, 0, 0, (-1))], (23, 0, 0, 0, 0, [])),
  (18, [(5, 0, 0, 0, 0), (23, 6, 3, 67, 0), (1, 0, 0, 0, 120)], (9, 5, 4, 0, 0, [])),
  (27, [(1, 0, 0, 0, (-3))], (23, 0, 0, 0, 0, [])),
  (30, [(5, 0, 0, 0, 0), (23, 6, 2, 7, 0), (5, 0, 0, 0, 0), (23, 6, 3, 67, 0), (3, 1, 0, 0, 0), (30, 0, 0, 0, 0), (5, 0, 0, 0, 0), (20, 0, 0, 0, 0), (23, 6, 3, 67, 0), (0, 0, 0, 0, 1), (10, 0, 0, 0, 0), (24, 6, 3, 67, 0), (5, 0, 0, 0, 0), (23, 6, 3, 67, 0)], (23, 0, 0, 0, 0, []))]
/-- X6_clear (89) -/
def ai_p89 : List ai_B := [(0, [(5, 0, 0, 0, 0), (0, 0, 0, 0, 0), (24, 6, 0, 59, 0), (5, 0, 0, 0, 0), (23, 6, 3, 67, 0), (6, 1, 0, 0, 0), (5, 0, 0, 0, 0), (0, 0, 0, 0, 0), (24, 6, 3, 67, 0), (3, 1, 0, 0, 0)], (23, 0, 0, 0, 0, []))]
/-- X6_letterAt (90) -/
def ai_p90 : List ai_B := [(0, [(3, 1, 0, 0, 0), (5, 0, 0, 0, 0), (23, 6, 3, 67, 0)], (11, 2, 1, 0, 0, [])),
  (8, [(5, 0, 0, 0, 0), (23, 6, 2, 7, 0), (3, 1, 0, 0, 0), (29, 0, 0, 0, 0)], (1, 3, 0, 0, 0, [])),
  (17, [(0, 0, 0, 0, (-1))], (0, 3, 0, 0, 0, [])),
  (18, [], (23, 0, 0, 0, 0, []))]
/-- X6_isLetter (91) -/
def ai_p91 : List ai_B := [(0, [(3, 0, 0, 0, 0), (1, 0, 0, 0, 99)], (8, 4, 1, 0, 0, [])),
  (6, [(3, 0, 0, 0, 0), (1, 0, 0, 0, 103)], (8, 4, 2, 0, 0, [])),
  (12, [(3, 0, 0, 0, 0), (1, 0, 0, 0, 118)], (8, 4, 3, 0, 0, [])),
  (18, [(3, 0, 0, 0, 0), (1, 0, 0, 0, 115)], (9, 5, 4, 0, 0, [])),
  (24, [(0, 0, 0, 0, 1)], (1, 6, 0, 0, 0, [])),
  (28, [(0, 0, 0, 0, 0)], (0, 6, 0, 0, 0, [])),
  (29, [], (24, 0, 0, 0, 0, []))]
/-- X6_advances (92) -/
def ai_p92 : List ai_B := [(0, [(5, 0, 0, 0, 0), (5, 0, 0, 0, 0), (23, 6, 4, 70, 0)], (18, 1, 90, 2, 6, [(0, 73)])),
  (8, [(1, 0, 0, 0, 32)], (9, 3, 2, 0, 0, [])),
  (13, [(5, 0, 0, 0, 0), (20, 0, 0, 0, 0), (23, 6, 4, 70, 0), (0, 0, 0, 0, 1), (10, 0, 0, 0, 0), (24, 6, 4, 70, 0)], (1, 0, 0, 0, 0, [])),
  (26, [(5, 0, 0, 0, 0), (5, 0, 0, 0, 0), (23, 6, 4, 70, 0), (24, 6, 6, 77, 0), (5, 0, 0, 0, 0), (5, 0, 0, 0, 0), (23, 6, 4, 70, 0)], (18, 4, 90, 2, 6, [(0, 73)])),
  (42, [(6, 1, 0, 0, 0), (3, 1, 0, 0, 0)], (5, 6, 5, 0, 0, [])),
  (47, [(5, 0, 0, 0, 0), (0, 0, 0, 0, 0), (24, 6, 5, 80, 0)], (1, 30, 0, 0, 0, [])),
  (55, [(3, 1, 0, 0, 0), (1, 0, 0, 0, 48), (1, 0, 0, 0, 57)], (19, 7, 85, 3, 0, [(0, 63)])),
  (63, [], (2, 23, 8, 0, 0, [])),
  (66, [(5, 0, 0, 0, 0), (0, 0, 0, 0, 0), (24, 6, 7, 83, 0)], (0, 9, 0, 0, 0, [])),
  (71, [(5, 0, 0, 0, 0), (5, 0, 0, 0, 0), (23, 6, 4, 70, 0)], (18, 10, 90, 2, 6, [(0, 73)])),
  (79, [(1, 0, 0, 0, 48), (1, 0, 0, 0, 57)], (19, 11, 85, 3, 0, [(0, 63)])),
  (86, [], (2, 17, 12, 0, 0, [])),
  (89, [(5, 0, 0, 0, 0), (5, 0, 0, 0, 0), (23, 6, 7, 83, 0), (1, 0, 0, 0, 99)], (13, 14, 13, 0, 0, [])),
  (99, [(5, 0, 0, 0, 0), (23, 6, 7, 83, 0)], (1, 16, 0, 0, 0, [])),
  (106, [(1, 0, 0, 0, 10), (5, 0, 0, 0, 0), (23, 6, 7, 83, 0), (12, 0, 0, 0, 0), (5, 0, 0, 0, 0), (5, 0, 0, 0, 0), (23, 6, 4, 70, 0)], (18, 15, 90, 2, 6, [(0, 73)])),
  (121, [(10, 0, 0, 0, 0), (1, 0, 0, 0, 48), (11, 0, 0, 0, 0)], (0, 16, 0, 0, 0, [])),
  (125, [(24, 6, 7, 83, 0), (5, 0, 0, 0, 0), (20, 0, 0, 0, 0), (23, 6, 4, 70, 0), (0, 0, 0, 0, 1), (10, 0, 0, 0, 0), (24, 6, 4, 70, 0)], (1, 9, 0, 0, 0, [])),
  (141, [(5, 0, 0, 0, 0), (5, 0, 0, 0, 0), (23, 6, 7, 83, 0), (1, 0, 0, 0, 99)], (12, 20, 18, 0, 0, [])),
  (151, [(3, 1, 0, 0, 0), (1, 0, 0, 0, 48)], (9, 21, 19, 0, 0, [])),
  (157, [(5, 0, 0, 0, 0), (23, 6, 4, 70, 0), (5, 0, 0, 0, 0), (23, 6, 6, 77, 0), (11, 0, 0, 0, 0), (0, 0, 0, 0, 1)], (13, 21, 20, 0, 0, [])),
  (170, [(0, 0, 0, 0, 4)], (1, 22, 0, 0, 0, [])),
  (174, [(0, 0, 0, 0, 2)], (0, 22, 0, 0, 0, [])),
  (175, [(24, 6, 5, 80, 0)], (1, 30, 0, 0, 0, [])),
  (181, [(5, 0, 0, 0, 0), (20, 0, 0, 0, 0), (23, 6, 4, 70, 0), (0, 0, 0, 0, 1), (10, 0, 0, 0, 0), (24, 6, 4, 70, 0), (5, 0, 0, 0, 0), (3, 1, 0, 0, 0), (24, 6, 7, 83, 0), (5, 0, 0, 0, 0), (3, 1, 0, 0, 0), (1, 0, 0, 0, 59)], (9, 25, 24, 0, 0, [])),
  (203, [(0, 0, 0, 0, 3)], (1, 29, 0, 0, 0, [])),
  (207, [(3, 1, 0, 0, 0)], (19, 26, 91, 1, 0, [(0, 86)])),
  (211, [], (2, 28, 27, 0, 0, [])),
  (214, [(0, 0, 0, 0, 1)], (1, 29, 0, 0, 0, [])),
  (218, [(0, 0, 0, 0, 4)], (0, 29, 0, 0, 0, [])),
  (219, [(24, 6, 5, 80, 0)], (0, 30, 0, 0, 0, [])),
  (222, [], (27, 0, 0, 0, 0, []))]
/-- X6_isWell (93) -/
def ai_p93 : List ai_B := [(0, [(5, 0, 0, 0, 0), (23, 6, 8, 90, 0)], (5, 2, 1, 0, 0, [])),
  (7, [(0, 0, 0, 0, 1)], (1, 3, 0, 0, 0, [])),
  (11, [(0, 0, 0, 0, 0)], (0, 3, 0, 0, 0, [])),
  (12, [], (24, 0, 0, 0, 0, []))]
/-- X6_takes (94) -/
def ai_p94 : List ai_B := [(0, [(5, 0, 0, 0, 0)], (18, 1, 93, 1, 6, [(0, 93)])),
  (4, [], (3, 3, 2, 0, 0, [])),
  (7, [(0, 0, 0, 0, 0)], (23, 0, 0, 0, 0, [])),
  (9, [(3, 1, 0, 0, 0)], (3, 5, 4, 0, 0, [])),
  (13, [(5, 0, 0, 0, 0), (5, 0, 0, 0, 0), (23, 6, 6, 77, 0), (24, 6, 8, 90, 0), (0, 0, 0, 0, 0)], (23, 0, 0, 0, 0, [])),
  (23, [(5, 0, 0, 0, 0), (23, 6, 7, 83, 0), (6, 2, 0, 0, 0), (5, 0, 0, 0, 0)], (18, 6, 92, 1, 6, [(0, 97)])),
  (32, [(3, 2, 0, 0, 0)], (23, 0, 0, 0, 0, []))]
/-- X6_number (95) -/
def ai_p95 : List ai_B := [(0, [(5, 0, 0, 0, 0), (5, 0, 0, 0, 0), (23, 6, 5, 80, 0), (0, 0, 0, 0, 2)], (9, 4, 1, 0, 0, [])),
  (9, [(5, 0, 0, 0, 0), (23, 6, 7, 83, 0), (3, 1, 0, 0, 0), (3, 2, 0, 0, 0)], (19, 2, 85, 3, 0, [(0, 63)])),
  (18, [], (2, 4, 3, 0, 0, [])),
  (21, [(0, 0, 0, 0, 1)], (1, 5, 0, 0, 0, [])),
  (25, [(0, 0, 0, 0, 0)], (0, 5, 0, 0, 0, [])),
  (26, [], (18, 6, 94, 2, 6, [(0, 100)])),
  (29, [], (23, 0, 0, 0, 0, []))]
/-- X6_begins (96) -/
def ai_p96 : List ai_B := [(0, [(5, 0, 0, 0, 0), (0, 0, 0, 0, 0), (24, 6, 9, 104, 0), (5, 0, 0, 0, 0), (23, 6, 10, 13, 0), (0, 0, 0, 0, 4), (0, 0, 0, 0, 0), (30, 0, 0, 0, 0), (5, 0, 0, 0, 0), (23, 6, 10, 13, 0), (0, 0, 0, 0, 5), (0, 0, 0, 0, 4), (30, 0, 0, 0, 0), (5, 0, 0, 0, 0), (23, 6, 10, 13, 0), (1, 0, 0, 0, 6), (0, 0, 0, 0, 3), (30, 0, 0, 0, 0), (5, 0, 0, 0, 0), (23, 6, 10, 13, 0), (1, 0, 0, 0, 7), (1, 0, 0, 0, 20), (30, 0, 0, 0, 0)], (27, 0, 0, 0, 0, []))]
/-- X6_bitOf (97) -/
def ai_p97 : List ai_B := [(0, [(3, 0, 0, 0, 0), (1, 0, 0, 0, 103)], (9, 2, 1, 0, 0, [])),
  (6, [(0, 0, 0, 0, 1)], (1, 5, 0, 0, 0, [])),
  (10, [(3, 0, 0, 0, 0), (1, 0, 0, 0, 118)], (9, 4, 3, 0, 0, [])),
  (16, [(0, 0, 0, 0, 2)], (1, 5, 0, 0, 0, [])),
  (20, [(0, 0, 0, 0, 4)], (0, 5, 0, 0, 0, [])),
  (21, [], (23, 0, 0, 0, 0, []))]
/-- X6_mayBegin (98) -/
def ai_p98 : List ai_B := [(0, [(5, 0, 0, 0, 0), (23, 6, 7, 83, 0), (1, 0, 0, 0, 99)], (9, 4, 1, 0, 0, [])),
  (9, [(5, 0, 0, 0, 0), (23, 6, 10, 13, 0), (0, 0, 0, 0, 4), (29, 0, 0, 0, 0), (1, 0, 0, 0, 6)], (11, 3, 2, 0, 0, [])),
  (20, [(0, 0, 0, 0, 1)], (1, 8, 0, 0, 0, [])),
  (24, [(0, 0, 0, 0, 0)], (1, 8, 0, 0, 0, [])),
  (28, [(5, 0, 0, 0, 0), (23, 6, 9, 104, 0), (5, 0, 0, 0, 0), (23, 6, 7, 83, 0)], (19, 5, 97, 1, 0, [(0, 107)])),
  (39, [(13, 0, 0, 0, 0)], (3, 7, 6, 0, 0, [])),
  (43, [(0, 0, 0, 0, 1)], (1, 8, 0, 0, 0, [])),
  (47, [(0, 0, 0, 0, 0)], (0, 8, 0, 0, 0, [])),
  (48, [], (24, 0, 0, 0, 0, []))]
/-- X6_readsItem (99) -/
def ai_p99 : List ai_B := [(0, [(3, 1, 0, 0, 0), (1, 0, 0, 0, 99)], (9, 6, 1, 0, 0, [])),
  (6, [(1, 0, 0, 0, 6), (5, 0, 0, 0, 0), (23, 6, 10, 13, 0), (0, 0, 0, 0, 4), (29, 0, 0, 0, 0), (10, 0, 0, 0, 0), (6, 2, 0, 0, 0), (5, 0, 0, 0, 0), (23, 6, 11, 16, 0), (3, 2, 0, 0, 0), (5, 0, 0, 0, 0), (0, 0, 0, 0, 1), (1, 0, 0, 0, 30)], (18, 2, 95, 3, 6, [(0, 110)])),
  (28, [(30, 0, 0, 0, 0), (5, 0, 0, 0, 0), (23, 6, 12, 19, 0), (3, 2, 0, 0, 0), (5, 0, 0, 0, 0), (0, 0, 0, 0, 0), (1, 0, 0, 0, 30)], (18, 3, 95, 3, 6, [(0, 110)])),
  (41, [(30, 0, 0, 0, 0), (5, 0, 0, 0, 0), (23, 6, 13, 22, 0), (3, 2, 0, 0, 0), (5, 0, 0, 0, 0), (0, 0, 0, 0, 0), (1, 0, 0, 0, 9)], (18, 4, 95, 3, 6, [(0, 110)])),
  (54, [(30, 0, 0, 0, 0), (5, 0, 0, 0, 0), (23, 6, 14, 25, 0), (3, 2, 0, 0, 0), (5, 0, 0, 0, 0), (0, 0, 0, 0, 0), (0, 0, 0, 0, 5)], (18, 5, 95, 3, 6, [(0, 110)])),
  (66, [(30, 0, 0, 0, 0), (5, 0, 0, 0, 0), (23, 6, 10, 13, 0), (0, 0, 0, 0, 4), (21, 0, 0, 0, 0), (29, 0, 0, 0, 0), (0, 0, 0, 0, 1), (10, 0, 0, 0, 0), (30, 0, 0, 0, 0)], (1, 20, 0, 0, 0, [])),
  (80, [(3, 1, 0, 0, 0), (1, 0, 0, 0, 103)], (9, 8, 7, 0, 0, [])),
  (86, [(0, 0, 0, 0, 1)], (1, 11, 0, 0, 0, [])),
  (90, [(3, 1, 0, 0, 0), (1, 0, 0, 0, 118)], (9, 10, 9, 0, 0, [])),
  (96, [(0, 0, 0, 0, 2)], (1, 11, 0, 0, 0, [])),
  (100, [(0, 0, 0, 0, 3)], (0, 11, 0, 0, 0, [])),
  (101, [(6, 2, 0, 0, 0), (5, 0, 0, 0, 0), (23, 6, 10, 13, 0), (0, 0, 0, 0, 4), (3, 2, 0, 0, 0), (10, 0, 0, 0, 0), (5, 0, 0, 0, 0), (3, 1, 0, 0, 0), (1, 0, 0, 0, 115)], (9, 13, 12, 0, 0, [])),
  (116, [(0, 0, 0, 0, 1)], (1, 14, 0, 0, 0, [])),
  (120, [(0, 0, 0, 0, 0)], (0, 14, 0, 0, 0, [])),
  (121, [(3, 1, 0, 0, 0), (1, 0, 0, 0, 115)], (9, 16, 15, 0, 0, [])),
  (127, [(1, 0, 0, 0, 60)], (1, 17, 0, 0, 0, [])),
  (132, [(1, 0, 0, 0, 9)], (0, 17, 0, 0, 0, [])),
  (134, [], (18, 18, 95, 3, 6, [(0, 110)])),
  (137, [(30, 0, 0, 0, 0), (5, 0, 0, 0, 0), (20, 0, 0, 0, 0), (23, 6, 9, 104, 0), (3, 1, 0, 0, 0)], (19, 19, 97, 1, 0, [(0, 107)])),
  (147, [(14, 0, 0, 0, 0), (24, 6, 9, 104, 0)], (0, 20, 0, 0, 0, [])),
  (151, [], (27, 0, 0, 0, 0, []))]
/-- X6_embassy (100) -/
def ai_p100 : List ai_B := [(0, [(5, 0, 0, 0, 0), (0, 0, 0, 0, 0), (24, 6, 0, 59, 0), (5, 0, 0, 0, 0), (0, 0, 0, 0, (-1)), (24, 6, 8, 90, 0), (5, 0, 0, 0, 0), (0, 0, 0, 0, 0), (24, 6, 4, 70, 0), (5, 0, 0, 0, 0)], (18, 1, 96, 1, 6, [(0, 53)])),
  (19, [(0, 0, 0, 0, 0), (6, 1, 0, 0, 0), (5, 0, 0, 0, 0)], (18, 2, 92, 1, 6, [(0, 97)])),
  (25, [(5, 0, 0, 0, 0)], (18, 3, 93, 1, 6, [(0, 93)])),
  (29, [], (2, 19, 4, 0, 0, [])),
  (32, [(5, 0, 0, 0, 0), (23, 6, 5, 80, 0)], (2, 19, 5, 0, 0, [])),
  (39, [(5, 0, 0, 0, 0), (5, 0, 0, 0, 0), (23, 6, 5, 80, 0), (0, 0, 0, 0, 1)], (9, 9, 6, 0, 0, [])),
  (48, [(5, 0, 0, 0, 0)], (18, 7, 98, 1, 6, [(0, 114)])),
  (52, [], (2, 9, 8, 0, 0, [])),
  (55, [(0, 0, 0, 0, 1)], (1, 10, 0, 0, 0, [])),
  (59, [(0, 0, 0, 0, 0)], (0, 10, 0, 0, 0, [])),
  (60, [], (18, 11, 94, 2, 6, [(0, 100)])),
  (63, [(6, 2, 0, 0, 0), (5, 0, 0, 0, 0)], (18, 12, 93, 1, 6, [(0, 93)])),
  (68, [], (2, 14, 13, 0, 0, [])),
  (71, [(5, 0, 0, 0, 0), (3, 2, 0, 0, 0)], (18, 14, 99, 2, 6, [(0, 117)])),
  (76, [(5, 0, 0, 0, 0), (5, 0, 0, 0, 0), (23, 6, 5, 80, 0), (0, 0, 0, 0, 3)], (9, 16, 15, 0, 0, [])),
  (85, [(0, 0, 0, 0, 1)], (1, 17, 0, 0, 0, [])),
  (89, [(0, 0, 0, 0, 0)], (0, 17, 0, 0, 0, [])),
  (90, [], (18, 18, 94, 2, 6, [(0, 100)])),
  (93, [(22, 0, 0, 0, 0), (9, 1, 0, 0, 1)], (1, 2, 0, 0, 0, [])),
  (100, [(5, 0, 0, 0, 0)], (18, 20, 93, 1, 6, [(0, 93)])),
  (104, [], (3, 22, 21, 0, 0, [])),
  (107, [(1, 0, 0, 0, (-10)), (5, 0, 0, 0, 0), (23, 6, 8, 90, 0), (11, 0, 0, 0, 0)], (23, 0, 0, 0, 0, [])),
  (115, [(5, 0, 0, 0, 0)], (18, 23, 101, 1, 6, [(0, 56)])),
  (119, [(3, 1, 0, 0, 0)], (23, 0, 0, 0, 0, []))]
/-- X6_settles (101) -/
def ai_p101 : List ai_B := [(0, [(0, 0, 0, 0, 0), (6, 1, 0, 0, 0)], (0, 1, 0, 0, 0, [])),
  (2, [(3, 1, 0, 0, 0), (0, 0, 0, 0, 4)], (11, 3, 2, 0, 0, [])),
  (7, [(5, 0, 0, 0, 0), (23, 6, 10, 13, 0), (3, 1, 0, 0, 0), (5, 0, 0, 0, 0), (23, 6, 10, 13, 0), (0, 0, 0, 0, 4), (3, 1, 0, 0, 0), (10, 0, 0, 0, 0), (29, 0, 0, 0, 0), (30, 0, 0, 0, 0), (9, 1, 0, 0, 1)], (1, 1, 0, 0, 0, [])),
  (27, [(0, 0, 0, 0, 0), (6, 1, 0, 0, 0)], (0, 4, 0, 0, 0, [])),
  (29, [(3, 1, 0, 0, 0), (1, 0, 0, 0, 6)], (11, 6, 5, 0, 0, [])),
  (35, [(5, 0, 0, 0, 0), (23, 6, 11, 16, 0), (3, 1, 0, 0, 0), (5, 0, 0, 0, 0), (23, 6, 11, 16, 0), (1, 0, 0, 0, 6), (3, 1, 0, 0, 0), (10, 0, 0, 0, 0), (29, 0, 0, 0, 0), (30, 0, 0, 0, 0), (5, 0, 0, 0, 0), (23, 6, 12, 19, 0), (3, 1, 0, 0, 0), (5, 0, 0, 0, 0), (23, 6, 12, 19, 0), (1, 0, 0, 0, 6), (3, 1, 0, 0, 0), (10, 0, 0, 0, 0), (29, 0, 0, 0, 0), (30, 0, 0, 0, 0), (5, 0, 0, 0, 0), (23, 6, 13, 22, 0), (3, 1, 0, 0, 0), (5, 0, 0, 0, 0), (23, 6, 13, 22, 0), (1, 0, 0, 0, 6), (3, 1, 0, 0, 0), (10, 0, 0, 0, 0), (29, 0, 0, 0, 0), (30, 0, 0, 0, 0), (5, 0, 0, 0, 0), (23, 6, 14, 25, 0), (3, 1, 0, 0, 0), (5, 0, 0, 0, 0), (23, 6, 14, 25, 0), (1, 0, 0, 0, 6), (3, 1, 0, 0, 0), (10, 0, 0, 0, 0), (29, 0, 0, 0, 0), (30, 0, 0, 0, 0), (9, 1, 0, 0, 1)], (1, 4, 0, 0, 0, [])),
  (101, [(0, 0, 0, 0, 0), (6, 1, 0, 0, 0)], (0, 7, 0, 0, 0, [])),
  (103, [(3, 1, 0, 0, 0), (1, 0, 0, 0, 18)], (11, 9, 8, 0, 0, [])),
  (109, [(5, 0, 0, 0, 0), (23, 6, 15, 28, 0), (3, 1, 0, 0, 0), (0, 0, 0, 0, 0), (30, 0, 0, 0, 0), (9, 1, 0, 0, 1)], (1, 7, 0, 0, 0, [])),
  (122, [(5, 0, 0, 0, 0), (23, 6, 15, 28, 0), (1, 0, 0, 0, 16), (5, 0, 0, 0, 0), (23, 6, 10, 13, 0), (0, 0, 0, 0, 2), (29, 0, 0, 0, 0), (30, 0, 0, 0, 0), (5, 0, 0, 0, 0), (0, 0, 0, 0, 0), (24, 6, 3, 67, 0), (5, 0, 0, 0, 0), (0, 0, 0, 0, 0), (24, 6, 23, 121, 0), (5, 0, 0, 0, 0), (0, 0, 0, 0, 0), (24, 6, 19, 124, 0), (5, 0, 0, 0, 0), (23, 6, 17, 34, 0), (0, 0, 0, 0, 0), (0, 0, 0, 0, 0), (32, 0, 0, 0, 0), (5, 0, 0, 0, 0), (23, 6, 17, 34, 0), (0, 0, 0, 0, 1), (0, 0, 0, 0, 0), (32, 0, 0, 0, 0)], (27, 0, 0, 0, 0, []))]
/-- X6_isCaller (102) -/
def ai_p102 : List ai_B := [(0, [(3, 1, 0, 0, 0), (0, 0, 0, 0, 0), (5, 0, 0, 0, 0), (23, 6, 10, 13, 0), (0, 0, 0, 0, 0), (29, 0, 0, 0, 0), (0, 0, 0, 0, 1), (11, 0, 0, 0, 0)], (19, 1, 85, 3, 0, [(0, 63)])),
  (13, [], (24, 0, 0, 0, 0, []))]
/-- X6_ringOf (103) -/
def ai_p103 : List ai_B := [(0, [(3, 1, 0, 0, 0), (6, 2, 0, 0, 0), (0, 0, 0, 0, 1), (6, 3, 0, 0, 0)], (0, 1, 0, 0, 0, [])),
  (4, [(3, 3, 0, 0, 0), (1, 0, 0, 0, 6)], (12, 8, 2, 0, 0, [])),
  (10, [(5, 0, 0, 0, 0), (23, 6, 14, 25, 0), (3, 2, 0, 0, 0), (29, 0, 0, 0, 0), (6, 2, 0, 0, 0), (5, 0, 0, 0, 0), (3, 2, 0, 0, 0)], (18, 3, 102, 2, 6, [(0, 127)])),
  (22, [], (3, 5, 4, 0, 0, [])),
  (25, [(0, 0, 0, 0, 0)], (23, 0, 0, 0, 0, [])),
  (27, [(3, 2, 0, 0, 0), (3, 1, 0, 0, 0)], (9, 7, 6, 0, 0, [])),
  (32, [(3, 3, 0, 0, 0)], (23, 0, 0, 0, 0, [])),
  (34, [(9, 3, 0, 0, 1)], (1, 1, 0, 0, 0, [])),
  (40, [(0, 0, 0, 0, 0)], (23, 0, 0, 0, 0, []))]
/-- X6_caller (104) -/
def ai_p104 : List ai_B := [(0, [(5, 0, 0, 0, 0), (0, 0, 0, 0, 0), (24, 6, 0, 59, 0), (5, 0, 0, 0, 0), (3, 1, 0, 0, 0)], (18, 1, 102, 2, 6, [(0, 127)])),
  (10, [], (2, 4, 2, 0, 0, [])),
  (13, [(3, 2, 0, 0, 0), (0, 0, 0, 0, 0), (1, 0, 0, 0, 8)], (19, 3, 85, 3, 0, [(0, 63)])),
  (20, [], (3, 5, 4, 0, 0, [])),
  (23, [(0, 0, 0, 0, (-1))], (23, 0, 0, 0, 0, [])),
  (25, [(3, 2, 0, 0, 0), (0, 0, 0, 0, 4)], (11, 14, 6, 0, 0, [])),
  (30, [(3, 2, 0, 0, 0)], (3, 8, 7, 0, 0, [])),
  (34, [(5, 0, 0, 0, 0), (23, 6, 11, 16, 0), (3, 1, 0, 0, 0), (29, 0, 0, 0, 0)], (1, 13, 0, 0, 0, [])),
  (43, [(3, 2, 0, 0, 0), (0, 0, 0, 0, 1)], (9, 10, 9, 0, 0, [])),
  (48, [(5, 0, 0, 0, 0), (23, 6, 12, 19, 0), (3, 1, 0, 0, 0), (29, 0, 0, 0, 0)], (1, 13, 0, 0, 0, [])),
  (57, [(3, 2, 0, 0, 0), (0, 0, 0, 0, 2)], (9, 12, 11, 0, 0, [])),
  (62, [(5, 0, 0, 0, 0), (23, 6, 13, 22, 0), (3, 1, 0, 0, 0), (29, 0, 0, 0, 0)], (1, 13, 0, 0, 0, [])),
  (71, [(5, 0, 0, 0, 0), (23, 6, 14, 25, 0), (3, 1, 0, 0, 0), (29, 0, 0, 0, 0)], (0, 13, 0, 0, 0, [])),
  (77, [], (23, 0, 0, 0, 0, [])),
  (78, [(3, 2, 0, 0, 0), (1, 0, 0, 0, 6)], (11, 19, 15, 0, 0, [])),
  (84, [(3, 2, 0, 0, 0), (0, 0, 0, 0, 4)], (9, 17, 16, 0, 0, [])),
  (89, [(5, 0, 0, 0, 0), (23, 6, 15, 28, 0), (0, 0, 0, 0, 0), (3, 1, 0, 0, 0), (10, 0, 0, 0, 0), (29, 0, 0, 0, 0)], (1, 18, 0, 0, 0, [])),
  (100, [(5, 0, 0, 0, 0), (23, 6, 15, 28, 0), (1, 0, 0, 0, 6), (3, 1, 0, 0, 0), (10, 0, 0, 0, 0), (29, 0, 0, 0, 0)], (0, 18, 0, 0, 0, [])),
  (109, [], (23, 0, 0, 0, 0, [])),
  (110, [(3, 2, 0, 0, 0), (1, 0, 0, 0, 6)], (9, 21, 20, 0, 0, [])),
  (116, [(5, 0, 0, 0, 0), (23, 6, 15, 28, 0), (1, 0, 0, 0, 12), (29, 0, 0, 0, 0), (3, 1, 0, 0, 0), (16, 0, 0, 0, 0), (0, 0, 0, 0, 1), (13, 0, 0, 0, 0)], (1, 24, 0, 0, 0, [])),
  (130, [(3, 2, 0, 0, 0), (1, 0, 0, 0, 7)], (9, 23, 22, 0, 0, [])),
  (136, [(5, 0, 0, 0, 0), (23, 6, 15, 28, 0), (1, 0, 0, 0, 13), (29, 0, 0, 0, 0), (3, 1, 0, 0, 0), (16, 0, 0, 0, 0), (0, 0, 0, 0, 1), (13, 0, 0, 0, 0)], (1, 24, 0, 0, 0, [])),
  (150, [(5, 0, 0, 0, 0), (3, 1, 0, 0, 0)], (18, 24, 103, 2, 6, [(0, 130)])),
  (155, [], (23, 0, 0, 0, 0, []))]
/-- X6_landOf (105) -/
def ai_p105 : List ai_B := [(0, [(0, 0, 0, 0, 0), (6, 2, 0, 0, 0), (0, 0, 0, 0, 0), (6, 3, 0, 0, 0)], (0, 1, 0, 0, 0, [])),
  (4, [(3, 3, 0, 0, 0), (5, 0, 0, 0, 0), (23, 6, 10, 13, 0), (0, 0, 0, 0, 0), (29, 0, 0, 0, 0)], (11, 7, 2, 0, 0, [])),
  (14, [(3, 2, 0, 0, 0), (3, 1, 0, 0, 0), (3, 3, 0, 0, 0)], (19, 3, 86, 2, 0, [(0, 133)])),
  (20, [], (2, 5, 4, 0, 0, [])),
  (23, [(5, 0, 0, 0, 0), (23, 6, 13, 22, 0), (3, 3, 0, 0, 0), (29, 0, 0, 0, 0)], (1, 6, 0, 0, 0, [])),
  (32, [(0, 0, 0, 0, 0)], (0, 6, 0, 0, 0, [])),
  (33, [(10, 0, 0, 0, 0), (6, 2, 0, 0, 0), (9, 3, 0, 0, 1)], (1, 1, 0, 0, 0, [])),
  (41, [(3, 2, 0, 0, 0)], (23, 0, 0, 0, 0, []))]
/-- X6_traded (106) -/
def ai_p106 : List ai_B := [(0, [(0, 0, 0, 0, 0), (6, 1, 0, 0, 0), (0, 0, 0, 0, 0), (6, 2, 0, 0, 0)], (0, 1, 0, 0, 0, [])),
  (4, [(3, 2, 0, 0, 0), (5, 0, 0, 0, 0), (23, 6, 10, 13, 0), (0, 0, 0, 0, 0), (29, 0, 0, 0, 0)], (11, 7, 2, 0, 0, [])),
  (14, [(3, 1, 0, 0, 0), (5, 0, 0, 0, 0), (3, 2, 0, 0, 0)], (18, 3, 103, 2, 6, [(0, 130)])),
  (20, [], (7, 5, 4, 0, 0, [])),
  (23, [(0, 0, 0, 0, 1), (3, 2, 0, 0, 0), (15, 0, 0, 0, 0)], (1, 6, 0, 0, 0, [])),
  (29, [(0, 0, 0, 0, 0)], (0, 6, 0, 0, 0, [])),
  (30, [(14, 0, 0, 0, 0), (6, 1, 0, 0, 0), (9, 2, 0, 0, 1)], (1, 1, 0, 0, 0, [])),
  (38, [(3, 1, 0, 0, 0)], (23, 0, 0, 0, 0, []))]
/-- X6_now (107) -/
def ai_p107 : List ai_B := [(0, [(5, 0, 0, 0, 0), (0, 0, 0, 0, 0), (24, 6, 0, 59, 0), (3, 1, 0, 0, 0), (0, 0, 0, 0, 0), (1, 0, 0, 0, 6)], (19, 1, 85, 3, 0, [(0, 63)])),
  (12, [], (3, 3, 2, 0, 0, [])),
  (15, [(0, 0, 0, 0, (-1))], (23, 0, 0, 0, 0, [])),
  (17, [(3, 1, 0, 0, 0), (0, 0, 0, 0, 3)], (11, 10, 4, 0, 0, [])),
  (22, [(3, 1, 0, 0, 0)], (3, 6, 5, 0, 0, [])),
  (26, [(5, 0, 0, 0, 0), (23, 6, 15, 28, 0), (1, 0, 0, 0, 16), (29, 0, 0, 0, 0)], (1, 9, 0, 0, 0, [])),
  (36, [(3, 1, 0, 0, 0), (0, 0, 0, 0, 1)], (9, 8, 7, 0, 0, [])),
  (41, [(5, 0, 0, 0, 0), (23, 6, 15, 28, 0), (1, 0, 0, 0, 14), (29, 0, 0, 0, 0)], (1, 9, 0, 0, 0, [])),
  (51, [(5, 0, 0, 0, 0), (23, 6, 15, 28, 0), (1, 0, 0, 0, 15), (29, 0, 0, 0, 0)], (0, 9, 0, 0, 0, [])),
  (58, [], (23, 0, 0, 0, 0, [])),
  (59, [(3, 1, 0, 0, 0), (0, 0, 0, 0, 3)], (9, 15, 11, 0, 0, [])),
  (64, [(5, 0, 0, 0, 0), (23, 6, 15, 28, 0), (1, 0, 0, 0, 17), (29, 0, 0, 0, 0)], (3, 13, 12, 0, 0, [])),
  (74, [(1, 0, 0, 0, (-9))], (1, 14, 0, 0, 0, [])),
  (79, [(5, 0, 0, 0, 0), (23, 6, 15, 28, 0), (1, 0, 0, 0, 17), (29, 0, 0, 0, 0), (0, 0, 0, 0, 1), (11, 0, 0, 0, 0)], (0, 14, 0, 0, 0, [])),
  (88, [], (23, 0, 0, 0, 0, [])),
  (89, [(3, 1, 0, 0, 0), (0, 0, 0, 0, 4)], (9, 18, 16, 0, 0, [])),
  (94, [(5, 0, 0, 0, 0), (5, 0, 0, 0, 0), (23, 6, 15, 28, 0), (1, 0, 0, 0, 12), (29, 0, 0, 0, 0)], (18, 17, 105, 2, 6, [(0, 137)])),
  (105, [], (1, 22, 0, 0, 0, [])),
  (108, [(3, 1, 0, 0, 0), (0, 0, 0, 0, 5)], (9, 21, 19, 0, 0, [])),
  (113, [(5, 0, 0, 0, 0)], (18, 20, 106, 1, 6, [(0, 140)])),
  (117, [], (1, 22, 0, 0, 0, [])),
  (120, [(5, 0, 0, 0, 0), (23, 6, 19, 124, 0)], (0, 22, 0, 0, 0, [])),
  (124, [], (23, 0, 0, 0, 0, []))]
/-- X6_notes (108) -/
def ai_p108 : List ai_B := [(0, [(5, 0, 0, 0, 0), (23, 6, 19, 124, 0), (1, 0, 0, 0, 10)], (9, 5, 1, 0, 0, [])),
  (9, [(0, 0, 0, 0, 0), (6, 1, 0, 0, 0)], (0, 2, 0, 0, 0, [])),
  (11, [(3, 1, 0, 0, 0), (2, 0, 0, 0, 162)], (11, 4, 3, 0, 0, [])),
  (18, [(5, 0, 0, 0, 0), (23, 6, 18, 38, 0), (3, 1, 0, 0, 0), (5, 0, 0, 0, 0), (23, 6, 18, 38, 0), (3, 1, 0, 0, 0), (1, 0, 0, 0, 18), (10, 0, 0, 0, 0), (29, 0, 0, 0, 0), (30, 0, 0, 0, 0), (9, 1, 0, 0, 1)], (1, 2, 0, 0, 0, [])),
  (39, [(5, 0, 0, 0, 0), (1, 0, 0, 0, 9), (24, 6, 19, 124, 0)], (0, 5, 0, 0, 0, [])),
  (45, [(0, 0, 0, 0, 0), (6, 1, 0, 0, 0)], (0, 6, 0, 0, 0, [])),
  (47, [(3, 1, 0, 0, 0), (1, 0, 0, 0, 18)], (11, 8, 7, 0, 0, [])),
  (53, [(5, 0, 0, 0, 0), (23, 6, 18, 38, 0), (1, 0, 0, 0, 18), (5, 0, 0, 0, 0), (23, 6, 19, 124, 0), (12, 0, 0, 0, 0), (3, 1, 0, 0, 0), (10, 0, 0, 0, 0), (5, 0, 0, 0, 0), (23, 6, 15, 28, 0), (3, 1, 0, 0, 0), (29, 0, 0, 0, 0), (30, 0, 0, 0, 0), (9, 1, 0, 0, 1)], (1, 6, 0, 0, 0, [])),
  (79, [(5, 0, 0, 0, 0), (20, 0, 0, 0, 0), (23, 6, 19, 124, 0), (0, 0, 0, 0, 1), (10, 0, 0, 0, 0), (24, 6, 19, 124, 0)], (27, 0, 0, 0, 0, []))]
/-- X6_shake (109) -/
def ai_p109 : List ai_B := [(0, [(5, 0, 0, 0, 0), (20, 0, 0, 0, 0), (23, 6, 24, 144, 0), (3, 2, 0, 0, 0)], (3, 2, 1, 0, 0, [])),
  (9, [(3, 3, 0, 0, 0)], (1, 3, 0, 0, 0, [])),
  (13, [(0, 0, 0, 0, 0)], (0, 3, 0, 0, 0, [])),
  (14, [(10, 0, 0, 0, 0), (24, 6, 24, 144, 0), (5, 0, 0, 0, 0), (20, 0, 0, 0, 0), (23, 6, 25, 147, 0), (3, 2, 0, 0, 0)], (3, 5, 4, 0, 0, [])),
  (27, [(4, 4, 0, 0, 0)], (1, 6, 0, 0, 0, [])),
  (32, [(0, 0, 0, 0, 2), (4, 4, 0, 0, 0), (12, 0, 0, 0, 0)], (0, 6, 0, 0, 0, [])),
  (36, [(10, 0, 0, 0, 0), (24, 6, 25, 147, 0), (5, 0, 0, 0, 0), (23, 6, 25, 147, 0), (5, 0, 0, 0, 0), (23, 6, 12, 19, 0), (3, 1, 0, 0, 0), (29, 0, 0, 0, 0)], (10, 9, 7, 0, 0, [])),
  (53, [(5, 0, 0, 0, 0), (23, 6, 24, 144, 0), (5, 0, 0, 0, 0), (23, 6, 11, 16, 0), (3, 1, 0, 0, 0), (29, 0, 0, 0, 0)], (10, 9, 8, 0, 0, [])),
  (66, [(5, 0, 0, 0, 0), (0, 0, 0, 0, 0), (24, 6, 24, 144, 0), (5, 0, 0, 0, 0), (0, 0, 0, 0, 0), (24, 6, 25, 147, 0), (0, 0, 0, 0, 1)], (23, 0, 0, 0, 0, [])),
  (78, [(5, 0, 0, 0, 0), (23, 6, 24, 144, 0), (5, 0, 0, 0, 0), (23, 6, 11, 16, 0), (3, 1, 0, 0, 0), (29, 0, 0, 0, 0), (1, 0, 0, 0, 10), (10, 0, 0, 0, 0)], (13, 11, 10, 0, 0, [])),
  (94, [(0, 0, 0, 0, 2)], (1, 12, 0, 0, 0, [])),
  (98, [(0, 0, 0, 0, 0)], (0, 12, 0, 0, 0, [])),
  (99, [], (23, 0, 0, 0, 0, []))]
/-- X6_aside (110) -/
def ai_p110 : List ai_B := [(0, [(5, 0, 0, 0, 0), (5, 0, 0, 0, 0), (23, 6, 15, 28, 0), (0, 0, 0, 0, 0), (3, 1, 0, 0, 0), (10, 0, 0, 0, 0), (29, 0, 0, 0, 0), (24, 6, 24, 144, 0), (5, 0, 0, 0, 0), (5, 0, 0, 0, 0), (23, 6, 15, 28, 0), (1, 0, 0, 0, 6), (3, 1, 0, 0, 0), (10, 0, 0, 0, 0), (29, 0, 0, 0, 0), (24, 6, 25, 147, 0)], (27, 0, 0, 0, 0, []))]
/-- X6_shakes (111) -/
def ai_p111 : List ai_B := [(0, [(5, 0, 0, 0, 0), (0, 0, 0, 0, 0), (24, 6, 0, 59, 0), (5, 0, 0, 0, 0), (3, 1, 0, 0, 0)], (18, 1, 102, 2, 6, [(0, 127)])),
  (10, [], (2, 4, 2, 0, 0, [])),
  (13, [(3, 2, 0, 0, 0), (0, 0, 0, 0, 0), (0, 0, 0, 0, 1)], (19, 3, 85, 3, 0, [(0, 63)])),
  (19, [], (3, 5, 4, 0, 0, [])),
  (22, [(0, 0, 0, 0, (-1))], (23, 0, 0, 0, 0, [])),
  (24, [(5, 0, 0, 0, 0), (23, 6, 15, 28, 0), (1, 0, 0, 0, 17), (29, 0, 0, 0, 0)], (6, 8, 6, 0, 0, [])),
  (34, [(5, 0, 0, 0, 0), (23, 6, 15, 28, 0), (1, 0, 0, 0, 13), (29, 0, 0, 0, 0), (3, 1, 0, 0, 0)], (19, 7, 86, 2, 0, [(0, 133)])),
  (45, [], (2, 9, 8, 0, 0, [])),
  (48, [(1, 0, 0, 0, (-2))], (23, 0, 0, 0, 0, [])),
  (51, [(5, 0, 0, 0, 0)], (18, 10, 108, 1, 6, [(0, 150)])),
  (55, [(5, 0, 0, 0, 0), (3, 1, 0, 0, 0)], (18, 11, 110, 2, 6, [(0, 153)])),
  (60, [(5, 0, 0, 0, 0), (3, 1, 0, 0, 0), (3, 2, 0, 0, 0), (5, 0, 0, 0, 0), (23, 6, 10, 13, 0), (0, 0, 0, 0, 1), (29, 0, 0, 0, 0), (5, 0, 0, 0, 0), (23, 6, 15, 28, 0), (1, 0, 0, 0, 16), (29, 0, 0, 0, 0)], (18, 12, 109, 5, 6, [(0, 156)])),
  (79, [(6, 3, 0, 0, 0), (5, 0, 0, 0, 0), (23, 6, 15, 28, 0), (0, 0, 0, 0, 0), (3, 1, 0, 0, 0), (10, 0, 0, 0, 0), (5, 0, 0, 0, 0), (23, 6, 24, 144, 0), (30, 0, 0, 0, 0), (5, 0, 0, 0, 0), (23, 6, 15, 28, 0), (1, 0, 0, 0, 6), (3, 1, 0, 0, 0), (10, 0, 0, 0, 0), (5, 0, 0, 0, 0), (23, 6, 25, 147, 0), (30, 0, 0, 0, 0), (5, 0, 0, 0, 0), (23, 6, 15, 28, 0), (1, 0, 0, 0, 12), (21, 0, 0, 0, 0), (29, 0, 0, 0, 0), (3, 3, 0, 0, 0), (0, 0, 0, 0, 1)], (9, 14, 13, 0, 0, [])),
  (118, [(0, 0, 0, 0, 1), (3, 1, 0, 0, 0), (15, 0, 0, 0, 0)], (1, 15, 0, 0, 0, [])),
  (124, [(0, 0, 0, 0, 0)], (0, 15, 0, 0, 0, [])),
  (125, [(14, 0, 0, 0, 0), (30, 0, 0, 0, 0), (5, 0, 0, 0, 0), (23, 6, 15, 28, 0), (1, 0, 0, 0, 13), (21, 0, 0, 0, 0), (29, 0, 0, 0, 0), (3, 3, 0, 0, 0), (0, 0, 0, 0, 2)], (9, 17, 16, 0, 0, [])),
  (140, [(0, 0, 0, 0, 1), (3, 1, 0, 0, 0), (15, 0, 0, 0, 0)], (1, 18, 0, 0, 0, [])),
  (146, [(0, 0, 0, 0, 0)], (0, 18, 0, 0, 0, [])),
  (147, [(14, 0, 0, 0, 0), (30, 0, 0, 0, 0), (5, 0, 0, 0, 0), (23, 6, 15, 28, 0), (1, 0, 0, 0, 15), (29, 0, 0, 0, 0), (3, 2, 0, 0, 0), (0, 0, 0, 0, 1)], (9, 20, 19, 0, 0, [])),
  (161, [(5, 0, 0, 0, 0), (23, 6, 10, 13, 0), (0, 0, 0, 0, 1), (29, 0, 0, 0, 0)], (1, 21, 0, 0, 0, [])),
  (170, [(0, 0, 0, 0, 0)], (0, 21, 0, 0, 0, [])),
  (171, [(10, 0, 0, 0, 0), (7, 4, 0, 0, 0), (5, 0, 0, 0, 0), (23, 6, 15, 28, 0), (1, 0, 0, 0, 15), (4, 4, 0, 0, 0), (2, 0, 0, 0, 999)], (13, 23, 22, 0, 0, [])),
  (188, [(2, 0, 0, 0, 999)], (1, 24, 0, 0, 0, [])),
  (194, [(4, 4, 0, 0, 0)], (0, 24, 0, 0, 0, [])),
  (196, [(30, 0, 0, 0, 0), (5, 0, 0, 0, 0), (23, 6, 15, 28, 0), (1, 0, 0, 0, 14), (21, 0, 0, 0, 0), (29, 0, 0, 0, 0), (0, 0, 0, 0, 1), (10, 0, 0, 0, 0), (30, 0, 0, 0, 0), (5, 0, 0, 0, 0), (23, 6, 15, 28, 0), (1, 0, 0, 0, 14), (29, 0, 0, 0, 0), (5, 0, 0, 0, 0), (23, 6, 10, 13, 0), (0, 0, 0, 0, 3), (29, 0, 0, 0, 0)], (9, 26, 25, 0, 0, [])),
  (224, [(5, 0, 0, 0, 0), (23, 6, 15, 28, 0), (1, 0, 0, 0, 14), (0, 0, 0, 0, 0), (30, 0, 0, 0, 0), (5, 0, 0, 0, 0), (23, 6, 15, 28, 0), (1, 0, 0, 0, 17), (3, 1, 0, 0, 0), (0, 0, 0, 0, 1), (10, 0, 0, 0, 0), (30, 0, 0, 0, 0)], (0, 26, 0, 0, 0, [])),
  (242, [(3, 3, 0, 0, 0)], (23, 0, 0, 0, 0, []))]
/-- X6_opens (112) -/
def ai_p112 : List ai_B := [(0, [(5, 0, 0, 0, 0), (0, 0, 0, 0, 0), (24, 6, 0, 59, 0), (5, 0, 0, 0, 0), (23, 6, 15, 28, 0), (1, 0, 0, 0, 17), (29, 0, 0, 0, 0)], (3, 2, 1, 0, 0, [])),
  (15, [(1, 0, 0, 0, (-2))], (23, 0, 0, 0, 0, [])),
  (18, [(5, 0, 0, 0, 0)], (18, 3, 108, 1, 6, [(0, 150)])),
  (22, [(5, 0, 0, 0, 0), (23, 6, 15, 28, 0), (1, 0, 0, 0, 17), (29, 0, 0, 0, 0), (0, 0, 0, 0, 1), (11, 0, 0, 0, 0), (6, 1, 0, 0, 0), (5, 0, 0, 0, 0), (23, 6, 15, 28, 0), (1, 0, 0, 0, 17), (0, 0, 0, 0, 0), (30, 0, 0, 0, 0), (3, 1, 0, 0, 0)], (23, 0, 0, 0, 0, []))]
/-- X6_lines (113) -/
def ai_p113 : List ai_B := [(0, [(5, 0, 0, 0, 0), (0, 0, 0, 0, 0), (24, 6, 0, 59, 0), (3, 1, 0, 0, 0), (0, 0, 0, 0, 0), (1, 0, 0, 0, 9)], (19, 1, 85, 3, 0, [(0, 63)])),
  (12, [], (3, 3, 2, 0, 0, [])),
  (15, [(0, 0, 0, 0, (-1))], (23, 0, 0, 0, 0, [])),
  (17, [(5, 0, 0, 0, 0), (23, 6, 15, 28, 0), (1, 0, 0, 0, 16), (29, 0, 0, 0, 0), (6, 2, 0, 0, 0), (3, 2, 0, 0, 0), (3, 1, 0, 0, 0)], (9, 5, 4, 0, 0, [])),
  (30, [(1, 0, 0, 0, (-2))], (23, 0, 0, 0, 0, [])),
  (33, [(5, 0, 0, 0, 0)], (18, 6, 108, 1, 6, [(0, 150)])),
  (37, [(5, 0, 0, 0, 0), (23, 6, 15, 28, 0), (1, 0, 0, 0, 16), (3, 1, 0, 0, 0), (30, 0, 0, 0, 0), (3, 2, 0, 0, 0)], (23, 0, 0, 0, 0, []))]
/-- X6_winds (114) -/
def ai_p114 : List ai_B := [(0, [(5, 0, 0, 0, 0), (0, 0, 0, 0, 0), (24, 6, 0, 59, 0), (5, 0, 0, 0, 0), (23, 6, 15, 28, 0), (1, 0, 0, 0, 14), (29, 0, 0, 0, 0), (6, 1, 0, 0, 0), (3, 1, 0, 0, 0)], (3, 2, 1, 0, 0, [])),
  (17, [(1, 0, 0, 0, (-2))], (23, 0, 0, 0, 0, [])),
  (20, [(5, 0, 0, 0, 0)], (18, 3, 108, 1, 6, [(0, 150)])),
  (24, [(5, 0, 0, 0, 0), (23, 6, 15, 28, 0), (1, 0, 0, 0, 14), (0, 0, 0, 0, 0), (30, 0, 0, 0, 0), (3, 1, 0, 0, 0)], (23, 0, 0, 0, 0, []))]
/-- X6_consoles (115) -/
def ai_p115 : List ai_B := [(0, [(5, 0, 0, 0, 0), (0, 0, 0, 0, 0), (24, 6, 0, 59, 0), (5, 0, 0, 0, 0), (3, 1, 0, 0, 0)], (18, 1, 102, 2, 6, [(0, 127)])),
  (10, [], (3, 3, 2, 0, 0, [])),
  (13, [(0, 0, 0, 0, (-1))], (23, 0, 0, 0, 0, [])),
  (15, [(5, 0, 0, 0, 0), (23, 6, 15, 28, 0), (0, 0, 0, 0, 0), (3, 1, 0, 0, 0), (10, 0, 0, 0, 0), (29, 0, 0, 0, 0), (6, 2, 0, 0, 0), (3, 2, 0, 0, 0)], (2, 6, 4, 0, 0, [])),
  (28, [(5, 0, 0, 0, 0), (23, 6, 15, 28, 0), (1, 0, 0, 0, 13), (29, 0, 0, 0, 0), (3, 1, 0, 0, 0)], (19, 5, 86, 2, 0, [(0, 133)])),
  (39, [], (2, 7, 6, 0, 0, [])),
  (42, [(1, 0, 0, 0, (-2))], (23, 0, 0, 0, 0, [])),
  (45, [(5, 0, 0, 0, 0)], (18, 8, 108, 1, 6, [(0, 150)])),
  (49, [(5, 0, 0, 0, 0), (23, 6, 15, 28, 0), (0, 0, 0, 0, 0), (3, 1, 0, 0, 0), (10, 0, 0, 0, 0), (0, 0, 0, 0, 0), (30, 0, 0, 0, 0), (3, 2, 0, 0, 0)], (23, 0, 0, 0, 0, []))]
/-- X6_undo (116) -/
def ai_p116 : List ai_B := [(0, [(5, 0, 0, 0, 0), (0, 0, 0, 0, 0), (24, 6, 0, 59, 0), (5, 0, 0, 0, 0), (23, 6, 19, 124, 0)], (3, 2, 1, 0, 0, [])),
  (12, [(1, 0, 0, 0, (-2))], (23, 0, 0, 0, 0, [])),
  (15, [(5, 0, 0, 0, 0), (20, 0, 0, 0, 0), (23, 6, 19, 124, 0), (0, 0, 0, 0, 1), (11, 0, 0, 0, 0), (24, 6, 19, 124, 0), (0, 0, 0, 0, 0), (6, 1, 0, 0, 0)], (0, 3, 0, 0, 0, [])),
  (27, [(3, 1, 0, 0, 0), (1, 0, 0, 0, 18)], (11, 5, 4, 0, 0, [])),
  (33, [(5, 0, 0, 0, 0), (23, 6, 15, 28, 0), (3, 1, 0, 0, 0), (5, 0, 0, 0, 0), (23, 6, 18, 38, 0), (1, 0, 0, 0, 18), (5, 0, 0, 0, 0), (23, 6, 19, 124, 0), (12, 0, 0, 0, 0), (3, 1, 0, 0, 0), (10, 0, 0, 0, 0), (29, 0, 0, 0, 0), (30, 0, 0, 0, 0), (9, 1, 0, 0, 1)], (1, 3, 0, 0, 0, [])),
  (59, [(5, 0, 0, 0, 0), (23, 6, 19, 124, 0)], (23, 0, 0, 0, 0, []))]
/-- X6_yieldsBy (117) -/
def ai_p117 : List ai_B := [(0, [(5, 0, 0, 0, 0), (3, 1, 0, 0, 0)], (18, 1, 110, 2, 6, [(0, 153)])),
  (5, [(0, 0, 0, 0, 0), (7, 4, 0, 0, 0), (3, 3, 0, 0, 0), (0, 0, 0, 0, 1), (11, 0, 0, 0, 0), (7, 5, 0, 0, 0)], (0, 2, 0, 0, 0, [])),
  (13, [(4, 5, 0, 0, 0)], (4, 7, 3, 0, 0, [])),
  (18, [(4, 4, 0, 0, 0)], (2, 5, 4, 0, 0, [])),
  (23, [(0, 0, 0, 0, 0)], (24, 0, 0, 0, 0, [])),
  (25, [(5, 0, 0, 0, 0), (3, 1, 0, 0, 0), (3, 2, 0, 0, 0), (4, 5, 0, 0, 0), (16, 0, 0, 0, 0), (0, 0, 0, 0, 1), (13, 0, 0, 0, 0), (5, 0, 0, 0, 0), (23, 6, 10, 13, 0), (0, 0, 0, 0, 1), (29, 0, 0, 0, 0), (5, 0, 0, 0, 0), (23, 6, 15, 28, 0), (1, 0, 0, 0, 16), (29, 0, 0, 0, 0)], (18, 6, 109, 5, 6, [(0, 156)])),
  (49, [(7, 4, 0, 0, 0), (9, 5, 0, 0, (-1))], (1, 2, 0, 0, 0, [])),
  (57, [(4, 4, 0, 0, 0), (0, 0, 0, 0, 1)], (9, 9, 8, 0, 0, [])),
  (63, [(0, 0, 0, 0, 1)], (1, 10, 0, 0, 0, [])),
  (67, [(0, 0, 0, 0, 0)], (0, 10, 0, 0, 0, [])),
  (68, [], (24, 0, 0, 0, 0, []))]
/-- X6_wayBy (118) -/
def ai_p118 : List ai_B := [(0, [(0, 0, 0, 0, 1), (6, 2, 0, 0, 0)], (0, 1, 0, 0, 0, [])),
  (2, [(3, 2, 0, 0, 0), (1, 0, 0, 0, 10)], (12, 9, 2, 0, 0, [])),
  (8, [(0, 0, 0, 0, 0), (6, 3, 0, 0, 0)], (0, 3, 0, 0, 0, [])),
  (10, [(3, 3, 0, 0, 0), (0, 0, 0, 0, 1), (3, 2, 0, 0, 0), (15, 0, 0, 0, 0)], (11, 8, 4, 0, 0, [])),
  (17, [(5, 0, 0, 0, 0), (3, 1, 0, 0, 0), (3, 3, 0, 0, 0), (3, 2, 0, 0, 0)], (18, 5, 117, 4, 6, [(0, 160)])),
  (24, [], (2, 7, 6, 0, 0, [])),
  (27, [(1, 0, 0, 0, 16), (3, 3, 0, 0, 0), (12, 0, 0, 0, 0), (3, 2, 0, 0, 0), (10, 0, 0, 0, 0)], (23, 0, 0, 0, 0, [])),
  (34, [(9, 3, 0, 0, 1)], (1, 3, 0, 0, 0, [])),
  (40, [(9, 2, 0, 0, 1)], (1, 1, 0, 0, 0, [])),
  (46, [(1, 0, 0, 0, (-9))], (23, 0, 0, 0, 0, []))]
/-- X6_isGone (119) -/
def ai_p119 : List ai_B := [(0, [(5, 0, 0, 0, 0), (23, 6, 15, 28, 0), (1, 0, 0, 0, 12), (29, 0, 0, 0, 0), (5, 0, 0, 0, 0), (23, 6, 15, 28, 0), (1, 0, 0, 0, 13), (29, 0, 0, 0, 0), (14, 0, 0, 0, 0), (3, 1, 0, 0, 0)], (19, 1, 86, 2, 0, [(0, 133)])),
  (19, [], (24, 0, 0, 0, 0, []))]
/-- X6_way (120) -/
def ai_p120 : List ai_B := [(0, [(5, 0, 0, 0, 0), (0, 0, 0, 0, 0), (24, 6, 0, 59, 0), (5, 0, 0, 0, 0), (3, 1, 0, 0, 0)], (18, 1, 102, 2, 6, [(0, 127)])),
  (10, [], (2, 4, 2, 0, 0, [])),
  (13, [(3, 2, 0, 0, 0), (0, 0, 0, 0, (-1)), (1, 0, 0, 0, 9)], (19, 3, 85, 3, 0, [(0, 63)])),
  (20, [], (3, 5, 4, 0, 0, [])),
  (23, [(0, 0, 0, 0, (-1))], (23, 0, 0, 0, 0, [])),
  (25, [(5, 0, 0, 0, 0), (3, 1, 0, 0, 0)], (18, 6, 119, 2, 6, [(0, 163)])),
  (30, [], (2, 8, 7, 0, 0, [])),
  (33, [(1, 0, 0, 0, (-2))], (23, 0, 0, 0, 0, [])),
  (36, [(5, 0, 0, 0, 0), (3, 1, 0, 0, 0)], (18, 9, 118, 2, 6, [(0, 166)])),
  (41, [(6, 3, 0, 0, 0), (3, 3, 0, 0, 0), (1, 0, 0, 0, (-9))], (9, 11, 10, 0, 0, [])),
  (48, [(1, 0, 0, 0, (-9))], (23, 0, 0, 0, 0, [])),
  (51, [(3, 3, 0, 0, 0), (1, 0, 0, 0, 16), (19, 0, 0, 0, 0), (7, 4, 0, 0, 0), (3, 2, 0, 0, 0), (0, 0, 0, 0, (-1))], (9, 13, 12, 0, 0, [])),
  (62, [(4, 4, 0, 0, 0)], (1, 16, 0, 0, 0, [])),
  (67, [(3, 2, 0, 0, 0), (4, 4, 0, 0, 0)], (11, 15, 14, 0, 0, [])),
  (73, [(3, 3, 0, 0, 0), (1, 0, 0, 0, 16), (18, 0, 0, 0, 0), (4, 4, 0, 0, 0), (0, 0, 0, 0, 1), (11, 0, 0, 0, 0), (3, 2, 0, 0, 0), (11, 0, 0, 0, 0), (16, 0, 0, 0, 0), (0, 0, 0, 0, 1), (13, 0, 0, 0, 0)], (1, 16, 0, 0, 0, [])),
  (89, [(1, 0, 0, 0, (-9))], (0, 16, 0, 0, 0, [])),
  (91, [], (23, 0, 0, 0, 0, []))]
/-- X6_shakesFor (121) -/
def ai_p121 : List ai_B := [(0, [(0, 0, 0, 0, 0), (6, 2, 0, 0, 0), (0, 0, 0, 0, 0), (6, 3, 0, 0, 0)], (0, 1, 0, 0, 0, [])),
  (4, [(3, 3, 0, 0, 0), (5, 0, 0, 0, 0), (23, 6, 10, 13, 0), (0, 0, 0, 0, 0), (29, 0, 0, 0, 0)], (11, 7, 2, 0, 0, [])),
  (14, [(3, 2, 0, 0, 0), (3, 1, 0, 0, 0), (3, 3, 0, 0, 0)], (19, 3, 86, 2, 0, [(0, 133)])),
  (20, [], (2, 5, 4, 0, 0, [])),
  (23, [(5, 0, 0, 0, 0), (23, 6, 26, 50, 0), (3, 3, 0, 0, 0), (29, 0, 0, 0, 0)], (1, 6, 0, 0, 0, [])),
  (32, [(0, 0, 0, 0, 0)], (0, 6, 0, 0, 0, [])),
  (33, [(10, 0, 0, 0, 0), (6, 2, 0, 0, 0), (9, 3, 0, 0, 1)], (1, 1, 0, 0, 0, [])),
  (41, [(3, 2, 0, 0, 0)], (23, 0, 0, 0, 0, []))]
/-- X6_gain (122) -/
def ai_p122 : List ai_B := [(0, [(5, 0, 0, 0, 0), (0, 0, 0, 0, 0), (24, 6, 0, 59, 0), (3, 1, 0, 0, 0), (0, 0, 0, 0, 0), (1, 0, 0, 0, 40)], (19, 1, 85, 3, 0, [(0, 63)])),
  (12, [], (2, 4, 2, 0, 0, [])),
  (15, [(3, 2, 0, 0, 0), (0, 0, 0, 0, 0), (0, 0, 0, 0, 1)], (19, 3, 85, 3, 0, [(0, 63)])),
  (21, [], (3, 5, 4, 0, 0, [])),
  (24, [(0, 0, 0, 0, (-1))], (23, 0, 0, 0, 0, [])),
  (26, [(0, 0, 0, 0, 0), (6, 3, 0, 0, 0)], (0, 6, 0, 0, 0, [])),
  (28, [(3, 3, 0, 0, 0), (5, 0, 0, 0, 0), (23, 6, 10, 13, 0), (0, 0, 0, 0, 0), (29, 0, 0, 0, 0)], (11, 15, 7, 0, 0, [])),
  (38, [(5, 0, 0, 0, 0), (3, 3, 0, 0, 0)], (18, 8, 119, 2, 6, [(0, 163)])),
  (43, [], (2, 10, 9, 0, 0, [])),
  (46, [(1, 0, 0, 0, (-9))], (1, 11, 0, 0, 0, [])),
  (51, [(5, 0, 0, 0, 0), (3, 3, 0, 0, 0)], (18, 11, 118, 2, 6, [(0, 166)])),
  (56, [(7, 4, 0, 0, 0), (5, 0, 0, 0, 0), (23, 6, 26, 50, 0), (3, 3, 0, 0, 0), (4, 4, 0, 0, 0), (1, 0, 0, 0, (-9))], (9, 13, 12, 0, 0, [])),
  (70, [(40, 0, 0, 169, 1000000)], (1, 14, 0, 0, 0, [])),
  (75, [(4, 4, 0, 0, 0), (1, 0, 0, 0, 16), (19, 0, 0, 0, 0)], (0, 14, 0, 0, 0, [])),
  (80, [(30, 0, 0, 0, 0), (9, 3, 0, 0, 1)], (1, 6, 0, 0, 0, [])),
  (87, [(0, 0, 0, 0, 0), (6, 3, 0, 0, 0), (0, 0, 0, 0, 0), (7, 4, 0, 0, 0)], (0, 16, 0, 0, 0, [])),
  (92, [(4, 4, 0, 0, 0), (0, 0, 0, 0, 1), (5, 0, 0, 0, 0), (23, 6, 10, 13, 0), (0, 0, 0, 0, 0), (29, 0, 0, 0, 0), (15, 0, 0, 0, 0)], (11, 32, 17, 0, 0, [])),
  (105, [(5, 0, 0, 0, 0), (4, 4, 0, 0, 0)], (18, 18, 105, 2, 6, [(0, 137)])),
  (111, [(5, 0, 0, 0, 0), (3, 3, 0, 0, 0)], (18, 19, 105, 2, 6, [(0, 137)])),
  (116, [(11, 0, 0, 0, 0), (7, 5, 0, 0, 0), (4, 5, 0, 0, 0)], (6, 24, 20, 0, 0, [])),
  (124, [(4, 5, 0, 0, 0)], (3, 25, 21, 0, 0, [])),
  (129, [(5, 0, 0, 0, 0), (4, 4, 0, 0, 0)], (18, 22, 121, 2, 6, [(0, 170)])),
  (135, [(5, 0, 0, 0, 0), (3, 3, 0, 0, 0)], (18, 23, 121, 2, 6, [(0, 170)])),
  (140, [], (11, 25, 24, 0, 0, [])),
  (143, [(0, 0, 0, 0, 1)], (1, 26, 0, 0, 0, [])),
  (147, [(0, 0, 0, 0, 0)], (0, 26, 0, 0, 0, [])),
  (148, [(7, 6, 0, 0, 0), (4, 6, 0, 0, 0)], (2, 30, 27, 0, 0, [])),
  (155, [(5, 0, 0, 0, 0), (4, 4, 0, 0, 0)], (18, 28, 121, 2, 6, [(0, 170)])),
  (161, [(3, 1, 0, 0, 0)], (12, 30, 29, 0, 0, [])),
  (165, [(4, 4, 0, 0, 0)], (1, 31, 0, 0, 0, [])),
  (170, [(3, 3, 0, 0, 0)], (0, 31, 0, 0, 0, [])),
  (171, [(6, 3, 0, 0, 0), (9, 4, 0, 0, 1)], (1, 16, 0, 0, 0, [])),
  (178, [(3, 2, 0, 0, 0)], (3, 35, 33, 0, 0, [])),
  (182, [(5, 0, 0, 0, 0), (3, 3, 0, 0, 0)], (18, 34, 105, 2, 6, [(0, 137)])),
  (187, [], (1, 36, 0, 0, 0, [])),
  (190, [(3, 3, 0, 0, 0)], (0, 36, 0, 0, 0, [])),
  (191, [], (23, 0, 0, 0, 0, []))]
/-- X6_comesOf (123) -/
def ai_p123 : List ai_B := [(0, [(5, 0, 0, 0, 0), (0, 0, 0, 0, 0), (24, 6, 24, 144, 0), (5, 0, 0, 0, 0), (0, 0, 0, 0, 0), (24, 6, 25, 147, 0), (0, 0, 0, 0, 0), (7, 5, 0, 0, 0), (0, 0, 0, 0, 0), (7, 6, 0, 0, 0)], (0, 1, 0, 0, 0, [])),
  (16, [(4, 6, 0, 0, 0), (3, 2, 0, 0, 0)], (11, 5, 2, 0, 0, [])),
  (22, [(4, 5, 0, 0, 0), (0, 0, 0, 0, 2)], (11, 5, 3, 0, 0, [])),
  (28, [(4, 5, 0, 0, 0), (5, 0, 0, 0, 0), (3, 1, 0, 0, 0), (0, 0, 0, 0, 0), (3, 3, 0, 0, 0), (4, 4, 0, 0, 0)], (18, 4, 109, 5, 6, [(0, 156)])),
  (39, [(14, 0, 0, 0, 0), (7, 5, 0, 0, 0), (9, 6, 0, 0, 1)], (1, 1, 0, 0, 0, [])),
  (48, [(4, 5, 0, 0, 0)], (23, 0, 0, 0, 0, []))]
/-- X6_tune (124) -/
def ai_p124 : List ai_B := [(0, [(5, 0, 0, 0, 0), (0, 0, 0, 0, 0), (24, 6, 0, 59, 0), (3, 1, 0, 0, 0), (0, 0, 0, 0, 0), (0, 0, 0, 0, 1), (5, 0, 0, 0, 0), (23, 6, 10, 13, 0), (0, 0, 0, 0, 0), (29, 0, 0, 0, 0), (15, 0, 0, 0, 0), (0, 0, 0, 0, 1), (11, 0, 0, 0, 0)], (19, 1, 85, 3, 0, [(0, 63)])),
  (20, [], (2, 4, 2, 0, 0, [])),
  (23, [(3, 2, 0, 0, 0), (0, 0, 0, 0, 1), (0, 0, 0, 0, 5)], (19, 3, 85, 3, 0, [(0, 63)])),
  (29, [], (3, 5, 4, 0, 0, [])),
  (32, [(0, 0, 0, 0, (-1))], (23, 0, 0, 0, 0, [])),
  (34, [(0, 0, 0, 0, 0), (6, 3, 0, 0, 0)], (0, 6, 0, 0, 0, [])),
  (36, [(3, 3, 0, 0, 0), (1, 0, 0, 0, 100)], (11, 18, 7, 0, 0, [])),
  (42, [(0, 0, 0, 0, 1), (7, 4, 0, 0, 0), (0, 0, 0, 0, 0), (7, 5, 0, 0, 0)], (0, 8, 0, 0, 0, [])),
  (48, [(4, 5, 0, 0, 0), (5, 0, 0, 0, 0), (23, 6, 10, 13, 0), (0, 0, 0, 0, 0), (29, 0, 0, 0, 0)], (11, 15, 9, 0, 0, [])),
  (59, [(4, 4, 0, 0, 0)], (2, 13, 10, 0, 0, [])),
  (64, [(5, 0, 0, 0, 0), (4, 5, 0, 0, 0), (3, 2, 0, 0, 0), (3, 3, 0, 0, 0), (1, 0, 0, 0, 10), (18, 0, 0, 0, 0), (3, 3, 0, 0, 0), (1, 0, 0, 0, 10), (19, 0, 0, 0, 0)], (18, 11, 123, 5, 6, [(0, 173)])),
  (79, [(3, 1, 0, 0, 0), (4, 5, 0, 0, 0), (16, 0, 0, 0, 0), (0, 0, 0, 0, 1), (13, 0, 0, 0, 0)], (9, 13, 12, 0, 0, [])),
  (88, [(0, 0, 0, 0, 1)], (1, 14, 0, 0, 0, [])),
  (92, [(0, 0, 0, 0, 0)], (0, 14, 0, 0, 0, [])),
  (93, [(7, 4, 0, 0, 0), (9, 5, 0, 0, 1)], (1, 8, 0, 0, 0, [])),
  (101, [(4, 4, 0, 0, 0)], (2, 17, 16, 0, 0, [])),
  (106, [(3, 3, 0, 0, 0)], (23, 0, 0, 0, 0, [])),
  (108, [(9, 3, 0, 0, 1)], (1, 6, 0, 0, 0, [])),
  (114, [(1, 0, 0, 0, (-9))], (23, 0, 0, 0, 0, []))]
/-- X6_power (125) -/
def ai_p125 : List ai_B := [(0, [(0, 0, 0, 0, 1), (6, 2, 0, 0, 0), (0, 0, 0, 0, 0), (6, 3, 0, 0, 0)], (0, 1, 0, 0, 0, [])),
  (4, [(3, 3, 0, 0, 0), (3, 1, 0, 0, 0)], (11, 3, 2, 0, 0, [])),
  (9, [(3, 2, 0, 0, 0), (3, 0, 0, 0, 0), (12, 0, 0, 0, 0), (6, 2, 0, 0, 0), (9, 3, 0, 0, 1)], (1, 1, 0, 0, 0, [])),
  (19, [(3, 2, 0, 0, 0)], (23, 0, 0, 0, 0, []))]
/-- X6_gcd (126) -/
def ai_p126 : List ai_B := [(0, [(3, 0, 0, 0, 0), (6, 2, 0, 0, 0), (3, 1, 0, 0, 0), (6, 3, 0, 0, 0)], (0, 1, 0, 0, 0, [])),
  (4, [(3, 3, 0, 0, 0)], (2, 3, 2, 0, 0, [])),
  (8, [(3, 2, 0, 0, 0), (3, 3, 0, 0, 0), (19, 0, 0, 0, 0), (7, 4, 0, 0, 0), (3, 3, 0, 0, 0), (6, 2, 0, 0, 0), (4, 4, 0, 0, 0), (6, 3, 0, 0, 0)], (1, 1, 0, 0, 0, [])),
  (21, [(3, 2, 0, 0, 0)], (23, 0, 0, 0, 0, []))]
/-- X6_odds (127) -/
def ai_p127 : List ai_B := [(0, [(5, 0, 0, 0, 0), (0, 0, 0, 0, 0), (24, 6, 0, 59, 0), (3, 1, 0, 0, 0), (0, 0, 0, 0, 0), (1, 0, 0, 0, 10)], (19, 1, 85, 3, 0, [(0, 63)])),
  (12, [], (2, 6, 2, 0, 0, [])),
  (15, [(3, 2, 0, 0, 0), (0, 0, 0, 0, 0), (1, 0, 0, 0, 6)], (19, 3, 85, 3, 0, [(0, 63)])),
  (22, [], (2, 6, 4, 0, 0, [])),
  (25, [(3, 3, 0, 0, 0), (0, 0, 0, 0, 0), (0, 0, 0, 0, 1)], (19, 5, 85, 3, 0, [(0, 63)])),
  (31, [], (3, 7, 6, 0, 0, [])),
  (34, [(0, 0, 0, 0, (-1))], (23, 0, 0, 0, 0, [])),
  (36, [(5, 0, 0, 0, 0), (23, 6, 10, 13, 0), (0, 0, 0, 0, 0), (29, 0, 0, 0, 0), (5, 0, 0, 0, 0), (23, 6, 15, 28, 0), (1, 0, 0, 0, 13), (29, 0, 0, 0, 0)], (19, 8, 87, 1, 0, [(0, 176)])),
  (52, [(11, 0, 0, 0, 0), (7, 4, 0, 0, 0), (0, 0, 0, 0, 0), (7, 5, 0, 0, 0), (0, 0, 0, 0, 0), (7, 6, 0, 0, 0)], (0, 9, 0, 0, 0, [])),
  (61, [(4, 6, 0, 0, 0), (0, 0, 0, 0, 1), (4, 4, 0, 0, 0), (15, 0, 0, 0, 0)], (11, 19, 10, 0, 0, [])),
  (70, [(4, 5, 0, 0, 0), (4, 6, 0, 0, 0)], (19, 11, 87, 1, 0, [(0, 176)])),
  (77, [(3, 2, 0, 0, 0)], (12, 17, 12, 0, 0, [])),
  (81, [(3, 1, 0, 0, 0), (4, 6, 0, 0, 0)], (19, 13, 87, 1, 0, [(0, 176)])),
  (87, [], (19, 14, 125, 2, 0, [(0, 179)])),
  (90, [(1, 0, 0, 0, 10), (3, 1, 0, 0, 0), (11, 0, 0, 0, 0), (4, 4, 0, 0, 0), (4, 6, 0, 0, 0)], (19, 15, 87, 1, 0, [(0, 176)])),
  (101, [(11, 0, 0, 0, 0)], (19, 16, 125, 2, 0, [(0, 179)])),
  (105, [(12, 0, 0, 0, 0)], (1, 18, 0, 0, 0, [])),
  (109, [(0, 0, 0, 0, 0)], (0, 18, 0, 0, 0, [])),
  (110, [(10, 0, 0, 0, 0), (7, 5, 0, 0, 0), (9, 6, 0, 0, 1)], (1, 9, 0, 0, 0, [])),
  (119, [(1, 0, 0, 0, 10), (4, 4, 0, 0, 0)], (19, 20, 125, 2, 0, [(0, 179)])),
  (126, [(7, 6, 0, 0, 0), (4, 5, 0, 0, 0), (4, 6, 0, 0, 0)], (19, 21, 126, 2, 0, [(0, 182)])),
  (135, [(7, 7, 0, 0, 0), (3, 3, 0, 0, 0)], (3, 23, 22, 0, 0, [])),
  (141, [(4, 5, 0, 0, 0), (4, 7, 0, 0, 0), (18, 0, 0, 0, 0)], (1, 24, 0, 0, 0, [])),
  (149, [(4, 6, 0, 0, 0), (4, 7, 0, 0, 0), (18, 0, 0, 0, 0)], (0, 24, 0, 0, 0, [])),
  (154, [], (23, 0, 0, 0, 0, []))]
/-- X6_tells (128) -/
def ai_p128 : List ai_B := [(0, [(5, 0, 0, 0, 0), (0, 0, 0, 0, 0), (24, 6, 0, 59, 0), (5, 0, 0, 0, 0), (3, 1, 0, 0, 0)], (18, 1, 102, 2, 6, [(0, 127)])),
  (10, [], (2, 6, 2, 0, 0, [])),
  (13, [(3, 2, 0, 0, 0), (0, 0, 0, 0, 1), (1, 0, 0, 0, 9)], (19, 3, 85, 3, 0, [(0, 63)])),
  (20, [], (2, 6, 4, 0, 0, [])),
  (23, [(3, 3, 0, 0, 0), (0, 0, 0, 0, 0), (0, 0, 0, 0, 1)], (19, 5, 85, 3, 0, [(0, 63)])),
  (29, [], (3, 7, 6, 0, 0, [])),
  (32, [(0, 0, 0, 0, (-1))], (23, 0, 0, 0, 0, [])),
  (34, [(5, 0, 0, 0, 0), (23, 6, 23, 121, 0), (1, 0, 0, 0, 6)], (9, 9, 8, 0, 0, [])),
  (43, [(1, 0, 0, 0, (-3))], (23, 0, 0, 0, 0, [])),
  (46, [(5, 0, 0, 0, 0), (23, 6, 20, 41, 0), (5, 0, 0, 0, 0), (23, 6, 23, 121, 0), (3, 1, 0, 0, 0), (30, 0, 0, 0, 0), (5, 0, 0, 0, 0), (23, 6, 21, 44, 0), (5, 0, 0, 0, 0), (23, 6, 23, 121, 0), (3, 2, 0, 0, 0), (30, 0, 0, 0, 0), (5, 0, 0, 0, 0), (23, 6, 22, 47, 0), (5, 0, 0, 0, 0), (23, 6, 23, 121, 0), (3, 3, 0, 0, 0), (30, 0, 0, 0, 0), (5, 0, 0, 0, 0), (20, 0, 0, 0, 0), (23, 6, 23, 121, 0), (0, 0, 0, 0, 1), (10, 0, 0, 0, 0), (24, 6, 23, 121, 0), (5, 0, 0, 0, 0), (23, 6, 23, 121, 0)], (23, 0, 0, 0, 0, []))]
/-- X6_forget (129) -/
def ai_p129 : List ai_B := [(0, [(5, 0, 0, 0, 0), (0, 0, 0, 0, 0), (24, 6, 0, 59, 0), (5, 0, 0, 0, 0), (23, 6, 23, 121, 0), (6, 1, 0, 0, 0), (5, 0, 0, 0, 0), (0, 0, 0, 0, 0), (24, 6, 23, 121, 0), (3, 1, 0, 0, 0)], (23, 0, 0, 0, 0, []))]
/-- X6_softOnes (130) -/
def ai_p130 : List ai_B := [(0, [(0, 0, 0, 0, 0), (6, 1, 0, 0, 0), (0, 0, 0, 0, 0), (6, 2, 0, 0, 0)], (0, 1, 0, 0, 0, [])),
  (4, [(3, 2, 0, 0, 0), (1, 0, 0, 0, 10)], (11, 14, 2, 0, 0, [])),
  (10, [(0, 0, 0, 0, 1), (6, 3, 0, 0, 0), (0, 0, 0, 0, 0), (7, 4, 0, 0, 0)], (0, 3, 0, 0, 0, [])),
  (15, [(4, 4, 0, 0, 0), (5, 0, 0, 0, 0), (23, 6, 23, 121, 0)], (11, 10, 4, 0, 0, [])),
  (24, [(3, 3, 0, 0, 0)], (2, 8, 5, 0, 0, [])),
  (28, [(5, 0, 0, 0, 0), (5, 0, 0, 0, 0), (23, 6, 20, 41, 0), (4, 4, 0, 0, 0), (29, 0, 0, 0, 0), (5, 0, 0, 0, 0), (23, 6, 21, 44, 0), (4, 4, 0, 0, 0), (29, 0, 0, 0, 0), (5, 0, 0, 0, 0), (23, 6, 10, 13, 0), (0, 0, 0, 0, 1), (29, 0, 0, 0, 0), (3, 2, 0, 0, 0)], (18, 6, 123, 5, 6, [(0, 173)])),
  (53, [(0, 0, 0, 0, 1), (13, 0, 0, 0, 0), (5, 0, 0, 0, 0), (23, 6, 22, 47, 0), (4, 4, 0, 0, 0), (29, 0, 0, 0, 0)], (9, 8, 7, 0, 0, [])),
  (65, [(0, 0, 0, 0, 1)], (1, 9, 0, 0, 0, [])),
  (69, [(0, 0, 0, 0, 0)], (0, 9, 0, 0, 0, [])),
  (70, [(6, 3, 0, 0, 0), (9, 4, 0, 0, 1)], (1, 3, 0, 0, 0, [])),
  (77, [(3, 1, 0, 0, 0), (3, 3, 0, 0, 0)], (2, 12, 11, 0, 0, [])),
  (82, [(0, 0, 0, 0, 1), (3, 2, 0, 0, 0), (15, 0, 0, 0, 0)], (1, 13, 0, 0, 0, [])),
  (88, [(0, 0, 0, 0, 0)], (0, 13, 0, 0, 0, [])),
  (89, [(14, 0, 0, 0, 0), (6, 1, 0, 0, 0), (9, 2, 0, 0, 1)], (1, 1, 0, 0, 0, [])),
  (97, [(3, 1, 0, 0, 0)], (23, 0, 0, 0, 0, []))]
/-- X6_soft (131) -/
def ai_p131 : List ai_B := [(0, [(5, 0, 0, 0, 0), (0, 0, 0, 0, 0), (24, 6, 0, 59, 0), (5, 0, 0, 0, 0)], (18, 1, 130, 1, 6, [(0, 185)])),
  (9, [], (23, 0, 0, 0, 0, []))]
/-- X6_ask (132) -/
def ai_p132 : List ai_B := [(0, [(5, 0, 0, 0, 0), (0, 0, 0, 0, 0), (24, 6, 0, 59, 0), (3, 1, 0, 0, 0), (0, 0, 0, 0, 1), (1, 0, 0, 0, 9)], (19, 1, 85, 3, 0, [(0, 63)])),
  (12, [], (3, 3, 2, 0, 0, [])),
  (15, [(0, 0, 0, 0, (-1))], (23, 0, 0, 0, 0, [])),
  (17, [(5, 0, 0, 0, 0)], (18, 4, 130, 1, 6, [(0, 185)])),
  (21, [(6, 2, 0, 0, 0), (3, 2, 0, 0, 0)], (19, 5, 87, 1, 0, [(0, 176)])),
  (26, [(6, 3, 0, 0, 0), (1, 0, 0, 0, (-9)), (7, 4, 0, 0, 0), (1, 0, 0, 0, 99), (7, 5, 0, 0, 0), (0, 0, 0, 0, 0), (7, 6, 0, 0, 0)], (0, 6, 0, 0, 0, [])),
  (38, [(4, 6, 0, 0, 0), (5, 0, 0, 0, 0), (23, 6, 10, 13, 0), (0, 0, 0, 0, 0), (29, 0, 0, 0, 0)], (11, 27, 7, 0, 0, [])),
  (49, [(3, 3, 0, 0, 0), (0, 0, 0, 0, 1)], (13, 27, 8, 0, 0, [])),
  (54, [(0, 0, 0, 0, 0), (7, 7, 0, 0, 0), (0, 0, 0, 0, 0), (7, 8, 0, 0, 0)], (0, 9, 0, 0, 0, [])),
  (60, [(4, 8, 0, 0, 0), (1, 0, 0, 0, 10)], (11, 17, 10, 0, 0, [])),
  (67, [(4, 7, 0, 0, 0), (3, 2, 0, 0, 0), (4, 8, 0, 0, 0)], (19, 11, 86, 2, 0, [(0, 133)])),
  (75, [], (2, 15, 12, 0, 0, [])),
  (78, [(5, 0, 0, 0, 0), (4, 6, 0, 0, 0), (3, 1, 0, 0, 0), (5, 0, 0, 0, 0), (23, 6, 10, 13, 0), (0, 0, 0, 0, 1), (29, 0, 0, 0, 0), (4, 8, 0, 0, 0)], (18, 13, 123, 5, 6, [(0, 173)])),
  (93, [(0, 0, 0, 0, 1), (13, 0, 0, 0, 0), (0, 0, 0, 0, 1)], (9, 15, 14, 0, 0, [])),
  (99, [(0, 0, 0, 0, 1)], (1, 16, 0, 0, 0, [])),
  (103, [(0, 0, 0, 0, 0)], (0, 16, 0, 0, 0, [])),
  (104, [(10, 0, 0, 0, 0), (7, 7, 0, 0, 0), (9, 8, 0, 0, 1)], (1, 9, 0, 0, 0, [])),
  (113, [(4, 7, 0, 0, 0), (3, 3, 0, 0, 0), (4, 7, 0, 0, 0), (11, 0, 0, 0, 0)], (13, 19, 18, 0, 0, [])),
  (122, [(4, 7, 0, 0, 0)], (1, 20, 0, 0, 0, [])),
  (127, [(3, 3, 0, 0, 0), (4, 7, 0, 0, 0), (11, 0, 0, 0, 0)], (0, 20, 0, 0, 0, [])),
  (131, [(7, 8, 0, 0, 0), (4, 8, 0, 0, 0), (4, 5, 0, 0, 0)], (11, 22, 21, 0, 0, [])),
  (140, [(4, 6, 0, 0, 0)], (1, 23, 0, 0, 0, [])),
  (145, [(4, 4, 0, 0, 0)], (0, 23, 0, 0, 0, [])),
  (147, [(7, 4, 0, 0, 0), (4, 8, 0, 0, 0), (4, 5, 0, 0, 0)], (11, 25, 24, 0, 0, [])),
  (156, [(4, 8, 0, 0, 0)], (1, 26, 0, 0, 0, [])),
  (161, [(4, 5, 0, 0, 0)], (0, 26, 0, 0, 0, [])),
  (163, [(7, 5, 0, 0, 0), (9, 6, 0, 0, 1)], (1, 6, 0, 0, 0, [])),
  (171, [(4, 4, 0, 0, 0)], (23, 0, 0, 0, 0, []))]
/-- X6_rate (133) -/
def ai_p133 : List ai_B := [(0, [(5, 0, 0, 0, 0), (0, 0, 0, 0, 0), (24, 6, 0, 59, 0), (3, 1, 0, 0, 0), (0, 0, 0, 0, 0), (0, 0, 0, 0, 5)], (19, 1, 85, 3, 0, [(0, 63)])),
  (11, [], (2, 4, 2, 0, 0, [])),
  (14, [(5, 0, 0, 0, 0), (3, 2, 0, 0, 0)], (18, 3, 102, 2, 6, [(0, 127)])),
  (19, [], (3, 5, 4, 0, 0, [])),
  (22, [(40, 0, 0, 188, (-1000000))], (23, 0, 0, 0, 0, [])),
  (25, [(5, 0, 0, 0, 0), (23, 6, 13, 22, 0), (3, 2, 0, 0, 0), (29, 0, 0, 0, 0), (6, 3, 0, 0, 0), (3, 3, 0, 0, 0), (5, 0, 0, 0, 0), (23, 6, 15, 28, 0), (1, 0, 0, 0, 6), (3, 2, 0, 0, 0), (10, 0, 0, 0, 0), (29, 0, 0, 0, 0), (10, 0, 0, 0, 0), (7, 4, 0, 0, 0), (3, 3, 0, 0, 0), (5, 0, 0, 0, 0), (23, 6, 15, 28, 0), (0, 0, 0, 0, 0), (3, 2, 0, 0, 0), (10, 0, 0, 0, 0), (29, 0, 0, 0, 0), (11, 0, 0, 0, 0), (7, 5, 0, 0, 0), (5, 0, 0, 0, 0), (20, 0, 0, 0, 0), (23, 6, 1, 189, 0), (3, 1, 0, 0, 0)], (3, 7, 6, 0, 0, [])),
  (66, [(43, 1, 0, 0, 1)], (1, 16, 0, 0, 0, [])),
  (70, [(3, 1, 0, 0, 0), (0, 0, 0, 0, 1)], (9, 9, 8, 0, 0, [])),
  (75, [(42, 0, 0, 193, 11)], (1, 16, 0, 0, 0, [])),
  (81, [(3, 1, 0, 0, 0), (0, 0, 0, 0, 2)], (9, 11, 10, 0, 0, [])),
  (86, [(42, 0, 0, 195, 101)], (1, 16, 0, 0, 0, [])),
  (92, [(3, 1, 0, 0, 0), (0, 0, 0, 0, 3)], (9, 13, 12, 0, 0, [])),
  (97, [(42, 0, 0, 197, 1011)], (1, 16, 0, 0, 0, [])),
  (103, [(3, 1, 0, 0, 0), (0, 0, 0, 0, 4)], (9, 15, 14, 0, 0, [])),
  (108, [(42, 0, 0, 199, 10101)], (1, 16, 0, 0, 0, [])),
  (114, [(42, 0, 0, 201, 100001)], (0, 16, 0, 0, 0, [])),
  (117, [(44, 0, 0, 0, 0), (26, 6, 1, 189, 0), (3, 1, 0, 0, 0)], (3, 18, 17, 0, 0, [])),
  (125, [(3, 3, 0, 0, 0)], (1, 27, 0, 0, 0, [])),
  (129, [(3, 1, 0, 0, 0), (0, 0, 0, 0, 1)], (9, 20, 19, 0, 0, [])),
  (134, [(4, 4, 0, 0, 0)], (1, 27, 0, 0, 0, [])),
  (139, [(3, 1, 0, 0, 0), (0, 0, 0, 0, 2)], (9, 22, 21, 0, 0, [])),
  (144, [(4, 5, 0, 0, 0)], (1, 27, 0, 0, 0, [])),
  (149, [(3, 1, 0, 0, 0), (0, 0, 0, 0, 3)], (9, 24, 23, 0, 0, [])),
  (154, [(0, 0, 0, 0, 2), (4, 4, 0, 0, 0), (12, 0, 0, 0, 0)], (1, 27, 0, 0, 0, [])),
  (161, [(3, 1, 0, 0, 0), (0, 0, 0, 0, 4)], (9, 26, 25, 0, 0, [])),
  (166, [(4, 5, 0, 0, 0), (3, 2, 0, 0, 0), (10, 0, 0, 0, 0)], (1, 27, 0, 0, 0, [])),
  (173, [(3, 3, 0, 0, 0), (5, 0, 0, 0, 0), (23, 6, 15, 28, 0), (1, 0, 0, 0, 15), (29, 0, 0, 0, 0), (10, 0, 0, 0, 0)], (0, 27, 0, 0, 0, [])),
  (182, [], (23, 0, 0, 0, 0, []))]
/-- X6_keep (134) -/
def ai_p134 : List ai_B := [(0, [(5, 0, 0, 0, 0), (0, 0, 0, 0, 0), (24, 6, 0, 59, 0), (3, 1, 0, 0, 0), (0, 0, 0, 0, 0), (0, 0, 0, 0, 1)], (19, 1, 85, 3, 0, [(0, 63)])),
  (11, [], (3, 3, 2, 0, 0, [])),
  (14, [(0, 0, 0, 0, (-1))], (23, 0, 0, 0, 0, [])),
  (16, [(0, 0, 0, 0, 0), (6, 2, 0, 0, 0)], (0, 4, 0, 0, 0, [])),
  (18, [(3, 2, 0, 0, 0), (1, 0, 0, 0, 18)], (11, 6, 5, 0, 0, [])),
  (24, [(5, 0, 0, 0, 0), (23, 6, 16, 31, 0), (1, 0, 0, 0, 18), (3, 1, 0, 0, 0), (12, 0, 0, 0, 0), (3, 2, 0, 0, 0), (10, 0, 0, 0, 0), (5, 0, 0, 0, 0), (23, 6, 15, 28, 0), (3, 2, 0, 0, 0), (29, 0, 0, 0, 0), (30, 0, 0, 0, 0), (9, 2, 0, 0, 1)], (1, 4, 0, 0, 0, [])),
  (47, [(5, 0, 0, 0, 0), (23, 6, 17, 34, 0), (3, 1, 0, 0, 0), (0, 0, 0, 0, 1), (32, 0, 0, 0, 0), (5, 0, 0, 0, 0), (23, 6, 15, 28, 0), (1, 0, 0, 0, 12), (29, 0, 0, 0, 0)], (19, 7, 87, 1, 0, [(0, 176)])),
  (64, [], (23, 0, 0, 0, 0, []))]
/-- X6_back (135) -/
def ai_p135 : List ai_B := [(0, [(5, 0, 0, 0, 0), (0, 0, 0, 0, 0), (24, 6, 0, 59, 0), (3, 1, 0, 0, 0), (0, 0, 0, 0, 0), (0, 0, 0, 0, 1)], (19, 1, 85, 3, 0, [(0, 63)])),
  (11, [], (3, 3, 2, 0, 0, [])),
  (14, [(0, 0, 0, 0, (-1))], (23, 0, 0, 0, 0, [])),
  (16, [(5, 0, 0, 0, 0), (23, 6, 17, 34, 0), (3, 1, 0, 0, 0), (31, 0, 0, 0, 0)], (3, 5, 4, 0, 0, [])),
  (25, [(1, 0, 0, 0, (-2))], (23, 0, 0, 0, 0, [])),
  (28, [(0, 0, 0, 0, 0), (6, 2, 0, 0, 0)], (0, 6, 0, 0, 0, [])),
  (30, [(3, 2, 0, 0, 0), (1, 0, 0, 0, 18)], (11, 8, 7, 0, 0, [])),
  (36, [(5, 0, 0, 0, 0), (23, 6, 15, 28, 0), (3, 2, 0, 0, 0), (5, 0, 0, 0, 0), (23, 6, 16, 31, 0), (1, 0, 0, 0, 18), (3, 1, 0, 0, 0), (12, 0, 0, 0, 0), (3, 2, 0, 0, 0), (10, 0, 0, 0, 0), (29, 0, 0, 0, 0), (30, 0, 0, 0, 0), (9, 2, 0, 0, 1)], (1, 6, 0, 0, 0, [])),
  (59, [(5, 0, 0, 0, 0), (0, 0, 0, 0, 0), (24, 6, 19, 124, 0), (5, 0, 0, 0, 0), (23, 6, 15, 28, 0), (1, 0, 0, 0, 12), (29, 0, 0, 0, 0)], (19, 9, 87, 1, 0, [(0, 176)])),
  (74, [], (23, 0, 0, 0, 0, []))]
/-- X6_count (136) -/
def ai_p136 : List ai_B := [(0, [(5, 0, 0, 0, 0), (0, 0, 0, 0, 0), (24, 6, 0, 59, 0), (3, 1, 0, 0, 0), (0, 0, 0, 0, 0), (0, 0, 0, 0, 3)], (19, 1, 85, 3, 0, [(0, 63)])),
  (11, [], (2, 3, 2, 0, 0, [])),
  (14, [(5, 0, 0, 0, 0), (23, 6, 10, 13, 0), (3, 1, 0, 0, 0), (29, 0, 0, 0, 0)], (1, 8, 0, 0, 0, [])),
  (23, [(3, 1, 0, 0, 0), (0, 0, 0, 0, 4)], (9, 5, 4, 0, 0, [])),
  (28, [(5, 0, 0, 0, 0), (23, 6, 23, 121, 0)], (1, 8, 0, 0, 0, [])),
  (35, [(3, 1, 0, 0, 0), (0, 0, 0, 0, 5)], (9, 7, 6, 0, 0, [])),
  (40, [(5, 0, 0, 0, 0), (23, 6, 3, 67, 0)], (1, 8, 0, 0, 0, [])),
  (47, [(0, 0, 0, 0, (-1))], (0, 8, 0, 0, 0, [])),
  (48, [], (23, 0, 0, 0, 0, []))]
/-- X6_trace (137) -/
def ai_p137 : List ai_B := [(0, [(5, 0, 0, 0, 0), (0, 0, 0, 0, 0), (24, 6, 0, 59, 0), (5, 0, 0, 0, 0), (23, 6, 1, 189, 0)], (25, 0, 0, 0, 0, []))]
/-- J6_bitCount_0f7a4 (138) -/
def ai_p138 : List ai_B := [(0, [(3, 0, 0, 0, 0), (3, 0, 0, 0, 0), (0, 0, 0, 0, 1), (17, 0, 0, 0, 0), (41, 0, 0, 265, 1431655765), (13, 0, 0, 0, 0), (11, 0, 0, 0, 0), (6, 0, 0, 0, 0), (3, 0, 0, 0, 0), (41, 0, 0, 266, 858993459), (13, 0, 0, 0, 0), (3, 0, 0, 0, 0), (0, 0, 0, 0, 2), (17, 0, 0, 0, 0), (41, 0, 0, 266, 858993459), (13, 0, 0, 0, 0), (10, 0, 0, 0, 0), (6, 0, 0, 0, 0), (3, 0, 0, 0, 0), (3, 0, 0, 0, 0), (0, 0, 0, 0, 4), (17, 0, 0, 0, 0), (10, 0, 0, 0, 0), (41, 0, 0, 267, 252645135), (13, 0, 0, 0, 0), (6, 0, 0, 0, 0), (3, 0, 0, 0, 0), (3, 0, 0, 0, 0), (1, 0, 0, 0, 8), (17, 0, 0, 0, 0), (10, 0, 0, 0, 0), (6, 0, 0, 0, 0), (3, 0, 0, 0, 0), (3, 0, 0, 0, 0), (1, 0, 0, 0, 16), (17, 0, 0, 0, 0), (10, 0, 0, 0, 0), (6, 0, 0, 0, 0), (3, 0, 0, 0, 0), (1, 0, 0, 0, 63), (13, 0, 0, 0, 0)], (23, 0, 0, 0, 0, []))]
/-- L_law (139) -/
def ai_p139 : List ai_B := [(0, [(39, 5, 0, 7, 0), (20, 0, 0, 0, 0)], (20, 1, 24, 1, 0, [(0, 9)])),
  (7, [(8, 1, 0, 0, 0), (39, 6, 0, 10, 0), (20, 0, 0, 0, 0)], (20, 2, 84, 1, 0, [(0, 12)])),
  (15, [(8, 2, 0, 0, 0), (0, 0, 0, 0, 0), (6, 3, 0, 0, 0)], (0, 3, 0, 0, 0, [])),
  (18, [(3, 3, 0, 0, 0), (5, 0, 0, 0, 0), (35, 0, 0, 0, 0), (0, 0, 0, 0, 4), (11, 0, 0, 0, 0)], (12, 102, 4, 0, 0, [])),
  (26, [(5, 0, 0, 0, 0), (3, 3, 0, 0, 0), (29, 0, 0, 0, 0), (1, 0, 0, 0, 31), (13, 0, 0, 0, 0)], (16, 101, 0, 112, 0, [(0, 5), (1, 9), (2, 13), (3, 17), (4, 21), (5, 25), (6, 29), (7, 33), (8, 37), (9, 41), (10, 45), (11, 49), (12, 53), (13, 57), (14, 61), (15, 65), (16, 69), (17, 73), (18, 77), (19, 81), (20, 85), (21, 89), (22, 93), (23, 97)])),
  (144, [(5, 1, 0, 0, 0), (5, 0, 0, 0, 0), (3, 3, 0, 0, 0), (0, 0, 0, 0, 1), (10, 0, 0, 0, 0), (29, 0, 0, 0, 0)], (18, 6, 25, 2, 5, [(0, 13)])),
  (153, [(5, 2, 0, 0, 0), (5, 0, 0, 0, 0), (3, 3, 0, 0, 0), (0, 0, 0, 0, 1), (10, 0, 0, 0, 0), (29, 0, 0, 0, 0)], (18, 7, 88, 2, 6, [(0, 17)])),
  (162, [], (8, 101, 8, 0, 0, [])),
  (165, [(0, 0, 0, 0, 0)], (24, 0, 0, 0, 0, [])),
  (167, [(5, 1, 0, 0, 0)], (18, 10, 26, 1, 5, [(0, 18)])),
  (171, [(5, 2, 0, 0, 0)], (18, 11, 89, 1, 6, [(0, 22)])),
  (175, [], (8, 101, 12, 0, 0, [])),
  (178, [(0, 0, 0, 0, 0)], (24, 0, 0, 0, 0, [])),
  (180, [(5, 1, 0, 0, 0)], (18, 14, 27, 1, 5, [(0, 23)])),
  (184, [(5, 2, 0, 0, 0)], (18, 15, 100, 1, 6, [(0, 26)])),
  (188, [], (8, 101, 16, 0, 0, [])),
  (191, [(0, 0, 0, 0, 0)], (24, 0, 0, 0, 0, [])),
  (193, [(5, 1, 0, 0, 0), (5, 0, 0, 0, 0), (3, 3, 0, 0, 0), (0, 0, 0, 0, 1), (10, 0, 0, 0, 0), (29, 0, 0, 0, 0), (5, 0, 0, 0, 0), (3, 3, 0, 0, 0), (0, 0, 0, 0, 2), (10, 0, 0, 0, 0), (29, 0, 0, 0, 0)], (18, 18, 28, 3, 5, [(0, 27)])),
  (207, [(5, 2, 0, 0, 0), (5, 0, 0, 0, 0), (3, 3, 0, 0, 0), (0, 0, 0, 0, 1), (10, 0, 0, 0, 0), (29, 0, 0, 0, 0), (5, 0, 0, 0, 0), (3, 3, 0, 0, 0), (0, 0, 0, 0, 2), (10, 0, 0, 0, 0), (29, 0, 0, 0, 0)], (18, 19, 104, 3, 6, [(0, 31)])),
  (221, [], (8, 101, 20, 0, 0, [])),
  (224, [(0, 0, 0, 0, 0)], (24, 0, 0, 0, 0, [])),
  (226, [(5, 1, 0, 0, 0), (5, 0, 0, 0, 0), (3, 3, 0, 0, 0), (0, 0, 0, 0, 1), (10, 0, 0, 0, 0), (29, 0, 0, 0, 0)], (18, 22, 29, 2, 5, [(0, 32)])),
  (235, [(5, 2, 0, 0, 0), (5, 0, 0, 0, 0), (3, 3, 0, 0, 0), (0, 0, 0, 0, 1), (10, 0, 0, 0, 0), (29, 0, 0, 0, 0)], (18, 23, 107, 2, 6, [(0, 35)])),
  (244, [], (8, 101, 24, 0, 0, [])),
  (247, [(0, 0, 0, 0, 0)], (24, 0, 0, 0, 0, [])),
  (249, [(5, 1, 0, 0, 0), (5, 0, 0, 0, 0), (3, 3, 0, 0, 0), (0, 0, 0, 0, 1), (10, 0, 0, 0, 0), (29, 0, 0, 0, 0), (5, 0, 0, 0, 0), (3, 3, 0, 0, 0), (0, 0, 0, 0, 2), (10, 0, 0, 0, 0), (29, 0, 0, 0, 0)], (18, 26, 34, 3, 5, [(0, 36)])),
  (263, [(5, 2, 0, 0, 0), (5, 0, 0, 0, 0), (3, 3, 0, 0, 0), (0, 0, 0, 0, 1), (10, 0, 0, 0, 0), (29, 0, 0, 0, 0), (5, 0, 0, 0, 0), (3, 3, 0, 0, 0), (0, 0, 0, 0, 2), (10, 0, 0, 0, 0), (29, 0, 0, 0, 0)], (18, 27, 111, 3, 6, [(0, 39)])),
  (277, [], (8, 101, 28, 0, 0, [])),
  (280, [(0, 0, 0, 0, 0)], (24, 0, 0, 0, 0, [])),
  (282, [(5, 1, 0, 0, 0)], (18, 30, 35, 1, 5, [(0, 40)])),
  (286, [(5, 2, 0, 0, 0)], (18, 31, 112, 1, 6, [(0, 43)])),
  (290, [], (8, 101, 32, 0, 0, [])),
  (293, [(0, 0, 0, 0, 0)], (24, 0, 0, 0, 0, [])),
  (295, [(5, 1, 0, 0, 0), (5, 0, 0, 0, 0), (3, 3, 0, 0, 0), (0, 0, 0, 0, 1), (10, 0, 0, 0, 0), (29, 0, 0, 0, 0)], (18, 34, 36, 2, 5, [(0, 44)])),
  (304, [(5, 2, 0, 0, 0), (5, 0, 0, 0, 0), (3, 3, 0, 0, 0), (0, 0, 0, 0, 1), (10, 0, 0, 0, 0), (29, 0, 0, 0, 0)], (18, 35, 113, 2, 6, [(0, 47)])),
  (313, [], (8, 101, 36, 0, 0, [])),
  (316, [(0, 0, 0, 0, 0)], (24, 0, 0, 0, 0, [])),
  (318, [(5, 1, 0, 0, 0)], (18, 38, 37, 1, 5, [(0, 48)])),
  (322, [(5, 2, 0, 0, 0)], (18, 39, 114, 1, 6, [(0, 51)])),
  (326, [], (8, 101, 40, 0, 0, [])),
  (329, [(0, 0, 0, 0, 0)], (24, 0, 0, 0, 0, [])),
  (331, [(5, 1, 0, 0, 0), (5, 0, 0, 0, 0), (3, 3, 0, 0, 0), (0, 0, 0, 0, 1), (10, 0, 0, 0, 0), (29, 0, 0, 0, 0)], (18, 42, 38, 2, 5, [(0, 52)])),
  (340, [(5, 2, 0, 0, 0), (5, 0, 0, 0, 0), (3, 3, 0, 0, 0), (0, 0, 0, 0, 1), (10, 0, 0, 0, 0), (29, 0, 0, 0, 0)], (18, 43, 115, 2, 6, [(0, 55)])),
  (349, [], (8, 101, 44, 0, 0, [])),
  (352, [(0, 0, 0, 0, 0)], (24, 0, 0, 0, 0, [])),
  (354, [(5, 1, 0, 0, 0)], (18, 46, 39, 1, 5, [(0, 56)])),
  (358, [(5, 2, 0, 0, 0)], (18, 47, 116, 1, 6, [(0, 59)])),
  (362, [], (8, 101, 48, 0, 0, [])),
  (365, [(0, 0, 0, 0, 0)], (24, 0, 0, 0, 0, [])),
  (367, [(5, 1, 0, 0, 0), (5, 0, 0, 0, 0), (3, 3, 0, 0, 0), (0, 0, 0, 0, 1), (10, 0, 0, 0, 0), (29, 0, 0, 0, 0), (5, 0, 0, 0, 0), (3, 3, 0, 0, 0), (0, 0, 0, 0, 2), (10, 0, 0, 0, 0), (29, 0, 0, 0, 0)], (18, 50, 46, 3, 5, [(0, 60)])),
  (381, [(5, 2, 0, 0, 0), (5, 0, 0, 0, 0), (3, 3, 0, 0, 0), (0, 0, 0, 0, 1), (10, 0, 0, 0, 0), (29, 0, 0, 0, 0), (5, 0, 0, 0, 0), (3, 3, 0, 0, 0), (0, 0, 0, 0, 2), (10, 0, 0, 0, 0), (29, 0, 0, 0, 0)], (18, 51, 120, 3, 6, [(0, 63)])),
  (395, [], (8, 101, 52, 0, 0, [])),
  (398, [(0, 0, 0, 0, 0)], (24, 0, 0, 0, 0, [])),
  (400, [(5, 1, 0, 0, 0), (5, 0, 0, 0, 0), (3, 3, 0, 0, 0), (0, 0, 0, 0, 1), (10, 0, 0, 0, 0), (29, 0, 0, 0, 0), (5, 0, 0, 0, 0), (3, 3, 0, 0, 0), (0, 0, 0, 0, 2), (10, 0, 0, 0, 0), (29, 0, 0, 0, 0)], (18, 54, 47, 3, 5, [(0, 64)])),
  (414, [(5, 2, 0, 0, 0), (5, 0, 0, 0, 0), (3, 3, 0, 0, 0), (0, 0, 0, 0, 1), (10, 0, 0, 0, 0), (29, 0, 0, 0, 0), (5, 0, 0, 0, 0), (3, 3, 0, 0, 0), (0, 0, 0, 0, 2), (10, 0, 0, 0, 0), (29, 0, 0, 0, 0)], (18, 55, 122, 3, 6, [(0, 67)])),
  (428, [], (8, 101, 56, 0, 0, [])),
  (431, [(0, 0, 0, 0, 0)], (24, 0, 0, 0, 0, [])),
  (433, [(5, 1, 0, 0, 0), (5, 0, 0, 0, 0), (3, 3, 0, 0, 0), (0, 0, 0, 0, 1), (10, 0, 0, 0, 0), (29, 0, 0, 0, 0), (5, 0, 0, 0, 0), (3, 3, 0, 0, 0), (0, 0, 0, 0, 2), (10, 0, 0, 0, 0), (29, 0, 0, 0, 0)], (18, 58, 48, 3, 5, [(0, 68)])),
  (447, [(5, 2, 0, 0, 0), (5, 0, 0, 0, 0), (3, 3, 0, 0, 0), (0, 0, 0, 0, 1), (10, 0, 0, 0, 0), (29, 0, 0, 0, 0), (5, 0, 0, 0, 0), (3, 3, 0, 0, 0), (0, 0, 0, 0, 2), (10, 0, 0, 0, 0), (29, 0, 0, 0, 0)], (18, 59, 124, 3, 6, [(0, 71)])),
  (461, [], (8, 101, 60, 0, 0, [])),
  (464, [(0, 0, 0, 0, 0)], (24, 0, 0, 0, 0, [])),
  (466, [(5, 1, 0, 0, 0), (5, 0, 0, 0, 0), (3, 3, 0, 0, 0), (0, 0, 0, 0, 1), (10, 0, 0, 0, 0), (29, 0, 0, 0, 0), (5, 0, 0, 0, 0), (3, 3, 0, 0, 0), (0, 0, 0, 0, 2), (10, 0, 0, 0, 0), (29, 0, 0, 0, 0), (5, 0, 0, 0, 0), (3, 3, 0, 0, 0), (0, 0, 0, 0, 3), (10, 0, 0, 0, 0), (29, 0, 0, 0, 0)], (18, 62, 49, 4, 5, [(0, 72)])),
  (485, [(5, 2, 0, 0, 0), (5, 0, 0, 0, 0), (3, 3, 0, 0, 0), (0, 0, 0, 0, 1), (10, 0, 0, 0, 0), (29, 0, 0, 0, 0), (5, 0, 0, 0, 0), (3, 3, 0, 0, 0), (0, 0, 0, 0, 2), (10, 0, 0, 0, 0), (29, 0, 0, 0, 0), (5, 0, 0, 0, 0), (3, 3, 0, 0, 0), (0, 0, 0, 0, 3), (10, 0, 0, 0, 0), (29, 0, 0, 0, 0)], (18, 63, 127, 4, 6, [(0, 76)])),
  (504, [], (8, 101, 64, 0, 0, [])),
  (507, [(0, 0, 0, 0, 0)], (24, 0, 0, 0, 0, [])),
  (509, [(5, 1, 0, 0, 0), (5, 0, 0, 0, 0), (3, 3, 0, 0, 0), (0, 0, 0, 0, 1), (10, 0, 0, 0, 0), (29, 0, 0, 0, 0), (5, 0, 0, 0, 0), (3, 3, 0, 0, 0), (0, 0, 0, 0, 2), (10, 0, 0, 0, 0), (29, 0, 0, 0, 0), (5, 0, 0, 0, 0), (3, 3, 0, 0, 0), (0, 0, 0, 0, 3), (10, 0, 0, 0, 0), (29, 0, 0, 0, 0)], (18, 66, 63, 4, 5, [(0, 77)])),
  (528, [(5, 2, 0, 0, 0), (5, 0, 0, 0, 0), (3, 3, 0, 0, 0), (0, 0, 0, 0, 1), (10, 0, 0, 0, 0), (29, 0, 0, 0, 0), (5, 0, 0, 0, 0), (3, 3, 0, 0, 0), (0, 0, 0, 0, 2), (10, 0, 0, 0, 0), (29, 0, 0, 0, 0), (5, 0, 0, 0, 0), (3, 3, 0, 0, 0), (0, 0, 0, 0, 3), (10, 0, 0, 0, 0), (29, 0, 0, 0, 0)], (18, 67, 128, 4, 6, [(0, 80)])),
  (547, [], (8, 101, 68, 0, 0, [])),
  (550, [(0, 0, 0, 0, 0)], (24, 0, 0, 0, 0, [])),
  (552, [(5, 1, 0, 0, 0)], (18, 70, 64, 1, 5, [(0, 81)])),
  (556, [(5, 2, 0, 0, 0)], (18, 71, 129, 1, 6, [(0, 84)])),
  (560, [], (8, 101, 72, 0, 0, [])),
  (563, [(0, 0, 0, 0, 0)], (24, 0, 0, 0, 0, [])),
  (565, [(5, 1, 0, 0, 0)], (18, 74, 65, 1, 5, [(0, 85)])),
  (569, [(5, 2, 0, 0, 0)], (18, 75, 131, 1, 6, [(0, 88)])),
  (573, [], (8, 101, 76, 0, 0, [])),
  (576, [(0, 0, 0, 0, 0)], (24, 0, 0, 0, 0, [])),
  (578, [(5, 1, 0, 0, 0), (5, 0, 0, 0, 0), (3, 3, 0, 0, 0), (0, 0, 0, 0, 1), (10, 0, 0, 0, 0), (29, 0, 0, 0, 0)], (18, 78, 66, 2, 5, [(0, 89)])),
  (587, [(5, 2, 0, 0, 0), (5, 0, 0, 0, 0), (3, 3, 0, 0, 0), (0, 0, 0, 0, 1), (10, 0, 0, 0, 0), (29, 0, 0, 0, 0)], (18, 79, 132, 2, 6, [(0, 92)])),
  (596, [], (8, 101, 80, 0, 0, [])),
  (599, [(0, 0, 0, 0, 0)], (24, 0, 0, 0, 0, [])),
  (601, [(5, 1, 0, 0, 0), (5, 0, 0, 0, 0), (3, 3, 0, 0, 0), (0, 0, 0, 0, 1), (10, 0, 0, 0, 0), (29, 0, 0, 0, 0), (5, 0, 0, 0, 0), (3, 3, 0, 0, 0), (0, 0, 0, 0, 2), (10, 0, 0, 0, 0), (29, 0, 0, 0, 0)], (18, 82, 68, 3, 5, [(0, 93)])),
  (615, [(5, 2, 0, 0, 0), (5, 0, 0, 0, 0), (3, 3, 0, 0, 0), (0, 0, 0, 0, 1), (10, 0, 0, 0, 0), (29, 0, 0, 0, 0), (5, 0, 0, 0, 0), (3, 3, 0, 0, 0), (0, 0, 0, 0, 2), (10, 0, 0, 0, 0), (29, 0, 0, 0, 0)], (18, 83, 133, 3, 6, [(0, 96)])),
  (629, [], (8, 101, 84, 0, 0, [])),
  (632, [(0, 0, 0, 0, 0)], (24, 0, 0, 0, 0, [])),
  (634, [(5, 1, 0, 0, 0), (5, 0, 0, 0, 0), (3, 3, 0, 0, 0), (0, 0, 0, 0, 1), (10, 0, 0, 0, 0), (29, 0, 0, 0, 0)], (18, 86, 69, 2, 5, [(0, 97)])),
  (643, [(5, 2, 0, 0, 0), (5, 0, 0, 0, 0), (3, 3, 0, 0, 0), (0, 0, 0, 0, 1), (10, 0, 0, 0, 0), (29, 0, 0, 0, 0)], (18, 87, 134, 2, 6, [(0, 100)])),
  (652, [], (8, 101, 88, 0, 0, [])),
  (655, [(0, 0, 0, 0, 0)], (24, 0, 0, 0, 0, [])),
  (657, [(5, 1, 0, 0, 0), (5, 0, 0, 0, 0), (3, 3, 0, 0, 0), (0, 0, 0, 0, 1), (10, 0, 0, 0, 0), (29, 0, 0, 0, 0)], (18, 90, 70, 2, 5, [(0, 101)])),
  (666, [(5, 2, 0, 0, 0), (5, 0, 0, 0, 0), (3, 3, 0, 0, 0), (0, 0, 0, 0, 1), (10, 0, 0, 0, 0), (29, 0, 0, 0, 0)], (18, 91, 135, 2, 6, [(0, 104)])),
  (675, [], (8, 101, 92, 0, 0, [])),
  (678, [(0, 0, 0, 0, 0)], (24, 0, 0, 0, 0, [])),
  (680, [(5, 1, 0, 0, 0), (5, 0, 0, 0, 0), (3, 3, 0, 0, 0), (0, 0, 0, 0, 1), (10, 0, 0, 0, 0), (29, 0, 0, 0, 0)], (18, 94, 71, 2, 5, [(0, 105)])),
  (689, [(5, 2, 0, 0, 0), (5, 0, 0, 0, 0), (3, 3, 0, 0, 0), (0, 0, 0, 0, 1), (10, 0, 0, 0, 0), (29, 0, 0, 0, 0)], (18, 95, 136, 2, 6, [(0, 108)])),
  (698, [], (8, 101, 96, 0, 0, [])),
  (701, [(0, 0, 0, 0, 0)], (24, 0, 0, 0, 0, [])),
  (703, [(5, 1, 0, 0, 0)], (18, 98, 72, 1, 5, [(0, 109)])),
  (707, [(5, 2, 0, 0, 0)], (18, 99, 137, 1, 6, [(0, 113)])),
  (711, [(45, 0, 0, 0, 0)], (2, 101, 100, 0, 0, [])),
  (715, [(0, 0, 0, 0, 0)], (24, 0, 0, 0, 0, [])),
  (717, [(9, 3, 0, 0, 4)], (1, 3, 0, 0, 0, [])),
  (723, [(0, 0, 0, 0, 1)], (24, 0, 0, 0, 0, []))]
def ai_pr : List (List ai_B) := [ai_p0, ai_p1, ai_p2, ai_p3, ai_p4, ai_p5, ai_p6, ai_p7, ai_p8, ai_p9, ai_p10, ai_p11, ai_p12, ai_p13, ai_p14, ai_p15, ai_p16, ai_p17, ai_p18, ai_p19, ai_p20, ai_p21, ai_p22, ai_p23, ai_p24, ai_p25, ai_p26, ai_p27, ai_p28, ai_p29, ai_p30, ai_p31, ai_p32, ai_p33, ai_p34, ai_p35, ai_p36, ai_p37, ai_p38, ai_p39, ai_p40, ai_p41, ai_p42, ai_p43, ai_p44, ai_p45, ai_p46, ai_p47, ai_p48, ai_p49, ai_p50, ai_p51, ai_p52, ai_p53, ai_p54, ai_p55, ai_p56, ai_p57, ai_p58, ai_p59, ai_p60, ai_p61, ai_p62, ai_p63, ai_p64, ai_p65, ai_p66, ai_p67, ai_p68, ai_p69, ai_p70, ai_p71, ai_p72, ai_p73, ai_p74, ai_p75, ai_p76, ai_p77, ai_p78, ai_p79, ai_p80, ai_p81, ai_p82, ai_p83, ai_p84, ai_p85, ai_p86, ai_p87, ai_p88, ai_p89, ai_p90, ai_p91, ai_p92, ai_p93, ai_p94, ai_p95, ai_p96, ai_p97, ai_p98, ai_p99, ai_p100, ai_p101, ai_p102, ai_p103, ai_p104, ai_p105, ai_p106, ai_p107, ai_p108, ai_p109, ai_p110, ai_p111, ai_p112, ai_p113, ai_p114, ai_p115, ai_p116, ai_p117, ai_p118, ai_p119, ai_p120, ai_p121, ai_p122, ai_p123, ai_p124, ai_p125, ai_p126, ai_p127, ai_p128, ai_p129, ai_p130, ai_p131, ai_p132, ai_p133, ai_p134, ai_p135, ai_p136, ai_p137, ai_p138, ai_p139]
def ai_blk (m b : Nat) : ai_B := (ai_pr.getD m []).getD b (0, [], (99, 0, 0, 0, 0, []))
/-- a method: its name, code, locals, what it answers, the place of its class, frames, locals of its calls, whether it is a constructor -/
abbrev ai_Mt : Type := MethodName × ByteArray × Nat × Option FieldType × Nat × Nat × Nat × Bool
def ai_M : List ai_Mt := [(yX0_init, cX0_init, 1, none, 0, 1, 20, true),
  (yX0_add, cX0_add, 4, (some .boolean), 0, 1, 22, false),
  (yX1_init, cX1_init, 1, none, 1, 1, 20, true),
  (yX1_begin, cX1_begin, 3, none, 1, 1, 22, false),
  (yX1_become, cX1_become, 3, none, 1, 1, 22, false),
  (yX2_init, cX2_init, 2, none, 2, 2, 40, true),
  (yX2_remember, cX2_remember, 3, none, 2, 2, 44, false),
  (yX2_recall, cX2_recall, 4, none, 2, 2, 44, false),
  (yX3_init, cX3_init, 1, none, 3, 1, 20, true),
  (yX3_begin, cX3_begin, 1, none, 3, 0, 0, false),
  (yX3_tellCaller, cX3_tellCaller, 3, none, 3, 1, 22, false),
  (yX4_init, cX4_init, 1, none, 4, 1, 20, true),
  (yX4_add, cX4_add, 2, (some .boolean), 4, 1, 22, false),
  (yX4_empty, cX4_empty, 2, (some .int), 4, 0, 0, false),
  (yX4_tell, cX4_tell, 4, (some .int), 4, 4, 86, false),
  (yX4_begin, cX4_begin, 1, none, 4, 0, 0, false),
  (yX4_takeToken, cX4_takeToken, 2, (some .boolean), 4, 3, 65, false),
  (yX4_takeLetter, cX4_takeLetter, 3, (some .boolean), 4, 0, 0, false),
  (yX4_takeNumber, cX4_takeNumber, 2, (some .boolean), 4, 2, 44, false),
  (yX4_leastNumber, cX4_leastNumber, 2, (some .int), 4, 0, 0, false),
  (yX4_mostNumber, cX4_mostNumber, 1, (some .int), 4, 0, 0, false),
  (yX4_readToken, cX4_readToken, 1, none, 4, 2, 43, false),
  (yX4_readNumber, cX4_readNumber, 3, none, 4, 1, 21, false),
  (yX4_isDigit, cX4_isDigit, 1, (some .boolean), 4, 0, 0, false),
  (yX5_init, cX5_init, 2, none, 5, 3, 61, true),
  (yX5_type, cX5_type, 2, (some .int), 5, 2, 43, false),
  (yX5_clear, cX5_clear, 1, (some .int), 5, 1, 21, false),
  (yX5_embassy, cX5_embassy, 3, (some .int), 5, 5, 109, false),
  (yX5_caller, cX5_caller, 3, (some .int), 5, 2, 44, false),
  (yX5_now, cX5_now, 2, (some .int), 5, 3, 66, false),
  (yX5_isCaller, cX5_isCaller, 2, (some .boolean), 5, 0, 0, false),
  (yX5_landOf, cX5_landOf, 4, (some .int), 5, 1, 21, false),
  (yX5_ringOf, cX5_ringOf, 4, (some .int), 5, 1, 21, false),
  (yX5_traded, cX5_traded, 3, (some .int), 5, 2, 44, false),
  (yX5_shakes, cX5_shakes, 4, (some .int), 5, 3, 66, false),
  (yX5_opens, cX5_opens, 2, (some .int), 5, 3, 66, false),
  (yX5_lines, cX5_lines, 3, (some .int), 5, 3, 66, false),
  (yX5_winds, cX5_winds, 2, (some .int), 5, 3, 66, false),
  (yX5_consoles, cX5_consoles, 3, (some .int), 5, 3, 66, false),
  (yX5_undo, cX5_undo, 1, (some .int), 5, 3, 67, false),
  (yX5_bruise, cX5_bruise, 2, (some .int), 5, 0, 0, false),
  (yX5_warmth, cX5_warmth, 2, (some .int), 5, 0, 0, false),
  (yX5_decide, cX5_decide, 3, (some .int), 5, 2, 44, false),
  (yX5_countShake, cX5_countShake, 2, none, 5, 0, 0, false),
  (yX5_wouldYield, cX5_wouldYield, 4, (some .boolean), 5, 1, 21, false),
  (yX5_wouldLeave, cX5_wouldLeave, 3, (some .boolean), 5, 1, 21, false),
  (yX5_way, cX5_way, 4, (some .int), 5, 4, 93, false),
  (yX5_gain, cX5_gain, 10, (some .int), 5, 5, 114, false),
  (yX5_tune, cX5_tune, 5, (some .int), 5, 4, 98, false),
  (yX5_odds, cX5_odds, 8, (some .int), 5, 2, 48, false),
  (yX5_mayBeWon, cX5_mayBeWon, 2, (some .boolean), 5, 1, 21, false),
  (yX5_reckonWay, cX5_reckonWay, 4, (some .int), 5, 3, 70, false),
  (yX5_cell, cX5_cell, 2, (some .int), 5, 0, 0, false),
  (yX5_fewestBehind, cX5_fewestBehind, 7, (some .int), 5, 2, 44, false),
  (yX5_fewestNext, cX5_fewestNext, 4, (some .int), 5, 1, 21, false),
  (yX5_turnOfWay, cX5_turnOfWay, 5, (some .int), 5, 2, 44, false),
  (yX5_measureWays, cX5_measureWays, 2, none, 5, 4, 93, false),
  (yX5_lengthOfWays, cX5_lengthOfWays, 4, (some .int), 5, 1, 21, false),
  (yX5_bringsJust, cX5_bringsJust, 7, (some .boolean), 5, 3, 72, false),
  (yX5_tryPlain, cX5_tryPlain, 9, (some .int), 5, 2, 44, false),
  (yX5_waysToLeave, cX5_waysToLeave, 6, (some .int), 5, 1, 23, false),
  (yX5_power, cX5_power, 4, (some .int), 5, 0, 0, false),
  (yX5_commonDivisor, cX5_commonDivisor, 6, (some .int), 5, 0, 0, false),
  (yX5_tells, cX5_tells, 4, (some .int), 5, 2, 45, false),
  (yX5_forget, cX5_forget, 2, (some .int), 5, 0, 0, false),
  (yX5_soft, cX5_soft, 5, (some .int), 5, 4, 96, false),
  (yX5_ask, cX5_ask, 9, (some .int), 5, 5, 120, false),
  (yX5_yieldingVelvets, cX5_yieldingVelvets, 5, (some .int), 5, 3, 72, false),
  (yX5_rate, cX5_rate, 3, (some .int), 5, 4, 84, false),
  (yX5_keep, cX5_keep, 3, (some .int), 5, 2, 44, false),
  (yX5_back, cX5_back, 3, (some .int), 5, 2, 44, false),
  (yX5_count, cX5_count, 2, (some .int), 5, 0, 0, false),
  (yX5_trace, cX5_trace, 1, (some .long), 5, 0, 0, false),
  (yX5_rateCaller, cX5_rateCaller, 2, (some .int), 5, 1, 21, false),
  (yX5_rateCount, cX5_rateCount, 2, (some .int), 5, 2, 42, false),
  (yX5_rateCharge, cX5_rateCharge, 2, (some .int), 5, 2, 42, false),
  (yX5_rateNuncio, cX5_rateNuncio, 2, (some .int), 5, 3, 63, false),
  (yX5_rateEnvoy, cX5_rateEnvoy, 2, (some .int), 5, 3, 63, false),
  (yX5_rateNun, cX5_rateNun, 2, (some .int), 5, 2, 42, false),
  (yX5_at, cX5_at, 2, (some .int), 5, 0, 0, false),
  (yX5_put, cX5_put, 3, none, 5, 0, 0, false),
  (yX5_momentAt, cX5_momentAt, 2, (some (.object "VelvetHand$Moment")), 5, 0, 0, false),
  (yX5_isIn, cX5_isIn, 2, (some .boolean), 5, 0, 0, false),
  (yX5_isOneOrZero, cX5_isOneOrZero, 1, (some .boolean), 5, 0, 0, false),
  (yX6_init, cX6_init, 1, none, 6, 1, 21, true),
  (yX6_in, cX6_in, 3, (some .boolean), 6, 0, 0, false),
  (yX6_has, cX6_has, 2, (some .boolean), 6, 0, 0, false),
  (yX6_ones, cX6_ones, 3, (some .int), 6, 0, 0, false),
  (yX6_type, cX6_type, 2, (some .int), 6, 1, 22, false),
  (yX6_clear, cX6_clear, 2, (some .int), 6, 0, 0, false),
  (yX6_letterAt, cX6_letterAt, 2, (some .int), 6, 0, 0, false),
  (yX6_isLetter, cX6_isLetter, 1, (some .boolean), 6, 0, 0, false),
  (yX6_advances, cX6_advances, 2, none, 6, 1, 22, false),
  (yX6_isWell, cX6_isWell, 1, (some .boolean), 6, 0, 0, false),
  (yX6_takes, cX6_takes, 3, (some .int), 6, 2, 43, false),
  (yX6_number, cX6_number, 3, (some .int), 6, 3, 65, false),
  (yX6_begins, cX6_begins, 1, none, 6, 0, 0, false),
  (yX6_bitOf, cX6_bitOf, 1, (some .int), 6, 0, 0, false),
  (yX6_mayBegin, cX6_mayBegin, 1, (some .boolean), 6, 1, 20, false),
  (yX6_readsItem, cX6_readsItem, 3, none, 6, 4, 87, false),
  (yX6_embassy, cX6_embassy, 3, (some .int), 6, 5, 109, false),
  (yX6_settles, cX6_settles, 2, none, 6, 0, 0, false),
  (yX6_isCaller, cX6_isCaller, 2, (some .boolean), 6, 1, 22, false),
  (yX6_ringOf, cX6_ringOf, 4, (some .int), 6, 2, 43, false),
  (yX6_caller, cX6_caller, 3, (some .int), 6, 3, 66, false),
  (yX6_landOf, cX6_landOf, 4, (some .int), 6, 1, 21, false),
  (yX6_traded, cX6_traded, 3, (some .int), 6, 3, 66, false),
  (yX6_now, cX6_now, 2, (some .int), 6, 4, 88, false),
  (yX6_notes, cX6_notes, 2, none, 6, 0, 0, false),
  (yX6_shake, cX6_shake, 5, (some .int), 6, 0, 0, false),
  (yX6_aside, cX6_aside, 2, none, 6, 0, 0, false),
  (yX6_shakes, cX6_shakes, 5, (some .int), 6, 2, 43, false),
  (yX6_opens, cX6_opens, 2, (some .int), 6, 1, 21, false),
  (yX6_lines, cX6_lines, 3, (some .int), 6, 1, 22, false),
  (yX6_winds, cX6_winds, 2, (some .int), 6, 1, 21, false),
  (yX6_consoles, cX6_consoles, 3, (some .int), 6, 2, 43, false),
  (yX6_undo, cX6_undo, 2, (some .int), 6, 0, 0, false),
  (yX6_yieldsBy, cX6_yieldsBy, 6, (some .boolean), 6, 1, 24, false),
  (yX6_wayBy, cX6_wayBy, 4, (some .int), 6, 2, 49, false),
  (yX6_isGone, cX6_isGone, 2, (some .boolean), 6, 1, 21, false),
  (yX6_way, cX6_way, 5, (some .int), 6, 3, 72, false),
  (yX6_shakesFor, cX6_shakesFor, 4, (some .int), 6, 1, 21, false),
  (yX6_gain, cX6_gain, 7, (some .int), 6, 3, 72, false),
  (yX6_comesOf, cX6_comesOf, 7, (some .int), 6, 1, 24, false),
  (yX6_tune, cX6_tune, 6, (some .int), 6, 2, 50, false),
  (yX6_power, cX6_power, 4, (some .int), 6, 0, 0, false),
  (yX6_gcd, cX6_gcd, 5, (some .int), 6, 0, 0, false),
  (yX6_odds, cX6_odds, 8, (some .int), 6, 1, 24, false),
  (yX6_tells, cX6_tells, 4, (some .int), 6, 2, 43, false),
  (yX6_forget, cX6_forget, 2, (some .int), 6, 0, 0, false),
  (yX6_softOnes, cX6_softOnes, 5, (some .int), 6, 2, 50, false),
  (yX6_soft, cX6_soft, 1, (some .int), 6, 3, 74, false),
  (yX6_ask, cX6_ask, 9, (some .int), 6, 3, 74, false),
  (yX6_rate, cX6_rate, 6, (some .int), 6, 2, 43, false),
  (yX6_keep, cX6_keep, 3, (some .int), 6, 1, 22, false),
  (yX6_back, cX6_back, 3, (some .int), 6, 1, 22, false),
  (yX6_count, cX6_count, 2, (some .int), 6, 1, 22, false),
  (yX6_trace, cX6_trace, 1, (some .long), 6, 0, 0, false),
  (yJ6_bitCount_0f7a4, cJ6_bitCount_0f7a4, 1, (some .int), 8, 0, 0, false),
  (yL_law, cL_law, 4, (some .boolean), 7, 6, 148, false)]
/-- fields by pool places: class of the method, pool place, kind, field, place of the word -/
def ai_FL : List (Nat × Nat × Nat × Nat × Nat) := [(0, 9, 0, 0, 224), (0, 15, 0, 1, 226), (0, 18, 0, 2, 228), (0, 21, 0, 3, 230), (1, 9, 1, 0, 165), (1, 15, 1, 1, 167), (1, 18, 1, 7, 179), (1, 26, 1, 2, 169), (1, 29, 1, 3, 171), (1, 32, 1, 4, 173), (1, 35, 1, 5, 175), (1, 38, 1, 6, 177), (2, 11, 2, 0, 207), (2, 18, 2, 1, 208), (2, 30, 2, 2, 209), (3, 9, 3, 0, 80), (3, 15, 3, 1, 83), (3, 18, 3, 2, 86), (3, 21, 3, 4, 92), (3, 25, 3, 5, 94), (3, 28, 3, 6, 96), (3, 31, 3, 7, 98), (3, 34, 3, 3, 89), (4, 9, 4, 0, 124), (4, 15, 4, 1, 125), (4, 32, 4, 3, 128), (4, 39, 4, 4, 129), (4, 42, 4, 6, 131), (4, 45, 4, 2, 127), (4, 48, 4, 8, 133), (4, 52, 4, 9, 134), (4, 55, 4, 10, 135), (4, 61, 4, 7, 132), (4, 67, 3, 3, 91), (4, 70, 4, 5, 130), (4, 80, 3, 0, 81), (4, 83, 3, 1, 85), (4, 86, 3, 2, 87), (5, 10, 5, 0, 248), (5, 16, 5, 1, 249), (5, 22, 5, 2, 250), (5, 29, 5, 3, 251), (5, 36, 5, 4, 252), (5, 40, 5, 5, 253), (5, 47, 5, 7, 255), (5, 51, 5, 8, 256), (5, 55, 5, 9, 257), (5, 58, 3, 1, 84), (5, 70, 4, 1, 126), (5, 81, 2, 2, 210), (5, 84, 5, 6, 254), (5, 87, 0, 3, 231), (5, 93, 3, 4, 93), (5, 100, 3, 5, 95), (5, 103, 3, 6, 97), (5, 106, 3, 7, 99), (5, 109, 1, 0, 166), (5, 112, 1, 1, 168), (5, 115, 1, 2, 170), (5, 122, 1, 3, 172), (5, 129, 1, 6, 178), (5, 130, 1, 4, 174), (5, 133, 1, 5, 176), (5, 136, 1, 7, 180), (5, 145, 3, 3, 90), (5, 155, 3, 0, 82), (5, 190, 3, 2, 88), (5, 243, 0, 0, 225), (5, 246, 0, 1, 227), (5, 252, 0, 2, 229), (5, 286, 5, 10, 258), (6, 7, 6, 2, 623), (6, 13, 6, 10, 631), (6, 16, 6, 11, 632), (6, 19, 6, 12, 633), (6, 22, 6, 13, 634), (6, 25, 6, 14, 635), (6, 28, 6, 15, 636), (6, 31, 6, 16, 637), (6, 34, 6, 17, 638), (6, 38, 6, 18, 639), (6, 41, 6, 20, 641), (6, 44, 6, 21, 642), (6, 47, 6, 22, 643), (6, 50, 6, 26, 647), (6, 59, 6, 0, 621), (6, 67, 6, 3, 624), (6, 70, 6, 4, 625), (6, 77, 6, 6, 627), (6, 80, 6, 5, 626), (6, 83, 6, 7, 628), (6, 90, 6, 8, 629), (6, 104, 6, 9, 630), (6, 121, 6, 23, 644), (6, 124, 6, 19, 640), (6, 144, 6, 24, 645), (6, 147, 6, 25, 646), (6, 189, 6, 1, 622)]
/-- the pool places of Object.<init>, of constants, of classes -/
def ai_OL : List (Nat × Nat × Nat) := [(0, 3, 223), (1, 3, 164), (2, 3, 203), (3, 3, 79), (4, 3, 123), (5, 1, 71), (6, 1, 612)]
def ai_KL : List (Nat × Nat × Int32 × Nat) := [(8, 265, 1431655765, 513), (8, 266, 858993459, 514), (8, 267, 252645135, 515), (5, 240, 1000000, 525), (5, 260, (-1000000), 559), (6, 169, 1000000, 836), (6, 188, (-1000000), 886)]
def ai_JL : List (Nat × Nat × Int32 × Nat) := [(5, 290, 10, 568), (5, 292, 100, 573), (5, 294, 1000, 578), (5, 296, 10000, 583), (5, 298, 100000, 588), (6, 193, 11, 887), (6, 195, 101, 888), (6, 197, 1011, 889), (6, 199, 10101, 890), (6, 201, 100001, 891)]
def ai_NL : List (Nat × Nat × Nat × Nat) := [(7, 7, 5, 66), (5, 7, 3, 74), (5, 19, 4, 118), (5, 26, 1, 159), (5, 33, 2, 198), (2, 9, 1, 204), (5, 44, 0, 218), (7, 10, 6, 607)]
/-- calls: class of the method, pool place, kind, method, arguments; the places of the words link, instance or static, selects, initialized, code -/
def ai_CL : List (Nat × Nat × Nat × Nat × Nat × List Nat) := [(0, 25, 4, 80, 3, [0, 246, 0, 57]),
  (1, 22, 4, 80, 3, [0, 246, 0, 57]),
  (1, 41, 4, 79, 2, [0, 320, 0, 57]),
  (2, 17, 5, 2, 1, [0, 162, 0, 60]),
  (2, 22, 4, 81, 2, [0, 397, 0, 57]),
  (2, 26, 0, 4, 2, [399, 400, 401, 60]),
  (3, 37, 4, 80, 3, [0, 246, 0, 57]),
  (4, 19, 4, 80, 3, [0, 246, 0, 57]),
  (4, 23, 0, 15, 1, [307, 309, 0, 59]),
  (4, 26, 0, 9, 1, [311, 312, 313, 58]),
  (4, 29, 0, 21, 1, [315, 317, 1, 59]),
  (4, 35, 0, 16, 2, [332, 334, 3, 59]),
  (4, 58, 0, 17, 2, [336, 338, 4, 59]),
  (4, 64, 0, 18, 2, [340, 342, 5, 59]),
  (4, 73, 0, 19, 1, [344, 346, 6, 59]),
  (4, 77, 0, 20, 1, [348, 350, 7, 59]),
  (4, 89, 0, 10, 3, [352, 353, 354, 58]),
  (4, 93, 4, 79, 2, [0, 320, 0, 57]),
  (4, 97, 1, 23, 1, [322, 323, 0, 59]),
  (4, 101, 0, 22, 1, [325, 327, 2, 59]),
  (5, 9, 5, 8, 1, [0, 77, 0, 58]),
  (5, 21, 5, 11, 1, [0, 121, 0, 59]),
  (5, 28, 5, 2, 1, [0, 162, 0, 60]),
  (5, 35, 2, 5, 1, [200, 201, 0, 61]),
  (5, 46, 5, 0, 1, [0, 221, 0, 62]),
  (5, 62, 0, 3, 2, [241, 242, 243, 60]),
  (5, 66, 0, 12, 2, [286, 287, 288, 59]),
  (5, 73, 0, 13, 1, [295, 296, 297, 59]),
  (5, 77, 0, 14, 2, [303, 304, 305, 59]),
  (5, 90, 0, 30, 2, [361, 363, 8, 57]),
  (5, 96, 1, 79, 2, [365, 320, 0, 57]),
  (5, 118, 1, 82, 2, [366, 367, 0, 57]),
  (5, 125, 0, 32, 2, [369, 371, 9, 57]),
  (5, 139, 0, 31, 2, [377, 379, 10, 57]),
  (5, 142, 0, 33, 1, [381, 383, 11, 57]),
  (5, 148, 1, 83, 1, [389, 390, 0, 57]),
  (5, 151, 0, 6, 2, [392, 393, 394, 61]),
  (5, 164, 0, 40, 2, [406, 408, 12, 57]),
  (5, 167, 1, 80, 3, [410, 246, 0, 57]),
  (5, 171, 0, 41, 2, [411, 413, 13, 57]),
  (5, 174, 0, 42, 2, [415, 417, 14, 57]),
  (5, 177, 0, 43, 2, [427, 429, 17, 57]),
  (5, 180, 0, 7, 2, [451, 452, 453, 61]),
  (5, 183, 0, 44, 4, [419, 421, 15, 57]),
  (5, 187, 0, 45, 3, [423, 425, 16, 57]),
  (5, 193, 0, 50, 2, [459, 461, 18, 57]),
  (5, 196, 0, 51, 2, [463, 465, 19, 57]),
  (5, 199, 0, 55, 2, [478, 480, 22, 57]),
  (5, 202, 0, 56, 1, [486, 488, 23, 57]),
  (5, 205, 0, 57, 2, [490, 492, 24, 57]),
  (5, 208, 0, 58, 5, [498, 500, 25, 57]),
  (5, 212, 1, 138, 1, [510, 511, 0, 65]),
  (5, 217, 1, 60, 3, [516, 517, 0, 57]),
  (5, 221, 1, 61, 2, [519, 520, 0, 57]),
  (5, 224, 1, 62, 2, [522, 523, 0, 57]),
  (5, 227, 1, 52, 2, [467, 468, 0, 57]),
  (5, 230, 0, 53, 4, [470, 472, 20, 57]),
  (5, 233, 0, 54, 4, [474, 476, 21, 57]),
  (5, 236, 0, 59, 5, [502, 504, 26, 57]),
  (5, 241, 0, 1, 4, [530, 531, 532, 62]),
  (5, 249, 0, 67, 3, [543, 545, 27, 57]),
  (5, 254, 0, 65, 1, [551, 540, 541, 57]),
  (5, 261, 0, 73, 2, [560, 562, 28, 57]),
  (5, 264, 0, 74, 2, [564, 566, 29, 57]),
  (5, 267, 0, 75, 2, [569, 571, 30, 57]),
  (5, 270, 0, 76, 2, [574, 576, 31, 57]),
  (5, 273, 0, 77, 2, [579, 581, 32, 57]),
  (5, 276, 0, 78, 2, [584, 586, 33, 57]),
  (5, 279, 1, 81, 2, [593, 397, 0, 57]),
  (5, 283, 0, 4, 2, [594, 400, 401, 60]),
  (6, 53, 0, 96, 1, [613, 615, 34, 63]),
  (6, 56, 0, 101, 1, [617, 619, 35, 63]),
  (6, 63, 1, 85, 3, [708, 709, 0, 63]),
  (6, 73, 0, 90, 2, [723, 725, 37, 63]),
  (6, 86, 1, 91, 1, [727, 728, 0, 63]),
  (6, 93, 0, 93, 1, [730, 732, 38, 63]),
  (6, 97, 0, 92, 1, [719, 721, 36, 63]),
  (6, 100, 0, 94, 2, [741, 743, 40, 63]),
  (6, 107, 1, 97, 1, [738, 739, 0, 63]),
  (6, 110, 0, 95, 3, [749, 751, 42, 63]),
  (6, 114, 0, 98, 1, [734, 736, 39, 63]),
  (6, 117, 0, 99, 2, [745, 747, 41, 63]),
  (6, 127, 0, 102, 2, [757, 759, 43, 63]),
  (6, 130, 0, 103, 2, [761, 763, 44, 63]),
  (6, 133, 1, 86, 2, [773, 774, 0, 63]),
  (6, 137, 0, 105, 2, [769, 771, 45, 63]),
  (6, 140, 0, 106, 1, [776, 778, 46, 63]),
  (6, 150, 0, 108, 1, [784, 786, 47, 63]),
  (6, 153, 0, 110, 2, [788, 790, 48, 63]),
  (6, 156, 0, 109, 5, [792, 794, 49, 63]),
  (6, 160, 0, 117, 4, [828, 830, 52, 63]),
  (6, 163, 0, 119, 2, [820, 822, 50, 63]),
  (6, 166, 0, 118, 2, [824, 826, 51, 63]),
  (6, 170, 0, 121, 2, [837, 839, 53, 63]),
  (6, 173, 0, 123, 5, [845, 847, 54, 63]),
  (6, 176, 1, 87, 1, [853, 854, 0, 63]),
  (6, 179, 1, 125, 2, [856, 857, 0, 63]),
  (6, 182, 1, 126, 2, [859, 860, 0, 63]),
  (6, 185, 0, 130, 1, [874, 876, 55, 63]),
  (7, 9, 2, 24, 1, [68, 69, 0, 57]),
  (7, 12, 2, 84, 1, [609, 610, 0, 63]),
  (7, 13, 0, 25, 2, [282, 283, 284, 57]),
  (7, 17, 0, 88, 2, [704, 705, 706, 63]),
  (7, 18, 0, 26, 1, [291, 292, 293, 57]),
  (7, 22, 0, 89, 1, [711, 712, 713, 63]),
  (7, 23, 0, 27, 1, [299, 300, 301, 57]),
  (7, 26, 0, 100, 1, [715, 716, 717, 63]),
  (7, 27, 0, 28, 3, [357, 358, 359, 57]),
  (7, 31, 0, 104, 3, [753, 754, 755, 63]),
  (7, 32, 0, 29, 2, [373, 374, 375, 57]),
  (7, 35, 0, 107, 2, [765, 766, 767, 63]),
  (7, 36, 0, 34, 3, [385, 386, 387, 57]),
  (7, 39, 0, 111, 3, [780, 781, 782, 63]),
  (7, 40, 0, 35, 1, [431, 432, 433, 57]),
  (7, 43, 0, 112, 1, [796, 797, 798, 63]),
  (7, 44, 0, 36, 2, [435, 436, 437, 57]),
  (7, 47, 0, 113, 2, [800, 801, 802, 63]),
  (7, 48, 0, 37, 1, [439, 440, 441, 57]),
  (7, 51, 0, 114, 1, [804, 805, 806, 63]),
  (7, 52, 0, 38, 2, [443, 444, 445, 57]),
  (7, 55, 0, 115, 2, [808, 809, 810, 63]),
  (7, 56, 0, 39, 1, [447, 448, 449, 57]),
  (7, 59, 0, 116, 1, [812, 813, 814, 63]),
  (7, 60, 0, 46, 3, [455, 456, 457, 57]),
  (7, 63, 0, 120, 3, [816, 817, 818, 63]),
  (7, 64, 0, 47, 3, [482, 483, 484, 57]),
  (7, 67, 0, 122, 3, [832, 833, 834, 63]),
  (7, 68, 0, 48, 3, [494, 495, 496, 57]),
  (7, 71, 0, 124, 3, [841, 842, 843, 63]),
  (7, 72, 0, 49, 4, [506, 507, 508, 57]),
  (7, 76, 0, 127, 4, [849, 850, 851, 63]),
  (7, 77, 0, 63, 4, [526, 527, 528, 57]),
  (7, 80, 0, 128, 4, [862, 863, 864, 63]),
  (7, 81, 0, 64, 1, [535, 536, 537, 57]),
  (7, 84, 0, 129, 1, [866, 867, 868, 63]),
  (7, 85, 0, 65, 1, [539, 540, 541, 57]),
  (7, 88, 0, 131, 1, [870, 871, 872, 63]),
  (7, 89, 0, 66, 2, [547, 548, 549, 57]),
  (7, 92, 0, 132, 2, [878, 879, 880, 63]),
  (7, 93, 0, 68, 3, [555, 556, 557, 57]),
  (7, 96, 0, 133, 3, [882, 883, 884, 63]),
  (7, 97, 0, 69, 2, [589, 590, 591, 57]),
  (7, 100, 0, 134, 2, [892, 893, 894, 63]),
  (7, 101, 0, 70, 2, [595, 596, 597, 57]),
  (7, 104, 0, 135, 2, [896, 897, 898, 63]),
  (7, 105, 0, 71, 2, [599, 600, 601, 57]),
  (7, 108, 0, 136, 2, [900, 901, 902, 63]),
  (7, 109, 0, 72, 1, [603, 604, 605, 57]),
  (7, 113, 0, 137, 1, [904, 905, 906, 63])]
/-- the places of the words of fields, by kind; of instantiable, initialized; of arrayClass int, boolean; of Object.<init> -/
def ai_UL : List (List Nat × Nat × Nat) := [([232, 234, 236, 238], 219, 62), ([181, 183, 185, 187, 189, 191, 193, 195], 160, 60), ([211, 213, 215], 199, 61), ([100, 102, 104, 106, 108, 110, 112, 114], 75, 58), ([136, 138, 140, 142, 144, 146, 148, 150, 152, 154, 156], 119, 59), ([259, 261, 263, 265, 267, 269, 271, 273, 275, 277, 279], 67, 57), ([648, 650, 652, 654, 656, 658, 660, 662, 664, 666, 668, 670, 672, 674, 676, 678, 680, 682, 684, 686, 688, 690, 692, 694, 696, 698, 700], 608, 63)]
def ai_WL : List Nat := [117, 703, 72, 73]
/-- the pool places of Math.min (0), Math.max (1) -/
def ai_XL : List (Nat × Nat × Nat × Nat) := [(2, 33, 0, 404), (4, 104, 0, 329), (5, 158, 0, 405), (5, 257, 1, 552)]
def ai_YL : List Nat := [330, 553, 64]
/-- links between nest mates: class of the method, pool place, method, host -/
def ai_NW : List Cond := [.methodLinkNest (ai_own 0) 25 yX5_put RX5, .methodLinkNest (ai_own 1) 22 yX5_put RX5, .methodLinkNest (ai_own 1) 41 yX5_at RX5, .methodLinkNest (ai_own 2) 17 yX1_init RX5, .methodLinkNest (ai_own 2) 22 yX5_momentAt RX5, .methodLinkNest (ai_own 3) 37 yX5_put RX5, .methodLinkNest (ai_own 4) 19 yX5_put RX5, .methodLinkNest (ai_own 4) 93 yX5_at RX5, .methodLinkNest (ai_own 5) 9 yX3_init RX5, .methodLinkNest (ai_own 5) 21 yX4_init RX5, .methodLinkNest (ai_own 5) 28 yX1_init RX5, .methodLinkNest (ai_own 5) 46 yX0_init RX5]
end
section
/-! the tables of part 03 hold: words stand in the launch's tables, every block is what decode says -/
theorem ai_TB_in {w : Cond} (h : w ∈ ai_TB) : w ∈ lw_tbl := (List.mem_filter.mp h).1
theorem ai_TB_good {ws : List Cond} (h : ∀ w ∈ ws, w ∈ ai_TB) : GoodIn ai_TB ws := fun w hw => ⟨h w hw, good_of_word (List.mem_filter.mp (h w hw)).2⟩
def ai_at (i : Nat) (w : Cond) : Bool := decide (lw_tbl[i]? = some w) && goodWord w
theorem ai_at_in {i : Nat} {w : Cond} (h : ai_at i w = true) : w ∈ ai_TB := by
  unfold ai_at at h
  rw [Bool.and_eq_true] at h
  exact List.mem_filter.mpr ⟨List.mem_of_getElem? (of_decide_eq_true h.1), h.2⟩
def ai_cl (ci : Nat) : vw_C := vwCl.getD ci (RX0, TX0, 0)
def ai_fty (ci k : Nat) : FieldType := (([tyX0, tyX1, tyX2, tyX3, tyX4, tyX5, tyX6] : List (Nat → FieldType)).getD ci tyX0) k
def ai_isR (t : FieldType) : Bool := match t with
  | .object _ => true
  | .array _ => true
  | _ => false
def ai_fl1 (e : Nat × Nat × Nat × Nat × Nat) : Bool := decide (e.2.2.1 < 7) && (decide (e.2.2.2.1 < (ai_cl e.2.2.1).2.2) && ai_at e.2.2.2.2 (.fieldLink (ai_own e.1) e.2.1 ((ai_cl e.2.2.1).2.1 e.2.2.2.1).1 ((ai_cl e.2.2.1).2.1 e.2.2.2.1).2.1 ((ai_cl e.2.2.1).2.1 e.2.2.2.1).2.2.1))
theorem ai_FL_ok : ai_FL.all ai_fl1 = true := by decide +kernel
def ai_ol1 (e : Nat × Nat × Nat) : Bool := ai_at e.2.2 (.methodLink (ai_own e.1) e.2.1 objectInit)
theorem ai_OL_ok : ai_OL.all ai_ol1 = true := by decide +kernel
def ai_kl1 (e : Nat × Nat × Int32 × Nat) : Bool := ai_at e.2.2.2 (.constant (ai_own e.1) e.2.1 e.2.2.1)
theorem ai_KL_ok : ai_KL.all ai_kl1 = true := by decide +kernel
def ai_jl1 (e : Nat × Nat × Int32 × Nat) : Bool := ai_at e.2.2.2 (.constantLong (ai_own e.1) e.2.1 e.2.2.1.toInt64)
theorem ai_JL_ok : ai_JL.all ai_jl1 = true := by decide +kernel
def ai_nl1 (e : Nat × Nat × Nat × Nat) : Bool := decide (e.2.2.1 < 7) && ai_at e.2.2.2 (.classLink (ai_own e.1) e.2.1 (ai_cl e.2.2.1).1)
theorem ai_NL_ok : ai_NL.all ai_nl1 = true := by decide +kernel
def ai_ul1 (ci : Nat) : Bool := match ai_UL[ci]? with
  | some (ps, i, j) => (List.range (ai_cl ci).2.2).all (fun k => ai_at (ps.getD k 0) (u_lay (ai_cl ci).1 (ai_cl ci).2.1 k)) && (ai_at i (.instantiable (ai_cl ci).1 (ai_cl ci).2.2) && ai_at j (.initialized (ai_cl ci).1))
  | none => false
theorem ai_UL_ok : (List.range 7).all ai_ul1 = true := by decide +kernel
theorem ai_WL_ok : (ai_at (ai_WL.getD 0 0) (.arrayClass .int) && (ai_at (ai_WL.getD 1 0) (.arrayClass .boolean) && (ai_at (ai_WL.getD 2 0) (.instanceMethod objectInit) && ai_at (ai_WL.getD 3 0) (.code objectInit ⟨#[0xb1]⟩ 1 none)))) = true := by decide +kernel
def ai_xl1 (e : Nat × Nat × Nat × Nat) : Bool := ai_at e.2.2.2 (.methodLink (ai_own e.1) e.2.1 (if e.2.2.1 = 0 then Lib.Math.min.name else Lib.Math.max.name))
theorem ai_XL_ok : ai_XL.all ai_xl1 = true := by decide +kernel
theorem ai_YL_ok : (ai_at (ai_YL.getD 0 0) (.static Lib.Math.min.name) && (ai_at (ai_YL.getD 1 0) (.static Lib.Math.max.name) && ai_at (ai_YL.getD 2 0) (.initialized "java/lang/Math"))) = true := by decide +kernel
def ai_mt (m : Nat) : ai_Mt := ai_M.getD m (yL_law, cL_law, 0, none, 0, 0, 0, false)
abbrev ai_y (m : Nat) : MethodName := (ai_mt m).1
abbrev ai_c (m : Nat) : ByteArray := (ai_mt m).2.1
abbrev ai_ml (m : Nat) : Nat := (ai_mt m).2.2.1
abbrev ai_rt (m : Nat) : Option FieldType := (ai_mt m).2.2.2.1
abbrev ai_mo (m : Nat) : Nat := (ai_mt m).2.2.2.2.1
abbrev ai_fr (m : Nat) : Nat := (ai_mt m).2.2.2.2.2.1
abbrev ai_lo (m : Nat) : Nat := (ai_mt m).2.2.2.2.2.2.1
abbrev ai_ini (m : Nat) : Bool := (ai_mt m).2.2.2.2.2.2.2
/-- a call's row: its words, its name, how many arguments -/
def ai_cl1 (e : Nat × Nat × Nat × Nat × Nat × List Nat) : Bool :=
  let y := ai_y e.2.2.2.1
  let w := fun k => e.2.2.2.2.2.getD k 0
  let np := (parseMethodDescriptor y.desc).map (fun d => d.parameters.length)
  plainName y.cls && (decide (y.cls ≠ "java/lang/invoke/MethodHandle" ∧ y.cls ≠ "java/lang/invoke/VarHandle") && (ai_at (w 3) (.initialized y.cls) && (decide (e.2.2.2.1 < 139) &&
  (match e.2.2.1 with
  | 0 => ai_at (w 0) (.methodLink (ai_own e.1) e.2.1 y) && (ai_at (w 1) (.instanceMethod y) && (ai_at (w 2) (.selects y.cls y y) && decide (np = some (e.2.2.2.2.1 - 1) ∧ 1 ≤ e.2.2.2.2.1)))
  | 1 => ai_at (w 0) (.methodLink (ai_own e.1) e.2.1 y) && (ai_at (w 1) (.static y) && decide (np = some e.2.2.2.2.1))
  | 2 => ai_at (w 0) (.methodLink (ai_own e.1) e.2.1 y) && (ai_at (w 1) (.instanceMethod y) && decide (np = some (e.2.2.2.2.1 - 1) ∧ 1 ≤ e.2.2.2.2.1 ∧ y.name = "<init>" ∧ ai_rt e.2.2.2.1 = none))
  | 4 => decide (Cond.methodLinkNest (ai_own e.1) e.2.1 y RX5 ∈ ai_NW) && (ai_at (w 1) (.static y) && decide (np = some e.2.2.2.2.1))
  | 5 => decide (Cond.methodLinkNest (ai_own e.1) e.2.1 y RX5 ∈ ai_NW) && (ai_at (w 1) (.instanceMethod y) && decide (np = some (e.2.2.2.2.1 - 1) ∧ 1 ≤ e.2.2.2.2.1 ∧ y.name = "<init>" ∧ ai_rt e.2.2.2.1 = none))
  | _ => false))))
theorem ai_CL_ok : ai_CL.all ai_cl1 = true := by decide +kernel
-- what decode answers for a step, and what else a step asks
def ai_encs : List (Nat → Nat → Nat → Int32 → Instr × Nat) := [fun _ _ _ z => (.iconst z.toInt, 1), fun _ _ _ z => (.bipush z.toInt, 2), fun _ _ _ z => (.sipush z.toInt, 3), fun a _ _ _ => (.iload_n (Fin.ofNat 4 a), 1), fun a _ _ _ => (.iload a, 2), fun a _ _ _ => (.aload_n (Fin.ofNat 4 a), 1), fun a _ _ _ => (.istore_n (Fin.ofNat 4 a), 1), fun a _ _ _ => (.istore a, 2), fun a _ _ _ => (.astore_n (Fin.ofNat 4 a), 1), fun a _ _ z => (.iinc a z.toInt, 3),
  fun _ _ _ _ => (.iadd, 1), fun _ _ _ _ => (.isub, 1), fun _ _ _ _ => (.imul, 1), fun _ _ _ _ => (.iand, 1), fun _ _ _ _ => (.ior, 1), fun _ _ _ _ => (.ishl, 1), fun _ _ _ _ => (.ishr, 1), fun _ _ _ _ => (.iushr, 1), fun _ _ _ _ => (.idiv, 1), fun _ _ _ _ => (.irem, 1),
  fun _ _ _ _ => (.dup, 1), fun _ _ _ _ => (.dup2, 1), fun _ _ _ _ => (.pop, 1), fun _ _ c _ => (.getfield c, 3), fun _ _ c _ => (.putfield c, 3), fun _ _ c _ => (.putfield c, 3), fun _ _ c _ => (.putfield c, 3), fun _ _ c _ => (.putfield c, 3), fun _ _ c _ => (.putfield c, 3), fun _ _ _ _ => (.iaload, 1),
  fun _ _ _ _ => (.iastore, 1), fun _ _ _ _ => (.baload, 1), fun _ _ _ _ => (.bastore, 1), fun _ _ _ _ => (.aaload, 1), fun _ _ _ _ => (.aastore, 1), fun _ _ _ _ => (.arraylength, 1), fun _ _ _ _ => (.newarray .int, 2), fun _ _ _ _ => (.newarray .boolean, 2), fun _ _ c _ => (.anewarray c, 3), fun _ _ c _ => (.new c, 3),
  fun _ _ c _ => (.ldc c, 2), fun _ _ c _ => (.ldc_w c, 3), fun _ _ c _ => (.ldc2_w c, 3), fun a _ _ _ => (.lconst (Fin.ofNat 2 a), 1), fun _ _ _ _ => (.ladd, 1), fun _ _ _ _ => (.lcmp, 1), fun _ _ _ _ => (.aconst_null, 1), fun _ _ c _ => (.invokespecial c, 3), fun _ _ c _ => (.invokestatic c, 3), fun _ _ c _ => (.invokestatic c, 3)]
/-- of method m: o its class, whether it is a constructor, frames, locals -/
abbrev ai_Ok : Type := Nat → Nat → Nat → Nat → Int32 → Bool
def ai_okT : ai_Ok := fun _ _ _ _ _ => true
def ai_ok4 : ai_Ok := fun _ a _ _ _ => decide (a < 4)
def ai_okF (m a b c : Nat) : Bool := ai_FL.any (fun e => e.1 == ai_mo m && (e.2.1 == c && (e.2.2.1 == a && e.2.2.2.1 == b)))
def ai_okP (ty : FieldType → Bool) (fin : Bool) : ai_Ok := fun m a b c _ => ai_okF m a b c && (ty (ai_fty a b) && (((ai_cl a).2.1 b).2.2.2 == fin && (!fin || (ai_ini m && decide (((ai_cl a).2.1 b).1 = ai_own (ai_mo m))))))
def ai_oks : List ai_Ok := [ai_okT, fun _ _ _ _ z => decide ((Int8.ofInt z.toInt).toInt32 = z), fun _ _ _ _ z => decide ((Int16.ofInt z.toInt).toInt32 = z), ai_ok4, ai_okT, ai_ok4, ai_ok4, ai_okT, ai_ok4, ai_okT,
  ai_okT, ai_okT, ai_okT, ai_okT, ai_okT, ai_okT, ai_okT, ai_okT, ai_okT, ai_okT,
  ai_okT, ai_okT, ai_okT, fun m a b c _ => ai_okF m a b c, ai_okP (fun t => decide (t = .int)) false, ai_okP (fun t => decide (t = .boolean)) false, ai_okP (fun t => decide (t = .long)) false, ai_okP ai_isR false, ai_okP ai_isR true, ai_okT,
  ai_okT, ai_okT, ai_okT, ai_okT, ai_okT, ai_okT, ai_okT, ai_okT, fun m _ _ c _ => ai_NL.any (fun e => e.1 == ai_mo m && (e.2.1 == c && e.2.2.1 == 1)), fun m a _ c _ => ai_NL.any (fun e => e.1 == ai_mo m && (e.2.1 == c && e.2.2.1 == a)),
  fun m _ _ c z => ai_KL.any (fun e => e.1 == ai_mo m && (e.2.1 == c && decide (e.2.2.1 = z))), fun m _ _ c z => ai_KL.any (fun e => e.1 == ai_mo m && (e.2.1 == c && decide (e.2.2.1 = z))), fun m _ _ c z => ai_JL.any (fun e => e.1 == ai_mo m && (e.2.1 == c && decide (e.2.2.1 = z))), fun _ a _ _ z => decide (a < 2) && decide (Int64.ofNat a = z.toInt64), ai_okT, ai_okT, ai_okT, fun m _ _ c _ => ai_OL.any (fun e => e.1 == ai_mo m && e.2.1 == c) && decide (1 ≤ ai_fr m ∧ 20 ≤ ai_lo m),
  fun m _ _ c _ => ai_XL.any (fun e => e.1 == ai_mo m && (e.2.1 == c && e.2.2.1 == 0)) && decide (1 ≤ ai_fr m ∧ 20 ≤ ai_lo m), fun m _ _ c _ => ai_XL.any (fun e => e.1 == ai_mo m && (e.2.1 == c && e.2.2.1 == 1)) && decide (1 ≤ ai_fr m ∧ 20 ≤ ai_lo m)]
def ai_ck1 (m : Nat) (i : ai_I) (pc : Nat) : Option Nat := match ai_encs[i.1]?, ai_oks[i.1]? with
  | some f, some g => if (decide (decode (ai_c m) pc = .ok (f i.2.1 i.2.2.1 i.2.2.2.1 i.2.2.2.2)) && g m i.2.1 i.2.2.1 i.2.2.2.1 i.2.2.2.2) = true then some (pc + (f i.2.1 i.2.2.1 i.2.2.2.1 i.2.2.2.2).2) else none
  | _, _ => none
def ai_ckl (m : Nat) : List ai_I → Nat → Option Nat
  | [], pc => some pc
  | i :: is, pc => match ai_ck1 m i pc with
    | some pc' => ai_ckl m is pc'
    | none => none
def ai_pc (m b : Nat) : Nat := (ai_blk m b).1
def ai_off (m pc b : Nat) : Int := (ai_pc m b : Int) - (pc : Int)
def ai_dec (m pc : Nat) (i : Instr) (n : Nat) : Bool := decide (decode (ai_c m) pc = .ok (i, n))
def ai_ckc (m pc : Nat) (t : ai_T) (ck : Nat) (i : Nat → Instr) : Bool := match t.2.2.2.2.2 with
  | [(_, x)] => ai_dec m pc (i x) 3 && (decide (ai_pc m t.2.1 = pc + 3) && (ai_CL.any (fun e => e.1 == ai_mo m && (e.2.1 == x && (e.2.2.1 == ck && (e.2.2.2.1 == t.2.2.1 && e.2.2.2.2.1 == t.2.2.2.1)))) && decide (ai_fr t.2.2.1 + 1 ≤ ai_fr m ∧ 8 + (ai_ml t.2.2.1 + 11) + ai_lo t.2.2.1 ≤ ai_lo m)))
  | _ => false
def ai_ckt (m pc : Nat) (t : ai_T) : Bool := match t.1 with
  | 0 => decide (ai_pc m t.2.1 = pc)
  | 1 => ai_dec m pc (.goto (ai_off m pc t.2.1)) 3
  | 2 => ai_dec m pc (.ifCond .eq (ai_off m pc t.2.1)) 3 && decide (ai_pc m t.2.2.1 = pc + 3)
  | 3 => ai_dec m pc (.ifCond .ne (ai_off m pc t.2.1)) 3 && decide (ai_pc m t.2.2.1 = pc + 3)
  | 4 => ai_dec m pc (.ifCond .lt (ai_off m pc t.2.1)) 3 && decide (ai_pc m t.2.2.1 = pc + 3)
  | 5 => ai_dec m pc (.ifCond .ge (ai_off m pc t.2.1)) 3 && decide (ai_pc m t.2.2.1 = pc + 3)
  | 6 => ai_dec m pc (.ifCond .gt (ai_off m pc t.2.1)) 3 && decide (ai_pc m t.2.2.1 = pc + 3)
  | 7 => ai_dec m pc (.ifCond .le (ai_off m pc t.2.1)) 3 && decide (ai_pc m t.2.2.1 = pc + 3)
  | 8 => ai_dec m pc (.if_icmp .eq (ai_off m pc t.2.1)) 3 && decide (ai_pc m t.2.2.1 = pc + 3)
  | 9 => ai_dec m pc (.if_icmp .ne (ai_off m pc t.2.1)) 3 && decide (ai_pc m t.2.2.1 = pc + 3)
  | 10 => ai_dec m pc (.if_icmp .lt (ai_off m pc t.2.1)) 3 && decide (ai_pc m t.2.2.1 = pc + 3)
  | 11 => ai_dec m pc (.if_icmp .ge (ai_off m pc t.2.1)) 3 && decide (ai_pc m t.2.2.1 = pc + 3)
  | 12 => ai_dec m pc (.if_icmp .gt (ai_off m pc t.2.1)) 3 && decide (ai_pc m t.2.2.1 = pc + 3)
  | 13 => ai_dec m pc (.if_icmp .le (ai_off m pc t.2.1)) 3 && decide (ai_pc m t.2.2.1 = pc + 3)
  | 14 => ai_dec m pc (.ifnull (ai_off m pc t.2.1)) 3 && decide (ai_pc m t.2.2.1 = pc + 3)
  | 15 => ai_dec m pc (.ifnonnull (ai_off m pc t.2.1)) 3 && decide (ai_pc m t.2.2.1 = pc + 3)
  | 16 => ai_dec m pc (.tableswitch (ai_off m pc t.2.1) (t.2.2.2.2.2.headD (0, 0)).1.toInt ((t.2.2.2.2.2.headD (0, 0)).1.toInt + t.2.2.2.2.2.length - 1) (t.2.2.2.2.2.map (fun q => ai_off m pc q.2)).toArray) t.2.2.2.1 && (List.range t.2.2.2.2.2.length).all (fun i => decide ((t.2.2.2.2.2.getD i (0, 0)).1.toInt = (t.2.2.2.2.2.headD (0, 0)).1.toInt + i))
  | 17 => ai_dec m pc (.lookupswitch (ai_off m pc t.2.1) (t.2.2.2.2.2.map (fun q => (q.1.toInt, ai_off m pc q.2))).toArray) t.2.2.2.1 && (((t.2.2.2.2.2.map (fun q => (q.1.toInt, ai_off m pc q.2))).zip ((t.2.2.2.2.2.map (fun q => (q.1.toInt, ai_off m pc q.2))).drop 1)).all (fun (a, next) => a.1 < next.1))
  | 18 => ai_ckc m pc t 0 .invokevirtual && decide ((ai_cl t.2.2.2.2.1).1 = (ai_y t.2.2.1).cls ∧ t.2.2.2.2.1 < 7)
  | 19 => ai_ckc m pc t 1 .invokestatic
  | 20 => ai_ckc m pc t 2 .invokespecial
  | 21 => ai_ckc m pc t 4 .invokestatic
  | 22 => ai_ckc m pc t 5 .invokespecial
  | 23 => ai_dec m pc .ireturn 1 && decide (ai_rt m = some .int)
  | 24 => ai_dec m pc .ireturn 1 && decide (ai_rt m = some .boolean)
  | 25 => ai_dec m pc .lreturn 1 && decide (ai_rt m = some .long)
  | 26 => ai_dec m pc .areturn 1 && (match ai_rt m with
    | some t => ai_isR t
    | none => false)
  | 27 => ai_dec m pc .return_ 1 && decide (ai_rt m = none)
  | _ => false
def ai_ckb (m b : Nat) : Bool := match ai_ckl m (ai_blk m b).2.1 (ai_blk m b).1 with
  | some pc => ai_ckt m pc (ai_blk m b).2.2
  | none => false
def ai_ckm (m : Nat) : Bool := (List.range (ai_pr.getD m []).length).all (ai_ckb m) && (decide (ai_pc m 0 = 0) && decide (ai_ini m = decide ((ai_y m).name = "<init>") ∧ ai_own (ai_mo m) = (ai_y m).cls))
end
section
/-! every method is checked (kernel); the code words of the tables -/
set_option maxRecDepth 100000 in
theorem ai_cw_min : lw_tbl[331]? = some (.code Lib.Math.min.name Lib.Math.min.code 2 (some .int)) := rfl
set_option maxRecDepth 100000 in
theorem ai_cw_max : lw_tbl[554]? = some (.code Lib.Math.max.name Lib.Math.max.code 2 (some .int)) := rfl
set_option maxRecDepth 100000 in
theorem ai_cd_0 : lw_tbl[222]? = some (.code yX0_init cX0_init 1 none) := rfl
set_option maxRecDepth 100000 in
theorem ai_cd_1 : lw_tbl[533]? = some (.code yX0_add cX0_add 4 (some .boolean)) := rfl
set_option maxRecDepth 100000 in
theorem ai_cd_2 : lw_tbl[163]? = some (.code yX1_init cX1_init 1 none) := rfl
set_option maxRecDepth 100000 in
theorem ai_cd_3 : lw_tbl[244]? = some (.code yX1_begin cX1_begin 3 none) := rfl
set_option maxRecDepth 100000 in
theorem ai_cd_4 : lw_tbl[402]? = some (.code yX1_become cX1_become 3 none) := rfl
set_option maxRecDepth 100000 in
theorem ai_cd_5 : lw_tbl[202]? = some (.code yX2_init cX2_init 2 none) := rfl
set_option maxRecDepth 100000 in
theorem ai_cd_6 : lw_tbl[395]? = some (.code yX2_remember cX2_remember 3 none) := rfl
set_option maxRecDepth 100000 in
theorem ai_cd_7 : lw_tbl[454]? = some (.code yX2_recall cX2_recall 4 none) := rfl
set_option maxRecDepth 100000 in
theorem ai_cd_8 : lw_tbl[78]? = some (.code yX3_init cX3_init 1 none) := rfl
set_option maxRecDepth 100000 in
theorem ai_cd_9 : lw_tbl[314]? = some (.code yX3_begin cX3_begin 1 none) := rfl
set_option maxRecDepth 100000 in
theorem ai_cd_10 : lw_tbl[355]? = some (.code yX3_tellCaller cX3_tellCaller 3 none) := rfl
set_option maxRecDepth 100000 in
theorem ai_cd_11 : lw_tbl[122]? = some (.code yX4_init cX4_init 1 none) := rfl
set_option maxRecDepth 100000 in
theorem ai_cd_12 : lw_tbl[289]? = some (.code yX4_add cX4_add 2 (some .boolean)) := rfl
set_option maxRecDepth 100000 in
theorem ai_cd_13 : lw_tbl[298]? = some (.code yX4_empty cX4_empty 2 (some .int)) := rfl
set_option maxRecDepth 100000 in
theorem ai_cd_14 : lw_tbl[306]? = some (.code yX4_tell cX4_tell 4 (some .int)) := rfl
set_option maxRecDepth 100000 in
theorem ai_cd_15 : lw_tbl[310]? = some (.code yX4_begin cX4_begin 1 none) := rfl
set_option maxRecDepth 100000 in
theorem ai_cd_16 : lw_tbl[335]? = some (.code yX4_takeToken cX4_takeToken 2 (some .boolean)) := rfl
set_option maxRecDepth 100000 in
theorem ai_cd_17 : lw_tbl[339]? = some (.code yX4_takeLetter cX4_takeLetter 3 (some .boolean)) := rfl
set_option maxRecDepth 100000 in
theorem ai_cd_18 : lw_tbl[343]? = some (.code yX4_takeNumber cX4_takeNumber 2 (some .boolean)) := rfl
set_option maxRecDepth 100000 in
theorem ai_cd_19 : lw_tbl[347]? = some (.code yX4_leastNumber cX4_leastNumber 2 (some .int)) := rfl
set_option maxRecDepth 100000 in
theorem ai_cd_20 : lw_tbl[351]? = some (.code yX4_mostNumber cX4_mostNumber 1 (some .int)) := rfl
set_option maxRecDepth 100000 in
theorem ai_cd_21 : lw_tbl[318]? = some (.code yX4_readToken cX4_readToken 1 none) := rfl
set_option maxRecDepth 100000 in
theorem ai_cd_22 : lw_tbl[328]? = some (.code yX4_readNumber cX4_readNumber 3 none) := rfl
set_option maxRecDepth 100000 in
theorem ai_cd_23 : lw_tbl[324]? = some (.code yX4_isDigit cX4_isDigit 1 (some .boolean)) := rfl
set_option maxRecDepth 100000 in
theorem ai_cd_24 : lw_tbl[70]? = some (.code yX5_init cX5_init 2 none) := rfl
set_option maxRecDepth 100000 in
theorem ai_cd_25 : lw_tbl[285]? = some (.code yX5_type cX5_type 2 (some .int)) := rfl
set_option maxRecDepth 100000 in
theorem ai_cd_26 : lw_tbl[294]? = some (.code yX5_clear cX5_clear 1 (some .int)) := rfl
set_option maxRecDepth 100000 in
theorem ai_cd_27 : lw_tbl[302]? = some (.code yX5_embassy cX5_embassy 3 (some .int)) := rfl
set_option maxRecDepth 100000 in
theorem ai_cd_28 : lw_tbl[360]? = some (.code yX5_caller cX5_caller 3 (some .int)) := rfl
set_option maxRecDepth 100000 in
theorem ai_cd_29 : lw_tbl[376]? = some (.code yX5_now cX5_now 2 (some .int)) := rfl
set_option maxRecDepth 100000 in
theorem ai_cd_30 : lw_tbl[364]? = some (.code yX5_isCaller cX5_isCaller 2 (some .boolean)) := rfl
set_option maxRecDepth 100000 in
theorem ai_cd_31 : lw_tbl[380]? = some (.code yX5_landOf cX5_landOf 4 (some .int)) := rfl
set_option maxRecDepth 100000 in
theorem ai_cd_32 : lw_tbl[372]? = some (.code yX5_ringOf cX5_ringOf 4 (some .int)) := rfl
set_option maxRecDepth 100000 in
theorem ai_cd_33 : lw_tbl[384]? = some (.code yX5_traded cX5_traded 3 (some .int)) := rfl
set_option maxRecDepth 100000 in
theorem ai_cd_34 : lw_tbl[388]? = some (.code yX5_shakes cX5_shakes 4 (some .int)) := rfl
set_option maxRecDepth 100000 in
theorem ai_cd_35 : lw_tbl[434]? = some (.code yX5_opens cX5_opens 2 (some .int)) := rfl
set_option maxRecDepth 100000 in
theorem ai_cd_36 : lw_tbl[438]? = some (.code yX5_lines cX5_lines 3 (some .int)) := rfl
set_option maxRecDepth 100000 in
theorem ai_cd_37 : lw_tbl[442]? = some (.code yX5_winds cX5_winds 2 (some .int)) := rfl
set_option maxRecDepth 100000 in
theorem ai_cd_38 : lw_tbl[446]? = some (.code yX5_consoles cX5_consoles 3 (some .int)) := rfl
set_option maxRecDepth 100000 in
theorem ai_cd_39 : lw_tbl[450]? = some (.code yX5_undo cX5_undo 1 (some .int)) := rfl
set_option maxRecDepth 100000 in
theorem ai_cd_40 : lw_tbl[409]? = some (.code yX5_bruise cX5_bruise 2 (some .int)) := rfl
set_option maxRecDepth 100000 in
theorem ai_cd_41 : lw_tbl[414]? = some (.code yX5_warmth cX5_warmth 2 (some .int)) := rfl
set_option maxRecDepth 100000 in
theorem ai_cd_42 : lw_tbl[418]? = some (.code yX5_decide cX5_decide 3 (some .int)) := rfl
set_option maxRecDepth 100000 in
theorem ai_cd_43 : lw_tbl[430]? = some (.code yX5_countShake cX5_countShake 2 none) := rfl
set_option maxRecDepth 100000 in
theorem ai_cd_44 : lw_tbl[422]? = some (.code yX5_wouldYield cX5_wouldYield 4 (some .boolean)) := rfl
set_option maxRecDepth 100000 in
theorem ai_cd_45 : lw_tbl[426]? = some (.code yX5_wouldLeave cX5_wouldLeave 3 (some .boolean)) := rfl
set_option maxRecDepth 100000 in
theorem ai_cd_46 : lw_tbl[458]? = some (.code yX5_way cX5_way 4 (some .int)) := rfl
set_option maxRecDepth 100000 in
theorem ai_cd_47 : lw_tbl[485]? = some (.code yX5_gain cX5_gain 10 (some .int)) := rfl
set_option maxRecDepth 100000 in
theorem ai_cd_48 : lw_tbl[497]? = some (.code yX5_tune cX5_tune 5 (some .int)) := rfl
set_option maxRecDepth 100000 in
theorem ai_cd_49 : lw_tbl[509]? = some (.code yX5_odds cX5_odds 8 (some .int)) := rfl
set_option maxRecDepth 100000 in
theorem ai_cd_50 : lw_tbl[462]? = some (.code yX5_mayBeWon cX5_mayBeWon 2 (some .boolean)) := rfl
set_option maxRecDepth 100000 in
theorem ai_cd_51 : lw_tbl[466]? = some (.code yX5_reckonWay cX5_reckonWay 4 (some .int)) := rfl
set_option maxRecDepth 100000 in
theorem ai_cd_52 : lw_tbl[469]? = some (.code yX5_cell cX5_cell 2 (some .int)) := rfl
set_option maxRecDepth 100000 in
theorem ai_cd_53 : lw_tbl[473]? = some (.code yX5_fewestBehind cX5_fewestBehind 7 (some .int)) := rfl
set_option maxRecDepth 100000 in
theorem ai_cd_54 : lw_tbl[477]? = some (.code yX5_fewestNext cX5_fewestNext 4 (some .int)) := rfl
set_option maxRecDepth 100000 in
theorem ai_cd_55 : lw_tbl[481]? = some (.code yX5_turnOfWay cX5_turnOfWay 5 (some .int)) := rfl
set_option maxRecDepth 100000 in
theorem ai_cd_56 : lw_tbl[489]? = some (.code yX5_measureWays cX5_measureWays 2 none) := rfl
set_option maxRecDepth 100000 in
theorem ai_cd_57 : lw_tbl[493]? = some (.code yX5_lengthOfWays cX5_lengthOfWays 4 (some .int)) := rfl
set_option maxRecDepth 100000 in
theorem ai_cd_58 : lw_tbl[501]? = some (.code yX5_bringsJust cX5_bringsJust 7 (some .boolean)) := rfl
set_option maxRecDepth 100000 in
theorem ai_cd_59 : lw_tbl[505]? = some (.code yX5_tryPlain cX5_tryPlain 9 (some .int)) := rfl
set_option maxRecDepth 100000 in
theorem ai_cd_60 : lw_tbl[518]? = some (.code yX5_waysToLeave cX5_waysToLeave 6 (some .int)) := rfl
set_option maxRecDepth 100000 in
theorem ai_cd_61 : lw_tbl[521]? = some (.code yX5_power cX5_power 4 (some .int)) := rfl
set_option maxRecDepth 100000 in
theorem ai_cd_62 : lw_tbl[524]? = some (.code yX5_commonDivisor cX5_commonDivisor 6 (some .int)) := rfl
set_option maxRecDepth 100000 in
theorem ai_cd_63 : lw_tbl[529]? = some (.code yX5_tells cX5_tells 4 (some .int)) := rfl
set_option maxRecDepth 100000 in
theorem ai_cd_64 : lw_tbl[538]? = some (.code yX5_forget cX5_forget 2 (some .int)) := rfl
set_option maxRecDepth 100000 in
theorem ai_cd_65 : lw_tbl[542]? = some (.code yX5_soft cX5_soft 5 (some .int)) := rfl
set_option maxRecDepth 100000 in
theorem ai_cd_66 : lw_tbl[550]? = some (.code yX5_ask cX5_ask 9 (some .int)) := rfl
set_option maxRecDepth 100000 in
theorem ai_cd_67 : lw_tbl[546]? = some (.code yX5_yieldingVelvets cX5_yieldingVelvets 5 (some .int)) := rfl
set_option maxRecDepth 100000 in
theorem ai_cd_68 : lw_tbl[558]? = some (.code yX5_rate cX5_rate 3 (some .int)) := rfl
set_option maxRecDepth 100000 in
theorem ai_cd_69 : lw_tbl[592]? = some (.code yX5_keep cX5_keep 3 (some .int)) := rfl
set_option maxRecDepth 100000 in
theorem ai_cd_70 : lw_tbl[598]? = some (.code yX5_back cX5_back 3 (some .int)) := rfl
set_option maxRecDepth 100000 in
theorem ai_cd_71 : lw_tbl[602]? = some (.code yX5_count cX5_count 2 (some .int)) := rfl
set_option maxRecDepth 100000 in
theorem ai_cd_72 : lw_tbl[606]? = some (.code yX5_trace cX5_trace 1 (some .long)) := rfl
set_option maxRecDepth 100000 in
theorem ai_cd_73 : lw_tbl[563]? = some (.code yX5_rateCaller cX5_rateCaller 2 (some .int)) := rfl
set_option maxRecDepth 100000 in
theorem ai_cd_74 : lw_tbl[567]? = some (.code yX5_rateCount cX5_rateCount 2 (some .int)) := rfl
set_option maxRecDepth 100000 in
theorem ai_cd_75 : lw_tbl[572]? = some (.code yX5_rateCharge cX5_rateCharge 2 (some .int)) := rfl
set_option maxRecDepth 100000 in
theorem ai_cd_76 : lw_tbl[577]? = some (.code yX5_rateNuncio cX5_rateNuncio 2 (some .int)) := rfl
set_option maxRecDepth 100000 in
theorem ai_cd_77 : lw_tbl[582]? = some (.code yX5_rateEnvoy cX5_rateEnvoy 2 (some .int)) := rfl
set_option maxRecDepth 100000 in
theorem ai_cd_78 : lw_tbl[587]? = some (.code yX5_rateNun cX5_rateNun 2 (some .int)) := rfl
set_option maxRecDepth 100000 in
theorem ai_cd_79 : lw_tbl[321]? = some (.code yX5_at cX5_at 2 (some .int)) := rfl
set_option maxRecDepth 100000 in
theorem ai_cd_80 : lw_tbl[247]? = some (.code yX5_put cX5_put 3 none) := rfl
set_option maxRecDepth 100000 in
theorem ai_cd_81 : lw_tbl[398]? = some (.code yX5_momentAt cX5_momentAt 2 (some (.object "VelvetHand$Moment"))) := rfl
set_option maxRecDepth 100000 in
theorem ai_cd_82 : lw_tbl[368]? = some (.code yX5_isIn cX5_isIn 2 (some .boolean)) := rfl
set_option maxRecDepth 100000 in
theorem ai_cd_83 : lw_tbl[391]? = some (.code yX5_isOneOrZero cX5_isOneOrZero 1 (some .boolean)) := rfl
set_option maxRecDepth 100000 in
theorem ai_cd_84 : lw_tbl[611]? = some (.code yX6_init cX6_init 1 none) := rfl
set_option maxRecDepth 100000 in
theorem ai_cd_85 : lw_tbl[710]? = some (.code yX6_in cX6_in 3 (some .boolean)) := rfl
set_option maxRecDepth 100000 in
theorem ai_cd_86 : lw_tbl[775]? = some (.code yX6_has cX6_has 2 (some .boolean)) := rfl
set_option maxRecDepth 100000 in
theorem ai_cd_87 : lw_tbl[855]? = some (.code yX6_ones cX6_ones 3 (some .int)) := rfl
set_option maxRecDepth 100000 in
theorem ai_cd_88 : lw_tbl[707]? = some (.code yX6_type cX6_type 2 (some .int)) := rfl
set_option maxRecDepth 100000 in
theorem ai_cd_89 : lw_tbl[714]? = some (.code yX6_clear cX6_clear 2 (some .int)) := rfl
set_option maxRecDepth 100000 in
theorem ai_cd_90 : lw_tbl[726]? = some (.code yX6_letterAt cX6_letterAt 2 (some .int)) := rfl
set_option maxRecDepth 100000 in
theorem ai_cd_91 : lw_tbl[729]? = some (.code yX6_isLetter cX6_isLetter 1 (some .boolean)) := rfl
set_option maxRecDepth 100000 in
theorem ai_cd_92 : lw_tbl[722]? = some (.code yX6_advances cX6_advances 2 none) := rfl
set_option maxRecDepth 100000 in
theorem ai_cd_93 : lw_tbl[733]? = some (.code yX6_isWell cX6_isWell 1 (some .boolean)) := rfl
set_option maxRecDepth 100000 in
theorem ai_cd_94 : lw_tbl[744]? = some (.code yX6_takes cX6_takes 3 (some .int)) := rfl
set_option maxRecDepth 100000 in
theorem ai_cd_95 : lw_tbl[752]? = some (.code yX6_number cX6_number 3 (some .int)) := rfl
set_option maxRecDepth 100000 in
theorem ai_cd_96 : lw_tbl[616]? = some (.code yX6_begins cX6_begins 1 none) := rfl
set_option maxRecDepth 100000 in
theorem ai_cd_97 : lw_tbl[740]? = some (.code yX6_bitOf cX6_bitOf 1 (some .int)) := rfl
set_option maxRecDepth 100000 in
theorem ai_cd_98 : lw_tbl[737]? = some (.code yX6_mayBegin cX6_mayBegin 1 (some .boolean)) := rfl
set_option maxRecDepth 100000 in
theorem ai_cd_99 : lw_tbl[748]? = some (.code yX6_readsItem cX6_readsItem 3 none) := rfl
set_option maxRecDepth 100000 in
theorem ai_cd_100 : lw_tbl[718]? = some (.code yX6_embassy cX6_embassy 3 (some .int)) := rfl
set_option maxRecDepth 100000 in
theorem ai_cd_101 : lw_tbl[620]? = some (.code yX6_settles cX6_settles 2 none) := rfl
set_option maxRecDepth 100000 in
theorem ai_cd_102 : lw_tbl[760]? = some (.code yX6_isCaller cX6_isCaller 2 (some .boolean)) := rfl
set_option maxRecDepth 100000 in
theorem ai_cd_103 : lw_tbl[764]? = some (.code yX6_ringOf cX6_ringOf 4 (some .int)) := rfl
set_option maxRecDepth 100000 in
theorem ai_cd_104 : lw_tbl[756]? = some (.code yX6_caller cX6_caller 3 (some .int)) := rfl
set_option maxRecDepth 100000 in
theorem ai_cd_105 : lw_tbl[772]? = some (.code yX6_landOf cX6_landOf 4 (some .int)) := rfl
set_option maxRecDepth 100000 in
theorem ai_cd_106 : lw_tbl[779]? = some (.code yX6_traded cX6_traded 3 (some .int)) := rfl
set_option maxRecDepth 100000 in
theorem ai_cd_107 : lw_tbl[768]? = some (.code yX6_now cX6_now 2 (some .int)) := rfl
set_option maxRecDepth 100000 in
theorem ai_cd_108 : lw_tbl[787]? = some (.code yX6_notes cX6_notes 2 none) := rfl
set_option maxRecDepth 100000 in
theorem ai_cd_109 : lw_tbl[795]? = some (.code yX6_shake cX6_shake 5 (some .int)) := rfl
set_option maxRecDepth 100000 in
theorem ai_cd_110 : lw_tbl[791]? = some (.code yX6_aside cX6_aside 2 none) := rfl
set_option maxRecDepth 100000 in
theorem ai_cd_111 : lw_tbl[783]? = some (.code yX6_shakes cX6_shakes 5 (some .int)) := rfl
set_option maxRecDepth 100000 in
theorem ai_cd_112 : lw_tbl[799]? = some (.code yX6_opens cX6_opens 2 (some .int)) := rfl
set_option maxRecDepth 100000 in
theorem ai_cd_113 : lw_tbl[803]? = some (.code yX6_lines cX6_lines 3 (some .int)) := rfl
set_option maxRecDepth 100000 in
theorem ai_cd_114 : lw_tbl[807]? = some (.code yX6_winds cX6_winds 2 (some .int)) := rfl
set_option maxRecDepth 100000 in
theorem ai_cd_115 : lw_tbl[811]? = some (.code yX6_consoles cX6_consoles 3 (some .int)) := rfl
set_option maxRecDepth 100000 in
theorem ai_cd_116 : lw_tbl[815]? = some (.code yX6_undo cX6_undo 2 (some .int)) := rfl
set_option maxRecDepth 100000 in
theorem ai_cd_117 : lw_tbl[831]? = some (.code yX6_yieldsBy cX6_yieldsBy 6 (some .boolean)) := rfl
set_option maxRecDepth 100000 in
theorem ai_cd_118 : lw_tbl[827]? = some (.code yX6_wayBy cX6_wayBy 4 (some .int)) := rfl
set_option maxRecDepth 100000 in
theorem ai_cd_119 : lw_tbl[823]? = some (.code yX6_isGone cX6_isGone 2 (some .boolean)) := rfl
set_option maxRecDepth 100000 in
theorem ai_cd_120 : lw_tbl[819]? = some (.code yX6_way cX6_way 5 (some .int)) := rfl
set_option maxRecDepth 100000 in
theorem ai_cd_121 : lw_tbl[840]? = some (.code yX6_shakesFor cX6_shakesFor 4 (some .int)) := rfl
set_option maxRecDepth 100000 in
theorem ai_cd_122 : lw_tbl[835]? = some (.code yX6_gain cX6_gain 7 (some .int)) := rfl
set_option maxRecDepth 100000 in
theorem ai_cd_123 : lw_tbl[848]? = some (.code yX6_comesOf cX6_comesOf 7 (some .int)) := rfl
set_option maxRecDepth 100000 in
theorem ai_cd_124 : lw_tbl[844]? = some (.code yX6_tune cX6_tune 6 (some .int)) := rfl
set_option maxRecDepth 100000 in
theorem ai_cd_125 : lw_tbl[858]? = some (.code yX6_power cX6_power 4 (some .int)) := rfl
set_option maxRecDepth 100000 in
theorem ai_cd_126 : lw_tbl[861]? = some (.code yX6_gcd cX6_gcd 5 (some .int)) := rfl
set_option maxRecDepth 100000 in
theorem ai_cd_127 : lw_tbl[852]? = some (.code yX6_odds cX6_odds 8 (some .int)) := rfl
set_option maxRecDepth 100000 in
theorem ai_cd_128 : lw_tbl[865]? = some (.code yX6_tells cX6_tells 4 (some .int)) := rfl
set_option maxRecDepth 100000 in
theorem ai_cd_129 : lw_tbl[869]? = some (.code yX6_forget cX6_forget 2 (some .int)) := rfl
set_option maxRecDepth 100000 in
theorem ai_cd_130 : lw_tbl[877]? = some (.code yX6_softOnes cX6_softOnes 5 (some .int)) := rfl
set_option maxRecDepth 100000 in
theorem ai_cd_131 : lw_tbl[873]? = some (.code yX6_soft cX6_soft 1 (some .int)) := rfl
set_option maxRecDepth 100000 in
theorem ai_cd_132 : lw_tbl[881]? = some (.code yX6_ask cX6_ask 9 (some .int)) := rfl
set_option maxRecDepth 100000 in
theorem ai_cd_133 : lw_tbl[885]? = some (.code yX6_rate cX6_rate 6 (some .int)) := rfl
set_option maxRecDepth 100000 in
theorem ai_cd_134 : lw_tbl[895]? = some (.code yX6_keep cX6_keep 3 (some .int)) := rfl
set_option maxRecDepth 100000 in
theorem ai_cd_135 : lw_tbl[899]? = some (.code yX6_back cX6_back 3 (some .int)) := rfl
set_option maxRecDepth 100000 in
theorem ai_cd_136 : lw_tbl[903]? = some (.code yX6_count cX6_count 2 (some .int)) := rfl
set_option maxRecDepth 100000 in
theorem ai_cd_137 : lw_tbl[907]? = some (.code yX6_trace cX6_trace 1 (some .long)) := rfl
set_option maxRecDepth 100000 in
theorem ai_cd_138 : lw_tbl[512]? = some (.code yJ6_bitCount_0f7a4 cJ6_bitCount_0f7a4 1 (some .int)) := rfl
theorem ai_ck_0 : ai_ckm 0 = true := by decide +kernel
theorem ai_ck_1 : ai_ckm 1 = true := by decide +kernel
theorem ai_ck_2 : ai_ckm 2 = true := by decide +kernel
theorem ai_ck_3 : ai_ckm 3 = true := by decide +kernel
theorem ai_ck_4 : ai_ckm 4 = true := by decide +kernel
theorem ai_ck_5 : ai_ckm 5 = true := by decide +kernel
theorem ai_ck_6 : ai_ckm 6 = true := by decide +kernel
theorem ai_ck_7 : ai_ckm 7 = true := by decide +kernel
theorem ai_ck_8 : ai_ckm 8 = true := by decide +kernel
theorem ai_ck_9 : ai_ckm 9 = true := by decide +kernel
theorem ai_ck_10 : ai_ckm 10 = true := by decide +kernel
theorem ai_ck_11 : ai_ckm 11 = true := by decide +kernel
theorem ai_ck_12 : ai_ckm 12 = true := by decide +kernel
theorem ai_ck_13 : ai_ckm 13 = true := by decide +kernel
theorem ai_ck_14 : ai_ckm 14 = true := by decide +kernel
theorem ai_ck_15 : ai_ckm 15 = true := by decide +kernel
theorem ai_ck_16 : ai_ckm 16 = true := by decide +kernel
theorem ai_ck_17 : ai_ckm 17 = true := by decide +kernel
theorem ai_ck_18 : ai_ckm 18 = true := by decide +kernel
theorem ai_ck_19 : ai_ckm 19 = true := by decide +kernel
theorem ai_ck_20 : ai_ckm 20 = true := by decide +kernel
theorem ai_ck_21 : ai_ckm 21 = true := by decide +kernel
theorem ai_ck_22 : ai_ckm 22 = true := by decide +kernel
theorem ai_ck_23 : ai_ckm 23 = true := by decide +kernel
theorem ai_ck_24 : ai_ckm 24 = true := by decide +kernel
theorem ai_ck_25 : ai_ckm 25 = true := by decide +kernel
theorem ai_ck_26 : ai_ckm 26 = true := by decide +kernel
theorem ai_ck_27 : ai_ckm 27 = true := by decide +kernel
theorem ai_ck_28 : ai_ckm 28 = true := by decide +kernel
theorem ai_ck_29 : ai_ckm 29 = true := by decide +kernel
theorem ai_ck_30 : ai_ckm 30 = true := by decide +kernel
theorem ai_ck_31 : ai_ckm 31 = true := by decide +kernel
theorem ai_ck_32 : ai_ckm 32 = true := by decide +kernel
theorem ai_ck_33 : ai_ckm 33 = true := by decide +kernel
theorem ai_ck_34 : ai_ckm 34 = true := by decide +kernel
theorem ai_ck_35 : ai_ckm 35 = true := by decide +kernel
theorem ai_ck_36 : ai_ckm 36 = true := by decide +kernel
theorem ai_ck_37 : ai_ckm 37 = true := by decide +kernel
theorem ai_ck_38 : ai_ckm 38 = true := by decide +kernel
theorem ai_ck_39 : ai_ckm 39 = true := by decide +kernel
theorem ai_ck_40 : ai_ckm 40 = true := by decide +kernel
theorem ai_ck_41 : ai_ckm 41 = true := by decide +kernel
theorem ai_ck_42 : ai_ckm 42 = true := by decide +kernel
theorem ai_ck_43 : ai_ckm 43 = true := by decide +kernel
theorem ai_ck_44 : ai_ckm 44 = true := by decide +kernel
theorem ai_ck_45 : ai_ckm 45 = true := by decide +kernel
theorem ai_ck_46 : ai_ckm 46 = true := by decide +kernel
theorem ai_ck_47 : ai_ckm 47 = true := by decide +kernel
theorem ai_ck_48 : ai_ckm 48 = true := by decide +kernel
theorem ai_ck_49 : ai_ckm 49 = true := by decide +kernel
theorem ai_ck_50 : ai_ckm 50 = true := by decide +kernel
theorem ai_ck_51 : ai_ckm 51 = true := by decide +kernel
theorem ai_ck_52 : ai_ckm 52 = true := by decide +kernel
theorem ai_ck_53 : ai_ckm 53 = true := by decide +kernel
theorem ai_ck_54 : ai_ckm 54 = true := by decide +kernel
theorem ai_ck_55 : ai_ckm 55 = true := by decide +kernel
theorem ai_ck_56 : ai_ckm 56 = true := by decide +kernel
theorem ai_ck_57 : ai_ckm 57 = true := by decide +kernel
theorem ai_ck_58 : ai_ckm 58 = true := by decide +kernel
theorem ai_ck_59 : ai_ckm 59 = true := by decide +kernel
theorem ai_ck_60 : ai_ckm 60 = true := by decide +kernel
theorem ai_ck_61 : ai_ckm 61 = true := by decide +kernel
theorem ai_ck_62 : ai_ckm 62 = true := by decide +kernel
theorem ai_ck_63 : ai_ckm 63 = true := by decide +kernel
theorem ai_ck_64 : ai_ckm 64 = true := by decide +kernel
theorem ai_ck_65 : ai_ckm 65 = true := by decide +kernel
theorem ai_ck_66 : ai_ckm 66 = true := by decide +kernel
theorem ai_ck_67 : ai_ckm 67 = true := by decide +kernel
theorem ai_ck_68 : ai_ckm 68 = true := by decide +kernel
theorem ai_ck_69 : ai_ckm 69 = true := by decide +kernel
theorem ai_ck_70 : ai_ckm 70 = true := by decide +kernel
theorem ai_ck_71 : ai_ckm 71 = true := by decide +kernel
theorem ai_ck_72 : ai_ckm 72 = true := by decide +kernel
theorem ai_ck_73 : ai_ckm 73 = true := by decide +kernel
theorem ai_ck_74 : ai_ckm 74 = true := by decide +kernel
theorem ai_ck_75 : ai_ckm 75 = true := by decide +kernel
theorem ai_ck_76 : ai_ckm 76 = true := by decide +kernel
theorem ai_ck_77 : ai_ckm 77 = true := by decide +kernel
theorem ai_ck_78 : ai_ckm 78 = true := by decide +kernel
theorem ai_ck_79 : ai_ckm 79 = true := by decide +kernel
theorem ai_ck_80 : ai_ckm 80 = true := by decide +kernel
theorem ai_ck_81 : ai_ckm 81 = true := by decide +kernel
theorem ai_ck_82 : ai_ckm 82 = true := by decide +kernel
theorem ai_ck_83 : ai_ckm 83 = true := by decide +kernel
theorem ai_ck_84 : ai_ckm 84 = true := by decide +kernel
theorem ai_ck_85 : ai_ckm 85 = true := by decide +kernel
theorem ai_ck_86 : ai_ckm 86 = true := by decide +kernel
theorem ai_ck_87 : ai_ckm 87 = true := by decide +kernel
theorem ai_ck_88 : ai_ckm 88 = true := by decide +kernel
theorem ai_ck_89 : ai_ckm 89 = true := by decide +kernel
theorem ai_ck_90 : ai_ckm 90 = true := by decide +kernel
theorem ai_ck_91 : ai_ckm 91 = true := by decide +kernel
theorem ai_ck_92 : ai_ckm 92 = true := by decide +kernel
theorem ai_ck_93 : ai_ckm 93 = true := by decide +kernel
theorem ai_ck_94 : ai_ckm 94 = true := by decide +kernel
theorem ai_ck_95 : ai_ckm 95 = true := by decide +kernel
theorem ai_ck_96 : ai_ckm 96 = true := by decide +kernel
theorem ai_ck_97 : ai_ckm 97 = true := by decide +kernel
theorem ai_ck_98 : ai_ckm 98 = true := by decide +kernel
theorem ai_ck_99 : ai_ckm 99 = true := by decide +kernel
theorem ai_ck_100 : ai_ckm 100 = true := by decide +kernel
theorem ai_ck_101 : ai_ckm 101 = true := by decide +kernel
theorem ai_ck_102 : ai_ckm 102 = true := by decide +kernel
theorem ai_ck_103 : ai_ckm 103 = true := by decide +kernel
theorem ai_ck_104 : ai_ckm 104 = true := by decide +kernel
theorem ai_ck_105 : ai_ckm 105 = true := by decide +kernel
theorem ai_ck_106 : ai_ckm 106 = true := by decide +kernel
theorem ai_ck_107 : ai_ckm 107 = true := by decide +kernel
theorem ai_ck_108 : ai_ckm 108 = true := by decide +kernel
theorem ai_ck_109 : ai_ckm 109 = true := by decide +kernel
theorem ai_ck_110 : ai_ckm 110 = true := by decide +kernel
theorem ai_ck_111 : ai_ckm 111 = true := by decide +kernel
theorem ai_ck_112 : ai_ckm 112 = true := by decide +kernel
theorem ai_ck_113 : ai_ckm 113 = true := by decide +kernel
theorem ai_ck_114 : ai_ckm 114 = true := by decide +kernel
theorem ai_ck_115 : ai_ckm 115 = true := by decide +kernel
theorem ai_ck_116 : ai_ckm 116 = true := by decide +kernel
theorem ai_ck_117 : ai_ckm 117 = true := by decide +kernel
theorem ai_ck_118 : ai_ckm 118 = true := by decide +kernel
theorem ai_ck_119 : ai_ckm 119 = true := by decide +kernel
theorem ai_ck_120 : ai_ckm 120 = true := by decide +kernel
theorem ai_ck_121 : ai_ckm 121 = true := by decide +kernel
theorem ai_ck_122 : ai_ckm 122 = true := by decide +kernel
theorem ai_ck_123 : ai_ckm 123 = true := by decide +kernel
theorem ai_ck_124 : ai_ckm 124 = true := by decide +kernel
theorem ai_ck_125 : ai_ckm 125 = true := by decide +kernel
theorem ai_ck_126 : ai_ckm 126 = true := by decide +kernel
theorem ai_ck_127 : ai_ckm 127 = true := by decide +kernel
theorem ai_ck_128 : ai_ckm 128 = true := by decide +kernel
theorem ai_ck_129 : ai_ckm 129 = true := by decide +kernel
theorem ai_ck_130 : ai_ckm 130 = true := by decide +kernel
theorem ai_ck_131 : ai_ckm 131 = true := by decide +kernel
theorem ai_ck_132 : ai_ckm 132 = true := by decide +kernel
theorem ai_ck_133 : ai_ckm 133 = true := by decide +kernel
theorem ai_ck_134 : ai_ckm 134 = true := by decide +kernel
theorem ai_ck_135 : ai_ckm 135 = true := by decide +kernel
theorem ai_ck_136 : ai_ckm 136 = true := by decide +kernel
theorem ai_ck_137 : ai_ckm 137 = true := by decide +kernel
theorem ai_ck_138 : ai_ckm 138 = true := by decide +kernel
theorem ai_ck_139 : ai_ckm 139 = true := by decide +kernel
set_option maxRecDepth 100000 in
theorem ai_ck_all : ∀ m, m < 140 → ai_ckm m = true := by
  intro m hm
  have h : ∀ q ∈ [0, 1, 2, 3, 4, 5, 6, 7, 8, 9, 10, 11, 12, 13, 14, 15, 16, 17, 18, 19, 20, 21, 22, 23, 24, 25, 26, 27, 28, 29, 30, 31, 32, 33, 34, 35, 36, 37, 38, 39, 40, 41, 42, 43, 44, 45, 46, 47, 48, 49, 50, 51, 52, 53, 54, 55, 56, 57, 58, 59, 60, 61, 62, 63, 64, 65, 66, 67, 68, 69, 70, 71, 72, 73, 74, 75, 76, 77, 78, 79, 80, 81, 82, 83, 84, 85, 86, 87, 88, 89, 90, 91, 92, 93, 94, 95, 96, 97, 98, 99, 100, 101, 102, 103, 104, 105, 106, 107, 108, 109, 110, 111, 112, 113, 114, 115, 116, 117, 118, 119, 120, 121, 122, 123, 124, 125, 126, 127, 128, 129, 130, 131, 132, 133, 134, 135, 136, 137, 138, 139], ai_ckm q = true := List.forall_mem_cons.mpr ⟨ai_ck_0, List.forall_mem_cons.mpr ⟨ai_ck_1, List.forall_mem_cons.mpr ⟨ai_ck_2, List.forall_mem_cons.mpr ⟨ai_ck_3, List.forall_mem_cons.mpr ⟨ai_ck_4, List.forall_mem_cons.mpr ⟨ai_ck_5, List.forall_mem_cons.mpr ⟨ai_ck_6, List.forall_mem_cons.mpr ⟨ai_ck_7, List.forall_mem_cons.mpr ⟨ai_ck_8, List.forall_mem_cons.mpr ⟨ai_ck_9, List.forall_mem_cons.mpr ⟨ai_ck_10, List.forall_mem_cons.mpr ⟨ai_ck_11, List.forall_mem_cons.mpr ⟨ai_ck_12, List.forall_mem_cons.mpr ⟨ai_ck_13, List.forall_mem_cons.mpr ⟨ai_ck_14, List.forall_mem_cons.mpr ⟨ai_ck_15, List.forall_mem_cons.mpr ⟨ai_ck_16, List.forall_mem_cons.mpr ⟨ai_ck_17, List.forall_mem_cons.mpr ⟨ai_ck_18, List.forall_mem_cons.mpr ⟨ai_ck_19, List.forall_mem_cons.mpr ⟨ai_ck_20, List.forall_mem_cons.mpr ⟨ai_ck_21, List.forall_mem_cons.mpr ⟨ai_ck_22, List.forall_mem_cons.mpr ⟨ai_ck_23, List.forall_mem_cons.mpr ⟨ai_ck_24, List.forall_mem_cons.mpr ⟨ai_ck_25, List.forall_mem_cons.mpr ⟨ai_ck_26, List.forall_mem_cons.mpr ⟨ai_ck_27, List.forall_mem_cons.mpr ⟨ai_ck_28, List.forall_mem_cons.mpr ⟨ai_ck_29, List.forall_mem_cons.mpr ⟨ai_ck_30, List.forall_mem_cons.mpr ⟨ai_ck_31, List.forall_mem_cons.mpr ⟨ai_ck_32, List.forall_mem_cons.mpr ⟨ai_ck_33, List.forall_mem_cons.mpr ⟨ai_ck_34, List.forall_mem_cons.mpr ⟨ai_ck_35, List.forall_mem_cons.mpr ⟨ai_ck_36, List.forall_mem_cons.mpr ⟨ai_ck_37, List.forall_mem_cons.mpr ⟨ai_ck_38, List.forall_mem_cons.mpr ⟨ai_ck_39, List.forall_mem_cons.mpr ⟨ai_ck_40, List.forall_mem_cons.mpr ⟨ai_ck_41, List.forall_mem_cons.mpr ⟨ai_ck_42, List.forall_mem_cons.mpr ⟨ai_ck_43, List.forall_mem_cons.mpr ⟨ai_ck_44, List.forall_mem_cons.mpr ⟨ai_ck_45, List.forall_mem_cons.mpr ⟨ai_ck_46, List.forall_mem_cons.mpr ⟨ai_ck_47, List.forall_mem_cons.mpr ⟨ai_ck_48, List.forall_mem_cons.mpr ⟨ai_ck_49, List.forall_mem_cons.mpr ⟨ai_ck_50, List.forall_mem_cons.mpr ⟨ai_ck_51, List.forall_mem_cons.mpr ⟨ai_ck_52, List.forall_mem_cons.mpr ⟨ai_ck_53, List.forall_mem_cons.mpr ⟨ai_ck_54, List.forall_mem_cons.mpr ⟨ai_ck_55, List.forall_mem_cons.mpr ⟨ai_ck_56, List.forall_mem_cons.mpr ⟨ai_ck_57, List.forall_mem_cons.mpr ⟨ai_ck_58, List.forall_mem_cons.mpr ⟨ai_ck_59, List.forall_mem_cons.mpr ⟨ai_ck_60, List.forall_mem_cons.mpr ⟨ai_ck_61, List.forall_mem_cons.mpr ⟨ai_ck_62, List.forall_mem_cons.mpr ⟨ai_ck_63, List.forall_mem_cons.mpr ⟨ai_ck_64, List.forall_mem_cons.mpr ⟨ai_ck_65, List.forall_mem_cons.mpr ⟨ai_ck_66, List.forall_mem_cons.mpr ⟨ai_ck_67, List.forall_mem_cons.mpr ⟨ai_ck_68, List.forall_mem_cons.mpr ⟨ai_ck_69, List.forall_mem_cons.mpr ⟨ai_ck_70, List.forall_mem_cons.mpr ⟨ai_ck_71, List.forall_mem_cons.mpr ⟨ai_ck_72, List.forall_mem_cons.mpr ⟨ai_ck_73, List.forall_mem_cons.mpr ⟨ai_ck_74, List.forall_mem_cons.mpr ⟨ai_ck_75, List.forall_mem_cons.mpr ⟨ai_ck_76, List.forall_mem_cons.mpr ⟨ai_ck_77, List.forall_mem_cons.mpr ⟨ai_ck_78, List.forall_mem_cons.mpr ⟨ai_ck_79, List.forall_mem_cons.mpr ⟨ai_ck_80, List.forall_mem_cons.mpr ⟨ai_ck_81, List.forall_mem_cons.mpr ⟨ai_ck_82, List.forall_mem_cons.mpr ⟨ai_ck_83, List.forall_mem_cons.mpr ⟨ai_ck_84, List.forall_mem_cons.mpr ⟨ai_ck_85, List.forall_mem_cons.mpr ⟨ai_ck_86, List.forall_mem_cons.mpr ⟨ai_ck_87, List.forall_mem_cons.mpr ⟨ai_ck_88, List.forall_mem_cons.mpr ⟨ai_ck_89, List.forall_mem_cons.mpr ⟨ai_ck_90, List.forall_mem_cons.mpr ⟨ai_ck_91, List.forall_mem_cons.mpr ⟨ai_ck_92, List.forall_mem_cons.mpr ⟨ai_ck_93, List.forall_mem_cons.mpr ⟨ai_ck_94, List.forall_mem_cons.mpr ⟨ai_ck_95, List.forall_mem_cons.mpr ⟨ai_ck_96, List.forall_mem_cons.mpr ⟨ai_ck_97, List.forall_mem_cons.mpr ⟨ai_ck_98, List.forall_mem_cons.mpr ⟨ai_ck_99, List.forall_mem_cons.mpr ⟨ai_ck_100, List.forall_mem_cons.mpr ⟨ai_ck_101, List.forall_mem_cons.mpr ⟨ai_ck_102, List.forall_mem_cons.mpr ⟨ai_ck_103, List.forall_mem_cons.mpr ⟨ai_ck_104, List.forall_mem_cons.mpr ⟨ai_ck_105, List.forall_mem_cons.mpr ⟨ai_ck_106, List.forall_mem_cons.mpr ⟨ai_ck_107, List.forall_mem_cons.mpr ⟨ai_ck_108, List.forall_mem_cons.mpr ⟨ai_ck_109, List.forall_mem_cons.mpr ⟨ai_ck_110, List.forall_mem_cons.mpr ⟨ai_ck_111, List.forall_mem_cons.mpr ⟨ai_ck_112, List.forall_mem_cons.mpr ⟨ai_ck_113, List.forall_mem_cons.mpr ⟨ai_ck_114, List.forall_mem_cons.mpr ⟨ai_ck_115, List.forall_mem_cons.mpr ⟨ai_ck_116, List.forall_mem_cons.mpr ⟨ai_ck_117, List.forall_mem_cons.mpr ⟨ai_ck_118, List.forall_mem_cons.mpr ⟨ai_ck_119, List.forall_mem_cons.mpr ⟨ai_ck_120, List.forall_mem_cons.mpr ⟨ai_ck_121, List.forall_mem_cons.mpr ⟨ai_ck_122, List.forall_mem_cons.mpr ⟨ai_ck_123, List.forall_mem_cons.mpr ⟨ai_ck_124, List.forall_mem_cons.mpr ⟨ai_ck_125, List.forall_mem_cons.mpr ⟨ai_ck_126, List.forall_mem_cons.mpr ⟨ai_ck_127, List.forall_mem_cons.mpr ⟨ai_ck_128, List.forall_mem_cons.mpr ⟨ai_ck_129, List.forall_mem_cons.mpr ⟨ai_ck_130, List.forall_mem_cons.mpr ⟨ai_ck_131, List.forall_mem_cons.mpr ⟨ai_ck_132, List.forall_mem_cons.mpr ⟨ai_ck_133, List.forall_mem_cons.mpr ⟨ai_ck_134, List.forall_mem_cons.mpr ⟨ai_ck_135, List.forall_mem_cons.mpr ⟨ai_ck_136, List.forall_mem_cons.mpr ⟨ai_ck_137, List.forall_mem_cons.mpr ⟨ai_ck_138, List.forall_mem_cons.mpr ⟨ai_ck_139, fun _ h => absurd h List.not_mem_nil⟩⟩⟩⟩⟩⟩⟩⟩⟩⟩⟩⟩⟩⟩⟩⟩⟩⟩⟩⟩⟩⟩⟩⟩⟩⟩⟩⟩⟩⟩⟩⟩⟩⟩⟩⟩⟩⟩⟩⟩⟩⟩⟩⟩⟩⟩⟩⟩⟩⟩⟩⟩⟩⟩⟩⟩⟩⟩⟩⟩⟩⟩⟩⟩⟩⟩⟩⟩⟩⟩⟩⟩⟩⟩⟩⟩⟩⟩⟩⟩⟩⟩⟩⟩⟩⟩⟩⟩⟩⟩⟩⟩⟩⟩⟩⟩⟩⟩⟩⟩⟩⟩⟩⟩⟩⟩⟩⟩⟩⟩⟩⟩⟩⟩⟩⟩⟩⟩⟩⟩⟩⟩⟩⟩⟩⟩⟩⟩⟩⟩⟩⟩⟩⟩⟩⟩⟩⟩⟩⟩
  exact h m (by have h2 : m ∈ List.range 140 := List.mem_range.mpr hm; exact h2)
set_option maxRecDepth 100000 in
theorem ai_cd_all : ∀ m, m < 139 → Cond.code (ai_y m) (ai_c m) (ai_ml m) (ai_rt m) ∈ ai_TB := by
  intro m hm
  have g : ∀ {w : Cond} {i : Nat}, lw_tbl[i]? = some w → goodWord w = true → w ∈ ai_TB := fun h1 h2 => List.mem_filter.mpr ⟨List.mem_of_getElem? h1, h2⟩
  have h : ∀ q ∈ [0, 1, 2, 3, 4, 5, 6, 7, 8, 9, 10, 11, 12, 13, 14, 15, 16, 17, 18, 19, 20, 21, 22, 23, 24, 25, 26, 27, 28, 29, 30, 31, 32, 33, 34, 35, 36, 37, 38, 39, 40, 41, 42, 43, 44, 45, 46, 47, 48, 49, 50, 51, 52, 53, 54, 55, 56, 57, 58, 59, 60, 61, 62, 63, 64, 65, 66, 67, 68, 69, 70, 71, 72, 73, 74, 75, 76, 77, 78, 79, 80, 81, 82, 83, 84, 85, 86, 87, 88, 89, 90, 91, 92, 93, 94, 95, 96, 97, 98, 99, 100, 101, 102, 103, 104, 105, 106, 107, 108, 109, 110, 111, 112, 113, 114, 115, 116, 117, 118, 119, 120, 121, 122, 123, 124, 125, 126, 127, 128, 129, 130, 131, 132, 133, 134, 135, 136, 137, 138], Cond.code (ai_y q) (ai_c q) (ai_ml q) (ai_rt q) ∈ ai_TB := List.forall_mem_cons.mpr ⟨g ai_cd_0 rfl, List.forall_mem_cons.mpr ⟨g ai_cd_1 rfl, List.forall_mem_cons.mpr ⟨g ai_cd_2 rfl, List.forall_mem_cons.mpr ⟨g ai_cd_3 rfl, List.forall_mem_cons.mpr ⟨g ai_cd_4 rfl, List.forall_mem_cons.mpr ⟨g ai_cd_5 rfl, List.forall_mem_cons.mpr ⟨g ai_cd_6 rfl, List.forall_mem_cons.mpr ⟨g ai_cd_7 rfl, List.forall_mem_cons.mpr ⟨g ai_cd_8 rfl, List.forall_mem_cons.mpr ⟨g ai_cd_9 rfl, List.forall_mem_cons.mpr ⟨g ai_cd_10 rfl, List.forall_mem_cons.mpr ⟨g ai_cd_11 rfl, List.forall_mem_cons.mpr ⟨g ai_cd_12 rfl, List.forall_mem_cons.mpr ⟨g ai_cd_13 rfl, List.forall_mem_cons.mpr ⟨g ai_cd_14 rfl, List.forall_mem_cons.mpr ⟨g ai_cd_15 rfl, List.forall_mem_cons.mpr ⟨g ai_cd_16 rfl, List.forall_mem_cons.mpr ⟨g ai_cd_17 rfl, List.forall_mem_cons.mpr ⟨g ai_cd_18 rfl, List.forall_mem_cons.mpr ⟨g ai_cd_19 rfl, List.forall_mem_cons.mpr ⟨g ai_cd_20 rfl, List.forall_mem_cons.mpr ⟨g ai_cd_21 rfl, List.forall_mem_cons.mpr ⟨g ai_cd_22 rfl, List.forall_mem_cons.mpr ⟨g ai_cd_23 rfl, List.forall_mem_cons.mpr ⟨g ai_cd_24 rfl, List.forall_mem_cons.mpr ⟨g ai_cd_25 rfl, List.forall_mem_cons.mpr ⟨g ai_cd_26 rfl, List.forall_mem_cons.mpr ⟨g ai_cd_27 rfl, List.forall_mem_cons.mpr ⟨g ai_cd_28 rfl, List.forall_mem_cons.mpr ⟨g ai_cd_29 rfl, List.forall_mem_cons.mpr ⟨g ai_cd_30 rfl, List.forall_mem_cons.mpr ⟨g ai_cd_31 rfl, List.forall_mem_cons.mpr ⟨g ai_cd_32 rfl, List.forall_mem_cons.mpr ⟨g ai_cd_33 rfl, List.forall_mem_cons.mpr ⟨g ai_cd_34 rfl, List.forall_mem_cons.mpr ⟨g ai_cd_35 rfl, List.forall_mem_cons.mpr ⟨g ai_cd_36 rfl, List.forall_mem_cons.mpr ⟨g ai_cd_37 rfl, List.forall_mem_cons.mpr ⟨g ai_cd_38 rfl, List.forall_mem_cons.mpr ⟨g ai_cd_39 rfl, List.forall_mem_cons.mpr ⟨g ai_cd_40 rfl, List.forall_mem_cons.mpr ⟨g ai_cd_41 rfl, List.forall_mem_cons.mpr ⟨g ai_cd_42 rfl, List.forall_mem_cons.mpr ⟨g ai_cd_43 rfl, List.forall_mem_cons.mpr ⟨g ai_cd_44 rfl, List.forall_mem_cons.mpr ⟨g ai_cd_45 rfl, List.forall_mem_cons.mpr ⟨g ai_cd_46 rfl, List.forall_mem_cons.mpr ⟨g ai_cd_47 rfl, List.forall_mem_cons.mpr ⟨g ai_cd_48 rfl, List.forall_mem_cons.mpr ⟨g ai_cd_49 rfl, List.forall_mem_cons.mpr ⟨g ai_cd_50 rfl, List.forall_mem_cons.mpr ⟨g ai_cd_51 rfl, List.forall_mem_cons.mpr ⟨g ai_cd_52 rfl, List.forall_mem_cons.mpr ⟨g ai_cd_53 rfl, List.forall_mem_cons.mpr ⟨g ai_cd_54 rfl, List.forall_mem_cons.mpr ⟨g ai_cd_55 rfl, List.forall_mem_cons.mpr ⟨g ai_cd_56 rfl, List.forall_mem_cons.mpr ⟨g ai_cd_57 rfl, List.forall_mem_cons.mpr ⟨g ai_cd_58 rfl, List.forall_mem_cons.mpr ⟨g ai_cd_59 rfl, List.forall_mem_cons.mpr ⟨g ai_cd_60 rfl, List.forall_mem_cons.mpr ⟨g ai_cd_61 rfl, List.forall_mem_cons.mpr ⟨g ai_cd_62 rfl, List.forall_mem_cons.mpr ⟨g ai_cd_63 rfl, List.forall_mem_cons.mpr ⟨g ai_cd_64 rfl, List.forall_mem_cons.mpr ⟨g ai_cd_65 rfl, List.forall_mem_cons.mpr ⟨g ai_cd_66 rfl, List.forall_mem_cons.mpr ⟨g ai_cd_67 rfl, List.forall_mem_cons.mpr ⟨g ai_cd_68 rfl, List.forall_mem_cons.mpr ⟨g ai_cd_69 rfl, List.forall_mem_cons.mpr ⟨g ai_cd_70 rfl, List.forall_mem_cons.mpr ⟨g ai_cd_71 rfl, List.forall_mem_cons.mpr ⟨g ai_cd_72 rfl, List.forall_mem_cons.mpr ⟨g ai_cd_73 rfl, List.forall_mem_cons.mpr ⟨g ai_cd_74 rfl, List.forall_mem_cons.mpr ⟨g ai_cd_75 rfl, List.forall_mem_cons.mpr ⟨g ai_cd_76 rfl, List.forall_mem_cons.mpr ⟨g ai_cd_77 rfl, List.forall_mem_cons.mpr ⟨g ai_cd_78 rfl, List.forall_mem_cons.mpr ⟨g ai_cd_79 rfl, List.forall_mem_cons.mpr ⟨g ai_cd_80 rfl, List.forall_mem_cons.mpr ⟨g ai_cd_81 rfl, List.forall_mem_cons.mpr ⟨g ai_cd_82 rfl, List.forall_mem_cons.mpr ⟨g ai_cd_83 rfl, List.forall_mem_cons.mpr ⟨g ai_cd_84 rfl, List.forall_mem_cons.mpr ⟨g ai_cd_85 rfl, List.forall_mem_cons.mpr ⟨g ai_cd_86 rfl, List.forall_mem_cons.mpr ⟨g ai_cd_87 rfl, List.forall_mem_cons.mpr ⟨g ai_cd_88 rfl, List.forall_mem_cons.mpr ⟨g ai_cd_89 rfl, List.forall_mem_cons.mpr ⟨g ai_cd_90 rfl, List.forall_mem_cons.mpr ⟨g ai_cd_91 rfl, List.forall_mem_cons.mpr ⟨g ai_cd_92 rfl, List.forall_mem_cons.mpr ⟨g ai_cd_93 rfl, List.forall_mem_cons.mpr ⟨g ai_cd_94 rfl, List.forall_mem_cons.mpr ⟨g ai_cd_95 rfl, List.forall_mem_cons.mpr ⟨g ai_cd_96 rfl, List.forall_mem_cons.mpr ⟨g ai_cd_97 rfl, List.forall_mem_cons.mpr ⟨g ai_cd_98 rfl, List.forall_mem_cons.mpr ⟨g ai_cd_99 rfl, List.forall_mem_cons.mpr ⟨g ai_cd_100 rfl, List.forall_mem_cons.mpr ⟨g ai_cd_101 rfl, List.forall_mem_cons.mpr ⟨g ai_cd_102 rfl, List.forall_mem_cons.mpr ⟨g ai_cd_103 rfl, List.forall_mem_cons.mpr ⟨g ai_cd_104 rfl, List.forall_mem_cons.mpr ⟨g ai_cd_105 rfl, List.forall_mem_cons.mpr ⟨g ai_cd_106 rfl, List.forall_mem_cons.mpr ⟨g ai_cd_107 rfl, List.forall_mem_cons.mpr ⟨g ai_cd_108 rfl, List.forall_mem_cons.mpr ⟨g ai_cd_109 rfl, List.forall_mem_cons.mpr ⟨g ai_cd_110 rfl, List.forall_mem_cons.mpr ⟨g ai_cd_111 rfl, List.forall_mem_cons.mpr ⟨g ai_cd_112 rfl, List.forall_mem_cons.mpr ⟨g ai_cd_113 rfl, List.forall_mem_cons.mpr ⟨g ai_cd_114 rfl, List.forall_mem_cons.mpr ⟨g ai_cd_115 rfl, List.forall_mem_cons.mpr ⟨g ai_cd_116 rfl, List.forall_mem_cons.mpr ⟨g ai_cd_117 rfl, List.forall_mem_cons.mpr ⟨g ai_cd_118 rfl, List.forall_mem_cons.mpr ⟨g ai_cd_119 rfl, List.forall_mem_cons.mpr ⟨g ai_cd_120 rfl, List.forall_mem_cons.mpr ⟨g ai_cd_121 rfl, List.forall_mem_cons.mpr ⟨g ai_cd_122 rfl, List.forall_mem_cons.mpr ⟨g ai_cd_123 rfl, List.forall_mem_cons.mpr ⟨g ai_cd_124 rfl, List.forall_mem_cons.mpr ⟨g ai_cd_125 rfl, List.forall_mem_cons.mpr ⟨g ai_cd_126 rfl, List.forall_mem_cons.mpr ⟨g ai_cd_127 rfl, List.forall_mem_cons.mpr ⟨g ai_cd_128 rfl, List.forall_mem_cons.mpr ⟨g ai_cd_129 rfl, List.forall_mem_cons.mpr ⟨g ai_cd_130 rfl, List.forall_mem_cons.mpr ⟨g ai_cd_131 rfl, List.forall_mem_cons.mpr ⟨g ai_cd_132 rfl, List.forall_mem_cons.mpr ⟨g ai_cd_133 rfl, List.forall_mem_cons.mpr ⟨g ai_cd_134 rfl, List.forall_mem_cons.mpr ⟨g ai_cd_135 rfl, List.forall_mem_cons.mpr ⟨g ai_cd_136 rfl, List.forall_mem_cons.mpr ⟨g ai_cd_137 rfl, List.forall_mem_cons.mpr ⟨g ai_cd_138 rfl, fun _ h => absurd h List.not_mem_nil⟩⟩⟩⟩⟩⟩⟩⟩⟩⟩⟩⟩⟩⟩⟩⟩⟩⟩⟩⟩⟩⟩⟩⟩⟩⟩⟩⟩⟩⟩⟩⟩⟩⟩⟩⟩⟩⟩⟩⟩⟩⟩⟩⟩⟩⟩⟩⟩⟩⟩⟩⟩⟩⟩⟩⟩⟩⟩⟩⟩⟩⟩⟩⟩⟩⟩⟩⟩⟩⟩⟩⟩⟩⟩⟩⟩⟩⟩⟩⟩⟩⟩⟩⟩⟩⟩⟩⟩⟩⟩⟩⟩⟩⟩⟩⟩⟩⟩⟩⟩⟩⟩⟩⟩⟩⟩⟩⟩⟩⟩⟩⟩⟩⟩⟩⟩⟩⟩⟩⟩⟩⟩⟩⟩⟩⟩⟩⟩⟩⟩⟩⟩⟩⟩⟩⟩⟩⟩⟩
  exact h m (by have h2 : m ∈ List.range 139 := List.mem_range.mpr hm; exact h2)
end
section
/-! what an abstract state says of the machine's -/
def ai_ad (bA base : Nat) (k : Nat) : Nat := match k with
  | 0 => bA
  | k + 1 => base + k
def ai_cv (bA base : Nat) (v : Value) : Value := match v with
  | .ref k => .ref (ai_ad bA base k)
  | v => v
def ai_ce (bA base : Nat) (ca : Nat → ClassId) (x : va_E) : va_E := match x with
  | .inl (t, n, .inr (.inr (.inr (.inr f)))) => .inl (ca t, n, .inr (.inr (.inr (.inr (fun j => (f j).map (ai_ad bA base))))))
  | .inl (t, n, y) => .inl (ca t, n, y)
  | .inr (ci, fs) => .inr (ci, fs.map (ai_cv bA base))
def ai_cw (bA base : Nat) (ca : Nat → ClassId) (h : ai_H) : va_W := h.mapIdx (fun k x => (base + k, ai_ce bA base ca x))
def ai_tys (ca : Nat → ClassId) : List (ClassId × FieldType) := [(ca 0, .int), (ca 1, .boolean), (ca 2, .object "VelvetHand$Moment")]
def ai_KK (dC : Nat → ClassId) (dI : Nat → Nat → Nat) (ca : Nat → ClassId) (s : State) : Prop := va_K (dC, dI) vwCl (ai_tys ca) s ∧ (∀ w ∈ ai_NW, va_Nw w s) ∧ va_AO "VelvetHand$Moment" s
def ai_sz1 (x : va_E) : Nat := match x with
  | .inl (_, n, _) => n
  | .inr (_, fs) => fs.length
def ai_sz (h : ai_H) : Nat := (h.map ai_sz1).sum
def ai_lv (bA base : Nat) : Nat → List Value → List (Nat × Value)
  | _, [] => []
  | i, v :: t => if v = ai_u then ai_lv bA base (i + 1) t else (i, ai_cv bA base v) :: ai_lv bA base (i + 1) t
/-- the locals -/
def ai_LR (bA base : Nat) (c : Code) (lsC : Array Slot) (ls : List Value) : Prop := ls.length = c.maxLocals ∧ (∀ v ∈ ls, v.category = 1) ∧ lv_has lsC ls.length (ai_lv bA base 0 ls)
/-- the heap -/
def ai_Wd (bA base : Nat) (dC : Nat → ClassId) (dI : Nat → Nat → Nat) (ca : Nat → ClassId) (s : State) (h : ai_H) (H : Heap) (locs : List Loc) : Prop := va_P (dC, dI) vwCl (ai_cw bA base ca h) H ∧ va_S (fun q : Nat => base ≤ q) s.heap H locs
/-- what stays the same in a method's body; k: which method -/
def ai_CX (bA base : Nat) (dC : Nat → ClassId) (dI : Nat → Nat → Nat) (ca : Nat → ClassId) (S : ai_S) (p : Program) (R : Room) (s : State) (m : MethodId) (args : Array Value) (meth : Method) (c : Code) (k n0 : Nat) : Prop :=
  p.tables.exec = Jvm.exec ∧ c.code = ai_c k ∧ s.vm.findClass (ai_own (ai_mo k)) = some m.cls ∧ (∀ w ∈ ai_TB, w.before args s = true) ∧ ai_KK dC dI ca s ∧ va_X bA S.1 S.2 s s.heap ∧ bA < base ∧ s.heap.size = base + n0 ∧ (ai_ini k = true → meth.name = "<init>") ∧ ai_fr k ≤ R.frames ∧ ai_lo k ≤ R.locals
/-- an abstract point is good: the machine goes from it to Q -/
def ai_G (bA base : Nat) (dC : Nat → ClassId) (dI : Nat → Nat → Nat) (ca : Nat → ClassId) (p : Program) (l : Launch) (e : Env) (R : Room) (s : State) (m : MethodId) (args : Array Value) (below : List Frame) (meth : Method) (c : Code) (Q : State → Prop) (n0 z0 pc : Nat) (ls st : List Value) (h : ai_H) : Prop :=
  ∀ (H : Heap) (locs : List Loc) (lsC : Array Slot), ai_LR bA base c lsC ls → ai_Wd bA base dC dI ca s h H locs → W p l e R s m args below meth c H locs (h.length - n0) (ai_sz h - z0) Q (F0 m pc lsC (st.map (ai_cv bA base)))
-- pure rows
theorem ai_cv_cat (bA base : Nat) (v : Value) : (ai_cv bA base v).category = v.category := by cases v <;> rfl
theorem ai_lv_of {bA base : Nat} : ∀ (ls : List Value) (i j : Nat) (w : Value), (j, w) ∈ ai_lv bA base i ls → ∃ v, i ≤ j ∧ ls[j - i]? = some v ∧ v ≠ ai_u ∧ w = ai_cv bA base v
  | [], i, j, w, h => by cases h
  | v :: t, i, j, w, h => by
    unfold ai_lv at h
    split at h
    · obtain ⟨u, h1, h2, h3⟩ := ai_lv_of t (i + 1) j w h
      refine ⟨u, by omega, ?_, h3⟩
      rw [show j - i = (j - (i + 1)) + 1 by omega, List.getElem?_cons_succ]
      exact h2
    · rename_i hv
      rcases List.mem_cons.mp h with h | h
      · cases h
        exact ⟨v, Nat.le_refl _, by rw [Nat.sub_self]; rfl, hv, rfl⟩
      · obtain ⟨u, h1, h2, h3⟩ := ai_lv_of t (i + 1) j w h
        refine ⟨u, by omega, ?_, h3⟩
        rw [show j - i = (j - (i + 1)) + 1 by omega, List.getElem?_cons_succ]
        exact h2
theorem ai_lv_in {bA base : Nat} : ∀ (ls : List Value) (i j : Nat) (v : Value), ls[j]? = some v → v ≠ ai_u → (i + j, ai_cv bA base v) ∈ ai_lv bA base i ls
  | [], i, j, v, h, _ => by simp at h
  | w :: t, i, j, v, h, hv => by
    unfold ai_lv
    cases j with
    | zero =>
      rw [List.getElem?_cons_zero] at h
      cases h
      rw [if_neg hv]
      exact List.mem_cons_self
    | succ j =>
      rw [List.getElem?_cons_succ] at h
      have h2 := ai_lv_in (bA := bA) (base := base) t (i + 1) j v h hv
      rw [show i + 1 + j = i + (j + 1) by omega] at h2
      split
      · exact h2
      · exact List.mem_cons_of_mem _ h2
theorem ai_rd {bA base : Nat} {c : Code} {lsC : Array Slot} {ls : List Value} (h : ai_LR bA base c lsC ls) {a : Nat} {v : Value} (hv : ls[a]? = some v) (hn : v ≠ ai_u) : lsC[a]? = some (.val (ai_cv bA base v)) := by
  have h2 := h.2.2.2.2 _ (ai_lv_in ls 0 a v hv hn)
  rw [Nat.zero_add] at h2
  exact h2
theorem ai_place {bA base : Nat} {ls : List Value} {a : Nat} {v : Value} (hv : ls[a]? = some v) (hn : v ≠ ai_u) : ∃ k : Nat, (ai_lv bA base 0 ls)[k]? = some (a, ai_cv bA base v) := by
  have h2 := ai_lv_in (bA := bA) (base := base) ls 0 a v hv hn
  rw [Nat.zero_add] at h2
  exact List.getElem?_of_mem h2
theorem ai_wr {bA base : Nat} {c : Code} {lsC lsC' : Array Slot} {ls : List Value} {a : Nat} {v : Value} (h : ai_LR bA base c lsC ls) (hc : v.category = 1)
    (h' : lv_has lsC' ls.length ((a, ai_cv bA base v) :: (ai_lv bA base 0 ls).filter (fun q => !(q.1 == a) && !(q.1 + 1 == a && q.2.category == 2)))) : ai_LR bA base c lsC' (ls.set a v) := by
  refine ⟨by rw [List.length_set]; exact h.1, fun w hw => ?_, ?_⟩
  · rcases List.mem_or_eq_of_mem_set hw with h1 | h1
    · exact h.2.1 w h1
    · rw [h1]; exact hc
  · rw [List.length_set]
    refine ⟨h'.1, h'.2.1, fun q hq => h'.2.2 q ?_⟩
    obtain ⟨j, w⟩ := q
    obtain ⟨u, -, h2, h3, h4⟩ := ai_lv_of _ _ _ _ hq
    rw [Nat.sub_zero] at h2
    by_cases hj : a = j
    · subst hj
      have ha : a < ls.length := by
        have := (List.getElem?_eq_some_iff.mp h2).1
        rwa [List.length_set] at this
      rw [List.getElem?_set_self ha] at h2
      cases h2
      rw [h4]
      exact List.mem_cons_self
    · rw [List.getElem?_set_ne hj] at h2
      have h5 := ai_lv_in (bA := bA) (base := base) ls 0 j u h2 h3
      rw [Nat.zero_add, ← h4] at h5
      refine List.mem_cons_of_mem _ (List.mem_filter.mpr ⟨h5, ?_⟩)
      have h6 : w.category = 1 := by rw [h4, ai_cv_cat]; exact h.2.1 u (List.mem_of_getElem? h2)
      have h7 : ¬ j = a := fun z => hj z.symm
      simp [h6, h7]
theorem ai_cw_get (bA base : Nat) (ca : Nat → ClassId) (h : ai_H) (k : Nat) : (ai_cw bA base ca h)[k]? = (h[k]?).map (fun x => (base + k, ai_ce bA base ca x)) := by
  unfold ai_cw
  rw [List.getElem?_mapIdx]
theorem ai_cw_at {bA base : Nat} {ca : Nat → ClassId} {h : ai_H} {k : Nat} {x : va_E} (hk : h[k]? = some x) : (ai_cw bA base ca h)[k]? = some (base + k, ai_ce bA base ca x) := by
  rw [ai_cw_get, hk]; rfl
theorem ai_cw_set (bA base : Nat) (ca : Nat → ClassId) (h : ai_H) (k : Nat) (x : va_E) : (ai_cw bA base ca h).set k (base + k, ai_ce bA base ca x) = ai_cw bA base ca (h.set k x) := by
  apply List.ext_getElem?
  intro j
  rw [ai_cw_get, List.getElem?_set, List.getElem?_set, ai_cw_get]
  have hl : (ai_cw bA base ca h).length = h.length := by unfold ai_cw; rw [List.length_mapIdx]
  rw [hl]
  by_cases hj : k = j
  · subst hj
    rw [if_pos rfl, if_pos rfl]
    by_cases hk : k < h.length
    · rw [if_pos hk, if_pos hk]; rfl
    · rw [if_neg hk, if_neg hk]; rfl
  · rw [if_neg hj, if_neg hj]
theorem ai_cw_app (bA base : Nat) (ca : Nat → ClassId) (h : ai_H) (x : va_E) : ai_cw bA base ca (h ++ [x]) = ai_cw bA base ca h ++ [(base + h.length, ai_ce bA base ca x)] := by
  unfold ai_cw
  rw [List.mapIdx_concat]
theorem ai_D (bA base : Nat) (ca : Nat → ClassId) (h : ai_H) : va_D (fun q : Nat => base ≤ q) (ai_cw bA base ca h) := by
  have key : ∀ (k : Nat) (q : Nat × va_E), (ai_cw bA base ca h)[k]? = some q → q.1 = base + k := by
    intro k q hq
    rw [ai_cw_get] at hq
    cases hx : h[k]? with
    | none => rw [hx] at hq; cases hq
    | some x => rw [hx] at hq; cases hq; rfl
  refine ⟨fun i j p q hi hj he => ?_, fun k q hk => ?_⟩
  · have h1 := key i p hi
    have h2 := key j q hj
    omega
  · have := key k q hk
    show base ≤ q.1
    omega
theorem ai_sz_set {h : ai_H} {k : Nat} {x y : va_E} (hk : h[k]? = some x) (hs : ai_sz1 y = ai_sz1 x) : ai_sz (h.set k y) = ai_sz h := by
  unfold ai_sz
  rw [List.map_set, hs]
  have h1 : (h.map ai_sz1)[k]? = some (ai_sz1 x) := by rw [List.getElem?_map, hk]; rfl
  have h2 : (h.map ai_sz1).set k (ai_sz1 x) = h.map ai_sz1 := by
    apply List.ext_getElem?
    intro j
    rw [List.getElem?_set]
    by_cases hj : k = j
    · subst hj
      rw [if_pos rfl, h1, if_pos (List.getElem?_eq_some_iff.mp h1).1]
    · rw [if_neg hj]
  rw [h2]
theorem ai_sz_app (h : ai_H) (x : va_E) : ai_sz (h ++ [x]) = ai_sz h + ai_sz1 x := by
  unfold ai_sz
  rw [List.map_append, List.sum_append]
  simp
-- what the checks give
theorem ai_all {α : Type} {l : List α} {f : α → Bool} (h : l.all f = true) {x : α} (hx : x ∈ l) : f x = true := List.all_eq_true.mp h x hx
theorem ai_vwCl {ci : Nat} (h : ci < 7) : vwCl[ci]? = some ((ai_cl ci).1, (ai_cl ci).2.1, (ai_cl ci).2.2) := by
  match ci, h with
  | 0, _ => rfl
  | 1, _ => rfl
  | 2, _ => rfl
  | 3, _ => rfl
  | 4, _ => rfl
  | 5, _ => rfl
  | 6, _ => rfl
theorem ai_tyok {ci : Nat} (h : ci < 7) : ∀ k, k < (ai_cl ci).2.2 → parseFieldDescriptor ((ai_cl ci).2.1 k).2.2.1 = some (ai_fty ci k) := by
  match ci, h with
  | 0, _ => exact tyX0_ok
  | 1, _ => exact tyX1_ok
  | 2, _ => exact tyX2_ok
  | 3, _ => exact tyX3_ok
  | 4, _ => exact tyX4_ok
  | 5, _ => exact tyX5_ok
  | 6, _ => exact tyX6_ok
theorem ai_nm {ci : Nat} (h : ci < 7) : ∀ a, a < (ai_cl ci).2.2 → ∀ b, b < (ai_cl ci).2.2 → a ≠ b → ((ai_cl ci).2.1 a).2.1 ≠ ((ai_cl ci).2.1 b).2.1 := by
  match ci, h with
  | 0, _ => exact nmX0
  | 1, _ => exact nmX1
  | 2, _ => exact nmX2
  | 3, _ => exact nmX3
  | 4, _ => exact nmX4
  | 5, _ => exact nmX5
  | 6, _ => exact nmX6
theorem ai_uws {ci : Nat} (h : ci < 7) : (∀ w ∈ u_ws (ai_cl ci).1 (ai_cl ci).2.1 (ai_cl ci).2.2, w ∈ ai_TB) ∧ Cond.instantiable (ai_cl ci).1 (ai_cl ci).2.2 ∈ ai_TB ∧ Cond.initialized (ai_cl ci).1 ∈ ai_TB := by
  have h1 := ai_all ai_UL_ok (List.mem_range.mpr h)
  unfold ai_ul1 at h1
  split at h1
  · rw [Bool.and_eq_true, Bool.and_eq_true] at h1
    refine ⟨fun w hw => ?_, ai_at_in h1.2.1, ai_at_in h1.2.2⟩
    unfold u_ws at hw
    obtain ⟨k, hk, rfl⟩ := List.mem_map.mp hw
    exact ai_at_in (ai_all h1.1 hk)
  · cases h1
theorem ai_okF_of {m a b c : Nat} (h : ai_okF m a b c = true) : a < 7 ∧ b < (ai_cl a).2.2 ∧ Cond.fieldLink (ai_own (ai_mo m)) c ((ai_cl a).2.1 b).1 ((ai_cl a).2.1 b).2.1 ((ai_cl a).2.1 b).2.2.1 ∈ ai_TB := by
  unfold ai_okF at h
  obtain ⟨x, hx, h1⟩ := List.any_eq_true.mp h
  simp only [Bool.and_eq_true, beq_iff_eq] at h1
  obtain ⟨e1, e2, e3, e4⟩ := h1
  have h2 := ai_all ai_FL_ok hx
  unfold ai_fl1 at h2
  rw [e1, e2, e3, e4] at h2
  simp only [Bool.and_eq_true, decide_eq_true_eq] at h2
  exact ⟨h2.1, h2.2.1, ai_at_in h2.2.2⟩
end
section
/-! every step of the interpreter is sound -/
def ai_Snd (f : ai_O) (en : Nat → Nat → Nat → Int32 → Instr × Nat) (ok : ai_Ok) : Prop :=
  ∀ {bA base : Nat} {dC : Nat → ClassId} {dI : Nat → Nat → Nat} {ca : Nat → ClassId} {S : ai_S} {p : Program} {l : Launch} {e : Env} {R : Room} {s : State} {m : MethodId} {args : Array Value} {below : List Frame} {meth : Method} {c : Code} {Q : State → Prop} {k n0 z0 pc a b d : Nat} {z : Int32} {ls st : List Value} {h : ai_H} {ls' st' : List Value} {h' : ai_H},
    ai_CX bA base dC dI ca S p R s m args meth c k n0 → decode (ai_c k) pc = .ok (en a b d z) → ok k a b d z = true → f S a b d z ls st h = some (ls', st', h') → n0 ≤ h.length ∧ z0 ≤ ai_sz h ∧ h'.length - n0 ≤ R.cells ∧ ai_sz h' - z0 ≤ R.slots →
    ai_G bA base dC dI ca p l e R s m args below meth c Q n0 z0 (pc + (en a b d z).2) ls' st' h' → ai_G bA base dC dI ca p l e R s m args below meth c Q n0 z0 pc ls st h
theorem ai_ne (x : Int32) : Value.int x ≠ ai_u := fun h => by cases h
theorem ai_ner (x : Nat) : Value.ref x ≠ ai_u := fun h => by cases h
theorem ai_nen : Value.null ≠ ai_u := fun h => by cases h
theorem s_iconst : ai_Snd ai_const (fun _ _ _ z => (.iconst z.toInt, 1)) ai_okT := by
  intro bA base dC dI ca S p l e R s m args below meth c Q k n0 z0 pc a b d z ls st h ls' st' h' C hd hok hf hb hG H locs lsC hl hw
  obtain ⟨hx, hb1, hown, hts, hK, hX, hbl, hn0, hini, hfr, hlo⟩ := C
  cases hf
  exact lv_iconst hx hb1 hd (Int32.ofInt_toInt z) (hG H locs lsC hl hw)
theorem s_bipush : ai_Snd ai_const (fun _ _ _ z => (.bipush z.toInt, 2)) (fun _ _ _ _ z => decide ((Int8.ofInt z.toInt).toInt32 = z)) := by
  intro bA base dC dI ca S p l e R s m args below meth c Q k n0 z0 pc a b d z ls st h ls' st' h' C hd hok hf hb hG H locs lsC hl hw
  obtain ⟨hx, hb1, hown, hts, hK, hX, hbl, hn0, hini, hfr, hlo⟩ := C
  cases hf
  exact lv_bipush hx hb1 hd (of_decide_eq_true hok) (hG H locs lsC hl hw)
theorem s_sipush : ai_Snd ai_const (fun _ _ _ z => (.sipush z.toInt, 3)) (fun _ _ _ _ z => decide ((Int16.ofInt z.toInt).toInt32 = z)) := by
  intro bA base dC dI ca S p l e R s m args below meth c Q k n0 z0 pc a b d z ls st h ls' st' h' C hd hok hf hb hG H locs lsC hl hw
  obtain ⟨hx, hb1, hown, hts, hK, hX, hbl, hn0, hini, hfr, hlo⟩ := C
  cases hf
  exact lv_sipush hx hb1 hd (of_decide_eq_true hok) (hG H locs lsC hl hw)
theorem ai_f4 {a : Nat} (h : ai_ok4 0 a 0 0 0 = true) : ((Fin.ofNat 4 a : Fin 4) : Nat) = a := by
  have h1 : a < 4 := of_decide_eq_true h
  show a % 4 = a
  omega
theorem s_iload_n : ai_Snd ai_iload (fun a _ _ _ => (.iload_n (Fin.ofNat 4 a), 1)) ai_ok4 := by
  intro bA base dC dI ca S p l e R s m args below meth c Q k n0 z0 pc a b d z ls st h ls' st' h' C hd hok hf hb hG H locs lsC hl hw
  obtain ⟨hx, hb1, hown, hts, hK, hX, hbl, hn0, hini, hfr, hlo⟩ := C
  unfold ai_iload at hf
  split at hf
  · rename_i x hv
    cases hf
    exact lv_iload_n hx hb1 hd (ai_f4 hok) (ai_rd hl hv (ai_ne _)) (hG H locs lsC hl hw)
  · cases hf
theorem s_iload : ai_Snd ai_iload (fun a _ _ _ => (.iload a, 2)) ai_okT := by
  intro bA base dC dI ca S p l e R s m args below meth c Q k n0 z0 pc a b d z ls st h ls' st' h' C hd hok hf hb hG H locs lsC hl hw
  obtain ⟨hx, hb1, hown, hts, hK, hX, hbl, hn0, hini, hfr, hlo⟩ := C
  unfold ai_iload at hf
  split at hf
  · rename_i x hv
    cases hf
    exact lv_iload hx hb1 hd (ai_rd hl hv (ai_ne _)) (hG H locs lsC hl hw)
  · cases hf
theorem s_aload_n : ai_Snd ai_aload (fun a _ _ _ => (.aload_n (Fin.ofNat 4 a), 1)) ai_ok4 := by
  intro bA base dC dI ca S p l e R s m args below meth c Q k n0 z0 pc a b d z ls st h ls' st' h' C hd hok hf hb hG H locs lsC hl hw
  obtain ⟨hx, hb1, hown, hts, hK, hX, hbl, hn0, hini, hfr, hlo⟩ := C
  unfold ai_aload at hf
  split at hf
  · rename_i x hv
    cases hf
    exact lv_aload_n hx hb1 hd (ai_f4 hok) (ai_rd hl hv (ai_ner _)) (hG H locs lsC hl hw)
  · rename_i hv
    cases hf
    exact lv_aload_nN hx hb1 hd (ai_f4 hok) (ai_rd hl hv ai_nen) (hG H locs lsC hl hw)
  · cases hf
theorem s_istore_n : ai_Snd ai_istore (fun a _ _ _ => (.istore_n (Fin.ofNat 4 a), 1)) ai_ok4 := by
  intro bA base dC dI ca S p l e R s m args below meth c Q k n0 z0 pc a b d z ls st h ls' st' h' C hd hok hf hb hG H locs lsC hl hw
  obtain ⟨hx, hb1, hown, hts, hK, hX, hbl, hn0, hini, hfr, hlo⟩ := C
  unfold ai_istore at hf
  split at hf
  · split at hf
    · rename_i ha
      cases hf
      exact lv_istore_n hx hb1 hd (ai_f4 hok) hl.2.2 ha rfl (fun ls' h' => hG H locs ls' (ai_wr hl rfl h') hw)
    · cases hf
  · cases hf
theorem s_istore : ai_Snd ai_istore (fun a _ _ _ => (.istore a, 2)) ai_okT := by
  intro bA base dC dI ca S p l e R s m args below meth c Q k n0 z0 pc a b d z ls st h ls' st' h' C hd hok hf hb hG H locs lsC hl hw
  obtain ⟨hx, hb1, hown, hts, hK, hX, hbl, hn0, hini, hfr, hlo⟩ := C
  unfold ai_istore at hf
  split at hf
  · split at hf
    · rename_i ha
      cases hf
      exact lv_istore hx hb1 hd hl.2.2 ha rfl (fun ls' h' => hG H locs ls' (ai_wr hl rfl h') hw)
    · cases hf
  · cases hf
theorem s_astore_n : ai_Snd ai_astore (fun a _ _ _ => (.astore_n (Fin.ofNat 4 a), 1)) ai_ok4 := by
  intro bA base dC dI ca S p l e R s m args below meth c Q k n0 z0 pc a b d z ls st h ls' st' h' C hd hok hf hb hG H locs lsC hl hw
  obtain ⟨hx, hb1, hown, hts, hK, hX, hbl, hn0, hini, hfr, hlo⟩ := C
  unfold ai_astore at hf
  split at hf
  · split at hf
    · rename_i ha
      cases hf
      exact lv_astore_n hx hb1 hd (ai_f4 hok) hl.2.2 ha rfl (fun ls' h' => hG H locs ls' (ai_wr hl rfl h') hw)
    · cases hf
  · split at hf
    · rename_i ha
      cases hf
      exact lv_astore_nN hx hb1 hd (ai_f4 hok) hl.2.2 ha rfl (fun ls' h' => hG H locs ls' (ai_wr hl rfl h') hw)
    · cases hf
  · cases hf
theorem s_iinc : ai_Snd ai_iinc (fun a _ _ z => (.iinc a z.toInt, 3)) ai_okT := by
  intro bA base dC dI ca S p l e R s m args below meth c Q k n0 z0 pc a b d z ls st h ls' st' h' C hd hok hf hb hG H locs lsC hl hw
  obtain ⟨hx, hb1, hown, hts, hK, hX, hbl, hn0, hini, hfr, hlo⟩ := C
  unfold ai_iinc at hf
  split at hf
  · rename_i x hv
    cases hf
    obtain ⟨j, hj⟩ := ai_place (bA := bA) (base := base) hv (ai_ne _)
    exact lv_iinc (v := x + z) hx hb1 hd hl.2.2 hj (by rw [Int32.ofInt_toInt]) (List.getElem?_eq_some_iff.mp hv).1 rfl (fun ls' h' => hG H locs ls' (ai_wr (v := .int (x + z)) hl rfl h') hw)
  · cases hf
theorem s_iadd : ai_Snd (ai_bin (fun x y => x + y)) (fun _ _ _ _ => (.iadd, 1)) ai_okT := by
  intro bA base dC dI ca S p l e R s m args below meth c Q k n0 z0 pc a b d z ls st h ls' st' h' C hd hok hf hb hG H locs lsC hl hw
  obtain ⟨hx, hb1, hown, hts, hK, hX, hbl, hn0, hini, hfr, hlo⟩ := C
  unfold ai_bin at hf
  split at hf
  · cases hf
    exact lv_iadd hx hb1 hd (hG H locs lsC hl hw)
  · cases hf
theorem s_isub : ai_Snd (ai_bin (fun x y => x - y)) (fun _ _ _ _ => (.isub, 1)) ai_okT := by
  intro bA base dC dI ca S p l e R s m args below meth c Q k n0 z0 pc a b d z ls st h ls' st' h' C hd hok hf hb hG H locs lsC hl hw
  obtain ⟨hx, hb1, hown, hts, hK, hX, hbl, hn0, hini, hfr, hlo⟩ := C
  unfold ai_bin at hf
  split at hf
  · cases hf
    exact lv_isub hx hb1 hd (hG H locs lsC hl hw)
  · cases hf
theorem s_imul : ai_Snd (ai_bin (fun x y => x * y)) (fun _ _ _ _ => (.imul, 1)) ai_okT := by
  intro bA base dC dI ca S p l e R s m args below meth c Q k n0 z0 pc a b d z ls st h ls' st' h' C hd hok hf hb hG H locs lsC hl hw
  obtain ⟨hx, hb1, hown, hts, hK, hX, hbl, hn0, hini, hfr, hlo⟩ := C
  unfold ai_bin at hf
  split at hf
  · cases hf
    exact lv_imul hx hb1 hd (hG H locs lsC hl hw)
  · cases hf
theorem s_iand : ai_Snd (ai_bin (fun x y => x &&& y)) (fun _ _ _ _ => (.iand, 1)) ai_okT := by
  intro bA base dC dI ca S p l e R s m args below meth c Q k n0 z0 pc a b d z ls st h ls' st' h' C hd hok hf hb hG H locs lsC hl hw
  obtain ⟨hx, hb1, hown, hts, hK, hX, hbl, hn0, hini, hfr, hlo⟩ := C
  unfold ai_bin at hf
  split at hf
  · cases hf
    exact lv_iand hx hb1 hd (hG H locs lsC hl hw)
  · cases hf
theorem s_ior : ai_Snd (ai_bin (fun x y => x ||| y)) (fun _ _ _ _ => (.ior, 1)) ai_okT := by
  intro bA base dC dI ca S p l e R s m args below meth c Q k n0 z0 pc a b d z ls st h ls' st' h' C hd hok hf hb hG H locs lsC hl hw
  obtain ⟨hx, hb1, hown, hts, hK, hX, hbl, hn0, hini, hfr, hlo⟩ := C
  unfold ai_bin at hf
  split at hf
  · cases hf
    exact lv_ior hx hb1 hd (hG H locs lsC hl hw)
  · cases hf
theorem s_ishl : ai_Snd (ai_bin (fun x y => x <<< (y &&& 31))) (fun _ _ _ _ => (.ishl, 1)) ai_okT := by
  intro bA base dC dI ca S p l e R s m args below meth c Q k n0 z0 pc a b d z ls st h ls' st' h' C hd hok hf hb hG H locs lsC hl hw
  obtain ⟨hx, hb1, hown, hts, hK, hX, hbl, hn0, hini, hfr, hlo⟩ := C
  unfold ai_bin at hf
  split at hf
  · cases hf
    exact lv_ishl hx hb1 hd (hG H locs lsC hl hw)
  · cases hf
theorem s_ishr : ai_Snd (ai_bin (fun x y => x >>> (y &&& 31))) (fun _ _ _ _ => (.ishr, 1)) ai_okT := by
  intro bA base dC dI ca S p l e R s m args below meth c Q k n0 z0 pc a b d z ls st h ls' st' h' C hd hok hf hb hG H locs lsC hl hw
  obtain ⟨hx, hb1, hown, hts, hK, hX, hbl, hn0, hini, hfr, hlo⟩ := C
  unfold ai_bin at hf
  split at hf
  · cases hf
    exact lv_ishr hx hb1 hd (hG H locs lsC hl hw)
  · cases hf
theorem s_iushr : ai_Snd (ai_bin (fun x y => (x.toUInt32 >>> (y.toUInt32 &&& Int32.toUInt32 31)).toInt32)) (fun _ _ _ _ => (.iushr, 1)) ai_okT := by
  intro bA base dC dI ca S p l e R s m args below meth c Q k n0 z0 pc a b d z ls st h ls' st' h' C hd hok hf hb hG H locs lsC hl hw
  obtain ⟨hx, hb1, hown, hts, hK, hX, hbl, hn0, hini, hfr, hlo⟩ := C
  unfold ai_bin at hf
  split at hf
  · cases hf
    exact lv_iushr hx hb1 hd rfl (hG H locs lsC hl hw)
  · cases hf
theorem s_idiv : ai_Snd (ai_div (fun x y => x / y)) (fun _ _ _ _ => (.idiv, 1)) ai_okT := by
  intro bA base dC dI ca S p l e R s m args below meth c Q k n0 z0 pc a b d z ls st h ls' st' h' C hd hok hf hb hG H locs lsC hl hw
  obtain ⟨hx, hb1, hown, hts, hK, hX, hbl, hn0, hini, hfr, hlo⟩ := C
  unfold ai_div at hf
  split at hf
  · split at hf
    · cases hf
    · rename_i hy
      cases hf
      exact lv_idiv hx hb1 hd hy (hG H locs lsC hl hw)
  · cases hf
theorem s_irem : ai_Snd (ai_div (fun x y => x - x / y * y)) (fun _ _ _ _ => (.irem, 1)) ai_okT := by
  intro bA base dC dI ca S p l e R s m args below meth c Q k n0 z0 pc a b d z ls st h ls' st' h' C hd hok hf hb hG H locs lsC hl hw
  obtain ⟨hx, hb1, hown, hts, hK, hX, hbl, hn0, hini, hfr, hlo⟩ := C
  unfold ai_div at hf
  split at hf
  · split at hf
    · cases hf
    · rename_i hy
      cases hf
      exact lv_irem hx hb1 hd hy (hG H locs lsC hl hw)
  · cases hf
theorem s_dup : ai_Snd ai_dup (fun _ _ _ _ => (.dup, 1)) ai_okT := by
  intro bA base dC dI ca S p l e R s m args below meth c Q k n0 z0 pc a b d z ls st h ls' st' h' C hd hok hf hb hG H locs lsC hl hw
  obtain ⟨hx, hb1, hown, hts, hK, hX, hbl, hn0, hini, hfr, hlo⟩ := C
  unfold ai_dup at hf
  split at hf
  · split at hf
    · rename_i hc
      cases hf
      exact lv_dup hx hb1 hd (by rw [ai_cv_cat]; exact hc) (hG H locs lsC hl hw)
    · cases hf
  · cases hf
theorem s_dup2 : ai_Snd ai_dup2 (fun _ _ _ _ => (.dup2, 1)) ai_okT := by
  intro bA base dC dI ca S p l e R s m args below meth c Q k n0 z0 pc a b d z ls st h ls' st' h' C hd hok hf hb hG H locs lsC hl hw
  obtain ⟨hx, hb1, hown, hts, hK, hX, hbl, hn0, hini, hfr, hlo⟩ := C
  unfold ai_dup2 at hf
  split at hf
  · split at hf
    · rename_i hc
      cases hf
      exact lv_dup2_11 hx hb1 hd (by rw [ai_cv_cat]; exact hc.1) (by rw [ai_cv_cat]; exact hc.2) (hG H locs lsC hl hw)
    · cases hf
  · cases hf
theorem s_pop : ai_Snd ai_pop (fun _ _ _ _ => (.pop, 1)) ai_okT := by
  intro bA base dC dI ca S p l e R s m args below meth c Q k n0 z0 pc a b d z ls st h ls' st' h' C hd hok hf hb hG H locs lsC hl hw
  obtain ⟨hx, hb1, hown, hts, hK, hX, hbl, hn0, hini, hfr, hlo⟩ := C
  unfold ai_pop at hf
  split at hf
  · split at hf
    · rename_i hc
      cases hf
      exact lv_pop hx hb1 hd (by rw [ai_cv_cat]; exact hc) (hG H locs lsC hl hw)
    · cases hf
  · cases hf
theorem s_lcon (hN : True) : ai_Snd ai_lcon (fun a _ _ _ => (.lconst (Fin.ofNat 2 a), 1)) (fun _ a _ _ z => decide (a < 2) && decide (Int64.ofNat a = z.toInt64)) := by
  intro bA base dC dI ca S p l e R s m args below meth c Q k n0 z0 pc a b d z ls st h ls' st' h' C hd hok hf hb hG H locs lsC hl hw
  obtain ⟨hx, hb1, hown, hts, hK, hX, hbl, hn0, hini, hfr, hlo⟩ := C
  cases hf
  simp only [Bool.and_eq_true, decide_eq_true_eq] at hok
  have h2 : ((Fin.ofNat 2 a : Fin 2) : Nat) = a := by
    show a % 2 = a
    omega
  exact lv_lconst hx hb1 hd (by rw [h2]; exact hok.2) (hG H locs lsC hl hw)
theorem s_ladd : ai_Snd ai_ladd (fun _ _ _ _ => (.ladd, 1)) ai_okT := by
  intro bA base dC dI ca S p l e R s m args below meth c Q k n0 z0 pc a b d z ls st h ls' st' h' C hd hok hf hb hG H locs lsC hl hw
  obtain ⟨hx, hb1, hown, hts, hK, hX, hbl, hn0, hini, hfr, hlo⟩ := C
  unfold ai_ladd at hf
  split at hf
  · cases hf
    exact lv_ladd hx hb1 hd (hG H locs lsC hl hw)
  · cases hf
theorem s_lcmp : ai_Snd ai_lcmp (fun _ _ _ _ => (.lcmp, 1)) ai_okT := by
  intro bA base dC dI ca S p l e R s m args below meth c Q k n0 z0 pc a b d z ls st h ls' st' h' C hd hok hf hb hG H locs lsC hl hw
  obtain ⟨hx, hb1, hown, hts, hK, hX, hbl, hn0, hini, hfr, hlo⟩ := C
  unfold ai_lcmp at hf
  split at hf
  · cases hf
    exact W.lcmp hx hb1 hd (hG H locs lsC hl hw)
  · cases hf
theorem s_null : ai_Snd ai_null (fun _ _ _ _ => (.aconst_null, 1)) ai_okT := by
  intro bA base dC dI ca S p l e R s m args below meth c Q k n0 z0 pc a b d z ls st h ls' st' h' C hd hok hf hb hG H locs lsC hl hw
  obtain ⟨hx, hb1, hown, hts, hK, hX, hbl, hn0, hini, hfr, hlo⟩ := C
  cases hf
  exact lv_null hx hb1 hd (hG H locs lsC hl hw)
theorem ai_kl_of {m c : Nat} {z : Int32} (h : ai_KL.any (fun e => e.1 == ai_mo m && (e.2.1 == c && decide (e.2.2.1 = z))) = true) : Cond.constant (ai_own (ai_mo m)) c z ∈ ai_TB := by
  obtain ⟨x, hx, h1⟩ := List.any_eq_true.mp h
  simp only [Bool.and_eq_true, beq_iff_eq, decide_eq_true_eq] at h1
  obtain ⟨e1, e2, e3⟩ := h1
  have h2 := ai_all ai_KL_ok hx
  unfold ai_kl1 at h2
  rw [e1, e2, e3] at h2
  exact ai_at_in h2
theorem s_ldc : ai_Snd ai_const (fun _ _ c _ => (.ldc c, 2)) (fun m _ _ c z => ai_KL.any (fun e => e.1 == ai_mo m && (e.2.1 == c && decide (e.2.2.1 = z)))) := by
  intro bA base dC dI ca S p l e R s m args below meth c Q k n0 z0 pc a b d z ls st h ls' st' h' C hd hok hf hb hG H locs lsC hl hw
  obtain ⟨hx, hb1, hown, hts, hK, hX, hbl, hn0, hini, hfr, hlo⟩ := C
  cases hf
  exact lv_ldc hx hb1 hown (hts _ (ai_kl_of hok)) hd (hG H locs lsC hl hw)
theorem s_ldcw : ai_Snd ai_const (fun _ _ c _ => (.ldc_w c, 3)) (fun m _ _ c z => ai_KL.any (fun e => e.1 == ai_mo m && (e.2.1 == c && decide (e.2.2.1 = z)))) := by
  intro bA base dC dI ca S p l e R s m args below meth c Q k n0 z0 pc a b d z ls st h ls' st' h' C hd hok hf hb hG H locs lsC hl hw
  obtain ⟨hx, hb1, hown, hts, hK, hX, hbl, hn0, hini, hfr, hlo⟩ := C
  cases hf
  exact lv_ldcw hx hb1 hown (hts _ (ai_kl_of hok)) hd (hG H locs lsC hl hw)
theorem s_ldc2 : ai_Snd ai_lcon (fun _ _ c _ => (.ldc2_w c, 3)) (fun m _ _ c z => ai_JL.any (fun e => e.1 == ai_mo m && (e.2.1 == c && decide (e.2.2.1 = z)))) := by
  intro bA base dC dI ca S p l e R s m args below meth c Q k n0 z0 pc a b d z ls st h ls' st' h' C hd hok hf hb hG H locs lsC hl hw
  obtain ⟨hx, hb1, hown, hts, hK, hX, hbl, hn0, hini, hfr, hlo⟩ := C
  cases hf
  obtain ⟨x, hx2, h1⟩ := List.any_eq_true.mp hok
  simp only [Bool.and_eq_true, beq_iff_eq, decide_eq_true_eq] at h1
  obtain ⟨e1, e2, e3⟩ := h1
  have h2 := ai_all ai_JL_ok hx2
  unfold ai_jl1 at h2
  rw [e1, e2, e3] at h2
  exact lv_ldc2 hx hb1 hown (hts _ (ai_at_in h2)) hd (hG H locs lsC hl hw)
-- Object.<init>, Math.min, Math.max
theorem ai_wl_of : Cond.arrayClass .int ∈ ai_TB ∧ Cond.arrayClass .boolean ∈ ai_TB ∧ Cond.instanceMethod objectInit ∈ ai_TB ∧ Cond.code objectInit ⟨#[0xb1]⟩ 1 none ∈ ai_TB := by
  have h := ai_WL_ok
  simp only [Bool.and_eq_true] at h
  exact ⟨ai_at_in h.1, ai_at_in h.2.1, ai_at_in h.2.2.1, ai_at_in h.2.2.2⟩
theorem s_obj : ai_Snd ai_obj (fun _ _ c _ => (.invokespecial c, 3)) (fun m _ _ c _ => ai_OL.any (fun e => e.1 == ai_mo m && e.2.1 == c) && decide (1 ≤ ai_fr m ∧ 20 ≤ ai_lo m)) := by
  intro bA base dC dI ca S p l e R s m args below meth c Q k n0 z0 pc a b d z ls st h ls' st' h' C hd hok hf hb hG H locs lsC hl hw
  obtain ⟨hx, hb1, hown, hts, hK, hX, hbl, hn0, hini, hfr, hlo⟩ := C
  simp only [Bool.and_eq_true, decide_eq_true_eq] at hok
  obtain ⟨x, hx2, h1⟩ := List.any_eq_true.mp hok.1
  simp only [Bool.and_eq_true, beq_iff_eq] at h1
  have h2 := ai_all ai_OL_ok hx2
  unfold ai_ol1 at h2
  rw [h1.1, h1.2] at h2
  unfold ai_obj at hf
  split at hf
  · rename_i q st0
    split at hf
    · rename_i hsum
      cases hf
      have hsum2 : (((st').map (ai_cv bA base)).map fun v => v.category).sum ≤ 8 := by
        rw [List.map_map]
        have : ((fun v => v.category) ∘ ai_cv bA base) = fun v : Value => v.category := by funext v; exact ai_cv_cat bA base v
        rw [this]
        exact hsum
      refine W.objInit hx hb1 hown (hts _ (ai_at_in h2)) (hts _ ai_wl_of.2.2.1) (hts _ ai_wl_of.2.2.2) rfl ?_ rfl hd (Nat.le_trans hok.2.1 hfr) ?_ (hG H locs lsC hl hw)
      · show lsC.size = c.maxLocals
        rw [hl.2.2.1, hl.1]
      · have h3 := lv_room (m := m) (pc := pc) (ls := lsC) (rest := (Value.ref q :: st').map (ai_cv bA base)) hsum2
        have h4 := hok.2.2
        omega
    · cases hf
  · cases hf
theorem ai_catsum (bA base : Nat) (st : List Value) : (((st).map (ai_cv bA base)).map fun v => v.category).sum = (st.map fun v => v.category).sum := by
  rw [List.map_map]
  have : ((fun v => v.category) ∘ ai_cv bA base) = fun v : Value => v.category := by funext v; exact ai_cv_cat bA base v
  rw [this]
theorem ai_yl_of : Cond.static Lib.Math.min.name ∈ ai_TB ∧ Cond.static Lib.Math.max.name ∈ ai_TB ∧ Cond.initialized "java/lang/Math" ∈ ai_TB := by
  have h := ai_YL_ok
  simp only [Bool.and_eq_true] at h
  exact ⟨ai_at_in h.1, ai_at_in h.2.1, ai_at_in h.2.2⟩
theorem ai_xl_of {m c j : Nat} (h : ai_XL.any (fun e => e.1 == ai_mo m && (e.2.1 == c && e.2.2.1 == j)) = true) : Cond.methodLink (ai_own (ai_mo m)) c (if j = 0 then Lib.Math.min.name else Lib.Math.max.name) ∈ ai_TB := by
  obtain ⟨x, hx, h1⟩ := List.any_eq_true.mp h
  simp only [Bool.and_eq_true, beq_iff_eq] at h1
  obtain ⟨e1, e2, e3⟩ := h1
  have h2 := ai_all ai_XL_ok hx
  unfold ai_xl1 at h2
  rw [e1, e2, e3] at h2
  exact ai_at_in h2
theorem ai_cwm : Cond.code Lib.Math.min.name Lib.Math.min.code 2 (some .int) ∈ ai_TB ∧ Cond.code Lib.Math.max.name Lib.Math.max.code 2 (some .int) ∈ ai_TB :=
  ⟨List.mem_filter.mpr ⟨List.mem_of_getElem? ai_cw_min, rfl⟩, List.mem_filter.mpr ⟨List.mem_of_getElem? ai_cw_max, rfl⟩⟩
theorem s_min : ai_Snd (ai_mm (fun x y => if y < x then y else x)) (fun _ _ c _ => (.invokestatic c, 3)) (fun m _ _ c _ => ai_XL.any (fun e => e.1 == ai_mo m && (e.2.1 == c && e.2.2.1 == 0)) && decide (1 ≤ ai_fr m ∧ 20 ≤ ai_lo m)) := by
  intro bA base dC dI ca S p l e R s m args below meth c Q k n0 z0 pc a b d z ls st h ls' st' h' C hd hok hf hb hG H locs lsC hl hw
  obtain ⟨hx, hb1, hown, hts, hK, hX, hbl, hn0, hini, hfr, hlo⟩ := C
  simp only [Bool.and_eq_true, decide_eq_true_eq] at hok
  unfold ai_mm at hf
  split at hf
  · rename_i y x st0
    split at hf
    · rename_i hsum
      cases hf
      have h2 := ai_xl_of hok.1
      rw [if_pos rfl] at h2
      refine va_mmin hx hb1 (by rw [hl.2.2.1, hl.1]) hown (hts _ h2) (hts _ ai_yl_of.1) (hts _ ai_yl_of.2.2) (hts _ ai_cwm.1) (Nat.le_trans hok.2.1 hfr) ?_ hb.2.2.1 hb.2.2.2 hd (hG H locs lsC hl hw)
      rw [ai_catsum]
      omega
    · cases hf
  · cases hf
theorem s_max : ai_Snd (ai_mm (fun x y => if x < y then y else x)) (fun _ _ c _ => (.invokestatic c, 3)) (fun m _ _ c _ => ai_XL.any (fun e => e.1 == ai_mo m && (e.2.1 == c && e.2.2.1 == 1)) && decide (1 ≤ ai_fr m ∧ 20 ≤ ai_lo m)) := by
  intro bA base dC dI ca S p l e R s m args below meth c Q k n0 z0 pc a b d z ls st h ls' st' h' C hd hok hf hb hG H locs lsC hl hw
  obtain ⟨hx, hb1, hown, hts, hK, hX, hbl, hn0, hini, hfr, hlo⟩ := C
  simp only [Bool.and_eq_true, decide_eq_true_eq] at hok
  unfold ai_mm at hf
  split at hf
  · rename_i y x st0
    split at hf
    · rename_i hsum
      cases hf
      have h2 := ai_xl_of hok.1
      rw [if_neg (by decide)] at h2
      refine va_mmax hx hb1 (by rw [hl.2.2.1, hl.1]) hown (hts _ h2) (hts _ ai_yl_of.2.1) (hts _ ai_yl_of.2.2) (hts _ ai_cwm.2) (Nat.le_trans hok.2.1 hfr) ?_ hb.2.2.1 hb.2.2.2 hd (hG H locs lsC hl hw)
      rw [ai_catsum]
      omega
    · cases hf
  · cases hf
end
section
/-! the steps that touch the heap -/
theorem ai_gf_of {h : ai_H} {q ci k : Nat} {v : Value} (hf : ai_gf h q ci k = some v) : ∃ (j : Nat) (fs : List Value), q = j + 1 ∧ h[j]? = some (.inr (ci, fs)) ∧ fs[k]? = some v := by
  unfold ai_gf at hf
  split at hf
  · rename_i c fs hc
    split at hf
    · rename_i he
      subst he
      cases q with
      | zero => cases hc
      | succ j => exact ⟨j, fs, rfl, hc, hf⟩
    · cases hf
  · cases hf
theorem s_get : ai_Snd ai_get (fun _ _ c _ => (.getfield c, 3)) (fun m a b c _ => ai_okF m a b c) := by
  intro bA base dC dI ca S p l e R s m args below meth c Q k n0 z0 pc a b d z ls st h ls' st' h' C hd hok hf hb hG H locs lsC hl hw
  obtain ⟨hx, hb1, hown, hts, hK, hX, hbl, hn0, hini, hfr, hlo⟩ := C
  unfold ai_get at hf
  split at hf
  · split at hf
    · rename_i v hv
      cases hf
      obtain ⟨j, fs, rfl, h1, h2⟩ := ai_gf_of hv
      obtain ⟨f1, f2, f3⟩ := ai_okF_of hok
      exact va_get hx hb1 hts (ai_uws f1).1 hown hK.1 hw.1 j (ai_cw_at h1) (ai_vwCl f1) b f2 (hts _ f3) (fun _ h9 => h9) (v := ai_cv bA base v) (by rw [List.getElem?_map, h2]; rfl) hd (hG H locs lsC hl hw)
    · cases hf
  · cases hf
theorem ai_pf_of {h h' : ai_H} {q ci k : Nat} {v : Value} (hf : ai_pf h q ci k v = some h') : ∃ (j : Nat) (fs : List Value), q = j + 1 ∧ h[j]? = some (.inr (ci, fs)) ∧ k < fs.length ∧ h' = h.set j (.inr (ci, fs.set k v)) := by
  unfold ai_pf at hf
  split at hf
  · rename_i c fs hc
    split at hf
    · rename_i he
      obtain ⟨e1, e2⟩ := he
      subst e1
      cases q with
      | zero => cases hc
      | succ j => cases hf; exact ⟨j, fs, rfl, hc, e2, rfl⟩
    · cases hf
  · cases hf
/-- a field is written: what the kit's row gives is the new abstract heap's world -/
theorem ai_put_w {bA base : Nat} {ca : Nat → ClassId} {h : ai_H} {j ci k : Nat} {fs : List Value} {v : Value} : (ai_cw bA base ca h).set j (base + j, .inr (ci, (fs.map (ai_cv bA base)).set k (ai_cv bA base v))) = ai_cw bA base ca (h.set j (.inr (ci, fs.set k v))) := by
  rw [← ai_cw_set]
  show _ = (ai_cw bA base ca h).set j (base + j, .inr (ci, (fs.set k v).map (ai_cv bA base)))
  rw [List.map_set]
theorem ai_put {bA base : Nat} {dC : Nat → ClassId} {dI : Nat → Nat → Nat} {ca : Nat → ClassId} {S : ai_S} {p : Program} {l : Launch} {e : Env} {R : Room} {s : State} {m : MethodId} {args : Array Value} {below : List Frame} {meth : Method} {c : Code} {Q : State → Prop} {k n0 z0 pc a b d : Nat} {ls st : List Value} {h h' : ai_H} {q : Nat} {v : Value}
    (C : ai_CX bA base dC dI ca S p R s m args meth c k n0) (hd : decode (ai_c k) pc = .ok (.putfield d, 3)) {fin : Bool} {tyP : FieldType → Bool} (hok : ai_okP tyP fin k a b d 0 = true) (hf : ai_pf h q a b v = some h') (hty : ∀ t, tyP t = true → narrow t (ai_cv bA base v) = ai_cv bA base v ∧ fits t (ai_cv bA base v) = true)
    (hG : ai_G bA base dC dI ca p l e R s m args below meth c Q n0 z0 (pc + 3) ls st h') : ai_G bA base dC dI ca p l e R s m args below meth c Q n0 z0 pc ls (v :: .ref q :: st) h := by
  intro H locs lsC hl hw
  obtain ⟨hx, hb1, hown, hts, hK, hX, hbl, hn0, hini, hfr, hlo⟩ := C
  obtain ⟨j, fs, rfl, h1, h2, rfl⟩ := ai_pf_of hf
  unfold ai_okP at hok
  simp only [Bool.and_eq_true, beq_iff_eq, Bool.or_eq_true, Bool.not_eq_true', decide_eq_true_eq] at hok
  obtain ⟨o1, o2, o3, o4⟩ := hok
  obtain ⟨f1, f2, f3⟩ := ai_okF_of o1
  obtain ⟨g1, g2⟩ := hty _ o2
  have hz : ai_sz (h.set j (.inr (a, fs.set b v))) = ai_sz h := ai_sz_set h1 (by show (fs.set b v).length = fs.length; rw [List.length_set])
  have hln : (h.set j (.inr (a, fs.set b v))).length = h.length := List.length_set
  unfold ai_G at hG
  rw [hz, hln] at hG
  have hkk : ∀ (H1 : Heap) (locs1 : List Loc), va_P (dC, dI) vwCl ((ai_cw bA base ca h).set j (base + j, .inr (a, (fs.map (ai_cv bA base)).set b (ai_cv bA base v)))) H1 → va_D (fun q : Nat => base ≤ q) ((ai_cw bA base ca h).set j (base + j, .inr (a, (fs.map (ai_cv bA base)).set b (ai_cv bA base v)))) → va_S (fun q : Nat => base ≤ q) s.heap H1 locs1 → W p l e R s m args below meth c H1 locs1 (h.length - n0) (ai_sz h - z0) Q (F0 m (pc + 3) lsC (st.map (ai_cv bA base))) := by
    intro H1 locs1 hP1 _ hS1
    rw [ai_put_w] at hP1
    exact hG H1 locs1 lsC hl ⟨hP1, hS1⟩
  have hlen : b < (fs.map (ai_cv bA base)).length := by rw [List.length_map]; exact h2
  cases fin with
  | false =>
    exact va_put hx hb1 hts (ai_uws f1).1 (ai_fty a) (ai_tyok f1) (ai_nm f1) hown hK.1 hw.1 (ai_D bA base ca h) hw.2 j (ai_cw_at h1) (ai_vwCl f1) b f2 (hts _ f3) (fun _ h9 => h9) o3 (ai_tyok f1 b f2) g1 g2 hlen hd hkk
  | true =>
    have o5 := o4.resolve_left (by intro z; cases z)
    exact va_putF hx hb1 hts (ai_uws f1).1 (ai_fty a) (ai_tyok f1) (ai_nm f1) hown hK.1 hw.1 (ai_D bA base ca h) hw.2 j (ai_cw_at h1) (ai_vwCl f1) b f2 (hts _ f3) (fun _ h9 => h9) o3 (hini o5.1) o5.2 (ai_tyok f1 b f2) g1 g2 hlen hd hkk
theorem s_putI : ai_Snd ai_putI (fun _ _ c _ => (.putfield c, 3)) (ai_okP (fun t => decide (t = .int)) false) := by
  intro bA base dC dI ca S p l e R s m args below meth c Q k n0 z0 pc a b d z ls st h ls' st' h' C hd hok hf hb hG
  unfold ai_putI at hf
  split at hf
  · split at hf
    · rename_i h2 hv
      cases hf
      exact ai_put (tyP := fun t => decide (t = .int)) C hd hok hv (fun t ht => by have ht := of_decide_eq_true (p := t = FieldType.int) ht; subst ht; exact ⟨rfl, rfl⟩) hG
    · cases hf
  · cases hf
theorem ai_z0 : narrow .boolean (.int 0) = .int 0 ∧ fits .boolean (.int 0) = true := by decide
theorem ai_z1 : narrow .boolean (.int 1) = .int 1 ∧ fits .boolean (.int 1) = true := by decide
theorem s_putZ : ai_Snd ai_putZ (fun _ _ c _ => (.putfield c, 3)) (ai_okP (fun t => decide (t = .boolean)) false) := by
  intro bA base dC dI ca S p l e R s m args below meth c Q k n0 z0 pc a b d z ls st h ls' st' h' C hd hok hf hb hG
  unfold ai_putZ at hf
  split at hf
  · split at hf
    · rename_i hz
      split at hf
      · rename_i h2 hv
        cases hf
        exact ai_put (tyP := fun t => decide (t = .boolean)) C hd hok hv (fun t ht => by
          have ht := of_decide_eq_true (p := t = FieldType.boolean) ht
          subst ht
          rcases hz with rfl | rfl
          · exact ai_z0
          · exact ai_z1) hG
      · cases hf
    · cases hf
  · cases hf
theorem s_putJ : ai_Snd ai_putJ (fun _ _ c _ => (.putfield c, 3)) (ai_okP (fun t => decide (t = .long)) false) := by
  intro bA base dC dI ca S p l e R s m args below meth c Q k n0 z0 pc a b d z ls st h ls' st' h' C hd hok hf hb hG
  unfold ai_putJ at hf
  split at hf
  · split at hf
    · rename_i h2 hv
      cases hf
      exact ai_put (tyP := fun t => decide (t = .long)) C hd hok hv (fun t ht => by have ht := of_decide_eq_true (p := t = FieldType.long) ht; subst ht; exact ⟨rfl, rfl⟩) hG
    · cases hf
  · cases hf
theorem ai_isR_of {t : FieldType} (h : ai_isR t = true) (q : Nat) : narrow t (.ref q) = .ref q ∧ fits t (.ref q) = true := by
  cases t <;> first | exact ⟨rfl, rfl⟩ | cases h
theorem s_putR (fin : Bool) : ai_Snd ai_putR (fun _ _ c _ => (.putfield c, 3)) (ai_okP ai_isR fin) := by
  intro bA base dC dI ca S p l e R s m args below meth c Q k n0 z0 pc a b d z ls st h ls' st' h' C hd hok hf hb hG
  unfold ai_putR at hf
  split at hf
  · split at hf
    · rename_i h2 hv
      cases hf
      exact ai_put C hd hok hv (fun t ht => ai_isR_of ht _) hG
    · cases hf
  · cases hf
theorem ai_ia_of {h : ai_H} {q t n : Nat} {f : Nat → Int32} (hf : ai_ia h q t = some (n, f)) : ∃ j : Nat, q = j + 1 ∧ h[j]? = some (.inl (t, n, .inl f)) := by
  unfold ai_ia at hf
  split at hf
  · rename_i t' n' f' hc
    split at hf
    · rename_i he
      subst he
      cases q with
      | zero => cases hc
      | succ j => cases hf; exact ⟨j, rfl, hc⟩
    · cases hf
  · cases hf
theorem ai_pa_of {h h' : ai_H} {q t : Nat} {f' : Nat → Int32} (hf : ai_pa h q t f' = some h') : ∃ (j n : Nat) (f : Nat → Int32), q = j + 1 ∧ h[j]? = some (.inl (t, n, .inl f)) ∧ h' = h.set j (.inl (t, n, .inl f')) := by
  unfold ai_pa at hf
  split at hf
  · rename_i t' n' f0 hc
    split at hf
    · rename_i he
      subst he
      cases q with
      | zero => cases hc
      | succ j => cases hf; exact ⟨j, n', f0, rfl, hc, rfl⟩
    · cases hf
  · cases hf
theorem s_iald : ai_Snd ai_iald (fun _ _ _ _ => (.iaload, 1)) ai_okT := by
  intro bA base dC dI ca S p l e R s m args below meth c Q k n0 z0 pc a b d z ls st h ls' st' h' C hd hok hf hb hG H locs lsC hl hw
  obtain ⟨hx, hb1, hown, hts, hK, hX, hbl, hn0, hini, hfr, hlo⟩ := C
  unfold ai_iald at hf
  split at hf
  · split at hf
    · cases hf
    · rename_i i st0 hi
      cases hf
      exact va_sld hx hb1 hX (by omega) (by show ¬ base ≤ bA; omega) hw.2 hi hd (hG H locs lsC hl hw)
  · split at hf
    · rename_i n f hv
      split at hf
      · cases hf
      · rename_i hi
        cases hf
        obtain ⟨j, rfl, h1⟩ := ai_ia_of hv
        exact va_iald hx hb1 hK.1 hw.1 j 0 (ai_cw_at h1) rfl hi hd (hG H locs lsC hl hw)
    · cases hf
  · cases hf
theorem s_bald : ai_Snd ai_bald (fun _ _ _ _ => (.baload, 1)) ai_okT := by
  intro bA base dC dI ca S p l e R s m args below meth c Q k n0 z0 pc a b d z ls st h ls' st' h' C hd hok hf hb hG H locs lsC hl hw
  obtain ⟨hx, hb1, hown, hts, hK, hX, hbl, hn0, hini, hfr, hlo⟩ := C
  unfold ai_bald at hf
  split at hf
  · split at hf
    · rename_i n f hv
      split at hf
      · cases hf
      · rename_i hi
        cases hf
        obtain ⟨j, rfl, h1⟩ := ai_ia_of hv
        exact va_zald hx hb1 hK.1 hw.1 j 1 (ai_cw_at h1) rfl hi hd (hG H locs lsC hl hw)
    · cases hf
  · cases hf
theorem s_iast : ai_Snd ai_iast (fun _ _ _ _ => (.iastore, 1)) ai_okT := by
  intro bA base dC dI ca S p l e R s m args below meth c Q k n0 z0 pc a b d z ls st h ls' st' h' C hd hok hf hb hG H locs lsC hl hw
  obtain ⟨hx, hb1, hown, hts, hK, hX, hbl, hn0, hini, hfr, hlo⟩ := C
  unfold ai_iast at hf
  split at hf
  · split at hf
    · rename_i n f hv
      split at hf
      · cases hf
      · rename_i hi
        split at hf
        · rename_i h2 hp
          cases hf
          obtain ⟨j, rfl, h1⟩ := ai_ia_of hv
          obtain ⟨j2, n2, f2, e1, h3, rfl⟩ := ai_pa_of hp
          have e2 : j2 = j := by omega
          subst e2
          rw [h1] at h3
          cases h3
          unfold ai_G at hG
          have hz : ∀ g, ai_sz (h.set j2 (.inl (0, n, .inl g))) = ai_sz h := fun g => ai_sz_set h1 rfl
          rw [hz, List.length_set] at hG
          refine va_iast hx hb1 hK.1 hw.1 (ai_D bA base ca h) hw.2 j2 0 (ai_cw_at h1) rfl hi hd (fun H1 locs1 hP1 _ hS1 => hG H1 locs1 lsC hl ⟨?_, hS1⟩)
          rw [← ai_cw_set]
          exact hP1
        · cases hf
    · cases hf
  · cases hf
theorem s_bast : ai_Snd ai_bast (fun _ _ _ _ => (.bastore, 1)) ai_okT := by
  intro bA base dC dI ca S p l e R s m args below meth c Q k n0 z0 pc a b d z ls st h ls' st' h' C hd hok hf hb hG H locs lsC hl hw
  obtain ⟨hx, hb1, hown, hts, hK, hX, hbl, hn0, hini, hfr, hlo⟩ := C
  unfold ai_bast at hf
  split at hf
  · split at hf
    · rename_i n f hv
      split at hf
      · cases hf
      · rename_i hi
        split at hf
        · rename_i h2 hp
          cases hf
          obtain ⟨j, rfl, h1⟩ := ai_ia_of hv
          obtain ⟨j2, n2, f2, e1, h3, rfl⟩ := ai_pa_of hp
          have e2 : j2 = j := by omega
          subst e2
          rw [h1] at h3
          cases h3
          unfold ai_G at hG
          have hz : ∀ g, ai_sz (h.set j2 (.inl (1, n, .inl g))) = ai_sz h := fun g => ai_sz_set h1 rfl
          rw [hz, List.length_set] at hG
          refine va_zast hx hb1 hK.1 hw.1 (ai_D bA base ca h) hw.2 j2 1 (ai_cw_at h1) rfl hi hd (fun H1 locs1 hP1 _ hS1 => hG H1 locs1 lsC hl ⟨?_, hS1⟩)
          rw [← ai_cw_set]
          exact hP1
        · cases hf
    · cases hf
  · cases hf
theorem ai_ra_of {h : ai_H} {q n : Nat} {f : Nat → Option Nat} (hf : ai_ra h q = some (n, f)) : ∃ j : Nat, q = j + 1 ∧ h[j]? = some (.inl (2, n, .inr (.inr (.inr (.inr f))))) := by
  unfold ai_ra at hf
  split at hf
  · rename_i t' n' f' hc
    split at hf
    · rename_i he
      subst he
      cases q with
      | zero => cases hc
      | succ j => cases hf; exact ⟨j, rfl, hc⟩
    · cases hf
  · cases hf
theorem ai_pra_of {h h' : ai_H} {q : Nat} {f' : Nat → Option Nat} (hf : ai_pra h q f' = some h') : ∃ (j n : Nat) (f : Nat → Option Nat), q = j + 1 ∧ h[j]? = some (.inl (2, n, .inr (.inr (.inr (.inr f))))) ∧ h' = h.set j (.inl (2, n, .inr (.inr (.inr (.inr f'))))) := by
  unfold ai_pra at hf
  split at hf
  · rename_i t' n' f0 hc
    split at hf
    · rename_i he
      subst he
      cases q with
      | zero => cases hc
      | succ j => cases hf; exact ⟨j, n', f0, rfl, hc, rfl⟩
    · cases hf
  · cases hf
theorem ai_io_of {h : ai_H} {q ci : Nat} (hf : ai_io h q ci = true) : ∃ (j : Nat) (fs : List Value), q = j + 1 ∧ h[j]? = some (.inr (ci, fs)) := by
  unfold ai_io at hf
  split at hf
  · rename_i c fs hc
    have he := eq_of_beq hf
    subst he
    cases q with
    | zero => cases hc
    | succ j => exact ⟨j, fs, rfl, hc⟩
  · cases hf
theorem ai_cv_rf (bA base : Nat) (r : Option Nat) : ai_cv bA base (va_rf r) = va_rf (r.map (ai_ad bA base)) := by cases r <;> rfl
theorem s_aald : ai_Snd ai_aald (fun _ _ _ _ => (.aaload, 1)) ai_okT := by
  intro bA base dC dI ca S p l e R s m args below meth c Q k n0 z0 pc a b d z ls st h ls' st' h' C hd hok hf hb hG H locs lsC hl hw
  obtain ⟨hx, hb1, hown, hts, hK, hX, hbl, hn0, hini, hfr, hlo⟩ := C
  unfold ai_aald at hf
  split at hf
  · split at hf
    · rename_i n f hv
      split at hf
      · cases hf
      · rename_i hi
        cases hf
        obtain ⟨j, rfl, h1⟩ := ai_ra_of hv
        have h2 := hG H locs lsC hl hw
        rw [List.map_cons, ai_cv_rf] at h2
        exact va_aldq hx hb1 hK.1 hw.1 j 2 (ai_cw_at h1) rfl hi hd h2
    · cases hf
  · cases hf
theorem ai_ce_up (bA base : Nat) (ca : Nat → ClassId) (n i v : Nat) (f : Nat → Option Nat) : ai_ce bA base ca (.inl (2, n, .inr (.inr (.inr (.inr (va_up f i (some (v + 1)))))))) = .inl (ca 2, n, .inr (.inr (.inr (.inr (va_up (fun j => (f j).map (ai_ad bA base)) i (some (base + v))))))) := by
  have h : (fun j => ((va_up f i (some (v + 1))) j).map (ai_ad bA base)) = va_up (fun j => (f j).map (ai_ad bA base)) i (some (base + v)) := by
    funext j
    unfold va_up
    split
    · rfl
    · rfl
  rw [← h]
  rfl
theorem s_aast : ai_Snd ai_aast (fun _ _ _ _ => (.aastore, 1)) ai_okT := by
  intro bA base dC dI ca S p l e R s m args below meth c Q k n0 z0 pc a b d z ls st h ls' st' h' C hd hok hf hb hG H locs lsC hl hw
  obtain ⟨hx, hb1, hown, hts, hK, hX, hbl, hn0, hini, hfr, hlo⟩ := C
  unfold ai_aast at hf
  split at hf
  · split at hf
    · rename_i n f hv
      split at hf
      · cases hf
      · rename_i hi
        split at hf
        · rename_i hio
          split at hf
          · rename_i h2 hp
            cases hf
            obtain ⟨j, rfl, h1⟩ := ai_ra_of hv
            obtain ⟨j2, n2, f2, e1, h3, rfl⟩ := ai_pra_of hp
            obtain ⟨jv, fsv, rfl, h4⟩ := ai_io_of hio
            have e2 : j2 = j := by omega
            subst e2
            rw [h1] at h3
            cases h3
            unfold ai_G at hG
            have hz : ∀ g, ai_sz (h.set j2 (.inl (2, n, .inr (.inr (.inr (.inr g)))))) = ai_sz h := fun g => ai_sz_set h1 rfl
            rw [hz, List.length_set] at hG
            refine va_astq (r := (RX1, TX1, 8)) hx hb1 hK.1 hw.1 (ai_D bA base ca h) hw.2 j2 2 jv 1 (ai_cw_at h1) rfl (ai_cw_at h4) rfl hi hd (fun H1 locs1 hP1 _ hS1 => hG H1 locs1 lsC hl ⟨?_, hS1⟩)
            rw [← ai_cw_set]
            rw [ai_ce_up]
            exact hP1
          · cases hf
        · cases hf
    · cases hf
  · cases hf
theorem s_len : ai_Snd ai_len (fun _ _ _ _ => (.arraylength, 1)) ai_okT := by
  intro bA base dC dI ca S p l e R s m args below meth c Q k n0 z0 pc a b d z ls st h ls' st' h' C hd hok hf hb hG H locs lsC hl hw
  obtain ⟨hx, hb1, hown, hts, hK, hX, hbl, hn0, hini, hfr, hlo⟩ := C
  unfold ai_len at hf
  split at hf
  · cases hf
    exact va_slen (b := bA) hx hb1 hX (by omega) (by show ¬ base ≤ bA; omega) hw.2 hd (hG H locs lsC hl hw)
  · rename_i q st0 hq
    split at hf
    · rename_i t n y hv
      split at hf
      · rename_i ht
        cases hf
        cases q with
        | zero => cases hv
        | succ j =>
          have h1 : h[j]? = some (.inl (t, n, y)) := hv
          have h2 : ∃ y' : (Nat → Int32) ⊕ (Nat → Int64) ⊕ (Nat → UInt32) ⊕ (Nat → UInt64) ⊕ (Nat → Option Nat), ai_ce bA base ca (.inl (t, n, y)) = .inl (ca t, n, y') := by
            rcases y with y | y | y | y | y
            · exact ⟨_, rfl⟩
            · exact ⟨_, rfl⟩
            · exact ⟨_, rfl⟩
            · exact ⟨_, rfl⟩
            · exact ⟨_, rfl⟩
          obtain ⟨y', h2⟩ := h2
          have h3 := ai_cw_at (bA := bA) (base := base) (ca := ca) h1
          rw [h2] at h3
          have h4 : ∃ ty, (ai_tys ca)[t]? = some (ca t, ty) := by
            match t, ht with
            | 0, _ => exact ⟨_, rfl⟩
            | 1, _ => exact ⟨_, rfl⟩
            | 2, _ => exact ⟨_, rfl⟩
          obtain ⟨ty, h4⟩ := h4
          exact va_alen hx hb1 hK.1 hw.1 j t h3 h4 rfl hd (hG H locs lsC hl hw)
      · cases hf
    · cases hf
  · cases hf
end
section
/-! the steps that make cells; all steps together -/
theorem ai_size {bA base : Nat} {dC : Nat → ClassId} {dI : Nat → Nat → Nat} {ca : Nat → ClassId} {p : Program} {l : Launch} {e : Env} {R : Room} {s : State} {m : MethodId} {args : Array Value} {below : List Frame} {meth : Method} {c : Code} {Q : State → Prop} {n0 slots : Nat} {h : ai_H} {H : Heap} {locs : List Loc} {g : JFrame}
    (hn0 : s.heap.size = base + n0) (hle : n0 ≤ h.length) (hw : ai_Wd bA base dC dI ca s h H locs) (kk : H.size = base + h.length → W p l e R s m args below meth c H locs (h.length - n0) slots Q g) : W p l e R s m args below meth c H locs (h.length - n0) slots Q g := by
  intro T hT X
  refine kk ?_ T hT X
  obtain ⟨-, h2, h1, -⟩ := X.same
  have e1 : (T.setVm s.vm).heap = H := hT
  rw [e1] at h1 h2
  by_cases hz : h.length = 0
  · omega
  · have hk : h.length - 1 < h.length := by omega
    have h3 := ai_cw_at (bA := bA) (base := base) (ca := ca) (List.getElem?_eq_getElem hk)
    have h4 := (hw.1 _ _ h3).lt
    dsimp only at h4
    omega
abbrev ai_xI (t n : Nat) : va_E := .inl (t, n, .inl (fun _ => 0))
abbrev ai_xR (n : Nat) : va_E := .inl (2, n, .inr (.inr (.inr (.inr (fun _ => none)))))
abbrev ai_xO (a : Nat) : va_E := .inr (a, ai_fresh a)
theorem ai_newa_G {bA base : Nat} {dC : Nat → ClassId} {dI : Nat → Nat → Nat} {ca : Nat → ClassId} {S : ai_S} {p : Program} {l : Launch} {e : Env} {R : Room} {s : State} {m : MethodId} {args : Array Value} {below : List Frame} {meth : Method} {c : Code} {Q : State → Prop} {k n0 z0 pc : Nat} {ls st : List Value} {h : ai_H} {n : Int32}
    (C : ai_CX bA base dC dI ca S p R s m args meth c k n0) (t : Nat) (aty : ArrayType) (hty : (ai_tys ca)[t]? = some (ca t, newarray.typeOf aty)) (harr : Cond.arrayClass (newarray.typeOf aty) ∈ ai_TB) (hra : ∀ (U : State) (cA : ClassId), va_RA U cA (newarray.typeOf aty) → U.vm.findClass ("[" ++ (newarray.typeOf aty).toString) = some cA) (hdv : defaultValue (newarray.typeOf aty) = .int 0) (hcb : componentBytes (newarray.typeOf aty) ≤ 8)
    (hd : decode (ai_c k) pc = .ok (.newarray aty, 2)) (hn : ¬ (n < 0 ∨ 1000 < n.toNatClampNeg)) (hb : n0 ≤ h.length ∧ z0 ≤ ai_sz h ∧ (h ++ [ai_xI t n.toNatClampNeg]).length - n0 ≤ R.cells ∧ ai_sz (h ++ [ai_xI t n.toNatClampNeg]) - z0 ≤ R.slots)
    (hG : ai_G bA base dC dI ca p l e R s m args below meth c Q n0 z0 (pc + 2) ls (.ref (h.length + 1) :: st) (h ++ [ai_xI t n.toNatClampNeg])) : ai_G bA base dC dI ca p l e R s m args below meth c Q n0 z0 pc ls (.int n :: st) h := by
  intro H locs lsC hl hw
  obtain ⟨hx, hb1, hown, hts, hK, hX, hbl, hn0, hini, hfr, hlo⟩ := C
  obtain ⟨b1, b2, b3, b4⟩ := hb
  rw [List.length_append, List.length_singleton] at b3
  rw [ai_sz_app] at b4
  change ai_sz h + n.toNatClampNeg - z0 ≤ R.slots at b4
  refine ai_size hn0 b1 hw (fun hsz => ?_)
  refine va_newaK hx hb1 (hts _ harr) (g := F0 m pc lsC (.int n :: st.map (ai_cv bA base))) rfl hd rfl (fun z => hn (Or.inl z)) rfl ?_ (by omega) (by omega) hsz (fun H1 cA e1 z1 o1 hAr hNm => ?_)
  · have h9 : n.toNatClampNeg ≤ 1000 := Nat.le_of_not_lt (fun z => hn (Or.inr z))
    have h10 := Nat.mul_le_mul h9 hcb
    exact Nat.le_trans h10 (by decide)
  · have hca : cA = ca t := by
      have h5 := hra s (ca t) (hK.1.2 t _ hty).2
      rw [hNm] at h5
      exact Option.some.inj h5
    subst hca
    have hk : ∀ (j : Nat) (x : Nat × va_E), (ai_cw bA base ca h)[j]? = some x → H1[x.1]? = H[x.1]? := fun j x hx => o1 x.1 (by rw [← hsz]; exact (hw.1 j x hx).lt)
    refine W.cs (cells' := (h ++ [ai_xI t n.toNatClampNeg]).length - n0) (slots' := ai_sz (h ++ [ai_xI t n.toNatClampNeg]) - z0) (by rw [List.length_append, List.length_singleton]; omega) (by rw [ai_sz_app]; show ai_sz h - z0 + n.toNatClampNeg = ai_sz h + n.toNatClampNeg - z0; omega) ?_
    refine hG H1 locs lsC hl ⟨?_, ?_, fun q h1 h2 => ?_, hw.2.2.2⟩
    · rw [ai_cw_app]
      refine (hw.1.kept hk).app (fun j x hx => ?_)
      have hz : j < 1 := (List.getElem?_eq_some_iff.mp hx).1
      rw [show j = 0 by omega] at hx
      cases hx
      show H1[base + h.length]? = some (arrV (ca t) n.toNatClampNeg (fun _ => .int 0))
      rw [hdv] at e1
      exact e1
    · have := hw.2.1
      omega
    · have h7 := hw.2.1
      rw [o1 q (by omega)]
      exact hw.2.2.1 q h1 h2
theorem s_newi : ai_Snd (ai_newa 0) (fun _ _ _ _ => (.newarray .int, 2)) ai_okT := by
  intro bA base dC dI ca S p l e R s m args below meth c Q k n0 z0 pc a b d z ls st h ls' st' h' C hd hok hf hb hG
  unfold ai_newa at hf
  split at hf
  · split at hf
    · cases hf
    · rename_i hn
      cases hf
      exact ai_newa_G C 0 .int rfl ai_wl_of.1 (fun _ _ h => h) rfl (by decide) hd hn hb hG
  · cases hf
theorem s_newz : ai_Snd (ai_newa 1) (fun _ _ _ _ => (.newarray .boolean, 2)) ai_okT := by
  intro bA base dC dI ca S p l e R s m args below meth c Q k n0 z0 pc a b d z ls st h ls' st' h' C hd hok hf hb hG
  unfold ai_newa at hf
  split at hf
  · split at hf
    · cases hf
    · rename_i hn
      cases hf
      exact ai_newa_G C 1 .boolean rfl ai_wl_of.2.1 (fun _ _ h => h) rfl (by decide) hd hn hb hG
  · cases hf
theorem ai_nl_of {m c a : Nat} (h : ai_NL.any (fun e => e.1 == ai_mo m && (e.2.1 == c && e.2.2.1 == a)) = true) : a < 7 ∧ Cond.classLink (ai_own (ai_mo m)) c (ai_cl a).1 ∈ ai_TB := by
  obtain ⟨x, hx, h1⟩ := List.any_eq_true.mp h
  simp only [Bool.and_eq_true, beq_iff_eq] at h1
  obtain ⟨e1, e2, e3⟩ := h1
  have h2 := ai_all ai_NL_ok hx
  unfold ai_nl1 at h2
  rw [e1, e2, e3] at h2
  simp only [Bool.and_eq_true, decide_eq_true_eq] at h2
  exact ⟨h2.1, ai_at_in h2.2⟩
theorem s_newr : ai_Snd ai_newr (fun _ _ c _ => (.anewarray c, 3)) (fun m _ _ c _ => ai_NL.any (fun e => e.1 == ai_mo m && (e.2.1 == c && e.2.2.1 == 1))) := by
  intro bA base dC dI ca S p l e R s m args below meth c Q k n0 z0 pc a b d z ls st h ls' st' h' C hd hok hf hb hG
  unfold ai_newr at hf
  split at hf
  · rename_i n st0
    split at hf
    · cases hf
    · rename_i hn
      cases hf
      intro H locs lsC hl hw
      obtain ⟨hx, hb1, hown, hts, hK, hX, hbl, hn0, hini, hfr, hlo⟩ := C
      obtain ⟨b1, b2, b3, b4⟩ := hb
      rw [List.length_append, List.length_singleton] at b3
      rw [ai_sz_app] at b4
      change ai_sz h + n.toNatClampNeg - z0 ≤ R.slots at b4
      have h9 : n.toNatClampNeg ≤ 1000 := Nat.le_of_not_lt (fun z => hn (Or.inr z))
      refine ai_size hn0 b1 hw (fun hsz => ?_)
      refine W.anew hx hb1 hown (hts _ (ai_nl_of hok).2) (va_AO.use hK.2.2) (g := F0 m pc lsC (.int n :: st0.map (ai_cv bA base))) rfl hd rfl (fun z => hn (Or.inl z)) (by omega) (by omega) (by omega) (fun cA kA comp f1 f2 f3 f4 => ?_)
      have hca : cA = ca 2 := by
        have h5 : va_RA s (ca 2) (.object "VelvetHand$Moment") := (hK.1.2 2 _ rfl).2
        obtain ⟨_, _, -, -, -, h6⟩ := h5
        exact Option.some.inj (f1.symm.trans h6)
      subst hca
      generalize hH1 : H.push ({ cls := ca 2, slots := Array.replicate n.toNatClampNeg .null, vm := .none } : Cell) = H1
      have z1 : H1.size = H.size + 1 := by rw [← hH1, Array.size_push]
      have e1 : H1[H.size]? = some (arrV (ca 2) n.toNatClampNeg (fun _ => .null)) := by rw [← hH1, Array.getElem?_push_size, ← arrV_new]
      have o1 : ∀ q : Nat, q < H.size → H1[q]? = H[q]? := fun q hq => by rw [← hH1, Array.getElem?_push, if_neg (Nat.ne_of_lt hq)]
      have hk : ∀ (j : Nat) (x : Nat × va_E), (ai_cw bA base ca h)[j]? = some x → H1[x.1]? = H[x.1]? := fun j x hx => o1 x.1 ((hw.1 j x hx).lt)
      refine W.cs (cells' := (h ++ [ai_xR n.toNatClampNeg]).length - n0) (slots' := ai_sz (h ++ [ai_xR n.toNatClampNeg]) - z0) (by rw [List.length_append, List.length_singleton]; omega) (by rw [ai_sz_app]; show ai_sz h - z0 + n.toNatClampNeg = ai_sz h + n.toNatClampNeg - z0; omega) ?_
      refine W.eq (g2 := F0 m (pc + 3) lsC ((Value.ref (h.length + 1) :: st0).map (ai_cv bA base))) (by show F0 m (pc + 3) lsC (.ref H.size :: st0.map (ai_cv bA base)) = _; rw [hsz]; rfl) ?_
      refine hG H1 locs lsC hl ⟨?_, ?_, fun q h1 h2 => ?_, hw.2.2.2⟩
      · rw [ai_cw_app]
        refine (hw.1.kept hk).app (fun j x hx => ?_)
        have hz : j < 1 := (List.getElem?_eq_some_iff.mp hx).1
        rw [show j = 0 by omega] at hx
        cases hx
        show H1[base + h.length]? = some (arrV (ca 2) n.toNatClampNeg (fun _ => .null))
        rw [← hsz]
        exact e1
      · have := hw.2.1
        omega
      · have h7 := hw.2.1
        rw [o1 q (by omega)]
        exact hw.2.2.1 q h1 h2
  · cases hf
theorem ai_fresh_map (bA base : Nat) {ci : Nat} (h : ci < 7) : (ai_fresh ci).map (ai_cv bA base) = ai_fresh ci := by
  match ci, h with
  | 0, _ => rfl
  | 1, _ => rfl
  | 2, _ => rfl
  | 3, _ => rfl
  | 4, _ => rfl
  | 5, _ => rfl
  | 6, _ => rfl
theorem ai_fresh_ok : ∀ ci, ci < 7 → (ai_fresh ci).length = (ai_cl ci).2.2 ∧ ∀ j, j < (ai_cl ci).2.2 → defaultValue (ai_fty ci j) = vp_V (ai_fresh ci) j := by decide +kernel
theorem s_newo : ai_Snd ai_newo (fun _ _ c _ => (.new c, 3)) (fun m a _ c _ => ai_NL.any (fun e => e.1 == ai_mo m && (e.2.1 == c && e.2.2.1 == a))) := by
  intro bA base dC dI ca S p l e R s m args below meth c Q k n0 z0 pc a b d z ls st h ls' st' h' C hd hok hf hb hG
  unfold ai_newo at hf
  cases hf
  intro H locs lsC hl hw
  obtain ⟨hx, hb1, hown, hts, hK, hX, hbl, hn0, hini, hfr, hlo⟩ := C
  obtain ⟨b1, b2, b3, b4⟩ := hb
  obtain ⟨f1, f2⟩ := ai_nl_of hok
  obtain ⟨g1, g2⟩ := ai_fresh_ok a f1
  obtain ⟨u1, u2, u3⟩ := ai_uws f1
  rw [List.length_append, List.length_singleton] at b3
  rw [ai_sz_app] at b4
  change ai_sz h + (ai_fresh a).length - z0 ≤ R.slots at b4
  rw [g1] at b4
  have hKn := hK.1.1 a _ (ai_vwCl f1)
  refine ai_size hn0 b1 hw (fun hsz => ?_)
  refine W.newcK hx hb1 hown (hts _ f2) (hts _ u2) (hts _ u3) (g := F0 m pc lsC (st.map (ai_cv bA base))) rfl hd (by omega) (by omega) hKn.2.1 hsz (fun H1 kC hkC e1 z1 o1 => ?_)
  have hk : ∀ (j : Nat) (x : Nat × va_E), (ai_cw bA base ca h)[j]? = some x → H1[x.1]? = H[x.1]? := fun j x hx => o1 x.1 (by rw [← hsz]; exact (hw.1 j x hx).lt)
  refine W.cs (cells' := (h ++ [ai_xO a]).length - n0) (slots' := ai_sz (h ++ [ai_xO a]) - z0) (by rw [List.length_append, List.length_singleton]; omega) (by rw [ai_sz_app]; show ai_sz h - z0 + (ai_cl a).2.2 = ai_sz h + (ai_fresh a).length - z0; omega) ?_
  refine hG H1 locs lsC hl ⟨?_, ?_, fun q h1 h2 => ?_, hw.2.2.2⟩
  · rw [ai_cw_app]
    refine (hw.1.kept hk).app (fun j x hx => ?_)
    have hz : j < 1 := (List.getElem?_eq_some_iff.mp hx).1
    rw [show j = 0 by omega] at hx
    cases hx
    refine ⟨_, ai_vwCl f1, ?_⟩
    show t_OB (base + h.length) (dC a) (ai_cl a).2.2 (dI a) H1 (vp_V ((ai_fresh a).map (ai_cv bA base)))
    rw [ai_fresh_map bA base f1]
    exact (u_born (ai_fty a) hts u1 hKn hkC e1 (ai_tyok f1)).to g2
  · have := hw.2.1
    omega
  · have h7 := hw.2.1
    rw [o1 q (by omega)]
    exact hw.2.2.1 q h1 h2
theorem ai_snd : ∀ (i : Nat) (f : ai_O) (en : Nat → Nat → Nat → Int32 → Instr × Nat) (ok : ai_Ok), ai_ops[i]? = some f → ai_encs[i]? = some en → ai_oks[i]? = some ok → ai_Snd f en ok := by
  intro i f en ok h1 h2 h3
  match i with
  | 0 => cases h1; cases h2; cases h3; exact @s_iconst
  | 1 => cases h1; cases h2; cases h3; exact @s_bipush
  | 2 => cases h1; cases h2; cases h3; exact @s_sipush
  | 3 => cases h1; cases h2; cases h3; exact @s_iload_n
  | 4 => cases h1; cases h2; cases h3; exact @s_iload
  | 5 => cases h1; cases h2; cases h3; exact @s_aload_n
  | 6 => cases h1; cases h2; cases h3; exact @s_istore_n
  | 7 => cases h1; cases h2; cases h3; exact @s_istore
  | 8 => cases h1; cases h2; cases h3; exact @s_astore_n
  | 9 => cases h1; cases h2; cases h3; exact @s_iinc
  | 10 => cases h1; cases h2; cases h3; exact @s_iadd
  | 11 => cases h1; cases h2; cases h3; exact @s_isub
  | 12 => cases h1; cases h2; cases h3; exact @s_imul
  | 13 => cases h1; cases h2; cases h3; exact @s_iand
  | 14 => cases h1; cases h2; cases h3; exact @s_ior
  | 15 => cases h1; cases h2; cases h3; exact @s_ishl
  | 16 => cases h1; cases h2; cases h3; exact @s_ishr
  | 17 => cases h1; cases h2; cases h3; exact @s_iushr
  | 18 => cases h1; cases h2; cases h3; exact @s_idiv
  | 19 => cases h1; cases h2; cases h3; exact @s_irem
  | 20 => cases h1; cases h2; cases h3; exact @s_dup
  | 21 => cases h1; cases h2; cases h3; exact @s_dup2
  | 22 => cases h1; cases h2; cases h3; exact @s_pop
  | 23 => cases h1; cases h2; cases h3; exact @s_get
  | 24 => cases h1; cases h2; cases h3; exact @s_putI
  | 25 => cases h1; cases h2; cases h3; exact @s_putZ
  | 26 => cases h1; cases h2; cases h3; exact @s_putJ
  | 27 => cases h1; cases h2; cases h3; exact @s_putR false
  | 28 => cases h1; cases h2; cases h3; exact @s_putR true
  | 29 => cases h1; cases h2; cases h3; exact @s_iald
  | 30 => cases h1; cases h2; cases h3; exact @s_iast
  | 31 => cases h1; cases h2; cases h3; exact @s_bald
  | 32 => cases h1; cases h2; cases h3; exact @s_bast
  | 33 => cases h1; cases h2; cases h3; exact @s_aald
  | 34 => cases h1; cases h2; cases h3; exact @s_aast
  | 35 => cases h1; cases h2; cases h3; exact @s_len
  | 36 => cases h1; cases h2; cases h3; exact @s_newi
  | 37 => cases h1; cases h2; cases h3; exact @s_newz
  | 38 => cases h1; cases h2; cases h3; exact @s_newr
  | 39 => cases h1; cases h2; cases h3; exact @s_newo
  | 40 => cases h1; cases h2; cases h3; exact @s_ldc
  | 41 => cases h1; cases h2; cases h3; exact @s_ldcw
  | 42 => cases h1; cases h2; cases h3; exact @s_ldc2
  | 43 => cases h1; cases h2; cases h3; exact @s_lcon trivial
  | 44 => cases h1; cases h2; cases h3; exact @s_ladd
  | 45 => cases h1; cases h2; cases h3; exact @s_lcmp
  | 46 => cases h1; cases h2; cases h3; exact @s_null
  | 47 => cases h1; cases h2; cases h3; exact @s_obj
  | 48 => cases h1; cases h2; cases h3; exact @s_min
  | 49 => cases h1; cases h2; cases h3; exact @s_max
  | i + 50 => cases h1
end
section
/-! runs with fuel; the heap only grows; straight stretches are sound -/
def ai_init (k : Nat) (as : List Value) : List Value := as ++ List.replicate (ai_ml k - as.length) ai_u
def ai_calr (r : ai_Rec) : ai_Cal := fun k as h => if (as.all fun v => v.category == 1) = true then r k 0 (ai_init k as) [] h else none
def ai_step (r : ai_Rec) (S : ai_S) (m b : Nat) (ls st : List Value) (h : ai_H) : ai_A := match ai_xl S (ai_blk m b).2.1 ls st h with
  | some (ls', st', h') => ai_term r (ai_calr r) m (ai_blk m b).2.2 ls' st' h'
  | none => none
def ai_run (S : ai_S) : Nat → ai_Rec
  | 0 => fun _ _ _ _ _ => none
  | n + 1 => ai_step (ai_run S n) S
def ai_le (h h' : ai_H) : Prop := h.length ≤ h'.length ∧ ai_sz h ≤ ai_sz h'
theorem ai_le.rf (h : ai_H) : ai_le h h := ⟨Nat.le_refl _, Nat.le_refl _⟩
theorem ai_le.tr {a b c : ai_H} (h1 : ai_le a b) (h2 : ai_le b c) : ai_le a c := ⟨Nat.le_trans h1.1 h2.1, Nat.le_trans h1.2 h2.2⟩
theorem ai_le.app (h : ai_H) (x : va_E) : ai_le h (h ++ [x]) := ⟨by rw [List.length_append]; omega, by rw [ai_sz_app]; omega⟩
theorem ai_le.set {h : ai_H} {k : Nat} {x y : va_E} (hk : h[k]? = some x) (hs : ai_sz1 y = ai_sz1 x) : ai_le h (h.set k y) := ⟨by rw [List.length_set]; exact Nat.le_refl _, by rw [ai_sz_set hk hs]; exact Nat.le_refl _⟩
def ai_Mo (f : ai_O) : Prop := ∀ {S : ai_S} {a b d : Nat} {z : Int32} {ls st : List Value} {h : ai_H} {ls' st' : List Value} {h' : ai_H}, f S a b d z ls st h = some (ls', st', h') → ai_le h h'
theorem ai_pf_le {h h' : ai_H} {q ci k : Nat} {v : Value} (hf : ai_pf h q ci k v = some h') : ai_le h h' := by
  obtain ⟨j, fs, -, h1, -, rfl⟩ := ai_pf_of hf
  exact ai_le.set h1 (by show (fs.set k v).length = fs.length; rw [List.length_set])
theorem ai_pa_le {h h' : ai_H} {q t : Nat} {f' : Nat → Int32} (hf : ai_pa h q t f' = some h') : ai_le h h' := by
  obtain ⟨j, n, f, -, h1, rfl⟩ := ai_pa_of hf
  exact ai_le.set h1 rfl
theorem ai_pra_le {h h' : ai_H} {q : Nat} {f' : Nat → Option Nat} (hf : ai_pra h q f' = some h') : ai_le h h' := by
  obtain ⟨j, n, f, -, h1, rfl⟩ := ai_pra_of hf
  exact ai_le.set h1 rfl
theorem o_const : ai_Mo ai_const := by
  intro S a b d z ls st h ls' st' h' hf; cases hf; exact ai_le.rf _
theorem o_iload : ai_Mo ai_iload := by
  intro S a b d z ls st h ls' st' h' hf; unfold ai_iload at hf; (repeat' split at hf) <;> cases hf <;> exact ai_le.rf _
theorem o_aload : ai_Mo ai_aload := by
  intro S a b d z ls st h ls' st' h' hf; unfold ai_aload at hf; (repeat' split at hf) <;> cases hf <;> exact ai_le.rf _
theorem o_istore : ai_Mo ai_istore := by
  intro S a b d z ls st h ls' st' h' hf; unfold ai_istore at hf; (repeat' split at hf) <;> cases hf <;> exact ai_le.rf _
theorem o_astore : ai_Mo ai_astore := by
  intro S a b d z ls st h ls' st' h' hf; unfold ai_astore at hf; (repeat' split at hf) <;> cases hf <;> exact ai_le.rf _
theorem o_iinc : ai_Mo ai_iinc := by
  intro S a b d z ls st h ls' st' h' hf; unfold ai_iinc at hf; (repeat' split at hf) <;> cases hf <;> exact ai_le.rf _
theorem o_bin (g : Int32 → Int32 → Int32) : ai_Mo (ai_bin g) := by
  intro S a b d z ls st h ls' st' h' hf; unfold ai_bin at hf; (repeat' split at hf) <;> cases hf <;> exact ai_le.rf _
theorem o_div (g : Int32 → Int32 → Int32) : ai_Mo (ai_div g) := by
  intro S a b d z ls st h ls' st' h' hf; unfold ai_div at hf; (repeat' split at hf) <;> cases hf <;> exact ai_le.rf _
theorem o_mm (g : Int32 → Int32 → Int32) : ai_Mo (ai_mm g) := by
  intro S a b d z ls st h ls' st' h' hf; unfold ai_mm at hf; (repeat' split at hf) <;> cases hf <;> exact ai_le.rf _
theorem o_dup : ai_Mo ai_dup := by
  intro S a b d z ls st h ls' st' h' hf; unfold ai_dup at hf; (repeat' split at hf) <;> cases hf <;> exact ai_le.rf _
theorem o_dup2 : ai_Mo ai_dup2 := by
  intro S a b d z ls st h ls' st' h' hf; unfold ai_dup2 at hf; (repeat' split at hf) <;> cases hf <;> exact ai_le.rf _
theorem o_pop : ai_Mo ai_pop := by
  intro S a b d z ls st h ls' st' h' hf; unfold ai_pop at hf; (repeat' split at hf) <;> cases hf <;> exact ai_le.rf _
theorem o_get : ai_Mo ai_get := by
  intro S a b d z ls st h ls' st' h' hf; unfold ai_get at hf; (repeat' split at hf) <;> cases hf <;> exact ai_le.rf _
theorem o_putI : ai_Mo ai_putI := by
  intro S a b d z ls st h ls' st' h' hf; unfold ai_putI at hf; (repeat' split at hf) <;> cases hf <;> exact ai_pf_le (by assumption)
theorem o_putZ : ai_Mo ai_putZ := by
  intro S a b d z ls st h ls' st' h' hf; unfold ai_putZ at hf; (repeat' split at hf) <;> cases hf <;> exact ai_pf_le (by assumption)
theorem o_putJ : ai_Mo ai_putJ := by
  intro S a b d z ls st h ls' st' h' hf; unfold ai_putJ at hf; (repeat' split at hf) <;> cases hf <;> exact ai_pf_le (by assumption)
theorem o_putR : ai_Mo ai_putR := by
  intro S a b d z ls st h ls' st' h' hf; unfold ai_putR at hf; (repeat' split at hf) <;> cases hf <;> exact ai_pf_le (by assumption)
theorem o_iald : ai_Mo ai_iald := by
  intro S a b d z ls st h ls' st' h' hf; unfold ai_iald at hf; (repeat' split at hf) <;> cases hf <;> exact ai_le.rf _
theorem o_bald : ai_Mo ai_bald := by
  intro S a b d z ls st h ls' st' h' hf; unfold ai_bald at hf; (repeat' split at hf) <;> cases hf <;> exact ai_le.rf _
theorem o_aald : ai_Mo ai_aald := by
  intro S a b d z ls st h ls' st' h' hf; unfold ai_aald at hf; (repeat' split at hf) <;> cases hf <;> exact ai_le.rf _
theorem o_iast : ai_Mo ai_iast := by
  intro S a b d z ls st h ls' st' h' hf; unfold ai_iast at hf; (repeat' split at hf) <;> cases hf <;> exact ai_pa_le (by assumption)
theorem o_bast : ai_Mo ai_bast := by
  intro S a b d z ls st h ls' st' h' hf; unfold ai_bast at hf; (repeat' split at hf) <;> cases hf <;> exact ai_pa_le (by assumption)
theorem o_aast : ai_Mo ai_aast := by
  intro S a b d z ls st h ls' st' h' hf; unfold ai_aast at hf; (repeat' split at hf) <;> cases hf <;> exact ai_pra_le (by assumption)
theorem o_len : ai_Mo ai_len := by
  intro S a b d z ls st h ls' st' h' hf; unfold ai_len at hf; (repeat' split at hf) <;> cases hf <;> exact ai_le.rf _
theorem o_newa (t : Nat) : ai_Mo (ai_newa t) := by
  intro S a b d z ls st h ls' st' h' hf; unfold ai_newa at hf; (repeat' split at hf) <;> cases hf <;> exact ai_le.app _ _
theorem o_newr : ai_Mo ai_newr := by
  intro S a b d z ls st h ls' st' h' hf; unfold ai_newr at hf; (repeat' split at hf) <;> cases hf <;> exact ai_le.app _ _
theorem o_newo : ai_Mo ai_newo := by
  intro S a b d z ls st h ls' st' h' hf; unfold ai_newo at hf; cases hf; exact ai_le.app _ _
theorem o_lcon : ai_Mo ai_lcon := by
  intro S a b d z ls st h ls' st' h' hf; cases hf; exact ai_le.rf _
theorem o_ladd : ai_Mo ai_ladd := by
  intro S a b d z ls st h ls' st' h' hf; unfold ai_ladd at hf; (repeat' split at hf) <;> cases hf <;> exact ai_le.rf _
theorem o_lcmp : ai_Mo ai_lcmp := by
  intro S a b d z ls st h ls' st' h' hf; unfold ai_lcmp at hf; (repeat' split at hf) <;> cases hf <;> exact ai_le.rf _
theorem o_null : ai_Mo ai_null := by
  intro S a b d z ls st h ls' st' h' hf; cases hf; exact ai_le.rf _
theorem o_obj : ai_Mo ai_obj := by
  intro S a b d z ls st h ls' st' h' hf; unfold ai_obj at hf; (repeat' split at hf) <;> cases hf <;> exact ai_le.rf _
theorem ai_mono_op : ∀ (i : Nat) (f : ai_O), ai_ops[i]? = some f → ai_Mo f := by
  intro i f h1
  have h2 : ∀ g ∈ ai_ops, ai_Mo g := by
    unfold ai_ops
    simp only [List.forall_mem_cons]
    exact ⟨@o_const, @o_const, @o_const, @o_iload, @o_iload, @o_aload, @o_istore, @o_istore, @o_astore, @o_iinc,
      @o_bin _, @o_bin _, @o_bin _, @o_bin _, @o_bin _, @o_bin _, @o_bin _, @o_bin _, @o_div _, @o_div _,
      @o_dup, @o_dup2, @o_pop, @o_get, @o_putI, @o_putZ, @o_putJ, @o_putR, @o_putR, @o_iald,
      @o_iast, @o_bald, @o_bast, @o_aald, @o_aast, @o_len, @o_newa _, @o_newa _, @o_newr, @o_newo,
      @o_const, @o_const, @o_lcon, @o_lcon, @o_ladd, @o_lcmp, @o_null, @o_obj, @o_mm _, @o_mm _, fun _ h => absurd h List.not_mem_nil⟩
  exact @h2 f (List.mem_of_getElem? h1)
theorem ai_op_le {S : ai_S} {i : ai_I} {ls st : List Value} {h : ai_H} {x : ai_X} (hf : ai_op S i ls st h = some x) : ai_le h x.2.2 := by
  obtain ⟨a, b, c⟩ := x
  unfold ai_op at hf
  split at hf
  · rename_i f h1
    exact ai_mono_op _ f h1 hf
  · cases hf
theorem ai_xl_le {S : ai_S} : ∀ (is : List ai_I) (ls st : List Value) (h : ai_H) (x : ai_X), ai_xl S is ls st h = some x → ai_le h x.2.2
  | [], ls, st, h, x, hf => by cases hf; exact ai_le.rf _
  | i :: is, ls, st, h, x, hf => by
    unfold ai_xl at hf
    split at hf
    · rename_i a b c h1
      exact (ai_op_le h1).tr (ai_xl_le is a b c x hf)
    · cases hf
/-- the ends of blocks, over a function that only makes the heap grow -/
def ai_RM (r : ai_Rec) : Prop := ∀ (m b : Nat) (ls st : List Value) (h : ai_H) (v : Option Value) (h' : ai_H), r m b ls st h = some (v, h') → ai_le h h'
theorem ai_sw_le {r : ai_Rec} (hr : ai_RM r) {m d : Nat} {ls st : List Value} {h : ai_H} {x : Int32} {v : Option Value} {h' : ai_H} : ∀ (t : List (Int32 × Nat)), ai_sw r m d ls st h x t = some (v, h') → ai_le h h'
  | [], hf => hr _ _ _ _ _ _ _ hf
  | (k, b) :: t, hf => by
    unfold ai_sw at hf
    split at hf
    · exact hr _ _ _ _ _ _ _ hf
    · exact ai_sw_le hr t hf
theorem ai_cal_le {r : ai_Rec} (hr : ai_RM r) {m b1 b2 n ck ci : Nat} {ls st : List Value} {h : ai_H} {v : Option Value} {h' : ai_H} (hf : ai_cal r (ai_calr r) m b1 b2 n ck ci ls st h = some (v, h')) : ai_le h h' := by
  unfold ai_cal at hf
  split at hf
  · split at hf
    · split at hf
      · rename_i v1 h1 e1
        unfold ai_calr at e1
        split at e1
        · exact (hr _ _ _ _ _ _ _ e1).tr (hr _ _ _ _ _ _ _ hf)
        · cases e1
      · cases hf
    · cases hf
  · cases hf
theorem ai_ret_le {k : Nat} {st : List Value} {h : ai_H} {v : Option Value} {h' : ai_H} (hf : ai_ret k st h = some (v, h')) : ai_le h h' := by
  unfold ai_ret at hf
  (repeat' split at hf) <;> cases hf <;> exact ai_le.rf _
theorem ai_if_le {P : Int32 → Prop} [DecidablePred P] {r : ai_Rec} (hr : ai_RM r) {m b1 b2 : Nat} {ls st : List Value} {h : ai_H} {v : Option Value} {h' : ai_H} (hf : ai_if P r m b1 b2 ls st h = some (v, h')) : ai_le h h' := by
  unfold ai_if at hf
  (repeat' split at hf) <;> first | exact hr _ _ _ _ _ _ _ hf | cases hf
theorem ai_if2_le {P : Int32 → Int32 → Prop} [∀ x y, Decidable (P x y)] {r : ai_Rec} (hr : ai_RM r) {m b1 b2 : Nat} {ls st : List Value} {h : ai_H} {v : Option Value} {h' : ai_H} (hf : ai_if2 P r m b1 b2 ls st h = some (v, h')) : ai_le h h' := by
  unfold ai_if2 at hf
  (repeat' split at hf) <;> first | exact hr _ _ _ _ _ _ _ hf | cases hf
theorem ai_nul_le {r : ai_Rec} (hr : ai_RM r) {m b1 b2 : Nat} {ls st : List Value} {h : ai_H} {v : Option Value} {h' : ai_H} (hf : ai_nul r m b1 b2 ls st h = some (v, h')) : ai_le h h' := by
  unfold ai_nul at hf
  (repeat' split at hf) <;> first | exact hr _ _ _ _ _ _ _ hf | cases hf
theorem ai_swt_le {r : ai_Rec} (hr : ai_RM r) {m d : Nat} {t : List (Int32 × Nat)} {ls st : List Value} {h : ai_H} {v : Option Value} {h' : ai_H} (hf : ai_swt r m d t ls st h = some (v, h')) : ai_le h h' := by
  unfold ai_swt at hf
  split at hf
  · exact ai_sw_le hr _ hf
  · cases hf
theorem ai_term_le {r : ai_Rec} (hr : ai_RM r) {m : Nat} {t : ai_T} {ls st : List Value} {h : ai_H} {v : Option Value} {h' : ai_H} (hf : ai_term r (ai_calr r) m t ls st h = some (v, h')) : ai_le h h' := by
  unfold ai_term at hf
  split at hf <;> first | exact hr _ _ _ _ _ _ _ hf | exact ai_if_le hr hf | exact ai_if2_le hr hf | exact ai_nul_le hr hf | exact ai_swt_le hr hf | exact ai_cal_le hr hf | exact ai_ret_le hf | cases hf
theorem ai_run_le (S : ai_S) : ∀ n, ai_RM (ai_run S n)
  | 0 => fun _ _ _ _ _ _ _ hf => by cases hf
  | n + 1 => fun m b ls st h v h' hf => by
    unfold ai_run ai_step at hf
    split at hf
    · rename_i a c d h1
      exact (ai_xl_le _ _ _ _ _ h1).tr (ai_term_le (ai_run_le S n) hf)
    · cases hf
/-- a straight stretch -/
theorem ai_line {bA base : Nat} {dC : Nat → ClassId} {dI : Nat → Nat → Nat} {ca : Nat → ClassId} {S : ai_S} {p : Program} {l : Launch} {e : Env} {R : Room} {s : State} {m : MethodId} {args : Array Value} {below : List Frame} {meth : Method} {c : Code} {Q : State → Prop} {k n0 z0 : Nat} (C : ai_CX bA base dC dI ca S p R s m args meth c k n0) :
    ∀ (is : List ai_I) (pc pc' : Nat) (ls st : List Value) (h : ai_H) (ls' st' : List Value) (h' : ai_H), ai_xl S is ls st h = some (ls', st', h') → ai_ckl k is pc = some pc' → n0 ≤ h.length ∧ z0 ≤ ai_sz h ∧ h'.length - n0 ≤ R.cells ∧ ai_sz h' - z0 ≤ R.slots →
      ai_G bA base dC dI ca p l e R s m args below meth c Q n0 z0 pc' ls' st' h' → ai_G bA base dC dI ca p l e R s m args below meth c Q n0 z0 pc ls st h
  | [], pc, pc', ls, st, h, ls', st', h', hf, hc, hb, hG => by
    cases hf
    cases hc
    exact hG
  | i :: is, pc, pc', ls, st, h, ls', st', h', hf, hc, hb, hG => by
    unfold ai_xl at hf
    split at hf
    · rename_i a b d h1
      unfold ai_ckl at hc
      split at hc
      · rename_i pc1 h2
        have l1 := ai_op_le h1
        have l2 := ai_xl_le _ _ _ _ _ hf
        dsimp only at l1 l2
        have b2 : n0 ≤ d.length ∧ z0 ≤ ai_sz d ∧ h'.length - n0 ≤ R.cells ∧ ai_sz h' - z0 ≤ R.slots := ⟨Nat.le_trans hb.1 l1.1, Nat.le_trans hb.2.1 l1.2, hb.2.2⟩
        have b1 : n0 ≤ h.length ∧ z0 ≤ ai_sz h ∧ d.length - n0 ≤ R.cells ∧ ai_sz d - z0 ≤ R.slots := ⟨hb.1, hb.2.1, by have := l2.1; have := hb.2.2.1; omega, by have := l2.2; have := hb.2.2.2; omega⟩
        have g := ai_line C is pc1 pc' a b d ls' st' h' hf hc b2 hG
        unfold ai_op at h1
        unfold ai_ck1 at h2
        split at h1
        · rename_i f hf1
          split at h2
          · rename_i en ok hen hok
            split at h2
            · rename_i hck
              rw [Bool.and_eq_true] at hck
              cases h2
              exact ai_snd i.1 f en ok hf1 hen hok C (of_decide_eq_true hck.1) hck.2 h1 b1 g
            · cases h2
          · cases h2
        · cases h1
      · cases hc
    · cases hf
end
section
/-! contracts of the methods, and the calls -/
def ai_isN (w : Cond) : Bool := match w with
  | .methodLinkNest _ _ _ _ => true
  | _ => false
theorem ai_NW_is : ai_NW.all ai_isN = true := by decide +kernel
theorem ai_KK.warm {dC : Nat → ClassId} {dI : Nat → Nat → Nat} {ca : Nat → ClassId} {s U : State} (hW : s.WarmedH U.vm) (h : ai_KK dC dI ca s) : ai_KK dC dI ca U := by
  refine ⟨h.1.moved hW.alike, fun w hw => ?_, h.2.2.moved hW.alike⟩
  have h1 := ai_all ai_NW_is hw
  have h2 := h.2.1 w hw
  unfold ai_isN at h1
  split at h1
  · exact va_Nw.warmM hW h2
  · cases h1
theorem ai_KK.same {dC : Nat → ClassId} {dI : Nat → Nat → Nat} {ca : Nat → ClassId} {s U : State} (hv : s.vm = U.vm) (h : ai_KK dC dI ca s) : ai_KK dC dI ca U := by
  have ha : s.vm.Alike U.vm := by rw [hv]; exact Vm.Alike.refl _
  refine ⟨h.1.moved ha, fun w hw => ?_, h.2.2.moved ha⟩
  have h1 := ai_all ai_NW_is hw
  have h2 := h.2.1 w hw
  unfold ai_isN at h1
  split at h1
  · exact va_Nw.same rfl hv h2
  · cases h1
def ai_Pc (bA base : Nat) (dC : Nat → ClassId) (dI : Nat → Nat → Nat) (ca : Nat → ClassId) (S : ai_S) (as : List Value) (h : ai_H) : Array Value → State → Prop :=
  va_Pc (as.map (ai_cv bA base)) (fun U => U.heap.size = base + h.length ∧ va_P (dC, dI) vwCl (ai_cw bA base ca h) U.heap ∧ ai_KK dC dI ca U ∧ va_X bA S.1 S.2 U U.heap)
def ai_Qc (bA base : Nat) (dC : Nat → ClassId) (dI : Nat → Nat → Nat) (ca : Nat → ClassId) (r : Option Value) (h' : ai_H) : Array Value → State → Outcome → State → Prop :=
  fun _ st o t => o = .returned (r.map (ai_cv bA base)) ∧ va_P (dC, dI) vwCl (ai_cw bA base ca h') t.heap ∧ va_F (fun q : Nat => base ≤ q) st t
def ai_rm (k mc ms : Nat) : Room := { frames := ai_fr k, cells := mc, slots := ms, locals := ai_lo k }
def ai_ws (k : Nat) : List Cond := .code (ai_y k) (ai_c k) (ai_ml k) (ai_rt k) :: ai_TB
def ai_Met (bA base : Nat) (dC : Nat → ClassId) (dI : Nat → Nat → Nat) (ca : Nat → ClassId) (S : ai_S) (l : Launch) (k : Nat) (as : List Value) (h : ai_H) (r : Option Value) (h' : ai_H) : Prop :=
  Met l (ai_y k) (ai_ws k) (ai_rm k (h'.length - h.length) (ai_sz h' - ai_sz h)) (ai_Pc bA base dC dI ca S as h) (ai_Qc bA base dC dI ca r h') (h'.length - h.length) (ai_sz h' - ai_sz h) (fun q : Nat => base ≤ q)
theorem ai_blind (bA base : Nat) (dC : Nat → ClassId) (dI : Nat → Nat → Nat) (ca : Nat → ClassId) (S : ai_S) (as : List Value) (h : ai_H) : FrameBlind (ai_Pc bA base dC dI ca S as h) := by
  intro a U g mk q
  obtain ⟨q1, q2, q3, q4, q5⟩ := q
  exact ⟨q1, q2, q3, ai_KK.same (s := U) (U := U.calling g mk a) rfl q4, va_X.moved (u := U) (U := U.calling g mk a) (Vm.Alike.refl U.vm) q5⟩
theorem ai_cat4 : ∀ (st : List Value), (st.map fun v => v.category).sum ≤ 2 * st.length
  | [] => Nat.le_refl _
  | v :: st => by
    have h := ai_cat4 st
    have h2 : v.category ≤ 2 := by unfold Value.category; split <;> omega
    rw [List.map_cons, List.sum_cons, List.length_cons]
    omega
/-- behind a call -/
theorem ai_after {bA base : Nat} {dC : Nat → ClassId} {dI : Nat → Nat → Nat} {ca : Nat → ClassId} {p : Program} {l : Launch} {e : Env} {R : Room} {s : State} {m : MethodId} {args : Array Value} {below : List Frame} {meth : Method} {c : Code} {Q : State → Prop} {cells slots mc ms pc : Nat} {h h' : ai_H} {H : Heap} {locs : List Loc} {lsC : Array Slot} {st0 rest : List Value} {v : Option Value} {a : Array Value}
    (hr : va_Run p l e R s m args below meth c H locs cells slots mc ms (F0 m pc lsC st0) (rest.map (ai_cv bA base)) (ai_Qc bA base dC dI ca v h' a) (fun q : Nat => base ≤ q)) (hw : ai_Wd bA base dC dI ca s h H locs)
    (kk : ∀ (H1 : Heap) (locs1 : List Loc), ai_Wd bA base dC dI ca s h' H1 locs1 → W p l e R s m args below meth c H1 locs1 (cells + mc) (slots + ms) Q (F0 m (pc + 3) lsC ((v.toList ++ rest).map (ai_cv bA base)))) : W p l e R s m args below meth c H locs cells slots Q (F0 m pc lsC st0) := by
  intro T hT X
  obtain ⟨v', st₀, t, T', L, h0, X', hL, e1, e2, ⟨hv, hP1, hz, hk⟩, st⟩ := hr T hT X
  have hv2 : v' = v.map (ai_cv bA base) := by injection hv
  subst hv2
  rw [h0] at hz hk
  have hS := hw.2
  obtain ⟨t2, a1, b1⟩ := kk T'.heap (locs ++ L) ⟨by rw [e1]; exact hP1, Nat.le_trans hS.1 (by rw [e1]; exact hz), fun q h1 h2 => by rw [e1, hk q (Nat.lt_of_lt_of_le h1 hS.1) h2]; exact hS.2.1 q h1 h2, fun q hq => by
      rcases List.mem_append.mp hq with h | h
      · exact hS.2.2 q h
      · exact hL q h⟩ T' rfl X'
  refine ⟨t2, st t2 ?_, b1⟩
  have e3 : (v.map (ai_cv bA base)).toList ++ rest.map (ai_cv bA base) = (v.toList ++ rest).map (ai_cv bA base) := by cases v <;> rfl
  rw [e3]
  exact a1
theorem ai_split_of : ∀ (n : Nat) (acc st as rest : List Value), ai_split n acc st = some (as, rest) → as.reverse ++ rest = acc.reverse ++ st ∧ as.length = n + acc.length
  | 0, acc, st, as, rest, h => by cases h; exact ⟨rfl, (Nat.zero_add _).symm⟩
  | n + 1, acc, [], as, rest, h => by cases h
  | n + 1, acc, v :: st, as, rest, h => by
    unfold ai_split at h
    obtain ⟨h1, h2⟩ := ai_split_of n (v :: acc) st as rest h
    refine ⟨?_, ?_⟩
    · rw [h1, List.reverse_cons, List.append_assoc]; rfl
    · rw [h2, List.length_cons]; omega
theorem ai_cal_ml : ai_CL.all (fun e => decide (e.2.2.2.2.1 ≤ ai_ml e.2.2.2.1)) = true := by decide +kernel
/-- what a call's check gives -/
theorem ai_ckc_of {m pc ck : Nat} {t : ai_T} {i : Nat → Instr} (h : ai_ckc m pc t ck i = true) : ∃ (x : Nat) (ws : List Nat), decode (ai_c m) pc = .ok (i x, 3) ∧ ai_pc m t.2.1 = pc + 3 ∧ (ai_mo m, x, ck, t.2.2.1, t.2.2.2.1, ws) ∈ ai_CL ∧ ai_fr t.2.2.1 + 1 ≤ ai_fr m ∧ 8 + (ai_ml t.2.2.1 + 11) + ai_lo t.2.2.1 ≤ ai_lo m := by
  unfold ai_ckc at h
  split at h
  · rename_i z x hx
    simp only [Bool.and_eq_true, decide_eq_true_eq] at h
    obtain ⟨h1, h2, h3, h4⟩ := h
    obtain ⟨y, hy, h5⟩ := List.any_eq_true.mp h3
    simp only [Bool.and_eq_true, beq_iff_eq] at h5
    obtain ⟨e1, e2, e3, e4, e5⟩ := h5
    obtain ⟨y1, y2, y3, y4, y5, y6⟩ := y
    dsimp only at e1 e2 e3 e4 e5
    subst e1; subst e2; subst e3; subst e4; subst e5
    exact ⟨_, y6, of_decide_eq_true h1, h2, hy, h4⟩
  · cases h
theorem ai_room {k : Nat} {R : Room} {j mc ms : Nat} (h1 : ai_fr j + 1 ≤ ai_fr k) (h2 : 8 + (ai_ml j + 11) + ai_lo j ≤ ai_lo k) (hfr : ai_fr k ≤ R.frames) (hlo : ai_lo k ≤ R.locals) : (ai_rm j mc ms).frames + 1 ≤ R.frames ∧ 8 + (ai_ml j + 11) + (ai_rm j mc ms).locals ≤ R.locals := ⟨Nat.le_trans h1 hfr, Nat.le_trans h2 hlo⟩
theorem ai_ws_in {k : Nat} (h : k < 139) : ∀ w ∈ ai_ws k, w ∈ ai_TB := by
  intro w hw
  rcases List.mem_cons.mp hw with h1 | h1
  · rw [h1]; exact ai_cd_all k h
  · exact h1
theorem ai_goodV {k : Nat} (h : k < 139) {a b c d : Cond} (h1 : a ∈ ai_TB) (h2 : b ∈ ai_TB) (h3 : c ∈ ai_TB) (h4 : d ∈ ai_TB) : ∀ w ∈ ([a, b, c, d] : List Cond) ++ ai_ws k, w ∈ ai_TB := by
  intro w hw
  rcases List.mem_append.mp hw with hw | hw
  · simp only [List.mem_cons, List.not_mem_nil, or_false] at hw
    rcases hw with rfl | rfl | rfl | rfl
    · exact h1
    · exact h2
    · exact h3
    · exact h4
  · exact ai_ws_in h w hw
def ai_inv (ck x : Nat) : Instr := match ck with
  | 0 => .invokevirtual x
  | 1 => .invokestatic x
  | 4 => .invokestatic x
  | _ => .invokespecial x
theorem ai_recv0 {ci : Nat} {as : List Value} {h : ai_H} (hr : ai_recv 0 ci as h = true) : ∃ (q : Nat) (as' : List Value), as = .ref q :: as' ∧ ai_io h q ci = true := by
  cases as with
  | nil => cases hr
  | cons v t => cases v <;> first | exact ⟨_, _, rfl, hr⟩ | cases hr
theorem ai_recv2 {ci : Nat} {as : List Value} {h : ai_H} (hr : ai_recv 2 ci as h = true) : ∃ (q : Nat) (as' : List Value), as = .ref q :: as' := by
  cases as with
  | nil => cases hr
  | cons v t => cases v <;> first | exact ⟨_, _, rfl⟩ | cases hr
theorem ai_recv5 {ci : Nat} {as : List Value} {h : ai_H} (hr : ai_recv 5 ci as h = true) : ∃ (q : Nat) (as' : List Value), as = .ref q :: as' := by
  cases as with
  | nil => cases hr
  | cons v t => cases v <;> first | exact ⟨_, _, rfl⟩ | cases hr
/-- a call by its kind: from the callee's contract to the run -/
theorem ai_runs {bA base : Nat} {dC : Nat → ClassId} {dI : Nat → Nat → Nat} {ca : Nat → ClassId} {S : ai_S} {p : Program} {l : Launch} {e : Env} {R : Room} {s : State} {m : MethodId} {args : Array Value} {below : List Frame} {meth : Method} {c : Code} {k n0 z0 pc x ck j n ci : Nat} {ws : List Nat} {as rest ls : List Value} {h h' : ai_H} {v : Option Value} {H : Heap} {locs : List Loc} {lsC : Array Slot}
    (C : ai_CX bA base dC dI ca S p R s m args meth c k n0) (hM : ai_Met bA base dC dI ca S l j as h v h') (hcl : (ai_mo k, x, ck, j, n, ws) ∈ ai_CL) (h1 : ai_fr j + 1 ≤ ai_fr k) (h2 : 8 + (ai_ml j + 11) + ai_lo j ≤ ai_lo k) (hl : ai_LR bA base c lsC ls) (hw : ai_Wd bA base dC dI ca s h H locs) (hsz : H.size = base + h.length)
    (hn : as.length = n) (hrest : rest.length ≤ 4) (hrec : ai_recv ck ci as h = true) (hci : ck = 0 → (ai_cl ci).1 = (ai_y j).cls ∧ ci < 7) (hle : ai_le h h') (hb : n0 ≤ h.length ∧ z0 ≤ ai_sz h ∧ h'.length - n0 ≤ R.cells ∧ ai_sz h' - z0 ≤ R.slots)
    (hd : decode (ai_c k) pc = .ok (ai_inv ck x, 3)) :
    ∃ a, va_Run p l e R s m args below meth c H locs (h.length - n0) (ai_sz h - z0) (h'.length - h.length) (ai_sz h' - ai_sz h) (F0 m pc lsC ((as.reverse ++ rest).map (ai_cv bA base))) (rest.map (ai_cv bA base)) (ai_Qc bA base dC dI ca v h' a) (fun q : Nat => base ≤ q) := by
  obtain ⟨hx, hb1, hown, hts, hK, hX, hbl, hn0, hini, hfr, hlo⟩ := C
  have hrow := ai_all ai_CL_ok hcl
  unfold ai_cl1 at hrow
  dsimp only at hrow
  simp only [Bool.and_eq_true] at hrow
  obtain ⟨r1, r2, r3, r4, r5⟩ := hrow
  have k2 : (ai_y j).cls ≠ "java/lang/invoke/MethodHandle" ∧ (ai_y j).cls ≠ "java/lang/invoke/VarHandle" := of_decide_eq_true r2
  have k3 := ai_at_in r3
  have k4 : j < 139 := of_decide_eq_true r4
  have CF : CallFix p m c (ai_c k) c.maxLocals s args ai_TB (ai_own (ai_mo k)) := ⟨hx, hb1, rfl, hown, hts⟩
  have hsize : (F0 m pc lsC ((as.reverse ++ rest).map (ai_cv bA base))).locals.size = c.maxLocals := by
    show lsC.size = c.maxLocals
    rw [hl.2.2.1, hl.1]
  have hroom : 2 * (F0 m pc lsC ((as.reverse ++ rest).map (ai_cv bA base))).monitorRoom + ((rest.map (ai_cv bA base)).map fun v => v.category).sum ≤ 8 := by
    refine lv_room ?_
    rw [ai_catsum]
    exact Nat.le_trans (ai_cat4 rest) (by omega)
  have hf : h.length - n0 + (h'.length - h.length) ≤ R.cells ∧ ai_sz h - z0 + (ai_sz h' - ai_sz h) ≤ R.slots := by
    have := hle.1
    have := hle.2
    omega
  have hR := ai_room (mc := h'.length - h.length) (ms := ai_sz h' - ai_sz h) h1 h2 hfr hlo
  have hpc : ∀ U : State, U.heap = H → s.WarmedH U.vm → ai_Pc bA base dC dI ca S as h (as.map (ai_cv bA base)).toArray U := by
    intro U hU hW
    refine ⟨rfl, by rw [hU]; exact hsz, by rw [hU]; exact hw.1, hK.warm hW, ?_⟩
    have h3 : va_X bA S.1 S.2 s H := hX.kept (hw.2.2.1 bA (by omega) (by show ¬ base ≤ bA; omega))
    rw [hU]
    exact h3.moved hW.alike
  have hstack0 : (F0 m pc lsC ((as.reverse ++ rest).map (ai_cv bA base))).stack = (as.map (ai_cv bA base)).reverse ++ rest.map (ai_cv bA base) := by
    show (as.reverse ++ rest).map (ai_cv bA base) = _
    rw [List.map_append, List.map_reverse]
  match ck, hrec, hci, r5, hd with
  | 0, hrec, hci, r5, hd =>
    obtain ⟨hci1, hci2⟩ := hci rfl
    simp only [Bool.and_eq_true, decide_eq_true_eq] at r5
    obtain ⟨w0, w1, w2, np, n1⟩ := r5
    have hrec2 := ai_recv0 hrec
    obtain ⟨q, as', rfl, hio⟩ := hrec2
    obtain ⟨jq, fs, rfl, hq⟩ := ai_io_of hio
    refine ⟨_, va_runV (As := as'.map (ai_cv bA base)) (b := base + jq) (ws := ai_ws j) (rm := ai_rm j (h'.length - h.length) (ai_sz h' - ai_sz h)) CF hM (cwV (ws' := ai_TB) (C := (ai_y j).cls) (n - 1) hts (ai_TB_good (ai_goodV k4 (ai_at_in w0) (ai_at_in w1) (ai_at_in w2) k3)) rfl rfl rfl ⟨rfl, k2.1, k2.2, np⟩ hR) ⟨ai_blind _ _ _ _ _ _ _ _, ?_, hpc⟩ rfl ?_ hsize ?_ hroom hd hf⟩
    · have h3 := va_recv hK.1 hw.1 (ai_vwCl hci2) (ai_cw_at hq)
      rw [← hci1]
      exact h3
    · rw [List.length_map]
      rw [List.length_cons] at hn
      omega
    · rw [hstack0, List.map_cons, List.reverse_cons, List.append_assoc]
      rfl
  | 1, hrec, hci, r5, hd =>
    simp only [Bool.and_eq_true, decide_eq_true_eq] at r5
    obtain ⟨w0, w1, np⟩ := r5
    exact ⟨_, va_runS (As := as.map (ai_cv bA base)) (ws := ai_ws j) (rm := ai_rm j (h'.length - h.length) (ai_sz h' - ai_sz h)) CF hM ⟨callB_of (ws' := ai_TB) n hts (ai_TB_good (ai_ws_in k4)) rfl rfl rfl (hts _ k3) (hts _ (ai_at_in w0)) ⟨k2.1, k2.2, np⟩ hR, hts _ (ai_at_in w1)⟩ ⟨ai_blind _ _ _ _ _ _ _ _, hpc⟩ rfl (by rw [List.length_map]; exact hn) hsize hstack0 hroom hd hf⟩
  | 2, hrec, hci, r5, hd =>
    simp only [Bool.and_eq_true, decide_eq_true_eq] at r5
    obtain ⟨w0, w1, np, n1, ny, nr⟩ := r5
    have hrec2 := ai_recv2 hrec
    obtain ⟨q, as', rfl⟩ := hrec2
    refine ⟨_, va_runI (As := as'.map (ai_cv bA base)) (b := ai_ad bA base q) (ws := ai_ws j) (rm := ai_rm j (h'.length - h.length) (ai_sz h' - ai_sz h)) CF hM (cwI (ws' := ai_TB) (n - 1) hts (ai_TB_good (ai_ws_in k4)) (by rw [← nr]; rfl) rfl rfl (hts _ k3) (hts _ (ai_at_in w0)) (hts _ (ai_at_in w1)) ny ⟨k2.1, k2.2, np⟩ hR) ⟨ai_blind _ _ _ _ _ _ _ _, hpc⟩ rfl ?_ hsize ?_ hroom hd hf⟩
    · rw [List.length_map]
      rw [List.length_cons] at hn
      omega
    · rw [hstack0, List.map_cons, List.reverse_cons, List.append_assoc]
      rfl
  | 4, hrec, hci, r5, hd =>
    simp only [Bool.and_eq_true, decide_eq_true_eq] at r5
    obtain ⟨w0, w1, np⟩ := r5
    exact ⟨_, va_runSN (host := RX5) (As := as.map (ai_cv bA base)) (ws := ai_ws j) (rm := ai_rm j (h'.length - h.length) (ai_sz h' - ai_sz h)) CF hM ⟨va_cnB (ws' := ai_TB) n hts (ai_TB_good (ai_ws_in k4)) rfl rfl rfl (hK.2.1 _ w0) (hts _ k3) ⟨k2.1, k2.2, np⟩ hR, hts _ (ai_at_in w1), trivial⟩ ⟨ai_blind _ _ _ _ _ _ _ _, hpc⟩ rfl (by rw [List.length_map]; exact hn) hsize hstack0 hroom hd hf⟩
  | 5, hrec, hci, r5, hd =>
    simp only [Bool.and_eq_true, decide_eq_true_eq] at r5
    obtain ⟨w0, w1, np, n1, ny, nr⟩ := r5
    have hrec2 := ai_recv5 hrec
    obtain ⟨q, as', rfl⟩ := hrec2
    refine ⟨_, va_runIN (host := RX5) (As := as'.map (ai_cv bA base)) (b := ai_ad bA base q) (ws := ai_ws j) (rm := ai_rm j (h'.length - h.length) (ai_sz h' - ai_sz h)) CF hM ⟨va_cnB (ws' := ai_TB) (n - 1) hts (ai_TB_good (ai_ws_in k4)) (by rw [← nr]; rfl) rfl rfl (hK.2.1 _ w0) (hts _ k3) ⟨k2.1, k2.2, np⟩ hR, ny, hts _ (ai_at_in w1)⟩ ⟨ai_blind _ _ _ _ _ _ _ _, hpc⟩ rfl ?_ hsize ?_ hroom hd hf⟩
    · rw [List.length_map]
      rw [List.length_cons] at hn
      omega
    · rw [hstack0, List.map_cons, List.reverse_cons, List.append_assoc]
      rfl
  | 3, hrec, hci, r5, hd => cases r5
  | ck + 6, hrec, hci, r5, hd => cases r5
end
section
/-! the interpreter is sound -/
theorem ai_lvargs {bA base : Nat} : ∀ (as : List Value) (i j : Nat) (v : Value), (∀ w ∈ as, w.category = 1) → as[j]? = some v → (i + j, ai_cv bA base v) ∈ lv_args i (as.map (ai_cv bA base))
  | [], i, j, v, _, h => by simp at h
  | w :: t, i, j, v, hc, h => by
    have hw : ¬ (ai_cv bA base w).category = 2 := by rw [ai_cv_cat, hc w List.mem_cons_self]; decide
    show (i + j, ai_cv bA base v) ∈ (i, ai_cv bA base w) :: lv_args (if (ai_cv bA base w).category = 2 then i + 2 else i + 1) (t.map (ai_cv bA base))
    rw [if_neg hw]
    cases j with
    | zero =>
      rw [List.getElem?_cons_zero] at h
      cases h
      exact List.mem_cons_self
    | succ j =>
      rw [List.getElem?_cons_succ] at h
      have h2 := ai_lvargs (bA := bA) (base := base) t (i + 1) j v (fun w hw => hc w (List.mem_cons_of_mem _ hw)) h
      rw [show i + 1 + j = i + (j + 1) by omega] at h2
      exact List.mem_cons_of_mem _ h2
theorem ai_lgsl {bA base : Nat} : ∀ (as : List Value), (∀ w ∈ as, w.category = 1) → (lg_sl (as.map (ai_cv bA base))).length = as.length
  | [], _ => rfl
  | w :: t, hc => by
    have hw : ¬ (ai_cv bA base w).category = 2 := by rw [ai_cv_cat, hc w List.mem_cons_self]; decide
    have h := ai_lgsl (bA := bA) (base := base) t (fun w hw => hc w (List.mem_cons_of_mem _ hw))
    unfold lg_sl at h ⊢
    rw [List.map_cons, List.flatMap_cons, List.length_append, if_neg hw, h]
    show 1 + t.length = t.length + 1
    omega
/-- how a body ends: what W wants at the return -/
def ai_Ex (bA base : Nat) (dC : Nat → ClassId) (dI : Nat → Nat → Nat) (ca : Nat → ClassId) (p : Program) (l : Launch) (e : Env) (R : Room) (s : State) (m : MethodId) (args : Array Value) (below : List Frame) (meth : Method) (c : Code) (Q : State → Prop) (k n0 z0 : Nat) (v : Option Value) (h' : ai_H) : Prop :=
  ∀ (rk pc b1 b2 x y : Nat) (tbl : List (Int32 × Nat)) (st : List Value) (h : ai_H), rk ≤ 4 → ai_ret rk st h = some (v, h') → ai_ckt k pc (rk + 23, b1, b2, x, y, tbl) = true → ∀ (H : Heap) (locs : List Loc) (lsC : Array Slot), ai_Wd bA base dC dI ca s h H locs → h = h' → W p l e R s m args below meth c H locs (h'.length - n0) (ai_sz h' - z0) Q (F0 m pc lsC (st.map (ai_cv bA base)))
section Core
variable {bA base : Nat} {dC : Nat → ClassId} {dI : Nat → Nat → Nat} {ca : Nat → ClassId} {S : ai_S} {p : Program} {l : Launch} {e : Env} {R : Room} {s : State} {m : MethodId} {args : Array Value} {below : List Frame} {meth : Method} {c : Code} {Q : State → Prop} {k n0 z0 pc : Nat}
/-- a point is good from where it goes on -/
abbrev ai_Nx (S : ai_S) (r : ai_Rec) (v : Option Value) (h' : ai_H) (n0 z0 k : Nat) (G : Nat → List Value → List Value → ai_H → Prop) : Prop := ∀ (b : Nat) (ls st : List Value) (h : ai_H), r k b ls st h = some (v, h') → n0 ≤ h.length ∧ z0 ≤ ai_sz h → G (ai_pc k b) ls st h
theorem ai_offT (k pc b : Nat) : (pc : Int) + ai_off k pc b = ((ai_pc k b : Nat) : Int) := by unfold ai_off; omega
theorem ai_sw_ok {r : ai_Rec} {v : Option Value} {h' : ai_H} {d : Nat} {ls st : List Value} {h : ai_H} {x : Int32} : ∀ (t : List (Int32 × Nat)), ai_sw r k d ls st h x t = some (v, h') → (∃ (i b : Nat), t[i]? = some (x, b) ∧ (∀ j, j < i → ∀ q, t[j]? = some q → q.1 ≠ x) ∧ r k b ls st h = some (v, h')) ∨ ((∀ q ∈ t, q.1 ≠ x) ∧ r k d ls st h = some (v, h'))
  | [], hf => Or.inr ⟨fun q hq => absurd hq List.not_mem_nil, hf⟩
  | (y, b) :: t, hf => by
    unfold ai_sw at hf
    split at hf
    · rename_i hy
      subst hy
      exact Or.inl ⟨0, b, rfl, fun j hj => absurd hj (Nat.not_lt_zero j), hf⟩
    · rename_i hy
      rcases ai_sw_ok t hf with ⟨i, b2, h1, h2, h3⟩ | ⟨h1, h2⟩
      · refine Or.inl ⟨i + 1, b2, by rw [List.getElem?_cons_succ]; exact h1, fun j hj q hq => ?_, h3⟩
        cases j with
        | zero => rw [List.getElem?_cons_zero] at hq; cases hq; exact fun z => hy z.symm
        | succ j => rw [List.getElem?_cons_succ] at hq; exact h2 j (by omega) q hq
      · refine Or.inr ⟨fun q hq => ?_, h2⟩
        rcases List.mem_cons.mp hq with rfl | hq
        · exact fun z => hy z.symm
        · exact h1 q hq
theorem ai_toInt_inj {x y : Int32} (h : x.toInt = y.toInt) : x = y := Int32.toInt_inj.mp h
theorem ai_dec_of {k pc n : Nat} {i : Instr} (h : ai_dec k pc i n = true) : decode (ai_c k) pc = .ok (i, n) := of_decide_eq_true h
theorem ai_tsw (C : ai_CX bA base dC dI ca S p R s m args meth c k n0) {r : ai_Rec} {v : Option Value} {h' : ai_H} {b1 b2 x y : Nat} {tbl : List (Int32 × Nat)} {ls st : List Value} {h : ai_H} (hb : n0 ≤ h.length ∧ z0 ≤ ai_sz h)
    (hN : ai_Nx S r v h' n0 z0 k (fun pc ls st h => ai_G bA base dC dI ca p l e R s m args below meth c Q n0 z0 pc ls st h)) (hf : ai_swt r k b1 tbl ls st h = some (v, h')) (hc : ai_ckt k pc (16, b1, b2, x, y, tbl) = true) : ai_G bA base dC dI ca p l e R s m args below meth c Q n0 z0 pc ls st h := by
  obtain ⟨hx, hb1, -⟩ := C
  unfold ai_swt at hf
  split at hf
  · rename_i i st0
    have hc2 : (ai_dec k pc (.tableswitch (ai_off k pc b1) (tbl.headD (0, 0)).1.toInt ((tbl.headD (0, 0)).1.toInt + tbl.length - 1) (tbl.map (fun q => ai_off k pc q.2)).toArray) x && (List.range tbl.length).all (fun i => decide ((tbl.getD i (0, 0)).1.toInt = (tbl.headD (0, 0)).1.toInt + i))) = true := hc
    rw [Bool.and_eq_true] at hc2
    have hd := ai_dec_of hc2.1
    have hk : ∀ j, j < tbl.length → (tbl.getD j (0, 0)).1.toInt = (tbl.headD (0, 0)).1.toInt + j := fun j hj => of_decide_eq_true (ai_all hc2.2 (List.mem_range.mpr hj))
    intro H locs lsC hl hw
    rcases ai_sw_ok tbl hf with ⟨j, b, h1, -, h3⟩ | ⟨h1, h2⟩
    · have hj := (List.getElem?_eq_some_iff.mp h1).1
      have hkj := hk j hj
      rw [List.getD_eq_getElem?_getD, h1] at hkj
      change i.toInt = _ at hkj
      refine lv_tableIn hx hb1 hd (by omega) (by omega) (off := ai_off k pc b) ?_ (ai_offT k pc b) (hN b ls st0 h h3 hb H locs lsC hl hw)
      rw [show (i.toInt - (tbl.headD (0, 0)).1.toInt).toNat = j by omega, List.getElem?_toArray, List.getElem?_map, h1]
      rfl
    · refine lv_tableOut hx hb1 hd ?_ (ai_offT k pc b1) (hN b1 ls st0 h h2 hb H locs lsC hl hw)
      by_cases hlo : i.toInt < (tbl.headD (0, 0)).1.toInt
      · exact Or.inl hlo
      · refine Or.inr ?_
        by_cases hhi : (tbl.headD (0, 0)).1.toInt + tbl.length - 1 < i.toInt
        · exact hhi
        · exfalso
          have hj : (i.toInt - (tbl.headD (0, 0)).1.toInt).toNat < tbl.length := by omega
          have hkj := hk _ hj
          rw [List.getD_eq_getElem?_getD, List.getElem?_eq_getElem hj] at hkj
          refine h1 _ (List.getElem_mem hj) (ai_toInt_inj ?_)
          rw [Option.getD_some] at hkj
          omega
  · cases hf
theorem ai_lkp {x : Int32} {k pc d : Nat} : ∀ (t : List (Int32 × Nat)), (∀ (i b : Nat), t[i]? = some (x, b) → (∀ j, j < i → ∀ q, t[j]? = some q → q.1 ≠ x) → Op.lookupswitch.offset (t.map (fun q => (q.1.toInt, ai_off k pc q.2))) (ai_off k pc d) x.toInt = ai_off k pc b) ∧ ((∀ q ∈ t, q.1 ≠ x) → Op.lookupswitch.offset (t.map (fun q => (q.1.toInt, ai_off k pc q.2))) (ai_off k pc d) x.toInt = ai_off k pc d)
  | [] => ⟨fun i b h => by simp at h, fun _ => rfl⟩
  | (y, b0) :: t => by
    obtain ⟨h1, h2⟩ := ai_lkp (x := x) (k := k) (pc := pc) (d := d) t
    have hst : Op.lookupswitch.offset (((y, b0) :: t).map (fun q => (q.1.toInt, ai_off k pc q.2))) (ai_off k pc d) x.toInt = if y.toInt = x.toInt then ai_off k pc b0 else Op.lookupswitch.offset (t.map (fun q => (q.1.toInt, ai_off k pc q.2))) (ai_off k pc d) x.toInt := by
      rw [List.map_cons]
      exact Op.lookupswitch.offset_cons _ _ _ _ _
    refine ⟨fun i b h h3 => ?_, fun h => ?_⟩
    · rw [hst]
      cases i with
      | zero =>
        rw [List.getElem?_cons_zero] at h
        cases h
        rw [if_pos rfl]
      | succ i =>
        rw [List.getElem?_cons_succ] at h
        have h4 := h3 0 (by omega) (y, b0) rfl
        rw [if_neg (fun z => h4 (ai_toInt_inj z))]
        exact h1 i b h (fun j hj q hq => h3 (j + 1) (by omega) q (by rw [List.getElem?_cons_succ]; exact hq))
    · rw [hst, if_neg (fun z => h (y, b0) List.mem_cons_self (ai_toInt_inj z))]
      exact h2 (fun q hq => h q (List.mem_cons_of_mem _ hq))
theorem ai_lsw (C : ai_CX bA base dC dI ca S p R s m args meth c k n0) {r : ai_Rec} {v : Option Value} {h' : ai_H} {b1 b2 x y : Nat} {tbl : List (Int32 × Nat)} {ls st : List Value} {h : ai_H} (hb : n0 ≤ h.length ∧ z0 ≤ ai_sz h)
    (hN : ai_Nx S r v h' n0 z0 k (fun pc ls st h => ai_G bA base dC dI ca p l e R s m args below meth c Q n0 z0 pc ls st h)) (hf : ai_swt r k b1 tbl ls st h = some (v, h')) (hc : ai_ckt k pc (17, b1, b2, x, y, tbl) = true) : ai_G bA base dC dI ca p l e R s m args below meth c Q n0 z0 pc ls st h := by
  obtain ⟨hx, hb1, -⟩ := C
  unfold ai_swt at hf
  split at hf
  · rename_i i st0
    have hc2 : (ai_dec k pc (.lookupswitch (ai_off k pc b1) (tbl.map (fun q => (q.1.toInt, ai_off k pc q.2))).toArray) x && (((tbl.map (fun q => (q.1.toInt, ai_off k pc q.2))).zip ((tbl.map (fun q => (q.1.toInt, ai_off k pc q.2))).drop 1)).all (fun (a, next) => a.1 < next.1))) = true := hc
    rw [Bool.and_eq_true] at hc2
    have hd := ai_dec_of hc2.1
    intro H locs lsC hl hw
    rcases ai_sw_ok tbl hf with ⟨j, b, h1, h2, h3⟩ | ⟨h1, h2⟩
    · exact lv_lookup hx hb1 hd hc2.2 ((ai_lkp tbl).1 j b h1 h2) (ai_offT k pc b) (hN b ls st0 h h3 hb H locs lsC hl hw)
    · exact lv_lookup hx hb1 hd hc2.2 ((ai_lkp tbl).2 h1) (ai_offT k pc b1) (hN b1 ls st0 h h2 hb H locs lsC hl hw)
  · cases hf
theorem ai_t2 (C : ai_CX bA base dC dI ca S p R s m args meth c k n0) {r : ai_Rec} {v : Option Value} {h' : ai_H} {b1 b2 x y : Nat} {tbl : List (Int32 × Nat)} {ls st : List Value} {h : ai_H} (hb : n0 ≤ h.length ∧ z0 ≤ ai_sz h)
    (hN : ai_Nx S r v h' n0 z0 k (fun pc ls st h => ai_G bA base dC dI ca p l e R s m args below meth c Q n0 z0 pc ls st h)) (hf : ai_if (fun x => x = 0) r k b1 b2 ls st h = some (v, h')) (hc : ai_ckt k pc (2, b1, b2, x, y, tbl) = true) : ai_G bA base dC dI ca p l e R s m args below meth c Q n0 z0 pc ls st h := by
  obtain ⟨hx, hb1, -⟩ := C
  unfold ai_if at hf
  split at hf
  · have hc2 : (ai_dec k pc (.ifCond .eq (ai_off k pc b1)) 3 && decide (ai_pc k b2 = pc + 3)) = true := hc
    rw [Bool.and_eq_true] at hc2
    have hd := ai_dec_of hc2.1
    have h3 := of_decide_eq_true hc2.2
    intro H locs lsC hl hw
    exact lv_if_eq hx hb1 hd (ai_offT k pc b1) (fun hc => by rw [if_pos hc] at hf; exact hN b1 ls _ h hf hb H locs lsC hl hw) (fun hc => by rw [if_neg hc] at hf; rw [← h3]; exact hN b2 ls _ h hf hb H locs lsC hl hw)
  · cases hf
theorem ai_t8 (C : ai_CX bA base dC dI ca S p R s m args meth c k n0) {r : ai_Rec} {v : Option Value} {h' : ai_H} {b1 b2 x y : Nat} {tbl : List (Int32 × Nat)} {ls st : List Value} {h : ai_H} (hb : n0 ≤ h.length ∧ z0 ≤ ai_sz h)
    (hN : ai_Nx S r v h' n0 z0 k (fun pc ls st h => ai_G bA base dC dI ca p l e R s m args below meth c Q n0 z0 pc ls st h)) (hf : ai_if2 (fun x y => x = y) r k b1 b2 ls st h = some (v, h')) (hc : ai_ckt k pc (8, b1, b2, x, y, tbl) = true) : ai_G bA base dC dI ca p l e R s m args below meth c Q n0 z0 pc ls st h := by
  obtain ⟨hx, hb1, -⟩ := C
  unfold ai_if2 at hf
  split at hf
  · have hc2 : (ai_dec k pc (.if_icmp .eq (ai_off k pc b1)) 3 && decide (ai_pc k b2 = pc + 3)) = true := hc
    rw [Bool.and_eq_true] at hc2
    have hd := ai_dec_of hc2.1
    have h3 := of_decide_eq_true hc2.2
    intro H locs lsC hl hw
    exact lv_icmp_eq hx hb1 hd (ai_offT k pc b1) (fun hc => by rw [if_pos hc] at hf; exact hN b1 ls _ h hf hb H locs lsC hl hw) (fun hc => by rw [if_neg hc] at hf; rw [← h3]; exact hN b2 ls _ h hf hb H locs lsC hl hw)
  · cases hf
theorem ai_t3 (C : ai_CX bA base dC dI ca S p R s m args meth c k n0) {r : ai_Rec} {v : Option Value} {h' : ai_H} {b1 b2 x y : Nat} {tbl : List (Int32 × Nat)} {ls st : List Value} {h : ai_H} (hb : n0 ≤ h.length ∧ z0 ≤ ai_sz h)
    (hN : ai_Nx S r v h' n0 z0 k (fun pc ls st h => ai_G bA base dC dI ca p l e R s m args below meth c Q n0 z0 pc ls st h)) (hf : ai_if (fun x => ¬ x = 0) r k b1 b2 ls st h = some (v, h')) (hc : ai_ckt k pc (3, b1, b2, x, y, tbl) = true) : ai_G bA base dC dI ca p l e R s m args below meth c Q n0 z0 pc ls st h := by
  obtain ⟨hx, hb1, -⟩ := C
  unfold ai_if at hf
  split at hf
  · have hc2 : (ai_dec k pc (.ifCond .ne (ai_off k pc b1)) 3 && decide (ai_pc k b2 = pc + 3)) = true := hc
    rw [Bool.and_eq_true] at hc2
    have hd := ai_dec_of hc2.1
    have h3 := of_decide_eq_true hc2.2
    intro H locs lsC hl hw
    exact lv_if_ne hx hb1 hd (ai_offT k pc b1) (fun hc => by rw [if_pos hc] at hf; exact hN b1 ls _ h hf hb H locs lsC hl hw) (fun hc => by rw [if_neg (fun z => z hc)] at hf; rw [← h3]; exact hN b2 ls _ h hf hb H locs lsC hl hw)
  · cases hf
theorem ai_t9 (C : ai_CX bA base dC dI ca S p R s m args meth c k n0) {r : ai_Rec} {v : Option Value} {h' : ai_H} {b1 b2 x y : Nat} {tbl : List (Int32 × Nat)} {ls st : List Value} {h : ai_H} (hb : n0 ≤ h.length ∧ z0 ≤ ai_sz h)
    (hN : ai_Nx S r v h' n0 z0 k (fun pc ls st h => ai_G bA base dC dI ca p l e R s m args below meth c Q n0 z0 pc ls st h)) (hf : ai_if2 (fun x y => ¬ x = y) r k b1 b2 ls st h = some (v, h')) (hc : ai_ckt k pc (9, b1, b2, x, y, tbl) = true) : ai_G bA base dC dI ca p l e R s m args below meth c Q n0 z0 pc ls st h := by
  obtain ⟨hx, hb1, -⟩ := C
  unfold ai_if2 at hf
  split at hf
  · have hc2 : (ai_dec k pc (.if_icmp .ne (ai_off k pc b1)) 3 && decide (ai_pc k b2 = pc + 3)) = true := hc
    rw [Bool.and_eq_true] at hc2
    have hd := ai_dec_of hc2.1
    have h3 := of_decide_eq_true hc2.2
    intro H locs lsC hl hw
    exact lv_icmp_ne hx hb1 hd (ai_offT k pc b1) (fun hc => by rw [if_pos hc] at hf; exact hN b1 ls _ h hf hb H locs lsC hl hw) (fun hc => by rw [if_neg (fun z => z hc)] at hf; rw [← h3]; exact hN b2 ls _ h hf hb H locs lsC hl hw)
  · cases hf
theorem ai_t4 (C : ai_CX bA base dC dI ca S p R s m args meth c k n0) {r : ai_Rec} {v : Option Value} {h' : ai_H} {b1 b2 x y : Nat} {tbl : List (Int32 × Nat)} {ls st : List Value} {h : ai_H} (hb : n0 ≤ h.length ∧ z0 ≤ ai_sz h)
    (hN : ai_Nx S r v h' n0 z0 k (fun pc ls st h => ai_G bA base dC dI ca p l e R s m args below meth c Q n0 z0 pc ls st h)) (hf : ai_if (fun x => x < 0) r k b1 b2 ls st h = some (v, h')) (hc : ai_ckt k pc (4, b1, b2, x, y, tbl) = true) : ai_G bA base dC dI ca p l e R s m args below meth c Q n0 z0 pc ls st h := by
  obtain ⟨hx, hb1, -⟩ := C
  unfold ai_if at hf
  split at hf
  · have hc2 : (ai_dec k pc (.ifCond .lt (ai_off k pc b1)) 3 && decide (ai_pc k b2 = pc + 3)) = true := hc
    rw [Bool.and_eq_true] at hc2
    have hd := ai_dec_of hc2.1
    have h3 := of_decide_eq_true hc2.2
    intro H locs lsC hl hw
    exact lv_if_lt hx hb1 hd (ai_offT k pc b1) (fun hc => by rw [if_pos hc] at hf; exact hN b1 ls _ h hf hb H locs lsC hl hw) (fun hc => by rw [if_neg hc] at hf; rw [← h3]; exact hN b2 ls _ h hf hb H locs lsC hl hw)
  · cases hf
theorem ai_t10 (C : ai_CX bA base dC dI ca S p R s m args meth c k n0) {r : ai_Rec} {v : Option Value} {h' : ai_H} {b1 b2 x y : Nat} {tbl : List (Int32 × Nat)} {ls st : List Value} {h : ai_H} (hb : n0 ≤ h.length ∧ z0 ≤ ai_sz h)
    (hN : ai_Nx S r v h' n0 z0 k (fun pc ls st h => ai_G bA base dC dI ca p l e R s m args below meth c Q n0 z0 pc ls st h)) (hf : ai_if2 (fun x y => x < y) r k b1 b2 ls st h = some (v, h')) (hc : ai_ckt k pc (10, b1, b2, x, y, tbl) = true) : ai_G bA base dC dI ca p l e R s m args below meth c Q n0 z0 pc ls st h := by
  obtain ⟨hx, hb1, -⟩ := C
  unfold ai_if2 at hf
  split at hf
  · have hc2 : (ai_dec k pc (.if_icmp .lt (ai_off k pc b1)) 3 && decide (ai_pc k b2 = pc + 3)) = true := hc
    rw [Bool.and_eq_true] at hc2
    have hd := ai_dec_of hc2.1
    have h3 := of_decide_eq_true hc2.2
    intro H locs lsC hl hw
    exact lv_icmp_lt hx hb1 hd (ai_offT k pc b1) (fun hc => by rw [if_pos hc] at hf; exact hN b1 ls _ h hf hb H locs lsC hl hw) (fun hc => by rw [if_neg hc] at hf; rw [← h3]; exact hN b2 ls _ h hf hb H locs lsC hl hw)
  · cases hf
theorem ai_t5 (C : ai_CX bA base dC dI ca S p R s m args meth c k n0) {r : ai_Rec} {v : Option Value} {h' : ai_H} {b1 b2 x y : Nat} {tbl : List (Int32 × Nat)} {ls st : List Value} {h : ai_H} (hb : n0 ≤ h.length ∧ z0 ≤ ai_sz h)
    (hN : ai_Nx S r v h' n0 z0 k (fun pc ls st h => ai_G bA base dC dI ca p l e R s m args below meth c Q n0 z0 pc ls st h)) (hf : ai_if (fun x => 0 ≤ x) r k b1 b2 ls st h = some (v, h')) (hc : ai_ckt k pc (5, b1, b2, x, y, tbl) = true) : ai_G bA base dC dI ca p l e R s m args below meth c Q n0 z0 pc ls st h := by
  obtain ⟨hx, hb1, -⟩ := C
  unfold ai_if at hf
  split at hf
  · have hc2 : (ai_dec k pc (.ifCond .ge (ai_off k pc b1)) 3 && decide (ai_pc k b2 = pc + 3)) = true := hc
    rw [Bool.and_eq_true] at hc2
    have hd := ai_dec_of hc2.1
    have h3 := of_decide_eq_true hc2.2
    intro H locs lsC hl hw
    exact lv_if_ge hx hb1 hd (ai_offT k pc b1) (fun hc => by rw [if_pos hc] at hf; exact hN b1 ls _ h hf hb H locs lsC hl hw) (fun hc => by rw [if_neg hc] at hf; rw [← h3]; exact hN b2 ls _ h hf hb H locs lsC hl hw)
  · cases hf
theorem ai_t11 (C : ai_CX bA base dC dI ca S p R s m args meth c k n0) {r : ai_Rec} {v : Option Value} {h' : ai_H} {b1 b2 x y : Nat} {tbl : List (Int32 × Nat)} {ls st : List Value} {h : ai_H} (hb : n0 ≤ h.length ∧ z0 ≤ ai_sz h)
    (hN : ai_Nx S r v h' n0 z0 k (fun pc ls st h => ai_G bA base dC dI ca p l e R s m args below meth c Q n0 z0 pc ls st h)) (hf : ai_if2 (fun x y => y ≤ x) r k b1 b2 ls st h = some (v, h')) (hc : ai_ckt k pc (11, b1, b2, x, y, tbl) = true) : ai_G bA base dC dI ca p l e R s m args below meth c Q n0 z0 pc ls st h := by
  obtain ⟨hx, hb1, -⟩ := C
  unfold ai_if2 at hf
  split at hf
  · have hc2 : (ai_dec k pc (.if_icmp .ge (ai_off k pc b1)) 3 && decide (ai_pc k b2 = pc + 3)) = true := hc
    rw [Bool.and_eq_true] at hc2
    have hd := ai_dec_of hc2.1
    have h3 := of_decide_eq_true hc2.2
    intro H locs lsC hl hw
    exact lv_icmp_ge hx hb1 hd (ai_offT k pc b1) (fun hc => by rw [if_pos hc] at hf; exact hN b1 ls _ h hf hb H locs lsC hl hw) (fun hc => by rw [if_neg hc] at hf; rw [← h3]; exact hN b2 ls _ h hf hb H locs lsC hl hw)
  · cases hf
theorem ai_t6 (C : ai_CX bA base dC dI ca S p R s m args meth c k n0) {r : ai_Rec} {v : Option Value} {h' : ai_H} {b1 b2 x y : Nat} {tbl : List (Int32 × Nat)} {ls st : List Value} {h : ai_H} (hb : n0 ≤ h.length ∧ z0 ≤ ai_sz h)
    (hN : ai_Nx S r v h' n0 z0 k (fun pc ls st h => ai_G bA base dC dI ca p l e R s m args below meth c Q n0 z0 pc ls st h)) (hf : ai_if (fun x => 0 < x) r k b1 b2 ls st h = some (v, h')) (hc : ai_ckt k pc (6, b1, b2, x, y, tbl) = true) : ai_G bA base dC dI ca p l e R s m args below meth c Q n0 z0 pc ls st h := by
  obtain ⟨hx, hb1, -⟩ := C
  unfold ai_if at hf
  split at hf
  · have hc2 : (ai_dec k pc (.ifCond .gt (ai_off k pc b1)) 3 && decide (ai_pc k b2 = pc + 3)) = true := hc
    rw [Bool.and_eq_true] at hc2
    have hd := ai_dec_of hc2.1
    have h3 := of_decide_eq_true hc2.2
    intro H locs lsC hl hw
    exact lv_if_gt hx hb1 hd (ai_offT k pc b1) (fun hc => by rw [if_pos hc] at hf; exact hN b1 ls _ h hf hb H locs lsC hl hw) (fun hc => by rw [if_neg hc] at hf; rw [← h3]; exact hN b2 ls _ h hf hb H locs lsC hl hw)
  · cases hf
theorem ai_t12 (C : ai_CX bA base dC dI ca S p R s m args meth c k n0) {r : ai_Rec} {v : Option Value} {h' : ai_H} {b1 b2 x y : Nat} {tbl : List (Int32 × Nat)} {ls st : List Value} {h : ai_H} (hb : n0 ≤ h.length ∧ z0 ≤ ai_sz h)
    (hN : ai_Nx S r v h' n0 z0 k (fun pc ls st h => ai_G bA base dC dI ca p l e R s m args below meth c Q n0 z0 pc ls st h)) (hf : ai_if2 (fun x y => y < x) r k b1 b2 ls st h = some (v, h')) (hc : ai_ckt k pc (12, b1, b2, x, y, tbl) = true) : ai_G bA base dC dI ca p l e R s m args below meth c Q n0 z0 pc ls st h := by
  obtain ⟨hx, hb1, -⟩ := C
  unfold ai_if2 at hf
  split at hf
  · have hc2 : (ai_dec k pc (.if_icmp .gt (ai_off k pc b1)) 3 && decide (ai_pc k b2 = pc + 3)) = true := hc
    rw [Bool.and_eq_true] at hc2
    have hd := ai_dec_of hc2.1
    have h3 := of_decide_eq_true hc2.2
    intro H locs lsC hl hw
    exact lv_icmp_gt hx hb1 hd (ai_offT k pc b1) (fun hc => by rw [if_pos hc] at hf; exact hN b1 ls _ h hf hb H locs lsC hl hw) (fun hc => by rw [if_neg hc] at hf; rw [← h3]; exact hN b2 ls _ h hf hb H locs lsC hl hw)
  · cases hf
theorem ai_t7 (C : ai_CX bA base dC dI ca S p R s m args meth c k n0) {r : ai_Rec} {v : Option Value} {h' : ai_H} {b1 b2 x y : Nat} {tbl : List (Int32 × Nat)} {ls st : List Value} {h : ai_H} (hb : n0 ≤ h.length ∧ z0 ≤ ai_sz h)
    (hN : ai_Nx S r v h' n0 z0 k (fun pc ls st h => ai_G bA base dC dI ca p l e R s m args below meth c Q n0 z0 pc ls st h)) (hf : ai_if (fun x => x ≤ 0) r k b1 b2 ls st h = some (v, h')) (hc : ai_ckt k pc (7, b1, b2, x, y, tbl) = true) : ai_G bA base dC dI ca p l e R s m args below meth c Q n0 z0 pc ls st h := by
  obtain ⟨hx, hb1, -⟩ := C
  unfold ai_if at hf
  split at hf
  · have hc2 : (ai_dec k pc (.ifCond .le (ai_off k pc b1)) 3 && decide (ai_pc k b2 = pc + 3)) = true := hc
    rw [Bool.and_eq_true] at hc2
    have hd := ai_dec_of hc2.1
    have h3 := of_decide_eq_true hc2.2
    intro H locs lsC hl hw
    exact lv_if_le hx hb1 hd (ai_offT k pc b1) (fun hc => by rw [if_pos hc] at hf; exact hN b1 ls _ h hf hb H locs lsC hl hw) (fun hc => by rw [if_neg hc] at hf; rw [← h3]; exact hN b2 ls _ h hf hb H locs lsC hl hw)
  · cases hf
theorem ai_t13 (C : ai_CX bA base dC dI ca S p R s m args meth c k n0) {r : ai_Rec} {v : Option Value} {h' : ai_H} {b1 b2 x y : Nat} {tbl : List (Int32 × Nat)} {ls st : List Value} {h : ai_H} (hb : n0 ≤ h.length ∧ z0 ≤ ai_sz h)
    (hN : ai_Nx S r v h' n0 z0 k (fun pc ls st h => ai_G bA base dC dI ca p l e R s m args below meth c Q n0 z0 pc ls st h)) (hf : ai_if2 (fun x y => x ≤ y) r k b1 b2 ls st h = some (v, h')) (hc : ai_ckt k pc (13, b1, b2, x, y, tbl) = true) : ai_G bA base dC dI ca p l e R s m args below meth c Q n0 z0 pc ls st h := by
  obtain ⟨hx, hb1, -⟩ := C
  unfold ai_if2 at hf
  split at hf
  · have hc2 : (ai_dec k pc (.if_icmp .le (ai_off k pc b1)) 3 && decide (ai_pc k b2 = pc + 3)) = true := hc
    rw [Bool.and_eq_true] at hc2
    have hd := ai_dec_of hc2.1
    have h3 := of_decide_eq_true hc2.2
    intro H locs lsC hl hw
    exact lv_icmp_le hx hb1 hd (ai_offT k pc b1) (fun hc => by rw [if_pos hc] at hf; exact hN b1 ls _ h hf hb H locs lsC hl hw) (fun hc => by rw [if_neg hc] at hf; rw [← h3]; exact hN b2 ls _ h hf hb H locs lsC hl hw)
  · cases hf
theorem ai_t14 (C : ai_CX bA base dC dI ca S p R s m args meth c k n0) {r : ai_Rec} {v : Option Value} {h' : ai_H} {b1 b2 x y : Nat} {tbl : List (Int32 × Nat)} {ls st : List Value} {h : ai_H} (hb : n0 ≤ h.length ∧ z0 ≤ ai_sz h)
    (hN : ai_Nx S r v h' n0 z0 k (fun pc ls st h => ai_G bA base dC dI ca p l e R s m args below meth c Q n0 z0 pc ls st h)) (hf : ai_nul r k b1 b2 ls st h = some (v, h')) (hc : ai_ckt k pc (14, b1, b2, x, y, tbl) = true) : ai_G bA base dC dI ca p l e R s m args below meth c Q n0 z0 pc ls st h := by
  obtain ⟨hx, hb1, -⟩ := C
  have hc2 : (ai_dec k pc (.ifnull (ai_off k pc b1)) 3 && decide (ai_pc k b2 = pc + 3)) = true := hc
  rw [Bool.and_eq_true] at hc2
  have hd := ai_dec_of hc2.1
  have h3 := of_decide_eq_true hc2.2
  unfold ai_nul at hf
  split at hf
  · intro H locs lsC hl hw
    exact lv_ifnullN hx hb1 hd (ai_offT k pc b1) (hN b1 ls _ h hf hb H locs lsC hl hw)
  · intro H locs lsC hl hw
    exact lv_ifnull hx hb1 hd (by rw [← h3]; exact hN b2 ls _ h hf hb H locs lsC hl hw)
  · cases hf
theorem ai_t15 (C : ai_CX bA base dC dI ca S p R s m args meth c k n0) {r : ai_Rec} {v : Option Value} {h' : ai_H} {b1 b2 x y : Nat} {tbl : List (Int32 × Nat)} {ls st : List Value} {h : ai_H} (hb : n0 ≤ h.length ∧ z0 ≤ ai_sz h)
    (hN : ai_Nx S r v h' n0 z0 k (fun pc ls st h => ai_G bA base dC dI ca p l e R s m args below meth c Q n0 z0 pc ls st h)) (hf : ai_nul r k b2 b1 ls st h = some (v, h')) (hc : ai_ckt k pc (15, b1, b2, x, y, tbl) = true) : ai_G bA base dC dI ca p l e R s m args below meth c Q n0 z0 pc ls st h := by
  obtain ⟨hx, hb1, -⟩ := C
  have hc2 : (ai_dec k pc (.ifnonnull (ai_off k pc b1)) 3 && decide (ai_pc k b2 = pc + 3)) = true := hc
  rw [Bool.and_eq_true] at hc2
  have hd := ai_dec_of hc2.1
  have h3 := of_decide_eq_true hc2.2
  unfold ai_nul at hf
  split at hf
  · intro H locs lsC hl hw
    exact lv_ifnonnullN hx hb1 hd (by rw [← h3]; exact hN b2 ls _ h hf hb H locs lsC hl hw)
  · intro H locs lsC hl hw
    exact lv_ifnonnull hx hb1 hd (ai_offT k pc b1) (hN b1 ls _ h hf hb H locs lsC hl hw)
  · cases hf
/-- a call -/
theorem ai_tc (C : ai_CX bA base dC dI ca S p R s m args meth c k n0) {r : ai_Rec} {v : Option Value} {h' : ai_H} {b1 b2 x y : Nat} {tbl : List (Int32 × Nat)} {ls st : List Value} {h : ai_H} (hb : n0 ≤ h.length ∧ z0 ≤ ai_sz h)
    (hN : ai_Nx S r v h' n0 z0 k (fun pc ls st h => ai_G bA base dC dI ca p l e R s m args below meth c Q n0 z0 pc ls st h)) (hle : ai_RM r) (hM : ∀ (j : Nat) (as : List Value) (h1 : ai_H) (v1 : Option Value) (h2 : ai_H), j < 139 → as.length ≤ ai_ml j → ai_calr r j as h1 = some (v1, h2) → ai_Met bA base dC dI ca S l j as h1 v1 h2) (hbb : h'.length - n0 ≤ R.cells ∧ ai_sz h' - z0 ≤ R.slots) {ck ci kd : Nat}
    (hf : ai_cal r (ai_calr r) k b1 b2 x ck ci ls st h = some (v, h')) (hc : ai_ckc k pc (kd, b1, b2, x, y, tbl) ck (ai_inv ck) = true) (hci : ck = 0 → (ai_cl ci).1 = (ai_y b2).cls ∧ ci < 7) : ai_G bA base dC dI ca p l e R s m args below meth c Q n0 z0 pc ls st h := by
  obtain ⟨x', ws, hd, hpc, hcl, q1, q2⟩ := ai_ckc_of hc
  dsimp only at hpc hcl q1 q2
  unfold ai_cal at hf
  split at hf
  · rename_i as rest hsp
    split at hf
    · rename_i hcond
      split at hf
      · rename_i v1 h1 hcall
        obtain ⟨e1, e2⟩ := ai_split_of _ _ _ _ _ hsp
        have e3 : st = as.reverse ++ rest := by rw [e1]; rfl
        have e4 : as.length = x := by rw [e2]; rfl
        have l1 : ai_le h h1 := by
          have hz := hcall
          unfold ai_calr at hz
          split at hz
          · exact hle _ _ _ _ _ _ _ hz
          · cases hz
        have l2 : ai_le h1 h' := hle _ _ _ _ _ _ _ hf
        have b5 : n0 ≤ h.length ∧ z0 ≤ ai_sz h ∧ h1.length - n0 ≤ R.cells ∧ ai_sz h1 - z0 ≤ R.slots := by
          have := l2.1
          have := l2.2
          have := hbb.1
          have := hbb.2
          exact ⟨hb.1, hb.2, by omega, by omega⟩
        have hj : b2 < 139 := by
          have hrow := ai_all ai_CL_ok hcl
          unfold ai_cl1 at hrow
          dsimp only at hrow
          simp only [Bool.and_eq_true] at hrow
          exact of_decide_eq_true hrow.2.2.2.1
        have hml : as.length ≤ ai_ml b2 := by
          have hz : x ≤ ai_ml b2 := of_decide_eq_true (ai_all ai_cal_ml hcl)
          rw [e4]
          exact hz
        intro H locs lsC hl hw
        refine ai_size C.2.2.2.2.2.2.2.1 hb.1 hw (fun hsz => ?_)
        obtain ⟨a, hr⟩ := ai_runs (l := l) (e := e) (below := below) C (hM b2 as h v1 h1 hj hml hcall) hcl q1 q2 hl hw hsz e4 hcond.2 hcond.1 hci l1 b5 hd
        rw [e3]
        refine ai_after hr hw (fun H1 locs1 hw1 => ?_)
        have g := hN b1 ls (v1.toList ++ rest) h1 hf ⟨Nat.le_trans hb.1 l1.1, Nat.le_trans hb.2 l1.2⟩ H1 locs1 lsC hl hw1
        rw [hpc] at g
        have := l1.1
        have := l1.2
        have := hb.1
        have := hb.2
        exact W.cs (by omega) (by omega) g
      · cases hf
    · cases hf
  · cases hf
theorem ai_ret_h {k : Nat} {st : List Value} {h : ai_H} {v : Option Value} {h' : ai_H} (hf : ai_ret k st h = some (v, h')) : h = h' := by
  unfold ai_ret at hf
  (repeat' split at hf) <;> cases hf <;> rfl
/-- the end of a block -/
theorem ai_tt (C : ai_CX bA base dC dI ca S p R s m args meth c k n0) {r : ai_Rec} {v : Option Value} {h' : ai_H} {t : ai_T} {ls st : List Value} {h : ai_H} (hb : n0 ≤ h.length ∧ z0 ≤ ai_sz h)
    (hN : ai_Nx S r v h' n0 z0 k (fun pc ls st h => ai_G bA base dC dI ca p l e R s m args below meth c Q n0 z0 pc ls st h)) (hle : ai_RM r) (hM : ∀ (j : Nat) (as : List Value) (h1 : ai_H) (v1 : Option Value) (h2 : ai_H), j < 139 → as.length ≤ ai_ml j → ai_calr r j as h1 = some (v1, h2) → ai_Met bA base dC dI ca S l j as h1 v1 h2) (hbb : h'.length - n0 ≤ R.cells ∧ ai_sz h' - z0 ≤ R.slots)
    (hE : ai_Ex bA base dC dI ca p l e R s m args below meth c Q k n0 z0 v h') (hf : ai_term r (ai_calr r) k t ls st h = some (v, h')) (hc : ai_ckt k pc t = true) : ai_G bA base dC dI ca p l e R s m args below meth c Q n0 z0 pc ls st h := by
  obtain ⟨kd, b1, b2, x, y, tbl⟩ := t
  match kd, hf, hc with
  | 0, hf, hc =>
    have h3 : ai_pc k b1 = pc := of_decide_eq_true hc
    rw [← h3]
    exact hN b1 ls st h hf hb
  | 1, hf, hc =>
    intro H locs lsC hl hw
    exact lv_goto C.1 C.2.1 (ai_dec_of hc) (ai_offT k pc b1) (hN b1 ls st h hf hb H locs lsC hl hw)
  | 2, hf, hc => exact ai_t2 C hb hN hf hc
  | 3, hf, hc => exact ai_t3 C hb hN hf hc
  | 4, hf, hc => exact ai_t4 C hb hN hf hc
  | 5, hf, hc => exact ai_t5 C hb hN hf hc
  | 6, hf, hc => exact ai_t6 C hb hN hf hc
  | 7, hf, hc => exact ai_t7 C hb hN hf hc
  | 8, hf, hc => exact ai_t8 C hb hN hf hc
  | 9, hf, hc => exact ai_t9 C hb hN hf hc
  | 10, hf, hc => exact ai_t10 C hb hN hf hc
  | 11, hf, hc => exact ai_t11 C hb hN hf hc
  | 12, hf, hc => exact ai_t12 C hb hN hf hc
  | 13, hf, hc => exact ai_t13 C hb hN hf hc
  | 14, hf, hc => exact ai_t14 C hb hN hf hc
  | 15, hf, hc => exact ai_t15 C hb hN hf hc
  | 16, hf, hc => exact ai_tsw C hb hN hf hc
  | 17, hf, hc => exact ai_lsw C hb hN hf hc
  | 18, hf, hc =>
    have hc2 : (ai_ckc k pc (18, b1, b2, x, y, tbl) 0 .invokevirtual && decide ((ai_cl y).1 = (ai_y b2).cls ∧ y < 7)) = true := hc
    rw [Bool.and_eq_true] at hc2
    exact ai_tc C hb hN hle hM hbb (ck := 0) (ci := y) hf hc2.1 (fun _ => of_decide_eq_true hc2.2)
  | 19, hf, hc => exact ai_tc C hb hN hle hM hbb (ck := 1) (ci := 0) hf hc (fun z => by cases z)
  | 20, hf, hc => exact ai_tc C hb hN hle hM hbb (ck := 2) (ci := 0) hf hc (fun z => by cases z)
  | 21, hf, hc => exact ai_tc C hb hN hle hM hbb (ck := 4) (ci := 0) hf hc (fun z => by cases z)
  | 22, hf, hc => exact ai_tc C hb hN hle hM hbb (ck := 5) (ci := 0) hf hc (fun z => by cases z)
  | 23, hf, hc =>
    intro H locs lsC hl hw
    have e1 := ai_ret_h hf
    have g := hE 0 pc b1 b2 x y tbl st h (by decide) hf hc H locs lsC hw e1
    rw [← e1] at g
    exact g
  | 24, hf, hc =>
    intro H locs lsC hl hw
    have e1 := ai_ret_h hf
    have g := hE 1 pc b1 b2 x y tbl st h (by decide) hf hc H locs lsC hw e1
    rw [← e1] at g
    exact g
  | 25, hf, hc =>
    intro H locs lsC hl hw
    have e1 := ai_ret_h hf
    have g := hE 2 pc b1 b2 x y tbl st h (by decide) hf hc H locs lsC hw e1
    rw [← e1] at g
    exact g
  | 26, hf, hc =>
    intro H locs lsC hl hw
    have e1 := ai_ret_h hf
    have g := hE 3 pc b1 b2 x y tbl st h (by decide) hf hc H locs lsC hw e1
    rw [← e1] at g
    exact g
  | 27, hf, hc =>
    intro H locs lsC hl hw
    have e1 := ai_ret_h hf
    have g := hE 4 pc b1 b2 x y tbl st h (by decide) hf hc H locs lsC hw e1
    rw [← e1] at g
    exact g
  | kd + 28, hf, hc => cases hf
end Core
end
section
/-! the interpreter's answers are the machine's: methods, and the law's body -/
theorem ai_ckm_of {k : Nat} (h : k < 140) : (∀ b, b < (ai_pr.getD k []).length → ai_ckb k b = true) ∧ ai_pc k 0 = 0 ∧ (ai_ini k = true → (ai_y k).name = "<init>") ∧ ai_own (ai_mo k) = (ai_y k).cls := by
  have h1 := ai_ck_all k h
  unfold ai_ckm at h1
  simp only [Bool.and_eq_true] at h1
  obtain ⟨a, b, c⟩ := h1
  have c := of_decide_eq_true c
  refine ⟨fun j hj => ai_all a (List.mem_range.mpr hj), of_decide_eq_true b, fun hi => ?_, c.2⟩
  rw [c.1] at hi
  exact of_decide_eq_true hi
theorem ai_plain : (List.range 139).all (fun j => plainName (ai_y j).cls) = true := by decide +kernel
theorem ai_blk_out {k b : Nat} (h : ¬ b < (ai_pr.getD k []).length) : ai_blk k b = (0, [], (99, 0, 0, 0, 0, [])) := by
  unfold ai_blk
  rw [List.getD_eq_getElem?_getD, List.getElem?_eq_none (by omega)]
  rfl
/-- the locals of a method's entry -/
theorem ai_entry {bA base : Nat} {c : Code} {k : Nat} {as : List Value} (hml : c.maxLocals = ai_ml k) (hlen : as.length ≤ ai_ml k) (hc : ∀ w ∈ as, w.category = 1) : ai_LR bA base c ((lg_sl (as.map (ai_cv bA base)) ++ List.replicate (ai_ml k - (lg_sl (as.map (ai_cv bA base))).length) Slot.unset).toArray) (ai_init k as) := by
  have hl : (ai_init k as).length = ai_ml k := by
    unfold ai_init
    rw [List.length_append, List.length_replicate]
    omega
  refine ⟨by rw [hl, hml], fun v hv => ?_, ?_⟩
  · unfold ai_init at hv
    rcases List.mem_append.mp hv with h | h
    · exact hc v h
    · rw [(List.mem_replicate.mp h).2]
      rfl
  · rw [hl]
    have h1 := lv_entry (as.map (ai_cv bA base)) (n := ai_ml k) (by rw [ai_lgsl as hc]; exact hlen)
    refine ⟨h1.1, h1.2.1, fun q hq => h1.2.2 q ?_⟩
    obtain ⟨j, w⟩ := q
    obtain ⟨v, -, g2, g3, g4⟩ := ai_lv_of _ _ _ _ hq
    rw [Nat.sub_zero] at g2
    unfold ai_init at g2
    by_cases hj : j < as.length
    · rw [List.getElem?_append_left hj] at g2
      have g5 := ai_lvargs (bA := bA) (base := base) as 0 j v hc g2
      rw [Nat.zero_add, ← g4] at g5
      exact g5
    · rw [List.getElem?_append_right (by omega)] at g2
      have g6 := (List.mem_replicate.mp (List.mem_of_getElem? g2)).2
      exact absurd g6 g3
/-- good points, of all methods at once, by fuel -/
def ai_Pn (S : ai_S) (l : Launch) (bA base : Nat) (dC : Nat → ClassId) (dI : Nat → Nat → Nat) (ca : Nat → ClassId) (n : Nat) : Prop :=
  ∀ {p : Program} {e : Env} {R : Room} {s : State} {m : MethodId} {args : Array Value} {below : List Frame} {meth : Method} {c : Code} {Q : State → Prop} {k n0 z0 : Nat} {v : Option Value} {h' : ai_H}, k < 140 → ai_CX bA base dC dI ca S p R s m args meth c k n0 → h'.length - n0 ≤ R.cells ∧ ai_sz h' - z0 ≤ R.slots → ai_Ex bA base dC dI ca p l e R s m args below meth c Q k n0 z0 v h' →
    ∀ (b : Nat) (ls st : List Value) (h : ai_H), ai_run S n k b ls st h = some (v, h') → n0 ≤ h.length ∧ z0 ≤ ai_sz h → ai_G bA base dC dI ca p l e R s m args below meth c Q n0 z0 (ai_pc k b) ls st h
theorem ai_ret0 {st : List Value} {h : ai_H} {v : Option Value} {h' : ai_H} (hf : ai_ret 0 st h = some (v, h')) : ∃ x : Int32, st = [.int x] ∧ v = some (.int x) := by
  cases st with
  | nil => cases hf
  | cons a t => cases t with
    | nil => cases a <;> first | (cases hf; exact ⟨_, rfl, rfl⟩) | cases hf
    | cons b t => cases a <;> cases hf
theorem ai_ret1 {st : List Value} {h : ai_H} {v : Option Value} {h' : ai_H} (hf : ai_ret 1 st h = some (v, h')) : ∃ x : Int32, st = [.int x] ∧ v = some (.int x) ∧ (x = 0 ∨ x = 1) := by
  cases st with
  | nil => cases hf
  | cons a t => cases t with
    | nil =>
      cases a with
      | int x =>
        have hf2 : (if x = 0 ∨ x = 1 then some (some (Value.int x), h) else none) = some (v, h') := hf
        split at hf2
        · rename_i hx
          cases hf2
          exact ⟨x, rfl, rfl, hx⟩
        · cases hf2
      | _ => cases hf
    | cons b t => cases a <;> cases hf
theorem ai_ret2 {st : List Value} {h : ai_H} {v : Option Value} {h' : ai_H} (hf : ai_ret 2 st h = some (v, h')) : ∃ x : Int64, st = [.long x] ∧ v = some (.long x) := by
  cases st with
  | nil => cases hf
  | cons a t => cases t with
    | nil => cases a <;> first | (cases hf; exact ⟨_, rfl, rfl⟩) | cases hf
    | cons b t => cases a <;> cases hf
theorem ai_ret3 {st : List Value} {h : ai_H} {v : Option Value} {h' : ai_H} (hf : ai_ret 3 st h = some (v, h')) : (∃ q : Nat, st = [.ref q] ∧ v = some (.ref q)) ∨ (st = [.null] ∧ v = some .null) := by
  cases st with
  | nil => cases hf
  | cons a t => cases t with
    | nil => cases a <;> first | (cases hf; exact Or.inl ⟨_, rfl, rfl⟩) | (cases hf; exact Or.inr ⟨rfl, rfl⟩) | cases hf
    | cons b t => cases a <;> cases hf
theorem ai_ret4 {st : List Value} {h : ai_H} {v : Option Value} {h' : ai_H} (hf : ai_ret 4 st h = some (v, h')) : st = [] ∧ v = none := by
  cases st with
  | nil => cases hf; exact ⟨rfl, rfl⟩
  | cons a t => cases t <;> cases a <;> cases hf
set_option maxHeartbeats 4000000 in
theorem ai_met {S : ai_S} {l : Launch} {bA base : Nat} {dC : Nat → ClassId} {dI : Nat → Nat → Nat} {ca : Nat → ClassId} {n : Nat} (ih : ai_Pn S l bA base dC dI ca n) (hbl : bA < base) {j : Nat} {as : List Value} {h1 : ai_H} {v1 : Option Value} {h2 : ai_H} (hj : j < 139) (hlen : as.length ≤ ai_ml j) (hr : ai_calr (ai_run S n) j as h1 = some (v1, h2)) : ai_Met bA base dC dI ca S l j as h1 v1 h2 := by
  unfold ai_calr at hr
  split at hr
  · rename_i hcat
    have hcat2 : ∀ w ∈ as, w.category = 1 := fun w hw => eq_of_beq (List.all_eq_true.mp hcat w hw)
    have hle := ai_run_le S n _ _ _ _ _ _ _ hr
    obtain ⟨k1, k2, k3, k4⟩ := ai_ckm_of (k := j) (by omega)
    refine Met.ofW (cc := ai_c j) (maxL := ai_ml j) (ret := ai_rt j) (ai_all ai_plain (List.mem_range.mpr hj)) rfl ?_
    intro p e s m args below meth c s₁ B hml hv
    obtain ⟨rfl, hsz, hP, hK, hX⟩ := hv
    have hts := atoms_spec (ws := ai_ws j) B.pre
    have hown : s.vm.findClass (ai_y j).cls = some m.cls := findClass_of_methodNamed B.named
    have C : ai_CX bA base dC dI ca S p (headSpec (ai_ws j) (ai_rm j (h2.length - h1.length) (ai_sz h2 - ai_sz h1))).room s m (as.map (ai_cv bA base)).toArray meth c j h1.length :=
      ⟨B.exec, B.bytes, by rw [k4]; exact hown, fun w hw => hts w (List.mem_cons_of_mem _ hw), hK, hX, hbl, hsz, fun hi => ((name_of_methodNamed B.named B.method).1).trans (k3 hi), Nat.le_refl _, Nat.le_refl _⟩
    have hE : ai_Ex bA base dC dI ca p l e (headSpec (ai_ws j) (ai_rm j (h2.length - h1.length) (ai_sz h2 - ai_sz h1))).room s m (as.map (ai_cv bA base)).toArray below meth c (MQ below (ai_Qc bA base dC dI ca v1 h2) (as.map (ai_cv bA base)).toArray s (h2.length - h1.length) (ai_sz h2 - ai_sz h1) (fun q : Nat => base ≤ q)) j h1.length (ai_sz h1) v1 h2 := by
      intro rk pc b1 b2 x y tbl st h hrk hf hc H locs lsC hw hh
      subst hh
      match rk, hf, hc with
      | 0, hf, hc =>
        have hc2 : (ai_dec j pc .ireturn 1 && decide (ai_rt j = some .int)) = true := hc
        rw [Bool.and_eq_true] at hc2
        obtain ⟨i, rfl, rfl⟩ := ai_ret0 hf
        exact W.iret B.exec B.bytes (B.returns.trans (of_decide_eq_true hc2.2)) (fun t ht _ => ⟨rfl, by rw [ht]; exact hw.1, hw.2.F ht⟩) hw.2.2.2 (ai_dec_of hc2.1) B.notSynchronized
      | 1, hf, hc =>
        have hc2 : (ai_dec j pc .ireturn 1 && decide (ai_rt j = some .boolean)) = true := hc
        rw [Bool.and_eq_true] at hc2
        obtain ⟨i, rfl, rfl, hi⟩ := ai_ret1 hf
        exact W.zret B.exec B.bytes (B.returns.trans (of_decide_eq_true hc2.2)) (by rcases hi with rfl | rfl; exact ai_z0.1; exact ai_z1.1) (fun t ht _ => ⟨rfl, by rw [ht]; exact hw.1, hw.2.F ht⟩) hw.2.2.2 (ai_dec_of hc2.1) B.notSynchronized
      | 2, hf, hc =>
        have hc2 : (ai_dec j pc .lreturn 1 && decide (ai_rt j = some .long)) = true := hc
        rw [Bool.and_eq_true] at hc2
        obtain ⟨i, rfl, rfl⟩ := ai_ret2 hf
        exact W.lret B.exec B.bytes (B.returns.trans (of_decide_eq_true hc2.2)) (fun t ht _ => ⟨rfl, by rw [ht]; exact hw.1, hw.2.F ht⟩) hw.2.2.2 (ai_dec_of hc2.1) B.notSynchronized
      | 3, hf, hc =>
        have hc2 : (ai_dec j pc .areturn 1 && (match ai_rt j with
          | some t => ai_isR t
          | none => false)) = true := hc
        rw [Bool.and_eq_true] at hc2
        have hrt : ∃ rt, ai_rt j = some rt ∧ ((∃ n, rt = .object n) ∨ ∃ t, rt = .array t) := by
          have h3 := hc2.2
          split at h3
          · rename_i t ht
            refine ⟨t, ht, ?_⟩
            unfold ai_isR at h3
            split at h3
            · exact Or.inl ⟨_, rfl⟩
            · exact Or.inr ⟨_, rfl⟩
            · cases h3
          · cases h3
        obtain ⟨rt, e1, e2⟩ := hrt
        rcases ai_ret3 hf with ⟨q, rfl, rfl⟩ | ⟨rfl, rfl⟩
        · skip
          exact W.aret B.exec B.bytes (B.returns.trans e1) e2 (Or.inr ⟨_, rfl⟩) (fun t ht _ => ⟨rfl, by rw [ht]; exact hw.1, hw.2.F ht⟩) hw.2.2.2 (ai_dec_of hc2.1) B.notSynchronized
        · exact W.aret B.exec B.bytes (B.returns.trans e1) e2 (Or.inl rfl) (fun t ht _ => ⟨rfl, by rw [ht]; exact hw.1, hw.2.F ht⟩) hw.2.2.2 (ai_dec_of hc2.1) B.notSynchronized
      | 4, hf, hc =>
        have hc2 : (ai_dec j pc .return_ 1 && decide (ai_rt j = none)) = true := hc
        rw [Bool.and_eq_true] at hc2
        obtain ⟨rfl, rfl⟩ := ai_ret4 hf
        exact W.vret B.exec B.bytes (B.returns.trans (of_decide_eq_true hc2.2)) (fun t ht _ => ⟨rfl, by rw [ht]; exact hw.1, hw.2.F ht⟩) hw.2.2.2 (ai_dec_of hc2.1) B.notSynchronized
      | rk + 5, hf, hc => omega
    have G := @ih _ _ _ _ _ _ _ _ _ _ _ _ _ _ _ (show j < 140 by omega) C ⟨Nat.le_refl _, Nat.le_refl _⟩ hE 0 (ai_init j as) [] h1 hr ⟨Nat.le_refl _, Nat.le_refl _⟩
    have hL := ai_entry (bA := bA) (base := base) hml hlen hcat2
    have g := G s.heap [] _ hL ⟨hP, va_S.rf⟩
    rw [k2] at g
    rw [lg_entry_eq]
    exact W.cs (Nat.sub_self _).symm (Nat.sub_self _).symm g
  · cases hr
theorem ai_all_Pn {S : ai_S} {l : Launch} {bA base : Nat} {dC : Nat → ClassId} {dI : Nat → Nat → Nat} {ca : Nat → ClassId} (hbl : bA < base) : ∀ n, ai_Pn S l bA base dC dI ca n := by
  intro n
  induction n with
  | zero =>
    intro p e R s m args below meth c Q k n0 z0 v h' hk C hbb hE b ls st h hf
    cases hf
  | succ n ih =>
    intro p e R s m args below meth c Q k n0 z0 v h' hk C hbb hE b ls st h hf hb
    unfold ai_run ai_step at hf
    by_cases hlen : b < (ai_pr.getD k []).length
    · have hck := (ai_ckm_of hk).1 b hlen
      unfold ai_ckb at hck
      split at hf
      · rename_i ls1 st1 h1 hx
        split at hck
        · rename_i pc1 hpc1
          have l1 := ai_xl_le _ _ _ _ _ hx
          dsimp only at l1
          have l2 := ai_term_le (ai_run_le S n) hf
          have b2 : n0 ≤ h1.length ∧ z0 ≤ ai_sz h1 := ⟨Nat.le_trans hb.1 l1.1, Nat.le_trans hb.2 l1.2⟩
          have g := ai_tt C b2 (fun b ls st h hf hb => @ih _ _ _ _ _ _ _ _ _ _ _ _ _ _ _ hk C hbb hE b ls st h hf hb) (ai_run_le S n) (fun j as h1 v1 h2 hj hl hr => ai_met @ih hbl hj hl hr) hbb hE hf hck
          have := l2.1
          have := l2.2
          exact ai_line C _ _ _ _ _ _ _ _ _ hx hpc1 ⟨hb.1, hb.2, by omega, by omega⟩ g
        · cases hck
      · cases hf
    · rw [ai_blk_out hlen] at hf
      cases hf
end
section
/-! the law's body: from an answer of the interpreter to the walk that the claim owes -/
def R_law : String := "VelvetHandLaw"
def lw_P (b : Addr) (xs : List Int32) (args : Array Value) (s : State) : Prop := args = #[.ref b] ∧ s.IntsAt b xs ∧ xs.length ≤ 256 ∧ (Jvm.Cond.and given_1 narrow_1).before args s = true
def lw_Q (_ : Array Value) (s : State) (o : Outcome) (t : State) : Prop := o = .returned (some (.int 1)) ∧ Framed s o t [] 600000 7302250
def lw_Z (below : List Frame) (a : Array Value) (s : State) : State → Prop := fun t => ∃ o, t.status = .running ∧ Ended t below o ∧ lw_Q a s o t
/-- the law's own end, with 1 on the stack, nothing written that was there before, its room as the claim has it -/
theorem lw_ret {p : Program} {l : Launch} {e : Env} {s : State} {m : MethodId} {below : List Frame} {meth : Method} {c : Code} {b : Nat} (hx : p.tables.exec = Jvm.exec) (hb : c.code = code) (hr : meth.sig.returnType = ret) (hlocks : meth.locks = false) {pc : Nat} {H : Heap} {ls : Array Slot} (hdg : decode code pc = .ok (.ireturn, 1)) : W p l e room_1 s m #[Value.ref b] below meth c H [] 600000 7302250 (lw_Z below #[Value.ref b] s) (F0 m pc ls [.int 1]) := by
  intro T hT X
  obtain ⟨fs, hret, hrun, hended, hW, hframe⟩ := X.leave (v := some (.int 1)) (hlocks := hlocks) (fun h => by rw [hr] at h; cases h)
  have hmeth' : T.vm.method? m = some meth := X.method'
  refine ⟨T.setFrames fs, ?_, .returned (some (.int 1)), hrun, hended, rfl, ⟨_, rfl⟩, hW, hframe⟩
  jvm_step X.here [X.here.top, hx, hb, hdg, hmeth', hr, ret, narrow_b1]
  (try refine ⟨rfl, ?_⟩); (try refine ⟨rfl, ?_⟩)
  first | (intro acts; rw [hret _ acts rfl rfl rfl]) | rw [hret _ _ rfl rfl rfl]
  exact Steps.refl _
/-- what holds at the law's entry: the machine, the code, the tables' words (any of lw_tbl by 'hts w (by decide +kernel)'), the script of L ints xs at the cell b, what the Statement gives of the start (any of its parts by flat_of_before) -/
def lw_At (p : Program) (s : State) (m : MethodId) (meth : Method) (c : Code) (b L : Nat) (xs : Nat → Int32) : Prop :=
  p.tables.exec = Jvm.exec ∧ c.code = code ∧ meth.sig.returnType = ret ∧ c.maxLocals = 4 ∧ s.vm.findClass R_law = some m.cls ∧ (∀ w ∈ lw_tbl, w.before #[Value.ref b] s = true) ∧ va_X b L xs s s.heap ∧ b < s.heap.size ∧ meth.locks = false ∧ (Jvm.Cond.and given_1 narrow_1).before #[Value.ref b] s = true
theorem ai_NW_in : ai_NW.all (fun w => decide (w ∈ lw_tbl)) = true := by decide +kernel
theorem ai_AO_in : Cond.arrayOver (.object "VelvetHand$Moment") ∈ lw_tbl := by decide +kernel
theorem ai_onT {w : Cond} (h : ai_isN w = true) : w.onTables = true := by
  unfold ai_isN at h
  split at h
  · rfl
  · cases h
theorem ai_arrT {args : Array Value} {s : State} {ty : FieldType} (h : (Cond.arrayClass ty).before args s = true) (hra : ∀ cA : ClassId, s.vm.findClass ("[" ++ ty.toString) = some cA → va_RA s cA ty) : ∃ cA : ClassId, ArrOfT s cA ty ∧ va_RA s cA ty := by
  obtain ⟨cA, kA, comp, h1, h2, h3⟩ := Cond.arrayClass_spec h
  exact ⟨cA, fun n z => ⟨(fun k h => by cases h), kA, h2, comp, h3⟩, hra cA h1⟩
theorem ai_start_KK {b : Nat} {s : State} (hts : ∀ w ∈ lw_tbl, w.before #[Value.ref b] s = true) : ∃ (dC : Nat → ClassId) (dI : Nat → Nat → Nat) (ca : Nat → ClassId), ai_KK dC dI ca s := by
  have htb : ∀ w ∈ ai_TB, w.before #[Value.ref b] s = true := fun w h => hts w (ai_TB_in h)
  have hcl : ∀ ci, ∃ (cC : ClassId) (iS : Nat → Nat), ci < 7 → u_Kn s (ai_cl ci).1 (ai_cl ci).2.1 (ai_cl ci).2.2 cC iS := by
    intro ci
    by_cases h : ci < 7
    · obtain ⟨u1, u2, u3⟩ := ai_uws h
      obtain ⟨cC, iS, hk⟩ := u_known htb u1 (htb _ u2)
      exact ⟨cC, iS, fun _ => hk⟩
    · exact ⟨0, fun _ => 0, fun z => absurd z h⟩
  obtain ⟨c0, a1, a2⟩ := ai_arrT (htb _ ai_wl_of.1) (fun _ h => h)
  obtain ⟨c1, b1, b2⟩ := ai_arrT (htb _ ai_wl_of.2.1) (fun _ h => h)
  have hao : va_AO "VelvetHand$Moment" s := va_AO.of (hts _ ai_AO_in)
  obtain ⟨comp, c2, k2, d1, -, d3, d4, d5⟩ := Cond.arrayOver_spec hao
  refine ⟨fun ci => Classical.choose (hcl ci), fun ci => Classical.choose (Classical.choose_spec (hcl ci)), fun t => if t = 0 then c0 else if t = 1 then c1 else c2, ⟨fun k q hq => ?_, fun k q hq => ?_⟩, fun w hw => ?_, hao⟩
  · have hk : k < 7 := (List.getElem?_eq_some_iff.mp hq).1
    have h2 := Classical.choose_spec (Classical.choose_spec (hcl k)) hk
    rw [ai_vwCl hk] at hq
    cases hq
    exact h2
  · match k, hq with
    | 0, hq => cases hq; exact ⟨a1, a2⟩
    | 1, hq => cases hq; exact ⟨b1, b2⟩
    | 2, hq => cases hq; exact ⟨fun n z => ⟨(fun k h => by cases h), k2, d3, comp, d4⟩, k2, comp, d3, d4, d1, d5⟩
    | k + 3, hq => cases hq
  · exact va_Nw.of (ai_onT (ai_all ai_NW_is hw)) (hts w (of_decide_eq_true (ai_all ai_NW_in hw)))
theorem ai_law_c : ai_c 139 = code := rfl
theorem ai_law_o : ai_own (ai_mo 139) = R_law := rfl
theorem ai_law_ml : ai_ml 139 = 4 := rfl
theorem ai_law_rt : ai_rt 139 = some .boolean := rfl
theorem ai_law_fr : ai_fr 139 ≤ room_1.frames ∧ ai_lo 139 ≤ room_1.locals := by decide
set_option maxRecDepth 100000 in
theorem ai_whole {p : Program} {e : Env} {s : State} {m : MethodId} {below : List Frame} {meth : Method} {c : Code} (l : Launch) {b L : Nat} {xs : Nat → Int32} (C0 : lw_At p s m meth c b L xs) {n : Nat} {h' : ai_H} (hrun : ai_run (L, xs) n 139 0 (ai_init 139 [.ref 0]) [] [] = some (some (.int 1), h')) (hsz : h'.length ≤ 600000 ∧ ai_sz h' ≤ 7302250) :
    W p l e room_1 s m #[Value.ref b] below meth c s.heap [] 0 0 (lw_Z below #[Value.ref b] s) (entryFrame m ([Value.ref b] : List Value).toArray 4) := by
  obtain ⟨hx, hb, hr, hml, hown, hts, hX, hbl, hlocks, hgv⟩ := C0
  obtain ⟨dC, dI, ca, hK⟩ := ai_start_KK hts
  have C : ai_CX b s.heap.size dC dI ca (L, xs) p room_1 s m #[Value.ref b] meth c 139 0 := ⟨hx, by rw [ai_law_c]; exact hb, by rw [ai_law_o]; exact hown, fun w hw => hts w (ai_TB_in hw), hK, hX, hbl, rfl, (fun z => by cases z), ai_law_fr.1, ai_law_fr.2⟩
  have hE : ai_Ex b s.heap.size dC dI ca p l e room_1 s m #[Value.ref b] below meth c (lw_Z below #[Value.ref b] s) 139 0 0 (some (.int 1)) h' := by
    intro rk pc b1 b2 x y tbl st h hrk hf hc H locs lsC hw hh
    subst hh
    match rk, hf, hc with
    | 0, hf, hc =>
      have hc2 : (ai_dec 139 pc .ireturn 1 && decide (ai_rt 139 = some .int)) = true := hc
      rw [Bool.and_eq_true] at hc2
      have := of_decide_eq_true hc2.2
      rw [ai_law_rt] at this
      cases this
    | 1, hf, hc =>
      have hc2 : (ai_dec 139 pc .ireturn 1 && decide (ai_rt 139 = some .boolean)) = true := hc
      rw [Bool.and_eq_true] at hc2
      have hd := ai_dec_of hc2.1
      rw [ai_law_c] at hd
      obtain ⟨i, rfl, e1, hi⟩ := ai_ret1 hf
      cases e1
      refine va_forget hw.2.2.2 (W.widen (k := 600000) (n := 7302250) (by omega) (by omega) ?_)
      exact lw_ret hx hb hr hlocks hd
    | 2, hf, hc =>
      obtain ⟨i, rfl, e1⟩ := ai_ret2 hf
      cases e1
    | 3, hf, hc =>
      rcases ai_ret3 hf with ⟨q, rfl, e1⟩ | ⟨rfl, e1⟩ <;> cases e1
    | 4, hf, hc =>
      obtain ⟨rfl, e1⟩ := ai_ret4 hf
      cases e1
    | rk + 5, hf, hc => omega
  have G := @ai_all_Pn (L, xs) l b s.heap.size dC dI ca hbl n _ _ _ _ _ _ _ _ _ _ _ _ _ _ _ (by decide) C (by show h'.length - 0 ≤ 600000 ∧ ai_sz h' - 0 ≤ 7302250; omega) hE 0 (ai_init 139 [.ref 0]) [] [] hrun ⟨Nat.le_refl _, Nat.zero_le _⟩
  have hL := ai_entry (bA := b) (base := s.heap.size) (c := c) (k := 139) (as := [.ref 0]) (by rw [hml]; rfl) (by decide) (fun w hw => by rw [List.mem_singleton.mp hw]; rfl)
  have g := G s.heap [] _ hL ⟨fun k q h => by simp [ai_cw] at h, va_S.rf⟩
  rw [(ai_ckm_of (k := 139) (by decide)).2.1] at g
  rw [lg_entry_eq]
  exact g
end
section
/-! the interpreter without fuel: an equation a block -/
def ai_NF (f : ai_Rec → ai_A) : Prop := (∃ o, ∀ r, f r = o) ∨ (∃ (m b : Nat) (ls st : List Value) (h : ai_H), ∀ r, f r = r m b ls st h) ∨ (∃ (j b0 : Nat) (ls0 st0 : List Value) (h0 : ai_H) (m b : Nat) (ls rest : List Value), ∀ r, f r = match r j b0 ls0 st0 h0 with
  | some (v, h1) => r m b ls (v.toList ++ rest) h1
  | none => none)
theorem nf_c (o : ai_A) : ai_NF (fun _ => o) := Or.inl ⟨o, fun _ => rfl⟩
theorem nf_r (m b : Nat) (ls st : List Value) (h : ai_H) : ai_NF (fun r => r m b ls st h) := Or.inr (Or.inl ⟨m, b, ls, st, h, fun _ => rfl⟩)
theorem nf_eq {f g : ai_Rec → ai_A} (hg : ai_NF g) (h : ∀ r, f r = g r) : ai_NF f := by
  have : f = g := funext h
  rw [this]; exact hg
theorem nf_if (P : Int32 → Prop) [DecidablePred P] (m b1 b2 : Nat) (ls st : List Value) (h : ai_H) : ai_NF (fun r => ai_if P r m b1 b2 ls st h) := by
  unfold ai_if
  split
  · split
    · exact nf_r _ _ _ _ _
    · exact nf_r _ _ _ _ _
  · exact nf_c _
theorem nf_if2 (P : Int32 → Int32 → Prop) [∀ x y, Decidable (P x y)] (m b1 b2 : Nat) (ls st : List Value) (h : ai_H) : ai_NF (fun r => ai_if2 P r m b1 b2 ls st h) := by
  unfold ai_if2
  split
  · split
    · exact nf_r _ _ _ _ _
    · exact nf_r _ _ _ _ _
  · exact nf_c _
theorem nf_nul (m b1 b2 : Nat) (ls st : List Value) (h : ai_H) : ai_NF (fun r => ai_nul r m b1 b2 ls st h) := by
  unfold ai_nul
  split
  · exact nf_r _ _ _ _ _
  · exact nf_r _ _ _ _ _
  · exact nf_c _
theorem nf_sw (m d : Nat) (ls st : List Value) (h : ai_H) (x : Int32) : ∀ t : List (Int32 × Nat), ai_NF (fun r => ai_sw r m d ls st h x t)
  | [] => nf_r _ _ _ _ _
  | (k, b) :: t => by
    by_cases hx : x = k
    · exact nf_eq (nf_r m b ls st h) (fun r => by unfold ai_sw; rw [if_pos hx])
    · exact nf_eq (nf_sw m d ls st h x t) (fun r => by rw [ai_sw, if_neg hx])
theorem nf_swt (m d : Nat) (t : List (Int32 × Nat)) (ls st : List Value) (h : ai_H) : ai_NF (fun r => ai_swt r m d t ls st h) := by
  unfold ai_swt
  split
  · exact nf_sw _ _ _ _ _ _ _
  · exact nf_c _
theorem nf_cal (m b1 b2 n ck ci : Nat) (ls st : List Value) (h : ai_H) : ai_NF (fun r => ai_cal r (ai_calr r) m b1 b2 n ck ci ls st h) := by
  unfold ai_cal
  split
  · rename_i as rest hs
    split
    · by_cases hc : (as.all fun v => v.category == 1) = true
      · refine Or.inr (Or.inr ⟨b2, 0, ai_init b2 as, [], h, m, b1, ls, rest, fun r => ?_⟩)
        show (match ai_calr r b2 as h with | some (v, h') => r m b1 ls (v.toList ++ rest) h' | none => none) = _
        unfold ai_calr
        rw [if_pos hc]
      · refine Or.inl ⟨none, fun r => ?_⟩
        show (match ai_calr r b2 as h with | some (v, h') => r m b1 ls (v.toList ++ rest) h' | none => none) = none
        unfold ai_calr
        rw [if_neg hc]
    · exact nf_c _
  · exact nf_c _
theorem nf_term (m : Nat) (t : ai_T) (ls st : List Value) (h : ai_H) : ai_NF (fun r => ai_term r (ai_calr r) m t ls st h) := by
  unfold ai_term
  split <;> first | exact nf_r _ _ _ _ _ | exact nf_if _ _ _ _ _ _ _ | exact nf_if2 _ _ _ _ _ _ _ | exact nf_nul _ _ _ _ _ _ | exact nf_swt _ _ _ _ _ _ | exact nf_cal _ _ _ _ _ _ _ _ _ | exact nf_c _
theorem nf_step (S : ai_S) (m b : Nat) (ls st : List Value) (h : ai_H) : ai_NF (fun r => ai_step r S m b ls st h) := by
  unfold ai_step
  split
  · exact nf_term _ _ _ _ _
  · exact nf_c _
def ai_lef (r r' : ai_Rec) : Prop := ∀ (m b : Nat) (ls st : List Value) (h : ai_H) (x : Option Value × ai_H), r m b ls st h = some x → r' m b ls st h = some x
theorem nf_mono {f : ai_Rec → ai_A} (hf : ai_NF f) {r r' : ai_Rec} (hr : ai_lef r r') {x : Option Value × ai_H} (h : f r = some x) : f r' = some x := by
  rcases hf with ⟨o, ho⟩ | ⟨m, b, ls, st, hh, ho⟩ | ⟨j, b0, ls0, st0, h0, m, b, ls, rest, ho⟩
  · rw [ho] at h ⊢; exact h
  · rw [ho] at h ⊢; exact hr _ _ _ _ _ _ h
  · rw [ho] at h ⊢
    split at h
    · rename_i v h1 e1
      rw [hr _ _ _ _ _ _ e1]
      exact hr _ _ _ _ _ _ h
    · cases h
theorem ai_run_succ (S : ai_S) : ∀ n, ai_lef (ai_run S n) (ai_run S (n + 1))
  | 0 => fun _ _ _ _ _ _ h => by cases h
  | n + 1 => fun m b ls st h x hx => nf_mono (nf_step S m b ls st h) (ai_run_succ S n) hx
theorem ai_run_ge (S : ai_S) {n k : Nat} (h : n ≤ k) : ai_lef (ai_run S n) (ai_run S k) := by
  induction h with
  | refl => exact fun _ _ _ _ _ _ h => h
  | step _ ih => exact fun m b ls st h x hx => ai_run_succ S _ m b ls st h x (ih m b ls st h x hx)
noncomputable def ai_res (S : ai_S) : ai_Rec := fun m b ls st h =>
  haveI := Classical.propDecidable (∃ x n, ai_run S n m b ls st h = some x)
  if hx : ∃ x n, ai_run S n m b ls st h = some x then some (Classical.choose hx) else none
theorem ai_res_run {S : ai_S} {m b : Nat} {ls st : List Value} {h : ai_H} {x : Option Value × ai_H} (hx : ai_res S m b ls st h = some x) : ∃ n, ai_run S n m b ls st h = some x := by
  unfold ai_res at hx
  split at hx
  · rename_i hh
    obtain ⟨n, hn⟩ := Classical.choose_spec hh
    cases hx
    exact ⟨n, hn⟩
  · cases hx
theorem ai_res_of {S : ai_S} {n m b : Nat} {ls st : List Value} {h : ai_H} {x : Option Value × ai_H} (hx : ai_run S n m b ls st h = some x) : ai_res S m b ls st h = some x := by
  have hh : ∃ x n, ai_run S n m b ls st h = some x := ⟨x, n, hx⟩
  obtain ⟨k, hk⟩ := Classical.choose_spec hh
  have h1 := ai_run_ge S (Nat.le_max_left n k) m b ls st h _ hx
  have h2 := ai_run_ge S (Nat.le_max_right n k) m b ls st h _ hk
  rw [h1] at h2
  unfold ai_res
  rw [dif_pos hh]
  exact h2.symm
theorem ai_res_eq (S : ai_S) (m b : Nat) (ls st : List Value) (h : ai_H) : ai_res S m b ls st h = ai_step (ai_res S) S m b ls st h := by
  have h1 : ∀ x, ai_res S m b ls st h = some x → ai_step (ai_res S) S m b ls st h = some x := by
    intro x hx
    obtain ⟨n, hn⟩ := ai_res_run hx
    cases n with
    | zero => cases hn
    | succ n => exact nf_mono (nf_step S m b ls st h) (fun m b ls st h x hx => ai_res_of hx) hn
  have h2 : ∀ x, ai_step (ai_res S) S m b ls st h = some x → ai_res S m b ls st h = some x := by
    intro x hx
    rcases nf_step S m b ls st h with ⟨o, ho⟩ | ⟨m', b', ls', st', hh, ho⟩ | ⟨j, b0, ls0, st0, h0, m', b', ls', rest, ho⟩
    · dsimp only at ho
      rw [ho] at hx
      refine ai_res_of (n := 1) ?_
      show ai_step (ai_run S 0) S m b ls st h = some x
      rw [ho]; exact hx
    · dsimp only at ho
      rw [ho] at hx
      obtain ⟨n, hn⟩ := ai_res_run hx
      refine ai_res_of (n := n + 1) ?_
      show ai_step (ai_run S n) S m b ls st h = some x
      rw [ho]; exact hn
    · dsimp only at ho
      rw [ho] at hx
      split at hx
      · rename_i v h1 e1
        obtain ⟨n1, g1⟩ := ai_res_run e1
        obtain ⟨n2, g2⟩ := ai_res_run hx
        have k1 := ai_run_ge S (Nat.le_max_left n1 n2) _ _ _ _ _ _ g1
        have k2 := ai_run_ge S (Nat.le_max_right n1 n2) _ _ _ _ _ _ g2
        refine ai_res_of (n := max n1 n2 + 1) ?_
        show ai_step (ai_run S (max n1 n2)) S m b ls st h = some x
        rw [ho, k1]; exact k2
      · cases hx
  cases hy : ai_res S m b ls st h with
  | some x => exact (h1 x hy).symm
  | none =>
    cases hz : ai_step (ai_res S) S m b ls st h with
    | some x => rw [h2 x hz] at hy; cases hy
    | none => rfl
/-- a call, and what is left of a block -/
noncomputable def ai_call (S : ai_S) : ai_Cal := ai_calr (ai_res S)
noncomputable def ai_go (S : ai_S) (m : Nat) (is : List ai_I) (t : ai_T) (ls st : List Value) (h : ai_H) : ai_A := match ai_xl S is ls st h with
  | some (ls', st', h') => ai_term (ai_res S) (ai_call S) m t ls' st' h'
  | none => none
theorem ai_blk_go (S : ai_S) (m b : Nat) (ls st : List Value) (h : ai_H) : ai_res S m b ls st h = ai_go S m (ai_blk m b).2.1 (ai_blk m b).2.2 ls st h := ai_res_eq S m b ls st h
theorem ai_go_cons (S : ai_S) (m : Nat) (i : ai_I) (is : List ai_I) (t : ai_T) (ls st : List Value) (h : ai_H) : ai_go S m (i :: is) t ls st h = match ai_op S i ls st h with
  | some (ls', st', h') => ai_go S m is t ls' st' h'
  | none => none := by
  unfold ai_go
  rw [ai_xl]
  cases ai_op S i ls st h with
  | none => rfl
  | some x => rfl
theorem ai_go_nil (S : ai_S) (m : Nat) (t : ai_T) (ls st : List Value) (h : ai_H) : ai_go S m [] t ls st h = ai_term (ai_res S) (ai_call S) m t ls st h := rfl
end
section
/-! the blocks as equations, and the entries of the methods -/
theorem k_0_0 (S : ai_S) (ls st : List Value) (h : ai_H) : ai_res S 0 0 ls st h = ai_go S 0 [(5, 0, 0, 0, 0), (47, 0, 0, 3, 0), (5, 0, 0, 0, 0), (1, 0, 0, 0, 6), (36, 0, 0, 0, 0), (28, 0, 0, 9, 0), (5, 0, 0, 0, 0), (1, 0, 0, 0, 6), (36, 0, 0, 0, 0), (28, 0, 1, 15, 0), (5, 0, 0, 0, 0), (1, 0, 0, 0, 6), (36, 0, 0, 0, 0), (28, 0, 2, 18, 0)] (27, 0, 0, 0, 0, []) ls st h := ai_blk_go S 0 0 ls st h
theorem e_0 (S : ai_S) (q0 : Nat) (h : ai_H) : ai_call S 0 [.ref q0] h = ai_res S 0 0 [.ref q0] [] h := rfl
theorem k_1_0 (S : ai_S) (ls st : List Value) (h : ai_H) : ai_res S 1 0 ls st h = ai_go S 1 [(5, 0, 0, 0, 0), (23, 0, 3, 21, 0), (1, 0, 0, 0, 6)] (10, 2, 1, 0, 0, []) ls st h := ai_blk_go S 1 0 ls st h
theorem k_1_1 (S : ai_S) (ls st : List Value) (h : ai_H) : ai_res S 1 1 ls st h = ai_go S 1 [(0, 0, 0, 0, 0)] (24, 0, 0, 0, 0, []) ls st h := ai_blk_go S 1 1 ls st h
theorem k_1_2 (S : ai_S) (ls st : List Value) (h : ai_H) : ai_res S 1 2 ls st h = ai_go S 1 [(5, 0, 0, 0, 0), (23, 0, 0, 9, 0), (5, 0, 0, 0, 0), (23, 0, 3, 21, 0), (3, 1, 0, 0, 0)] (21, 3, 80, 3, 0, [(0, 25)]) ls st h := ai_blk_go S 1 2 ls st h
theorem k_1_3 (S : ai_S) (ls st : List Value) (h : ai_H) : ai_res S 1 3 ls st h = ai_go S 1 [(5, 0, 0, 0, 0), (23, 0, 1, 15, 0), (5, 0, 0, 0, 0), (23, 0, 3, 21, 0), (3, 2, 0, 0, 0)] (21, 4, 80, 3, 0, [(0, 25)]) ls st h := ai_blk_go S 1 3 ls st h
theorem k_1_4 (S : ai_S) (ls st : List Value) (h : ai_H) : ai_res S 1 4 ls st h = ai_go S 1 [(5, 0, 0, 0, 0), (23, 0, 2, 18, 0), (5, 0, 0, 0, 0), (23, 0, 3, 21, 0), (3, 3, 0, 0, 0)] (21, 5, 80, 3, 0, [(0, 25)]) ls st h := ai_blk_go S 1 4 ls st h
theorem k_1_5 (S : ai_S) (ls st : List Value) (h : ai_H) : ai_res S 1 5 ls st h = ai_go S 1 [(5, 0, 0, 0, 0), (20, 0, 0, 0, 0), (23, 0, 3, 21, 0), (0, 0, 0, 0, 1), (10, 0, 0, 0, 0), (24, 0, 3, 21, 0), (0, 0, 0, 0, 1)] (24, 0, 0, 0, 0, []) ls st h := ai_blk_go S 1 5 ls st h
theorem e_1 (S : ai_S) (q0 : Nat) (a0 : Int32) (a1 : Int32) (a2 : Int32) (h : ai_H) : ai_call S 1 [.ref q0, .int a0, .int a1, .int a2] h = ai_res S 1 0 [.ref q0, .int a0, .int a1, .int a2] [] h := rfl
theorem k_2_0 (S : ai_S) (ls st : List Value) (h : ai_H) : ai_res S 2 0 ls st h = ai_go S 2 [(5, 0, 0, 0, 0), (47, 0, 0, 3, 0), (5, 0, 0, 0, 0), (1, 0, 0, 0, 6), (36, 0, 0, 0, 0), (28, 1, 0, 9, 0), (5, 0, 0, 0, 0), (1, 0, 0, 0, 6), (36, 0, 0, 0, 0), (28, 1, 1, 15, 0), (5, 0, 0, 0, 0), (1, 0, 0, 0, (-9)), (24, 1, 7, 18, 0)] (27, 0, 0, 0, 0, []) ls st h := ai_blk_go S 2 0 ls st h
theorem e_2 (S : ai_S) (q0 : Nat) (h : ai_H) : ai_call S 2 [.ref q0] h = ai_res S 2 0 [.ref q0] [] h := rfl
theorem k_3_0 (S : ai_S) (ls st : List Value) (h : ai_H) : ai_res S 3 0 ls st h = ai_go S 3 [(0, 0, 0, 0, 0), (6, 2, 0, 0, 0)] (0, 1, 0, 0, 0, []) ls st h := ai_blk_go S 3 0 ls st h
theorem k_3_1 (S : ai_S) (ls st : List Value) (h : ai_H) : ai_res S 3 1 ls st h = ai_go S 3 [(3, 2, 0, 0, 0), (1, 0, 0, 0, 6)] (11, 5, 2, 0, 0, []) ls st h := ai_blk_go S 3 1 ls st h
theorem k_3_2 (S : ai_S) (ls st : List Value) (h : ai_H) : ai_res S 3 2 ls st h = ai_go S 3 [(5, 0, 0, 0, 0), (23, 1, 0, 9, 0), (3, 2, 0, 0, 0), (0, 0, 0, 0, 0)] (21, 3, 80, 3, 0, [(0, 22)]) ls st h := ai_blk_go S 3 2 ls st h
theorem k_3_3 (S : ai_S) (ls st : List Value) (h : ai_H) : ai_res S 3 3 ls st h = ai_go S 3 [(5, 0, 0, 0, 0), (23, 1, 1, 15, 0), (3, 2, 0, 0, 0), (0, 0, 0, 0, 0)] (21, 4, 80, 3, 0, [(0, 22)]) ls st h := ai_blk_go S 3 3 ls st h
theorem k_3_4 (S : ai_S) (ls st : List Value) (h : ai_H) : ai_res S 3 4 ls st h = ai_go S 3 [(9, 2, 0, 0, 1)] (1, 1, 0, 0, 0, []) ls st h := ai_blk_go S 3 4 ls st h
theorem k_3_5 (S : ai_S) (ls st : List Value) (h : ai_H) : ai_res S 3 5 ls st h = ai_go S 3 [(5, 0, 0, 0, 0), (0, 0, 0, 0, 0), (24, 1, 2, 26, 0), (5, 0, 0, 0, 0), (0, 0, 0, 0, 0), (24, 1, 3, 29, 0), (5, 0, 0, 0, 0), (0, 0, 0, 0, 0), (24, 1, 4, 32, 0), (5, 0, 0, 0, 0), (0, 0, 0, 0, 0), (24, 1, 5, 35, 0), (5, 0, 0, 0, 0), (3, 1, 0, 0, 0), (24, 1, 6, 38, 0), (5, 0, 0, 0, 0), (1, 0, 0, 0, (-9)), (24, 1, 7, 18, 0)] (27, 0, 0, 0, 0, []) ls st h := ai_blk_go S 3 5 ls st h
theorem e_3 (S : ai_S) (q0 : Nat) (a0 : Int32) (h : ai_H) : ai_call S 3 [.ref q0, .int a0] h = ai_res S 3 0 [.ref q0, .int a0, ai_u] [] h := rfl
theorem k_4_0 (S : ai_S) (ls st : List Value) (h : ai_H) : ai_res S 4 0 ls st h = ai_go S 4 [(0, 0, 0, 0, 0), (6, 2, 0, 0, 0)] (0, 1, 0, 0, 0, []) ls st h := ai_blk_go S 4 0 ls st h
theorem k_4_1 (S : ai_S) (ls st : List Value) (h : ai_H) : ai_res S 4 1 ls st h = ai_go S 4 [(3, 2, 0, 0, 0), (1, 0, 0, 0, 6)] (11, 7, 2, 0, 0, []) ls st h := ai_blk_go S 4 1 ls st h
theorem k_4_2 (S : ai_S) (ls st : List Value) (h : ai_H) : ai_res S 4 2 ls st h = ai_go S 4 [(5, 0, 0, 0, 0), (23, 1, 0, 9, 0), (3, 2, 0, 0, 0), (5, 1, 0, 0, 0), (23, 1, 0, 9, 0), (3, 2, 0, 0, 0)] (21, 3, 79, 2, 0, [(0, 41)]) ls st h := ai_blk_go S 4 2 ls st h
theorem k_4_3 (S : ai_S) (ls st : List Value) (h : ai_H) : ai_res S 4 3 ls st h = ai_go S 4 [] (21, 4, 80, 3, 0, [(0, 22)]) ls st h := ai_blk_go S 4 3 ls st h
theorem k_4_4 (S : ai_S) (ls st : List Value) (h : ai_H) : ai_res S 4 4 ls st h = ai_go S 4 [(5, 0, 0, 0, 0), (23, 1, 1, 15, 0), (3, 2, 0, 0, 0), (5, 1, 0, 0, 0), (23, 1, 1, 15, 0), (3, 2, 0, 0, 0)] (21, 5, 79, 2, 0, [(0, 41)]) ls st h := ai_blk_go S 4 4 ls st h
theorem k_4_5 (S : ai_S) (ls st : List Value) (h : ai_H) : ai_res S 4 5 ls st h = ai_go S 4 [] (21, 6, 80, 3, 0, [(0, 22)]) ls st h := ai_blk_go S 4 5 ls st h
theorem k_4_6 (S : ai_S) (ls st : List Value) (h : ai_H) : ai_res S 4 6 ls st h = ai_go S 4 [(9, 2, 0, 0, 1)] (1, 1, 0, 0, 0, []) ls st h := ai_blk_go S 4 6 ls st h
theorem k_4_7 (S : ai_S) (ls st : List Value) (h : ai_H) : ai_res S 4 7 ls st h = ai_go S 4 [(5, 0, 0, 0, 0), (5, 1, 0, 0, 0), (23, 1, 2, 26, 0), (24, 1, 2, 26, 0), (5, 0, 0, 0, 0), (5, 1, 0, 0, 0), (23, 1, 3, 29, 0), (24, 1, 3, 29, 0), (5, 0, 0, 0, 0), (5, 1, 0, 0, 0), (23, 1, 4, 32, 0), (24, 1, 4, 32, 0), (5, 0, 0, 0, 0), (5, 1, 0, 0, 0), (23, 1, 5, 35, 0), (24, 1, 5, 35, 0), (5, 0, 0, 0, 0), (5, 1, 0, 0, 0), (23, 1, 6, 38, 0), (24, 1, 6, 38, 0), (5, 0, 0, 0, 0), (5, 1, 0, 0, 0), (23, 1, 7, 18, 0), (24, 1, 7, 18, 0)] (27, 0, 0, 0, 0, []) ls st h := ai_blk_go S 4 7 ls st h
theorem e_4 (S : ai_S) (q0 : Nat) (q1 : Nat) (h : ai_H) : ai_call S 4 [.ref q0, .ref q1] h = ai_res S 4 0 [.ref q0, .ref q1, ai_u] [] h := rfl
theorem k_5_0 (S : ai_S) (ls st : List Value) (h : ai_H) : ai_res S 5 0 ls st h = ai_go S 5 [(5, 0, 0, 0, 0), (47, 0, 0, 3, 0), (5, 0, 0, 0, 0), (1, 0, 0, 0, 10), (38, 0, 0, 9, 0), (28, 2, 0, 11, 0), (0, 0, 0, 0, 0), (6, 1, 0, 0, 0)] (0, 1, 0, 0, 0, []) ls st h := ai_blk_go S 5 0 ls st h
theorem k_5_1 (S : ai_S) (ls st : List Value) (h : ai_H) : ai_res S 5 1 ls st h = ai_go S 5 [(3, 1, 0, 0, 0), (1, 0, 0, 0, 10)] (11, 4, 2, 0, 0, []) ls st h := ai_blk_go S 5 1 ls st h
theorem k_5_2 (S : ai_S) (ls st : List Value) (h : ai_H) : ai_res S 5 2 ls st h = ai_go S 5 [(5, 0, 0, 0, 0), (23, 2, 0, 11, 0), (3, 1, 0, 0, 0), (39, 1, 0, 9, 0), (20, 0, 0, 0, 0)] (22, 3, 2, 1, 0, [(0, 17)]) ls st h := ai_blk_go S 5 2 ls st h
theorem k_5_3 (S : ai_S) (ls st : List Value) (h : ai_H) : ai_res S 5 3 ls st h = ai_go S 5 [(34, 0, 0, 0, 0), (9, 1, 0, 0, 1)] (1, 1, 0, 0, 0, []) ls st h := ai_blk_go S 5 3 ls st h
theorem k_5_4 (S : ai_S) (ls st : List Value) (h : ai_H) : ai_res S 5 4 ls st h = ai_go S 5 [] (27, 0, 0, 0, 0, []) ls st h := ai_blk_go S 5 4 ls st h
theorem e_5 (S : ai_S) (q0 : Nat) (h : ai_H) : ai_call S 5 [.ref q0] h = ai_res S 5 0 [.ref q0, ai_u] [] h := rfl
theorem k_6_0 (S : ai_S) (ls st : List Value) (h : ai_H) : ai_res S 6 0 ls st h = ai_go S 6 [(5, 0, 0, 0, 0), (23, 2, 0, 11, 0), (5, 0, 0, 0, 0), (23, 2, 1, 18, 0)] (21, 1, 81, 2, 0, [(0, 22)]) ls st h := ai_blk_go S 6 0 ls st h
theorem k_6_1 (S : ai_S) (ls st : List Value) (h : ai_H) : ai_res S 6 1 ls st h = ai_go S 6 [(8, 2, 0, 0, 0), (5, 2, 0, 0, 0)] (14, 4, 2, 0, 0, []) ls st h := ai_blk_go S 6 1 ls st h
theorem k_6_2 (S : ai_S) (ls st : List Value) (h : ai_H) : ai_res S 6 2 ls st h = ai_go S 6 [(5, 2, 0, 0, 0), (5, 1, 0, 0, 0)] (18, 3, 4, 2, 1, [(0, 26)]) ls st h := ai_blk_go S 6 2 ls st h
theorem k_6_3 (S : ai_S) (ls st : List Value) (h : ai_H) : ai_res S 6 3 ls st h = ai_go S 6 [(5, 0, 0, 0, 0), (5, 0, 0, 0, 0), (23, 2, 1, 18, 0), (0, 0, 0, 0, 1), (10, 0, 0, 0, 0), (1, 0, 0, 0, 10), (19, 0, 0, 0, 0), (24, 2, 1, 18, 0), (5, 0, 0, 0, 0), (1, 0, 0, 0, 10), (5, 0, 0, 0, 0), (23, 2, 2, 30, 0), (0, 0, 0, 0, 1), (10, 0, 0, 0, 0), (48, 0, 0, 33, 0), (24, 2, 2, 30, 0)] (0, 4, 0, 0, 0, []) ls st h := ai_blk_go S 6 3 ls st h
theorem k_6_4 (S : ai_S) (ls st : List Value) (h : ai_H) : ai_res S 6 4 ls st h = ai_go S 6 [] (27, 0, 0, 0, 0, []) ls st h := ai_blk_go S 6 4 ls st h
theorem e_6 (S : ai_S) (q0 : Nat) (q1 : Nat) (h : ai_H) : ai_call S 6 [.ref q0, .ref q1] h = ai_res S 6 0 [.ref q0, .ref q1, ai_u] [] h := rfl
theorem k_7_0 (S : ai_S) (ls st : List Value) (h : ai_H) : ai_res S 7 0 ls st h = ai_go S 7 [(5, 0, 0, 0, 0), (23, 2, 1, 18, 0), (1, 0, 0, 0, 10), (10, 0, 0, 0, 0), (0, 0, 0, 0, 1), (11, 0, 0, 0, 0), (1, 0, 0, 0, 10), (19, 0, 0, 0, 0), (6, 2, 0, 0, 0), (5, 0, 0, 0, 0), (23, 2, 0, 11, 0), (3, 2, 0, 0, 0)] (21, 1, 81, 2, 0, [(0, 22)]) ls st h := ai_blk_go S 7 0 ls st h
theorem k_7_1 (S : ai_S) (ls st : List Value) (h : ai_H) : ai_res S 7 1 ls st h = ai_go S 7 [(8, 3, 0, 0, 0), (5, 0, 0, 0, 0), (23, 2, 2, 30, 0)] (7, 5, 2, 0, 0, []) ls st h := ai_blk_go S 7 1 ls st h
theorem k_7_2 (S : ai_S) (ls st : List Value) (h : ai_H) : ai_res S 7 2 ls st h = ai_go S 7 [(5, 3, 0, 0, 0)] (14, 5, 3, 0, 0, []) ls st h := ai_blk_go S 7 2 ls st h
theorem k_7_3 (S : ai_S) (ls st : List Value) (h : ai_H) : ai_res S 7 3 ls st h = ai_go S 7 [(5, 1, 0, 0, 0), (5, 3, 0, 0, 0)] (18, 4, 4, 2, 1, [(0, 26)]) ls st h := ai_blk_go S 7 3 ls st h
theorem k_7_4 (S : ai_S) (ls st : List Value) (h : ai_H) : ai_res S 7 4 ls st h = ai_go S 7 [(5, 0, 0, 0, 0), (3, 2, 0, 0, 0), (24, 2, 1, 18, 0), (5, 0, 0, 0, 0), (20, 0, 0, 0, 0), (23, 2, 2, 30, 0), (0, 0, 0, 0, 1), (11, 0, 0, 0, 0), (24, 2, 2, 30, 0)] (0, 5, 0, 0, 0, []) ls st h := ai_blk_go S 7 4 ls st h
theorem k_7_5 (S : ai_S) (ls st : List Value) (h : ai_H) : ai_res S 7 5 ls st h = ai_go S 7 [] (27, 0, 0, 0, 0, []) ls st h := ai_blk_go S 7 5 ls st h
theorem e_7 (S : ai_S) (q0 : Nat) (q1 : Nat) (h : ai_H) : ai_call S 7 [.ref q0, .ref q1] h = ai_res S 7 0 [.ref q0, .ref q1, ai_u, ai_u] [] h := rfl
theorem k_8_0 (S : ai_S) (ls st : List Value) (h : ai_H) : ai_res S 8 0 ls st h = ai_go S 8 [(5, 0, 0, 0, 0), (47, 0, 0, 3, 0), (5, 0, 0, 0, 0), (0, 0, 0, 0, 4), (24, 3, 0, 9, 0), (5, 0, 0, 0, 0), (0, 0, 0, 0, 3), (24, 3, 1, 15, 0), (5, 0, 0, 0, 0), (1, 0, 0, 0, 20), (24, 3, 2, 18, 0), (5, 0, 0, 0, 0), (1, 0, 0, 0, 6), (36, 0, 0, 0, 0), (28, 3, 4, 21, 0), (5, 0, 0, 0, 0), (1, 0, 0, 0, 6), (36, 0, 0, 0, 0), (28, 3, 5, 25, 0), (5, 0, 0, 0, 0), (1, 0, 0, 0, 6), (36, 0, 0, 0, 0), (28, 3, 6, 28, 0), (5, 0, 0, 0, 0), (1, 0, 0, 0, 6), (36, 0, 0, 0, 0), (28, 3, 7, 31, 0)] (27, 0, 0, 0, 0, []) ls st h := ai_blk_go S 8 0 ls st h
theorem e_8 (S : ai_S) (q0 : Nat) (h : ai_H) : ai_call S 8 [.ref q0] h = ai_res S 8 0 [.ref q0] [] h := rfl
theorem k_9_0 (S : ai_S) (ls st : List Value) (h : ai_H) : ai_res S 9 0 ls st h = ai_go S 9 [(5, 0, 0, 0, 0), (0, 0, 0, 0, 4), (24, 3, 0, 9, 0), (5, 0, 0, 0, 0), (0, 0, 0, 0, 3), (24, 3, 1, 15, 0), (5, 0, 0, 0, 0), (1, 0, 0, 0, 20), (24, 3, 2, 18, 0), (5, 0, 0, 0, 0), (0, 0, 0, 0, 0), (24, 3, 3, 34, 0)] (27, 0, 0, 0, 0, []) ls st h := ai_blk_go S 9 0 ls st h
theorem e_9 (S : ai_S) (q0 : Nat) (h : ai_H) : ai_call S 9 [.ref q0] h = ai_res S 9 0 [.ref q0] [] h := rfl
theorem k_10_0 (S : ai_S) (ls st : List Value) (h : ai_H) : ai_res S 10 0 ls st h = ai_go S 10 [(3, 1, 0, 0, 0)] (16, 7, 0, 27, 0, [(0, 1), (1, 3), (2, 5)]) ls st h := ai_blk_go S 10 0 ls st h
theorem k_10_1 (S : ai_S) (ls st : List Value) (h : ai_H) : ai_res S 10 1 ls st h = ai_go S 10 [(5, 0, 0, 0, 0), (23, 3, 4, 21, 0), (5, 0, 0, 0, 0), (23, 3, 3, 34, 0), (0, 0, 0, 0, 1), (11, 0, 0, 0, 0), (3, 2, 0, 0, 0)] (21, 2, 80, 3, 0, [(0, 37)]) ls st h := ai_blk_go S 10 1 ls st h
theorem k_10_2 (S : ai_S) (ls st : List Value) (h : ai_H) : ai_res S 10 2 ls st h = ai_go S 10 [] (1, 8, 0, 0, 0, []) ls st h := ai_blk_go S 10 2 ls st h
theorem k_10_3 (S : ai_S) (ls st : List Value) (h : ai_H) : ai_res S 10 3 ls st h = ai_go S 10 [(5, 0, 0, 0, 0), (23, 3, 5, 25, 0), (5, 0, 0, 0, 0), (23, 3, 3, 34, 0), (0, 0, 0, 0, 1), (11, 0, 0, 0, 0), (3, 2, 0, 0, 0)] (21, 4, 80, 3, 0, [(0, 37)]) ls st h := ai_blk_go S 10 3 ls st h
theorem k_10_4 (S : ai_S) (ls st : List Value) (h : ai_H) : ai_res S 10 4 ls st h = ai_go S 10 [] (1, 8, 0, 0, 0, []) ls st h := ai_blk_go S 10 4 ls st h
theorem k_10_5 (S : ai_S) (ls st : List Value) (h : ai_H) : ai_res S 10 5 ls st h = ai_go S 10 [(5, 0, 0, 0, 0), (23, 3, 6, 28, 0), (5, 0, 0, 0, 0), (23, 3, 3, 34, 0), (0, 0, 0, 0, 1), (11, 0, 0, 0, 0), (3, 2, 0, 0, 0)] (21, 6, 80, 3, 0, [(0, 37)]) ls st h := ai_blk_go S 10 5 ls st h
theorem k_10_6 (S : ai_S) (ls st : List Value) (h : ai_H) : ai_res S 10 6 ls st h = ai_go S 10 [] (1, 8, 0, 0, 0, []) ls st h := ai_blk_go S 10 6 ls st h
theorem k_10_7 (S : ai_S) (ls st : List Value) (h : ai_H) : ai_res S 10 7 ls st h = ai_go S 10 [(5, 0, 0, 0, 0), (23, 3, 7, 31, 0), (5, 0, 0, 0, 0), (23, 3, 3, 34, 0), (0, 0, 0, 0, 1), (11, 0, 0, 0, 0), (3, 2, 0, 0, 0)] (21, 8, 80, 3, 0, [(0, 37)]) ls st h := ai_blk_go S 10 7 ls st h
theorem k_10_8 (S : ai_S) (ls st : List Value) (h : ai_H) : ai_res S 10 8 ls st h = ai_go S 10 [] (27, 0, 0, 0, 0, []) ls st h := ai_blk_go S 10 8 ls st h
theorem e_10 (S : ai_S) (q0 : Nat) (a0 : Int32) (a1 : Int32) (h : ai_H) : ai_call S 10 [.ref q0, .int a0, .int a1] h = ai_res S 10 0 [.ref q0, .int a0, .int a1] [] h := rfl
theorem k_11_0 (S : ai_S) (ls st : List Value) (h : ai_H) : ai_res S 11 0 ls st h = ai_go S 11 [(5, 0, 0, 0, 0), (47, 0, 0, 3, 0), (5, 0, 0, 0, 0), (1, 0, 0, 0, 120), (36, 0, 0, 0, 0), (28, 4, 0, 9, 0)] (27, 0, 0, 0, 0, []) ls st h := ai_blk_go S 11 0 ls st h
theorem e_11 (S : ai_S) (q0 : Nat) (h : ai_H) : ai_call S 11 [.ref q0] h = ai_res S 11 0 [.ref q0] [] h := rfl
theorem k_12_0 (S : ai_S) (ls st : List Value) (h : ai_H) : ai_res S 12 0 ls st h = ai_go S 12 [(5, 0, 0, 0, 0), (23, 4, 1, 15, 0), (1, 0, 0, 0, 120)] (10, 2, 1, 0, 0, []) ls st h := ai_blk_go S 12 0 ls st h
theorem k_12_1 (S : ai_S) (ls st : List Value) (h : ai_H) : ai_res S 12 1 ls st h = ai_go S 12 [(0, 0, 0, 0, 0)] (24, 0, 0, 0, 0, []) ls st h := ai_blk_go S 12 1 ls st h
theorem k_12_2 (S : ai_S) (ls st : List Value) (h : ai_H) : ai_res S 12 2 ls st h = ai_go S 12 [(5, 0, 0, 0, 0), (23, 4, 0, 9, 0), (5, 0, 0, 0, 0), (23, 4, 1, 15, 0), (3, 1, 0, 0, 0)] (21, 3, 80, 3, 0, [(0, 19)]) ls st h := ai_blk_go S 12 2 ls st h
theorem k_12_3 (S : ai_S) (ls st : List Value) (h : ai_H) : ai_res S 12 3 ls st h = ai_go S 12 [(5, 0, 0, 0, 0), (20, 0, 0, 0, 0), (23, 4, 1, 15, 0), (0, 0, 0, 0, 1), (10, 0, 0, 0, 0), (24, 4, 1, 15, 0), (0, 0, 0, 0, 1)] (24, 0, 0, 0, 0, []) ls st h := ai_blk_go S 12 3 ls st h
theorem e_12 (S : ai_S) (q0 : Nat) (a0 : Int32) (h : ai_H) : ai_call S 12 [.ref q0, .int a0] h = ai_res S 12 0 [.ref q0, .int a0] [] h := rfl
theorem k_13_0 (S : ai_S) (ls st : List Value) (h : ai_H) : ai_res S 13 0 ls st h = ai_go S 13 [(5, 0, 0, 0, 0), (23, 4, 1, 15, 0), (6, 1, 0, 0, 0), (5, 0, 0, 0, 0), (0, 0, 0, 0, 0), (24, 4, 1, 15, 0), (3, 1, 0, 0, 0)] (23, 0, 0, 0, 0, []) ls st h := ai_blk_go S 13 0 ls st h
theorem e_13 (S : ai_S) (q0 : Nat) (h : ai_H) : ai_call S 13 [.ref q0] h = ai_res S 13 0 [.ref q0, ai_u] [] h := rfl
theorem k_14_0 (S : ai_S) (ls st : List Value) (h : ai_H) : ai_res S 14 0 ls st h = ai_go S 14 [(5, 0, 0, 0, 0)] (18, 1, 15, 1, 4, [(0, 23)]) ls st h := ai_blk_go S 14 0 ls st h
theorem k_14_1 (S : ai_S) (ls st : List Value) (h : ai_H) : ai_res S 14 1 ls st h = ai_go S 14 [(5, 1, 0, 0, 0)] (18, 2, 9, 1, 3, [(0, 26)]) ls st h := ai_blk_go S 14 1 ls st h
theorem k_14_2 (S : ai_S) (ls st : List Value) (h : ai_H) : ai_res S 14 2 ls st h = ai_go S 14 [(0, 0, 0, 0, 0), (6, 2, 0, 0, 0), (5, 0, 0, 0, 0)] (18, 3, 21, 1, 4, [(0, 29)]) ls st h := ai_blk_go S 14 2 ls st h
theorem k_14_3 (S : ai_S) (ls st : List Value) (h : ai_H) : ai_res S 14 3 ls st h = ai_go S 14 [(0, 0, 0, 0, 0), (6, 3, 0, 0, 0)] (0, 4, 0, 0, 0, []) ls st h := ai_blk_go S 14 3 ls st h
theorem k_14_4 (S : ai_S) (ls st : List Value) (h : ai_H) : ai_res S 14 4 ls st h = ai_go S 14 [(3, 3, 0, 0, 0), (1, 0, 0, 0, 120)] (11, 13, 5, 0, 0, []) ls st h := ai_blk_go S 14 4 ls st h
theorem k_14_5 (S : ai_S) (ls st : List Value) (h : ai_H) : ai_res S 14 5 ls st h = ai_go S 14 [(5, 0, 0, 0, 0), (23, 4, 3, 32, 0), (2, 0, 0, 0, 256)] (8, 13, 6, 0, 0, []) ls st h := ai_blk_go S 14 5 ls st h
theorem k_14_6 (S : ai_S) (ls st : List Value) (h : ai_H) : ai_res S 14 6 ls st h = ai_go S 14 [(5, 0, 0, 0, 0), (5, 1, 0, 0, 0)] (18, 7, 16, 2, 4, [(0, 35)]) ls st h := ai_blk_go S 14 6 ls st h
theorem k_14_7 (S : ai_S) (ls st : List Value) (h : ai_H) : ai_res S 14 7 ls st h = ai_go S 14 [] (3, 9, 8, 0, 0, []) ls st h := ai_blk_go S 14 7 ls st h
theorem k_14_8 (S : ai_S) (ls st : List Value) (h : ai_H) : ai_res S 14 8 ls st h = ai_go S 14 [(1, 0, 0, 0, (-10)), (5, 0, 0, 0, 0), (23, 4, 4, 39, 0), (11, 0, 0, 0, 0)] (23, 0, 0, 0, 0, []) ls st h := ai_blk_go S 14 8 ls st h
theorem k_14_9 (S : ai_S) (ls st : List Value) (h : ai_H) : ai_res S 14 9 ls st h = ai_go S 14 [(5, 0, 0, 0, 0), (23, 4, 3, 32, 0), (1, 0, 0, 0, 59)] (9, 11, 10, 0, 0, []) ls st h := ai_blk_go S 14 9 ls st h
theorem k_14_10 (S : ai_S) (ls st : List Value) (h : ai_H) : ai_res S 14 10 ls st h = ai_go S 14 [(9, 2, 0, 0, 1)] (0, 11, 0, 0, 0, []) ls st h := ai_blk_go S 14 10 ls st h
theorem k_14_11 (S : ai_S) (ls st : List Value) (h : ai_H) : ai_res S 14 11 ls st h = ai_go S 14 [(5, 0, 0, 0, 0)] (18, 12, 21, 1, 4, [(0, 29)]) ls st h := ai_blk_go S 14 11 ls st h
theorem k_14_12 (S : ai_S) (ls st : List Value) (h : ai_H) : ai_res S 14 12 ls st h = ai_go S 14 [(9, 3, 0, 0, 1)] (1, 4, 0, 0, 0, []) ls st h := ai_blk_go S 14 12 ls st h
theorem k_14_13 (S : ai_S) (ls st : List Value) (h : ai_H) : ai_res S 14 13 ls st h = ai_go S 14 [(5, 0, 0, 0, 0), (23, 4, 6, 42, 0)] (3, 15, 14, 0, 0, []) ls st h := ai_blk_go S 14 13 ls st h
theorem k_14_14 (S : ai_S) (ls st : List Value) (h : ai_H) : ai_res S 14 14 ls st h = ai_go S 14 [(3, 2, 0, 0, 0)] (1, 16, 0, 0, 0, []) ls st h := ai_blk_go S 14 14 ls st h
theorem k_14_15 (S : ai_S) (ls st : List Value) (h : ai_H) : ai_res S 14 15 ls st h = ai_go S 14 [(1, 0, 0, 0, (-10)), (5, 0, 0, 0, 0), (23, 4, 4, 39, 0), (11, 0, 0, 0, 0)] (0, 16, 0, 0, 0, []) ls st h := ai_blk_go S 14 15 ls st h
theorem k_14_16 (S : ai_S) (ls st : List Value) (h : ai_H) : ai_res S 14 16 ls st h = ai_go S 14 [] (23, 0, 0, 0, 0, []) ls st h := ai_blk_go S 14 16 ls st h
theorem e_14 (S : ai_S) (q0 : Nat) (q1 : Nat) (h : ai_H) : ai_call S 14 [.ref q0, .ref q1] h = ai_res S 14 0 [.ref q0, .ref q1, ai_u, ai_u] [] h := rfl
theorem k_15_0 (S : ai_S) (ls st : List Value) (h : ai_H) : ai_res S 15 0 ls st h = ai_go S 15 [(5, 0, 0, 0, 0), (0, 0, 0, 0, 0), (24, 4, 2, 45, 0), (5, 0, 0, 0, 0), (0, 0, 0, 0, 0), (24, 4, 6, 42, 0), (5, 0, 0, 0, 0), (0, 0, 0, 0, 0), (25, 4, 8, 48, 0), (5, 0, 0, 0, 0), (0, 0, 0, 0, 0), (25, 4, 9, 52, 0), (5, 0, 0, 0, 0), (0, 0, 0, 0, 0), (25, 4, 10, 55, 0)] (27, 0, 0, 0, 0, []) ls st h := ai_blk_go S 15 0 ls st h
theorem e_15 (S : ai_S) (q0 : Nat) (h : ai_H) : ai_call S 15 [.ref q0] h = ai_res S 15 0 [.ref q0] [] h := rfl
theorem k_16_0 (S : ai_S) (ls st : List Value) (h : ai_H) : ai_res S 16 0 ls st h = ai_go S 16 [(5, 0, 0, 0, 0), (23, 4, 6, 42, 0)] (3, 3, 1, 0, 0, []) ls st h := ai_blk_go S 16 0 ls st h
theorem k_16_1 (S : ai_S) (ls st : List Value) (h : ai_H) : ai_res S 16 1 ls st h = ai_go S 16 [(5, 0, 0, 0, 0), (5, 1, 0, 0, 0)] (18, 2, 17, 2, 4, [(0, 58)]) ls st h := ai_blk_go S 16 1 ls st h
theorem k_16_2 (S : ai_S) (ls st : List Value) (h : ai_H) : ai_res S 16 2 ls st h = ai_go S 16 [] (24, 0, 0, 0, 0, []) ls st h := ai_blk_go S 16 2 ls st h
theorem k_16_3 (S : ai_S) (ls st : List Value) (h : ai_H) : ai_res S 16 3 ls st h = ai_go S 16 [(5, 0, 0, 0, 0), (23, 4, 7, 61, 0), (5, 0, 0, 0, 0), (23, 4, 6, 42, 0), (1, 0, 0, 0, 99)] (9, 5, 4, 0, 0, []) ls st h := ai_blk_go S 16 3 ls st h
theorem k_16_4 (S : ai_S) (ls st : List Value) (h : ai_H) : ai_res S 16 4 ls st h = ai_go S 16 [(0, 0, 0, 0, 4)] (1, 6, 0, 0, 0, []) ls st h := ai_blk_go S 16 4 ls st h
theorem k_16_5 (S : ai_S) (ls st : List Value) (h : ai_H) : ai_res S 16 5 ls st h = ai_go S 16 [(0, 0, 0, 0, 1)] (0, 6, 0, 0, 0, []) ls st h := ai_blk_go S 16 5 ls st h
theorem k_16_6 (S : ai_S) (ls st : List Value) (h : ai_H) : ai_res S 16 6 ls st h = ai_go S 16 [] (11, 9, 7, 0, 0, []) ls st h := ai_blk_go S 16 6 ls st h
theorem k_16_7 (S : ai_S) (ls st : List Value) (h : ai_H) : ai_res S 16 7 ls st h = ai_go S 16 [(5, 0, 0, 0, 0), (5, 1, 0, 0, 0)] (18, 8, 18, 2, 4, [(0, 64)]) ls st h := ai_blk_go S 16 7 ls st h
theorem k_16_8 (S : ai_S) (ls st : List Value) (h : ai_H) : ai_res S 16 8 ls st h = ai_go S 16 [] (24, 0, 0, 0, 0, []) ls st h := ai_blk_go S 16 8 ls st h
theorem k_16_9 (S : ai_S) (ls st : List Value) (h : ai_H) : ai_res S 16 9 ls st h = ai_go S 16 [(5, 0, 0, 0, 0), (0, 0, 0, 0, 0), (24, 4, 6, 42, 0), (5, 0, 0, 0, 0), (23, 4, 3, 32, 0), (1, 0, 0, 0, 59)] (9, 11, 10, 0, 0, []) ls st h := ai_blk_go S 16 9 ls st h
theorem k_16_10 (S : ai_S) (ls st : List Value) (h : ai_H) : ai_res S 16 10 ls st h = ai_go S 16 [(0, 0, 0, 0, 1)] (1, 12, 0, 0, 0, []) ls st h := ai_blk_go S 16 10 ls st h
theorem k_16_11 (S : ai_S) (ls st : List Value) (h : ai_H) : ai_res S 16 11 ls st h = ai_go S 16 [(0, 0, 0, 0, 0)] (0, 12, 0, 0, 0, []) ls st h := ai_blk_go S 16 11 ls st h
theorem k_16_12 (S : ai_S) (ls st : List Value) (h : ai_H) : ai_res S 16 12 ls st h = ai_go S 16 [] (24, 0, 0, 0, 0, []) ls st h := ai_blk_go S 16 12 ls st h
theorem e_16 (S : ai_S) (q0 : Nat) (q1 : Nat) (h : ai_H) : ai_call S 16 [.ref q0, .ref q1] h = ai_res S 16 0 [.ref q0, .ref q1] [] h := rfl
theorem k_17_0 (S : ai_S) (ls st : List Value) (h : ai_H) : ai_res S 17 0 ls st h = ai_go S 17 [(5, 0, 0, 0, 0), (23, 4, 3, 32, 0)] (17, 11, 0, 44, 0, [(99, 1), (103, 8), (115, 10), (118, 9)]) ls st h := ai_blk_go S 17 0 ls st h
theorem k_17_1 (S : ai_S) (ls st : List Value) (h : ai_H) : ai_res S 17 1 ls st h = ai_go S 17 [(5, 1, 0, 0, 0), (23, 3, 3, 67, 0), (1, 0, 0, 0, 6)] (10, 3, 2, 0, 0, []) ls st h := ai_blk_go S 17 1 ls st h
theorem k_17_2 (S : ai_S) (ls st : List Value) (h : ai_H) : ai_res S 17 2 ls st h = ai_go S 17 [(0, 0, 0, 0, 1)] (1, 4, 0, 0, 0, []) ls st h := ai_blk_go S 17 2 ls st h
theorem k_17_3 (S : ai_S) (ls st : List Value) (h : ai_H) : ai_res S 17 3 ls st h = ai_go S 17 [(0, 0, 0, 0, 0)] (0, 4, 0, 0, 0, []) ls st h := ai_blk_go S 17 3 ls st h
theorem k_17_4 (S : ai_S) (ls st : List Value) (h : ai_H) : ai_res S 17 4 ls st h = ai_go S 17 [(6, 2, 0, 0, 0), (5, 1, 0, 0, 0), (20, 0, 0, 0, 0), (23, 3, 3, 67, 0), (3, 2, 0, 0, 0)] (2, 6, 5, 0, 0, []) ls st h := ai_blk_go S 17 4 ls st h
theorem k_17_5 (S : ai_S) (ls st : List Value) (h : ai_H) : ai_res S 17 5 ls st h = ai_go S 17 [(0, 0, 0, 0, 0)] (1, 7, 0, 0, 0, []) ls st h := ai_blk_go S 17 5 ls st h
theorem k_17_6 (S : ai_S) (ls st : List Value) (h : ai_H) : ai_res S 17 6 ls st h = ai_go S 17 [(0, 0, 0, 0, 1)] (0, 7, 0, 0, 0, []) ls st h := ai_blk_go S 17 6 ls st h
theorem k_17_7 (S : ai_S) (ls st : List Value) (h : ai_H) : ai_res S 17 7 ls st h = ai_go S 17 [(10, 0, 0, 0, 0), (24, 3, 3, 67, 0)] (1, 12, 0, 0, 0, []) ls st h := ai_blk_go S 17 7 ls st h
theorem k_17_8 (S : ai_S) (ls st : List Value) (h : ai_H) : ai_res S 17 8 ls st h = ai_go S 17 [(5, 0, 0, 0, 0), (23, 4, 8, 48, 0), (6, 2, 0, 0, 0), (5, 0, 0, 0, 0), (0, 0, 0, 0, 1), (25, 4, 8, 48, 0)] (1, 12, 0, 0, 0, []) ls st h := ai_blk_go S 17 8 ls st h
theorem k_17_9 (S : ai_S) (ls st : List Value) (h : ai_H) : ai_res S 17 9 ls st h = ai_go S 17 [(5, 0, 0, 0, 0), (23, 4, 9, 52, 0), (6, 2, 0, 0, 0), (5, 0, 0, 0, 0), (0, 0, 0, 0, 1), (25, 4, 9, 52, 0)] (1, 12, 0, 0, 0, []) ls st h := ai_blk_go S 17 9 ls st h
theorem k_17_10 (S : ai_S) (ls st : List Value) (h : ai_H) : ai_res S 17 10 ls st h = ai_go S 17 [(5, 0, 0, 0, 0), (23, 4, 10, 55, 0), (6, 2, 0, 0, 0), (5, 0, 0, 0, 0), (0, 0, 0, 0, 1), (25, 4, 10, 55, 0)] (1, 12, 0, 0, 0, []) ls st h := ai_blk_go S 17 10 ls st h
theorem k_17_11 (S : ai_S) (ls st : List Value) (h : ai_H) : ai_res S 17 11 ls st h = ai_go S 17 [(0, 0, 0, 0, 0)] (24, 0, 0, 0, 0, []) ls st h := ai_blk_go S 17 11 ls st h
theorem k_17_12 (S : ai_S) (ls st : List Value) (h : ai_H) : ai_res S 17 12 ls st h = ai_go S 17 [(5, 0, 0, 0, 0), (5, 0, 0, 0, 0), (23, 4, 3, 32, 0), (24, 4, 6, 42, 0), (5, 0, 0, 0, 0), (0, 0, 0, 0, 0), (24, 4, 7, 61, 0), (3, 2, 0, 0, 0)] (3, 14, 13, 0, 0, []) ls st h := ai_blk_go S 17 12 ls st h
theorem k_17_13 (S : ai_S) (ls st : List Value) (h : ai_H) : ai_res S 17 13 ls st h = ai_go S 17 [(0, 0, 0, 0, 1)] (1, 15, 0, 0, 0, []) ls st h := ai_blk_go S 17 13 ls st h
theorem k_17_14 (S : ai_S) (ls st : List Value) (h : ai_H) : ai_res S 17 14 ls st h = ai_go S 17 [(0, 0, 0, 0, 0)] (0, 15, 0, 0, 0, []) ls st h := ai_blk_go S 17 14 ls st h
theorem k_17_15 (S : ai_S) (ls st : List Value) (h : ai_H) : ai_res S 17 15 ls st h = ai_go S 17 [] (24, 0, 0, 0, 0, []) ls st h := ai_blk_go S 17 15 ls st h
theorem e_17 (S : ai_S) (q0 : Nat) (q1 : Nat) (h : ai_H) : ai_call S 17 [.ref q0, .ref q1] h = ai_res S 17 0 [.ref q0, .ref q1, ai_u] [] h := rfl
theorem k_18_0 (S : ai_S) (ls st : List Value) (h : ai_H) : ai_res S 18 0 ls st h = ai_go S 18 [(5, 0, 0, 0, 0), (23, 4, 3, 32, 0), (2, 0, 0, 0, 257)] (9, 5, 1, 0, 0, []) ls st h := ai_blk_go S 18 0 ls st h
theorem k_18_1 (S : ai_S) (ls st : List Value) (h : ai_H) : ai_res S 18 1 ls st h = ai_go S 18 [(5, 0, 0, 0, 0), (23, 4, 5, 70, 0), (5, 0, 0, 0, 0)] (18, 2, 19, 1, 4, [(0, 73)]) ls st h := ai_blk_go S 18 1 ls st h
theorem k_18_2 (S : ai_S) (ls st : List Value) (h : ai_H) : ai_res S 18 2 ls st h = ai_go S 18 [] (10, 5, 3, 0, 0, []) ls st h := ai_blk_go S 18 2 ls st h
theorem k_18_3 (S : ai_S) (ls st : List Value) (h : ai_H) : ai_res S 18 3 ls st h = ai_go S 18 [(5, 0, 0, 0, 0), (23, 4, 5, 70, 0), (5, 0, 0, 0, 0)] (18, 4, 20, 1, 4, [(0, 77)]) ls st h := ai_blk_go S 18 3 ls st h
theorem k_18_4 (S : ai_S) (ls st : List Value) (h : ai_H) : ai_res S 18 4 ls st h = ai_go S 18 [] (13, 6, 5, 0, 0, []) ls st h := ai_blk_go S 18 4 ls st h
theorem k_18_5 (S : ai_S) (ls st : List Value) (h : ai_H) : ai_res S 18 5 ls st h = ai_go S 18 [(0, 0, 0, 0, 0)] (24, 0, 0, 0, 0, []) ls st h := ai_blk_go S 18 5 ls st h
theorem k_18_6 (S : ai_S) (ls st : List Value) (h : ai_H) : ai_res S 18 6 ls st h = ai_go S 18 [(5, 0, 0, 0, 0), (23, 4, 6, 42, 0)] (17, 10, 0, 34, 0, [(103, 7), (115, 9), (118, 8)]) ls st h := ai_blk_go S 18 6 ls st h
theorem k_18_7 (S : ai_S) (ls st : List Value) (h : ai_H) : ai_res S 18 7 ls st h = ai_go S 18 [(5, 1, 0, 0, 0), (5, 0, 0, 0, 0), (23, 4, 5, 70, 0), (24, 3, 0, 80, 0)] (1, 11, 0, 0, 0, []) ls st h := ai_blk_go S 18 7 ls st h
theorem k_18_8 (S : ai_S) (ls st : List Value) (h : ai_H) : ai_res S 18 8 ls st h = ai_go S 18 [(5, 1, 0, 0, 0), (5, 0, 0, 0, 0), (23, 4, 5, 70, 0), (24, 3, 1, 83, 0)] (1, 11, 0, 0, 0, []) ls st h := ai_blk_go S 18 8 ls st h
theorem k_18_9 (S : ai_S) (ls st : List Value) (h : ai_H) : ai_res S 18 9 ls st h = ai_go S 18 [(5, 1, 0, 0, 0), (5, 0, 0, 0, 0), (23, 4, 5, 70, 0), (24, 3, 2, 86, 0)] (1, 11, 0, 0, 0, []) ls st h := ai_blk_go S 18 9 ls st h
theorem k_18_10 (S : ai_S) (ls st : List Value) (h : ai_H) : ai_res S 18 10 ls st h = ai_go S 18 [(5, 1, 0, 0, 0), (5, 0, 0, 0, 0), (23, 4, 7, 61, 0), (5, 0, 0, 0, 0), (23, 4, 5, 70, 0)] (18, 11, 10, 3, 3, [(0, 89)]) ls st h := ai_blk_go S 18 10 ls st h
theorem k_18_11 (S : ai_S) (ls st : List Value) (h : ai_H) : ai_res S 18 11 ls st h = ai_go S 18 [(5, 0, 0, 0, 0), (20, 0, 0, 0, 0), (23, 4, 7, 61, 0), (0, 0, 0, 0, 1), (10, 0, 0, 0, 0), (24, 4, 7, 61, 0), (0, 0, 0, 0, 1)] (24, 0, 0, 0, 0, []) ls st h := ai_blk_go S 18 11 ls st h
theorem e_18 (S : ai_S) (q0 : Nat) (q1 : Nat) (h : ai_H) : ai_call S 18 [.ref q0, .ref q1] h = ai_res S 18 0 [.ref q0, .ref q1] [] h := rfl
theorem k_19_0 (S : ai_S) (ls st : List Value) (h : ai_H) : ai_res S 19 0 ls st h = ai_go S 19 [(5, 0, 0, 0, 0), (23, 4, 6, 42, 0), (1, 0, 0, 0, 99)] (9, 3, 1, 0, 0, []) ls st h := ai_blk_go S 19 0 ls st h
theorem k_19_1 (S : ai_S) (ls st : List Value) (h : ai_H) : ai_res S 19 1 ls st h = ai_go S 19 [(5, 0, 0, 0, 0), (23, 4, 7, 61, 0)] (3, 3, 2, 0, 0, []) ls st h := ai_blk_go S 19 1 ls st h
theorem k_19_2 (S : ai_S) (ls st : List Value) (h : ai_H) : ai_res S 19 2 ls st h = ai_go S 19 [(0, 0, 0, 0, 1)] (1, 4, 0, 0, 0, []) ls st h := ai_blk_go S 19 2 ls st h
theorem k_19_3 (S : ai_S) (ls st : List Value) (h : ai_H) : ai_res S 19 3 ls st h = ai_go S 19 [(0, 0, 0, 0, 0)] (0, 4, 0, 0, 0, []) ls st h := ai_blk_go S 19 3 ls st h
theorem k_19_4 (S : ai_S) (ls st : List Value) (h : ai_H) : ai_res S 19 4 ls st h = ai_go S 19 [(6, 1, 0, 0, 0), (3, 1, 0, 0, 0)] (3, 6, 5, 0, 0, []) ls st h := ai_blk_go S 19 4 ls st h
theorem k_19_5 (S : ai_S) (ls st : List Value) (h : ai_H) : ai_res S 19 5 ls st h = ai_go S 19 [(5, 0, 0, 0, 0), (23, 4, 6, 42, 0), (1, 0, 0, 0, 115)] (9, 7, 6, 0, 0, []) ls st h := ai_blk_go S 19 5 ls st h
theorem k_19_6 (S : ai_S) (ls st : List Value) (h : ai_H) : ai_res S 19 6 ls st h = ai_go S 19 [(0, 0, 0, 0, 1)] (1, 8, 0, 0, 0, []) ls st h := ai_blk_go S 19 6 ls st h
theorem k_19_7 (S : ai_S) (ls st : List Value) (h : ai_H) : ai_res S 19 7 ls st h = ai_go S 19 [(0, 0, 0, 0, 0)] (0, 8, 0, 0, 0, []) ls st h := ai_blk_go S 19 7 ls st h
theorem k_19_8 (S : ai_S) (ls st : List Value) (h : ai_H) : ai_res S 19 8 ls st h = ai_go S 19 [] (23, 0, 0, 0, 0, []) ls st h := ai_blk_go S 19 8 ls st h
theorem e_19 (S : ai_S) (q0 : Nat) (h : ai_H) : ai_call S 19 [.ref q0] h = ai_res S 19 0 [.ref q0, ai_u] [] h := rfl
theorem k_20_0 (S : ai_S) (ls st : List Value) (h : ai_H) : ai_res S 20 0 ls st h = ai_go S 20 [(5, 0, 0, 0, 0), (23, 4, 6, 42, 0), (1, 0, 0, 0, 99)] (8, 5, 1, 0, 0, []) ls st h := ai_blk_go S 20 0 ls st h
theorem k_20_1 (S : ai_S) (ls st : List Value) (h : ai_H) : ai_res S 20 1 ls st h = ai_go S 20 [(5, 0, 0, 0, 0), (23, 4, 6, 42, 0), (1, 0, 0, 0, 115)] (9, 3, 2, 0, 0, []) ls st h := ai_blk_go S 20 1 ls st h
theorem k_20_2 (S : ai_S) (ls st : List Value) (h : ai_H) : ai_res S 20 2 ls st h = ai_go S 20 [(1, 0, 0, 0, 60)] (1, 4, 0, 0, 0, []) ls st h := ai_blk_go S 20 2 ls st h
theorem k_20_3 (S : ai_S) (ls st : List Value) (h : ai_H) : ai_res S 20 3 ls st h = ai_go S 20 [(1, 0, 0, 0, 9)] (0, 4, 0, 0, 0, []) ls st h := ai_blk_go S 20 3 ls st h
theorem k_20_4 (S : ai_S) (ls st : List Value) (h : ai_H) : ai_res S 20 4 ls st h = ai_go S 20 [] (23, 0, 0, 0, 0, []) ls st h := ai_blk_go S 20 4 ls st h
theorem k_20_5 (S : ai_S) (ls st : List Value) (h : ai_H) : ai_res S 20 5 ls st h = ai_go S 20 [(5, 0, 0, 0, 0), (23, 4, 7, 61, 0)] (16, 9, 0, 26, 0, [(0, 6), (1, 7), (2, 8)]) ls st h := ai_blk_go S 20 5 ls st h
theorem k_20_6 (S : ai_S) (ls st : List Value) (h : ai_H) : ai_res S 20 6 ls st h = ai_go S 20 [(1, 0, 0, 0, 30)] (23, 0, 0, 0, 0, []) ls st h := ai_blk_go S 20 6 ls st h
theorem k_20_7 (S : ai_S) (ls st : List Value) (h : ai_H) : ai_res S 20 7 ls st h = ai_go S 20 [(1, 0, 0, 0, 30)] (23, 0, 0, 0, 0, []) ls st h := ai_blk_go S 20 7 ls st h
theorem k_20_8 (S : ai_S) (ls st : List Value) (h : ai_H) : ai_res S 20 8 ls st h = ai_go S 20 [(1, 0, 0, 0, 9)] (23, 0, 0, 0, 0, []) ls st h := ai_blk_go S 20 8 ls st h
theorem k_20_9 (S : ai_S) (ls st : List Value) (h : ai_H) : ai_res S 20 9 ls st h = ai_go S 20 [(0, 0, 0, 0, 5)] (23, 0, 0, 0, 0, []) ls st h := ai_blk_go S 20 9 ls st h
theorem e_20 (S : ai_S) (q0 : Nat) (h : ai_H) : ai_call S 20 [.ref q0] h = ai_res S 20 0 [.ref q0] [] h := rfl
theorem k_21_0 (S : ai_S) (ls st : List Value) (h : ai_H) : ai_res S 21 0 ls st h = ai_go S 21 [(5, 0, 0, 0, 0), (23, 4, 2, 45, 0), (5, 0, 0, 0, 0), (23, 4, 1, 15, 0)] (11, 4, 1, 0, 0, []) ls st h := ai_blk_go S 21 0 ls st h
theorem k_21_1 (S : ai_S) (ls st : List Value) (h : ai_H) : ai_res S 21 1 ls st h = ai_go S 21 [(5, 0, 0, 0, 0), (23, 4, 0, 9, 0), (5, 0, 0, 0, 0), (23, 4, 2, 45, 0)] (21, 2, 79, 2, 0, [(0, 93)]) ls st h := ai_blk_go S 21 1 ls st h
theorem k_21_2 (S : ai_S) (ls st : List Value) (h : ai_H) : ai_res S 21 2 ls st h = ai_go S 21 [(1, 0, 0, 0, 32)] (9, 4, 3, 0, 0, []) ls st h := ai_blk_go S 21 2 ls st h
theorem k_21_3 (S : ai_S) (ls st : List Value) (h : ai_H) : ai_res S 21 3 ls st h = ai_go S 21 [(5, 0, 0, 0, 0), (20, 0, 0, 0, 0), (23, 4, 2, 45, 0), (0, 0, 0, 0, 1), (10, 0, 0, 0, 0), (24, 4, 2, 45, 0)] (1, 0, 0, 0, 0, []) ls st h := ai_blk_go S 21 3 ls st h
theorem k_21_4 (S : ai_S) (ls st : List Value) (h : ai_H) : ai_res S 21 4 ls st h = ai_go S 21 [(5, 0, 0, 0, 0), (5, 0, 0, 0, 0), (23, 4, 2, 45, 0), (24, 4, 4, 39, 0), (5, 0, 0, 0, 0), (23, 4, 2, 45, 0), (5, 0, 0, 0, 0), (23, 4, 1, 15, 0)] (10, 6, 5, 0, 0, []) ls st h := ai_blk_go S 21 4 ls st h
theorem k_21_5 (S : ai_S) (ls st : List Value) (h : ai_H) : ai_res S 21 5 ls st h = ai_go S 21 [(5, 0, 0, 0, 0), (2, 0, 0, 0, 256), (24, 4, 3, 32, 0)] (27, 0, 0, 0, 0, []) ls st h := ai_blk_go S 21 5 ls st h
theorem k_21_6 (S : ai_S) (ls st : List Value) (h : ai_H) : ai_res S 21 6 ls st h = ai_go S 21 [(5, 0, 0, 0, 0), (5, 0, 0, 0, 0), (23, 4, 0, 9, 0), (5, 0, 0, 0, 0), (23, 4, 2, 45, 0)] (21, 7, 79, 2, 0, [(0, 93)]) ls st h := ai_blk_go S 21 6 ls st h
theorem k_21_7 (S : ai_S) (ls st : List Value) (h : ai_H) : ai_res S 21 7 ls st h = ai_go S 21 [(24, 4, 3, 32, 0), (5, 0, 0, 0, 0), (23, 4, 3, 32, 0)] (19, 8, 23, 1, 0, [(0, 97)]) ls st h := ai_blk_go S 21 7 ls st h
theorem k_21_8 (S : ai_S) (ls st : List Value) (h : ai_H) : ai_res S 21 8 ls st h = ai_go S 21 [] (2, 11, 9, 0, 0, []) ls st h := ai_blk_go S 21 8 ls st h
theorem k_21_9 (S : ai_S) (ls st : List Value) (h : ai_H) : ai_res S 21 9 ls st h = ai_go S 21 [(5, 0, 0, 0, 0)] (18, 10, 22, 1, 4, [(0, 101)]) ls st h := ai_blk_go S 21 9 ls st h
theorem k_21_10 (S : ai_S) (ls st : List Value) (h : ai_H) : ai_res S 21 10 ls st h = ai_go S 21 [] (1, 12, 0, 0, 0, []) ls st h := ai_blk_go S 21 10 ls st h
theorem k_21_11 (S : ai_S) (ls st : List Value) (h : ai_H) : ai_res S 21 11 ls st h = ai_go S 21 [(5, 0, 0, 0, 0), (20, 0, 0, 0, 0), (23, 4, 2, 45, 0), (0, 0, 0, 0, 1), (10, 0, 0, 0, 0), (24, 4, 2, 45, 0)] (0, 12, 0, 0, 0, []) ls st h := ai_blk_go S 21 11 ls st h
theorem k_21_12 (S : ai_S) (ls st : List Value) (h : ai_H) : ai_res S 21 12 ls st h = ai_go S 21 [] (27, 0, 0, 0, 0, []) ls st h := ai_blk_go S 21 12 ls st h
theorem e_21 (S : ai_S) (q0 : Nat) (h : ai_H) : ai_call S 21 [.ref q0] h = ai_res S 21 0 [.ref q0] [] h := rfl
theorem k_22_0 (S : ai_S) (ls st : List Value) (h : ai_H) : ai_res S 22 0 ls st h = ai_go S 22 [(5, 0, 0, 0, 0), (23, 4, 0, 9, 0), (5, 0, 0, 0, 0), (23, 4, 2, 45, 0)] (21, 1, 79, 2, 0, [(0, 93)]) ls st h := ai_blk_go S 22 0 ls st h
theorem k_22_1 (S : ai_S) (ls st : List Value) (h : ai_H) : ai_res S 22 1 ls st h = ai_go S 22 [(1, 0, 0, 0, 48)] (9, 3, 2, 0, 0, []) ls st h := ai_blk_go S 22 1 ls st h
theorem k_22_2 (S : ai_S) (ls st : List Value) (h : ai_H) : ai_res S 22 2 ls st h = ai_go S 22 [(0, 0, 0, 0, 1)] (1, 4, 0, 0, 0, []) ls st h := ai_blk_go S 22 2 ls st h
theorem k_22_3 (S : ai_S) (ls st : List Value) (h : ai_H) : ai_res S 22 3 ls st h = ai_go S 22 [(0, 0, 0, 0, 0)] (0, 4, 0, 0, 0, []) ls st h := ai_blk_go S 22 3 ls st h
theorem k_22_4 (S : ai_S) (ls st : List Value) (h : ai_H) : ai_res S 22 4 ls st h = ai_go S 22 [(6, 1, 0, 0, 0), (5, 0, 0, 0, 0), (0, 0, 0, 0, 0), (24, 4, 5, 70, 0)] (0, 5, 0, 0, 0, []) ls st h := ai_blk_go S 22 4 ls st h
theorem k_22_5 (S : ai_S) (ls st : List Value) (h : ai_H) : ai_res S 22 5 ls st h = ai_go S 22 [(5, 0, 0, 0, 0), (23, 4, 2, 45, 0), (5, 0, 0, 0, 0), (23, 4, 1, 15, 0)] (11, 11, 6, 0, 0, []) ls st h := ai_blk_go S 22 5 ls st h
theorem k_22_6 (S : ai_S) (ls st : List Value) (h : ai_H) : ai_res S 22 6 ls st h = ai_go S 22 [(5, 0, 0, 0, 0), (23, 4, 0, 9, 0), (5, 0, 0, 0, 0), (23, 4, 2, 45, 0)] (21, 7, 79, 2, 0, [(0, 93)]) ls st h := ai_blk_go S 22 6 ls st h
theorem k_22_7 (S : ai_S) (ls st : List Value) (h : ai_H) : ai_res S 22 7 ls st h = ai_go S 22 [] (19, 8, 23, 1, 0, [(0, 97)]) ls st h := ai_blk_go S 22 7 ls st h
theorem k_22_8 (S : ai_S) (ls st : List Value) (h : ai_H) : ai_res S 22 8 ls st h = ai_go S 22 [] (2, 11, 9, 0, 0, []) ls st h := ai_blk_go S 22 8 ls st h
theorem k_22_9 (S : ai_S) (ls st : List Value) (h : ai_H) : ai_res S 22 9 ls st h = ai_go S 22 [(5, 0, 0, 0, 0), (1, 0, 0, 0, 100), (1, 0, 0, 0, 10), (5, 0, 0, 0, 0), (23, 4, 5, 70, 0), (12, 0, 0, 0, 0), (5, 0, 0, 0, 0), (23, 4, 0, 9, 0), (5, 0, 0, 0, 0), (23, 4, 2, 45, 0)] (21, 10, 79, 2, 0, [(0, 93)]) ls st h := ai_blk_go S 22 9 ls st h
theorem k_22_10 (S : ai_S) (ls st : List Value) (h : ai_H) : ai_res S 22 10 ls st h = ai_go S 22 [(10, 0, 0, 0, 0), (1, 0, 0, 0, 48), (11, 0, 0, 0, 0), (48, 0, 0, 104, 0), (24, 4, 5, 70, 0), (5, 0, 0, 0, 0), (20, 0, 0, 0, 0), (23, 4, 2, 45, 0), (0, 0, 0, 0, 1), (10, 0, 0, 0, 0), (24, 4, 2, 45, 0)] (1, 5, 0, 0, 0, []) ls st h := ai_blk_go S 22 10 ls st h
theorem k_22_11 (S : ai_S) (ls st : List Value) (h : ai_H) : ai_res S 22 11 ls st h = ai_go S 22 [(5, 0, 0, 0, 0), (23, 4, 2, 45, 0), (5, 0, 0, 0, 0), (23, 4, 4, 39, 0), (11, 0, 0, 0, 0), (0, 0, 0, 0, 1)] (13, 13, 12, 0, 0, []) ls st h := ai_blk_go S 22 11 ls st h
theorem k_22_12 (S : ai_S) (ls st : List Value) (h : ai_H) : ai_res S 22 12 ls st h = ai_go S 22 [(0, 0, 0, 0, 1)] (1, 14, 0, 0, 0, []) ls st h := ai_blk_go S 22 12 ls st h
theorem k_22_13 (S : ai_S) (ls st : List Value) (h : ai_H) : ai_res S 22 13 ls st h = ai_go S 22 [(0, 0, 0, 0, 0)] (0, 14, 0, 0, 0, []) ls st h := ai_blk_go S 22 13 ls st h
theorem k_22_14 (S : ai_S) (ls st : List Value) (h : ai_H) : ai_res S 22 14 ls st h = ai_go S 22 [(6, 2, 0, 0, 0), (5, 0, 0, 0, 0), (5, 0, 0, 0, 0), (23, 4, 5, 70, 0), (1, 0, 0, 0, 99)] (12, 17, 15, 0, 0, []) ls st h := ai_blk_go S 22 14 ls st h
theorem k_22_15 (S : ai_S) (ls st : List Value) (h : ai_H) : ai_res S 22 15 ls st h = ai_go S 22 [(3, 1, 0, 0, 0)] (2, 18, 16, 0, 0, []) ls st h := ai_blk_go S 22 15 ls st h
theorem k_22_16 (S : ai_S) (ls st : List Value) (h : ai_H) : ai_res S 22 16 ls st h = ai_go S 22 [(3, 2, 0, 0, 0)] (2, 18, 17, 0, 0, []) ls st h := ai_blk_go S 22 16 ls st h
theorem k_22_17 (S : ai_S) (ls st : List Value) (h : ai_H) : ai_res S 22 17 ls st h = ai_go S 22 [(2, 0, 0, 0, 258)] (1, 19, 0, 0, 0, []) ls st h := ai_blk_go S 22 17 ls st h
theorem k_22_18 (S : ai_S) (ls st : List Value) (h : ai_H) : ai_res S 22 18 ls st h = ai_go S 22 [(2, 0, 0, 0, 257)] (0, 19, 0, 0, 0, []) ls st h := ai_blk_go S 22 18 ls st h
theorem k_22_19 (S : ai_S) (ls st : List Value) (h : ai_H) : ai_res S 22 19 ls st h = ai_go S 22 [(24, 4, 3, 32, 0)] (27, 0, 0, 0, 0, []) ls st h := ai_blk_go S 22 19 ls st h
theorem e_22 (S : ai_S) (q0 : Nat) (h : ai_H) : ai_call S 22 [.ref q0] h = ai_res S 22 0 [.ref q0, ai_u, ai_u] [] h := rfl
theorem k_23_0 (S : ai_S) (ls st : List Value) (h : ai_H) : ai_res S 23 0 ls st h = ai_go S 23 [(3, 0, 0, 0, 0), (1, 0, 0, 0, 48)] (10, 3, 1, 0, 0, []) ls st h := ai_blk_go S 23 0 ls st h
theorem k_23_1 (S : ai_S) (ls st : List Value) (h : ai_H) : ai_res S 23 1 ls st h = ai_go S 23 [(3, 0, 0, 0, 0), (1, 0, 0, 0, 57)] (12, 3, 2, 0, 0, []) ls st h := ai_blk_go S 23 1 ls st h
theorem k_23_2 (S : ai_S) (ls st : List Value) (h : ai_H) : ai_res S 23 2 ls st h = ai_go S 23 [(0, 0, 0, 0, 1)] (1, 4, 0, 0, 0, []) ls st h := ai_blk_go S 23 2 ls st h
theorem k_23_3 (S : ai_S) (ls st : List Value) (h : ai_H) : ai_res S 23 3 ls st h = ai_go S 23 [(0, 0, 0, 0, 0)] (0, 4, 0, 0, 0, []) ls st h := ai_blk_go S 23 3 ls st h
theorem k_23_4 (S : ai_S) (ls st : List Value) (h : ai_H) : ai_res S 23 4 ls st h = ai_go S 23 [] (24, 0, 0, 0, 0, []) ls st h := ai_blk_go S 23 4 ls st h
theorem e_23 (S : ai_S) (a0 : Int32) (h : ai_H) : ai_call S 23 [.int a0] h = ai_res S 23 0 [.int a0] [] h := rfl
theorem k_24_0 (S : ai_S) (ls st : List Value) (h : ai_H) : ai_res S 24 0 ls st h = ai_go S 24 [(5, 0, 0, 0, 0), (47, 0, 0, 1, 0), (5, 0, 0, 0, 0), (39, 3, 0, 7, 0), (20, 0, 0, 0, 0)] (22, 1, 8, 1, 0, [(0, 9)]) ls st h := ai_blk_go S 24 0 ls st h
theorem k_24_1 (S : ai_S) (ls st : List Value) (h : ai_H) : ai_res S 24 1 ls st h = ai_go S 24 [(27, 5, 0, 10, 0), (5, 0, 0, 0, 0), (39, 3, 0, 7, 0), (20, 0, 0, 0, 0)] (22, 2, 8, 1, 0, [(0, 9)]) ls st h := ai_blk_go S 24 1 ls st h
theorem k_24_2 (S : ai_S) (ls st : List Value) (h : ai_H) : ai_res S 24 2 ls st h = ai_go S 24 [(27, 5, 1, 16, 0), (5, 0, 0, 0, 0), (39, 4, 0, 19, 0), (20, 0, 0, 0, 0)] (22, 3, 11, 1, 0, [(0, 21)]) ls st h := ai_blk_go S 24 2 ls st h
theorem k_24_3 (S : ai_S) (ls st : List Value) (h : ai_H) : ai_res S 24 3 ls st h = ai_go S 24 [(28, 5, 2, 22, 0), (5, 0, 0, 0, 0), (39, 1, 0, 26, 0), (20, 0, 0, 0, 0)] (22, 4, 2, 1, 0, [(0, 28)]) ls st h := ai_blk_go S 24 3 ls st h
theorem k_24_4 (S : ai_S) (ls st : List Value) (h : ai_H) : ai_res S 24 4 ls st h = ai_go S 24 [(28, 5, 3, 29, 0), (5, 0, 0, 0, 0), (39, 2, 0, 33, 0), (20, 0, 0, 0, 0)] (20, 5, 5, 1, 0, [(0, 35)]) ls st h := ai_blk_go S 24 4 ls st h
theorem k_24_5 (S : ai_S) (ls st : List Value) (h : ai_H) : ai_res S 24 5 ls st h = ai_go S 24 [(28, 5, 4, 36, 0), (5, 0, 0, 0, 0), (0, 0, 0, 0, 2), (38, 0, 0, 26, 0), (28, 5, 5, 40, 0), (0, 0, 0, 0, 0), (6, 1, 0, 0, 0)] (0, 6, 0, 0, 0, []) ls st h := ai_blk_go S 24 5 ls st h
theorem k_24_6 (S : ai_S) (ls st : List Value) (h : ai_H) : ai_res S 24 6 ls st h = ai_go S 24 [(3, 1, 0, 0, 0), (0, 0, 0, 0, 2)] (11, 9, 7, 0, 0, []) ls st h := ai_blk_go S 24 6 ls st h
theorem k_24_7 (S : ai_S) (ls st : List Value) (h : ai_H) : ai_res S 24 7 ls st h = ai_go S 24 [(5, 0, 0, 0, 0), (23, 5, 5, 40, 0), (3, 1, 0, 0, 0), (39, 1, 0, 26, 0), (20, 0, 0, 0, 0)] (22, 8, 2, 1, 0, [(0, 28)]) ls st h := ai_blk_go S 24 7 ls st h
theorem k_24_8 (S : ai_S) (ls st : List Value) (h : ai_H) : ai_res S 24 8 ls st h = ai_go S 24 [(34, 0, 0, 0, 0), (9, 1, 0, 0, 1)] (1, 6, 0, 0, 0, []) ls st h := ai_blk_go S 24 8 ls st h
theorem k_24_9 (S : ai_S) (ls st : List Value) (h : ai_H) : ai_res S 24 9 ls st h = ai_go S 24 [(5, 0, 0, 0, 0), (39, 0, 0, 44, 0), (20, 0, 0, 0, 0)] (22, 10, 0, 1, 0, [(0, 46)]) ls st h := ai_blk_go S 24 9 ls st h
theorem k_24_10 (S : ai_S) (ls st : List Value) (h : ai_H) : ai_res S 24 10 ls st h = ai_go S 24 [(28, 5, 7, 47, 0), (5, 0, 0, 0, 0), (1, 0, 0, 0, 6), (36, 0, 0, 0, 0), (28, 5, 8, 51, 0), (5, 0, 0, 0, 0), (1, 0, 0, 0, 121), (36, 0, 0, 0, 0), (28, 5, 9, 55, 0), (5, 0, 0, 0, 0), (23, 5, 3, 29, 0), (5, 0, 0, 0, 0), (23, 5, 0, 10, 0), (23, 3, 1, 58, 0)] (18, 11, 3, 2, 1, [(0, 62)]) ls st h := ai_blk_go S 24 10 ls st h
theorem k_24_11 (S : ai_S) (ls st : List Value) (h : ai_H) : ai_res S 24 11 ls st h = ai_go S 24 [] (27, 0, 0, 0, 0, []) ls st h := ai_blk_go S 24 11 ls st h
theorem e_24 (S : ai_S) (q0 : Nat) (h : ai_H) : ai_call S 24 [.ref q0] h = ai_res S 24 0 [.ref q0, ai_u] [] h := rfl
theorem k_25_0 (S : ai_S) (ls st : List Value) (h : ai_H) : ai_res S 25 0 ls st h = ai_go S 25 [(3, 1, 0, 0, 0)] (4, 2, 1, 0, 0, []) ls st h := ai_blk_go S 25 0 ls st h
theorem k_25_1 (S : ai_S) (ls st : List Value) (h : ai_H) : ai_res S 25 1 ls st h = ai_go S 25 [(3, 1, 0, 0, 0), (2, 0, 0, 0, 255)] (13, 3, 2, 0, 0, []) ls st h := ai_blk_go S 25 1 ls st h
theorem k_25_2 (S : ai_S) (ls st : List Value) (h : ai_H) : ai_res S 25 2 ls st h = ai_go S 25 [(0, 0, 0, 0, (-1))] (23, 0, 0, 0, 0, []) ls st h := ai_blk_go S 25 2 ls st h
theorem k_25_3 (S : ai_S) (ls st : List Value) (h : ai_H) : ai_res S 25 3 ls st h = ai_go S 25 [(5, 0, 0, 0, 0), (23, 5, 2, 22, 0), (3, 1, 0, 0, 0)] (18, 4, 12, 2, 4, [(0, 66)]) ls st h := ai_blk_go S 25 3 ls st h
theorem k_25_4 (S : ai_S) (ls st : List Value) (h : ai_H) : ai_res S 25 4 ls st h = ai_go S 25 [] (2, 6, 5, 0, 0, []) ls st h := ai_blk_go S 25 4 ls st h
theorem k_25_5 (S : ai_S) (ls st : List Value) (h : ai_H) : ai_res S 25 5 ls st h = ai_go S 25 [(5, 0, 0, 0, 0), (23, 5, 2, 22, 0), (23, 4, 1, 70, 0)] (1, 7, 0, 0, 0, []) ls st h := ai_blk_go S 25 5 ls st h
theorem k_25_6 (S : ai_S) (ls st : List Value) (h : ai_H) : ai_res S 25 6 ls st h = ai_go S 25 [(1, 0, 0, 0, (-3))] (0, 7, 0, 0, 0, []) ls st h := ai_blk_go S 25 6 ls st h
theorem k_25_7 (S : ai_S) (ls st : List Value) (h : ai_H) : ai_res S 25 7 ls st h = ai_go S 25 [] (23, 0, 0, 0, 0, []) ls st h := ai_blk_go S 25 7 ls st h
theorem e_25 (S : ai_S) (q0 : Nat) (a0 : Int32) (h : ai_H) : ai_call S 25 [.ref q0, .int a0] h = ai_res S 25 0 [.ref q0, .int a0] [] h := rfl
theorem k_26_0 (S : ai_S) (ls st : List Value) (h : ai_H) : ai_res S 26 0 ls st h = ai_go S 26 [(5, 0, 0, 0, 0), (23, 5, 2, 22, 0)] (18, 1, 13, 1, 4, [(0, 73)]) ls st h := ai_blk_go S 26 0 ls st h
theorem k_26_1 (S : ai_S) (ls st : List Value) (h : ai_H) : ai_res S 26 1 ls st h = ai_go S 26 [] (23, 0, 0, 0, 0, []) ls st h := ai_blk_go S 26 1 ls st h
theorem e_26 (S : ai_S) (q0 : Nat) (h : ai_H) : ai_call S 26 [.ref q0] h = ai_res S 26 0 [.ref q0] [] h := rfl
theorem k_27_0 (S : ai_S) (ls st : List Value) (h : ai_H) : ai_res S 27 0 ls st h = ai_go S 27 [(5, 0, 0, 0, 0), (23, 5, 2, 22, 0), (5, 0, 0, 0, 0), (23, 5, 1, 16, 0)] (18, 1, 14, 2, 4, [(0, 77)]) ls st h := ai_blk_go S 27 0 ls st h
theorem k_27_1 (S : ai_S) (ls st : List Value) (h : ai_H) : ai_res S 27 1 ls st h = ai_go S 27 [(6, 1, 0, 0, 0), (3, 1, 0, 0, 0)] (5, 3, 2, 0, 0, []) ls st h := ai_blk_go S 27 1 ls st h
theorem k_27_2 (S : ai_S) (ls st : List Value) (h : ai_H) : ai_res S 27 2 ls st h = ai_go S 27 [(3, 1, 0, 0, 0)] (23, 0, 0, 0, 0, []) ls st h := ai_blk_go S 27 2 ls st h
theorem k_27_3 (S : ai_S) (ls st : List Value) (h : ai_H) : ai_res S 27 3 ls st h = ai_go S 27 [(5, 0, 0, 0, 0), (23, 5, 1, 16, 0), (8, 2, 0, 0, 0), (5, 0, 0, 0, 0), (5, 0, 0, 0, 0), (23, 5, 0, 10, 0), (27, 5, 1, 16, 0), (5, 0, 0, 0, 0), (5, 2, 0, 0, 0), (27, 5, 0, 10, 0), (5, 0, 0, 0, 0), (23, 5, 2, 22, 0)] (18, 4, 13, 1, 4, [(0, 73)]) ls st h := ai_blk_go S 27 3 ls st h
theorem k_27_4 (S : ai_S) (ls st : List Value) (h : ai_H) : ai_res S 27 4 ls st h = ai_go S 27 [(22, 0, 0, 0, 0), (5, 0, 0, 0, 0), (23, 5, 3, 29, 0), (5, 0, 0, 0, 0), (23, 5, 0, 10, 0), (23, 3, 1, 58, 0)] (18, 5, 3, 2, 1, [(0, 62)]) ls st h := ai_blk_go S 27 4 ls st h
theorem k_27_5 (S : ai_S) (ls st : List Value) (h : ai_H) : ai_res S 27 5 ls st h = ai_go S 27 [(5, 0, 0, 0, 0), (23, 5, 4, 36, 0), (0, 0, 0, 0, 0), (24, 2, 2, 81, 0), (5, 0, 0, 0, 0), (0, 0, 0, 0, 0), (24, 5, 6, 84, 0), (5, 0, 0, 0, 0), (23, 5, 7, 47, 0), (0, 0, 0, 0, 0), (24, 0, 3, 87, 0), (3, 1, 0, 0, 0)] (23, 0, 0, 0, 0, []) ls st h := ai_blk_go S 27 5 ls st h
theorem e_27 (S : ai_S) (q0 : Nat) (h : ai_H) : ai_call S 27 [.ref q0] h = ai_res S 27 0 [.ref q0, ai_u, ai_u] [] h := rfl
theorem k_28_0 (S : ai_S) (ls st : List Value) (h : ai_H) : ai_res S 28 0 ls st h = ai_go S 28 [(5, 0, 0, 0, 0), (3, 1, 0, 0, 0)] (18, 1, 30, 2, 5, [(0, 90)]) ls st h := ai_blk_go S 28 0 ls st h
theorem k_28_1 (S : ai_S) (ls st : List Value) (h : ai_H) : ai_res S 28 1 ls st h = ai_go S 28 [] (3, 3, 2, 0, 0, []) ls st h := ai_blk_go S 28 1 ls st h
theorem k_28_2 (S : ai_S) (ls st : List Value) (h : ai_H) : ai_res S 28 2 ls st h = ai_go S 28 [(0, 0, 0, 0, (-1))] (23, 0, 0, 0, 0, []) ls st h := ai_blk_go S 28 2 ls st h
theorem k_28_3 (S : ai_S) (ls st : List Value) (h : ai_H) : ai_res S 28 3 ls st h = ai_go S 28 [(3, 2, 0, 0, 0)] (16, 28, 0, 49, 0, [(0, 4), (1, 6), (2, 8), (3, 10), (4, 12), (5, 14), (6, 16), (7, 21), (8, 26)]) ls st h := ai_blk_go S 28 3 ls st h
theorem k_28_4 (S : ai_S) (ls st : List Value) (h : ai_H) : ai_res S 28 4 ls st h = ai_go S 28 [(5, 0, 0, 0, 0), (23, 5, 0, 10, 0), (23, 3, 4, 93, 0), (3, 1, 0, 0, 0)] (19, 5, 79, 2, 0, [(0, 96)]) ls st h := ai_blk_go S 28 4 ls st h
theorem k_28_5 (S : ai_S) (ls st : List Value) (h : ai_H) : ai_res S 28 5 ls st h = ai_go S 28 [] (23, 0, 0, 0, 0, []) ls st h := ai_blk_go S 28 5 ls st h
theorem k_28_6 (S : ai_S) (ls st : List Value) (h : ai_H) : ai_res S 28 6 ls st h = ai_go S 28 [(5, 0, 0, 0, 0), (23, 5, 0, 10, 0), (23, 3, 5, 100, 0), (3, 1, 0, 0, 0)] (19, 7, 79, 2, 0, [(0, 96)]) ls st h := ai_blk_go S 28 6 ls st h
theorem k_28_7 (S : ai_S) (ls st : List Value) (h : ai_H) : ai_res S 28 7 ls st h = ai_go S 28 [] (23, 0, 0, 0, 0, []) ls st h := ai_blk_go S 28 7 ls st h
theorem k_28_8 (S : ai_S) (ls st : List Value) (h : ai_H) : ai_res S 28 8 ls st h = ai_go S 28 [(5, 0, 0, 0, 0), (23, 5, 0, 10, 0), (23, 3, 6, 103, 0), (3, 1, 0, 0, 0)] (19, 9, 79, 2, 0, [(0, 96)]) ls st h := ai_blk_go S 28 8 ls st h
theorem k_28_9 (S : ai_S) (ls st : List Value) (h : ai_H) : ai_res S 28 9 ls st h = ai_go S 28 [] (23, 0, 0, 0, 0, []) ls st h := ai_blk_go S 28 9 ls st h
theorem k_28_10 (S : ai_S) (ls st : List Value) (h : ai_H) : ai_res S 28 10 ls st h = ai_go S 28 [(5, 0, 0, 0, 0), (23, 5, 0, 10, 0), (23, 3, 7, 106, 0), (3, 1, 0, 0, 0)] (19, 11, 79, 2, 0, [(0, 96)]) ls st h := ai_blk_go S 28 10 ls st h
theorem k_28_11 (S : ai_S) (ls st : List Value) (h : ai_H) : ai_res S 28 11 ls st h = ai_go S 28 [] (23, 0, 0, 0, 0, []) ls st h := ai_blk_go S 28 11 ls st h
theorem k_28_12 (S : ai_S) (ls st : List Value) (h : ai_H) : ai_res S 28 12 ls st h = ai_go S 28 [(5, 0, 0, 0, 0), (23, 5, 3, 29, 0), (23, 1, 0, 109, 0), (3, 1, 0, 0, 0)] (19, 13, 79, 2, 0, [(0, 96)]) ls st h := ai_blk_go S 28 12 ls st h
theorem k_28_13 (S : ai_S) (ls st : List Value) (h : ai_H) : ai_res S 28 13 ls st h = ai_go S 28 [] (23, 0, 0, 0, 0, []) ls st h := ai_blk_go S 28 13 ls st h
theorem k_28_14 (S : ai_S) (ls st : List Value) (h : ai_H) : ai_res S 28 14 ls st h = ai_go S 28 [(5, 0, 0, 0, 0), (23, 5, 3, 29, 0), (23, 1, 1, 112, 0), (3, 1, 0, 0, 0)] (19, 15, 79, 2, 0, [(0, 96)]) ls st h := ai_blk_go S 28 14 ls st h
theorem k_28_15 (S : ai_S) (ls st : List Value) (h : ai_H) : ai_res S 28 15 ls st h = ai_go S 28 [] (23, 0, 0, 0, 0, []) ls st h := ai_blk_go S 28 15 ls st h
theorem k_28_16 (S : ai_S) (ls st : List Value) (h : ai_H) : ai_res S 28 16 ls st h = ai_go S 28 [(5, 0, 0, 0, 0), (23, 5, 3, 29, 0), (23, 1, 2, 115, 0), (3, 1, 0, 0, 0)] (19, 17, 82, 2, 0, [(0, 118)]) ls st h := ai_blk_go S 28 16 ls st h
theorem k_28_17 (S : ai_S) (ls st : List Value) (h : ai_H) : ai_res S 28 17 ls st h = ai_go S 28 [] (2, 19, 18, 0, 0, []) ls st h := ai_blk_go S 28 17 ls st h
theorem k_28_18 (S : ai_S) (ls st : List Value) (h : ai_H) : ai_res S 28 18 ls st h = ai_go S 28 [(0, 0, 0, 0, 1)] (1, 20, 0, 0, 0, []) ls st h := ai_blk_go S 28 18 ls st h
theorem k_28_19 (S : ai_S) (ls st : List Value) (h : ai_H) : ai_res S 28 19 ls st h = ai_go S 28 [(0, 0, 0, 0, 0)] (0, 20, 0, 0, 0, []) ls st h := ai_blk_go S 28 19 ls st h
theorem k_28_20 (S : ai_S) (ls st : List Value) (h : ai_H) : ai_res S 28 20 ls st h = ai_go S 28 [] (23, 0, 0, 0, 0, []) ls st h := ai_blk_go S 28 20 ls st h
theorem k_28_21 (S : ai_S) (ls st : List Value) (h : ai_H) : ai_res S 28 21 ls st h = ai_go S 28 [(5, 0, 0, 0, 0), (23, 5, 3, 29, 0), (23, 1, 3, 122, 0), (3, 1, 0, 0, 0)] (19, 22, 82, 2, 0, [(0, 118)]) ls st h := ai_blk_go S 28 21 ls st h
theorem k_28_22 (S : ai_S) (ls st : List Value) (h : ai_H) : ai_res S 28 22 ls st h = ai_go S 28 [] (2, 24, 23, 0, 0, []) ls st h := ai_blk_go S 28 22 ls st h
theorem k_28_23 (S : ai_S) (ls st : List Value) (h : ai_H) : ai_res S 28 23 ls st h = ai_go S 28 [(0, 0, 0, 0, 1)] (1, 25, 0, 0, 0, []) ls st h := ai_blk_go S 28 23 ls st h
theorem k_28_24 (S : ai_S) (ls st : List Value) (h : ai_H) : ai_res S 28 24 ls st h = ai_go S 28 [(0, 0, 0, 0, 0)] (0, 25, 0, 0, 0, []) ls st h := ai_blk_go S 28 24 ls st h
theorem k_28_25 (S : ai_S) (ls st : List Value) (h : ai_H) : ai_res S 28 25 ls st h = ai_go S 28 [] (23, 0, 0, 0, 0, []) ls st h := ai_blk_go S 28 25 ls st h
theorem k_28_26 (S : ai_S) (ls st : List Value) (h : ai_H) : ai_res S 28 26 ls st h = ai_go S 28 [(5, 0, 0, 0, 0), (3, 1, 0, 0, 0)] (18, 27, 32, 2, 5, [(0, 125)]) ls st h := ai_blk_go S 28 26 ls st h
theorem k_28_27 (S : ai_S) (ls st : List Value) (h : ai_H) : ai_res S 28 27 ls st h = ai_go S 28 [] (23, 0, 0, 0, 0, []) ls st h := ai_blk_go S 28 27 ls st h
theorem k_28_28 (S : ai_S) (ls st : List Value) (h : ai_H) : ai_res S 28 28 ls st h = ai_go S 28 [(0, 0, 0, 0, (-1))] (23, 0, 0, 0, 0, []) ls st h := ai_blk_go S 28 28 ls st h
theorem e_28 (S : ai_S) (q0 : Nat) (a0 : Int32) (a1 : Int32) (h : ai_H) : ai_call S 28 [.ref q0, .int a0, .int a1] h = ai_res S 28 0 [.ref q0, .int a0, .int a1] [] h := rfl
theorem k_29_0 (S : ai_S) (ls st : List Value) (h : ai_H) : ai_res S 29 0 ls st h = ai_go S 29 [(3, 1, 0, 0, 0)] (16, 10, 0, 43, 0, [(0, 1), (1, 2), (2, 3), (3, 4), (4, 5), (5, 7), (6, 9)]) ls st h := ai_blk_go S 29 0 ls st h
theorem k_29_1 (S : ai_S) (ls st : List Value) (h : ai_H) : ai_res S 29 1 ls st h = ai_go S 29 [(5, 0, 0, 0, 0), (23, 5, 3, 29, 0), (23, 1, 6, 129, 0)] (23, 0, 0, 0, 0, []) ls st h := ai_blk_go S 29 1 ls st h
theorem k_29_2 (S : ai_S) (ls st : List Value) (h : ai_H) : ai_res S 29 2 ls st h = ai_go S 29 [(5, 0, 0, 0, 0), (23, 5, 3, 29, 0), (23, 1, 4, 130, 0)] (23, 0, 0, 0, 0, []) ls st h := ai_blk_go S 29 2 ls st h
theorem k_29_3 (S : ai_S) (ls st : List Value) (h : ai_H) : ai_res S 29 3 ls st h = ai_go S 29 [(5, 0, 0, 0, 0), (23, 5, 3, 29, 0), (23, 1, 5, 133, 0)] (23, 0, 0, 0, 0, []) ls st h := ai_blk_go S 29 3 ls st h
theorem k_29_4 (S : ai_S) (ls st : List Value) (h : ai_H) : ai_res S 29 4 ls st h = ai_go S 29 [(5, 0, 0, 0, 0), (23, 5, 3, 29, 0), (23, 1, 7, 136, 0)] (23, 0, 0, 0, 0, []) ls st h := ai_blk_go S 29 4 ls st h
theorem k_29_5 (S : ai_S) (ls st : List Value) (h : ai_H) : ai_res S 29 5 ls st h = ai_go S 29 [(5, 0, 0, 0, 0), (5, 0, 0, 0, 0), (23, 5, 3, 29, 0), (23, 1, 2, 115, 0)] (18, 6, 31, 2, 5, [(0, 139)]) ls st h := ai_blk_go S 29 5 ls st h
theorem k_29_6 (S : ai_S) (ls st : List Value) (h : ai_H) : ai_res S 29 6 ls st h = ai_go S 29 [] (23, 0, 0, 0, 0, []) ls st h := ai_blk_go S 29 6 ls st h
theorem k_29_7 (S : ai_S) (ls st : List Value) (h : ai_H) : ai_res S 29 7 ls st h = ai_go S 29 [(5, 0, 0, 0, 0)] (18, 8, 33, 1, 5, [(0, 142)]) ls st h := ai_blk_go S 29 7 ls st h
theorem k_29_8 (S : ai_S) (ls st : List Value) (h : ai_H) : ai_res S 29 8 ls st h = ai_go S 29 [] (23, 0, 0, 0, 0, []) ls st h := ai_blk_go S 29 8 ls st h
theorem k_29_9 (S : ai_S) (ls st : List Value) (h : ai_H) : ai_res S 29 9 ls st h = ai_go S 29 [(5, 0, 0, 0, 0), (23, 5, 4, 36, 0), (23, 2, 2, 81, 0)] (23, 0, 0, 0, 0, []) ls st h := ai_blk_go S 29 9 ls st h
theorem k_29_10 (S : ai_S) (ls st : List Value) (h : ai_H) : ai_res S 29 10 ls st h = ai_go S 29 [(0, 0, 0, 0, (-1))] (23, 0, 0, 0, 0, []) ls st h := ai_blk_go S 29 10 ls st h
theorem e_29 (S : ai_S) (q0 : Nat) (a0 : Int32) (h : ai_H) : ai_call S 29 [.ref q0, .int a0] h = ai_res S 29 0 [.ref q0, .int a0] [] h := rfl
theorem k_30_0 (S : ai_S) (ls st : List Value) (h : ai_H) : ai_res S 30 0 ls st h = ai_go S 30 [(3, 1, 0, 0, 0)] (4, 3, 1, 0, 0, []) ls st h := ai_blk_go S 30 0 ls st h
theorem k_30_1 (S : ai_S) (ls st : List Value) (h : ai_H) : ai_res S 30 1 ls st h = ai_go S 30 [(3, 1, 0, 0, 0), (5, 0, 0, 0, 0), (23, 5, 0, 10, 0), (23, 3, 3, 145, 0)] (11, 3, 2, 0, 0, []) ls st h := ai_blk_go S 30 1 ls st h
theorem k_30_2 (S : ai_S) (ls st : List Value) (h : ai_H) : ai_res S 30 2 ls st h = ai_go S 30 [(0, 0, 0, 0, 1)] (1, 4, 0, 0, 0, []) ls st h := ai_blk_go S 30 2 ls st h
theorem k_30_3 (S : ai_S) (ls st : List Value) (h : ai_H) : ai_res S 30 3 ls st h = ai_go S 30 [(0, 0, 0, 0, 0)] (0, 4, 0, 0, 0, []) ls st h := ai_blk_go S 30 3 ls st h
theorem k_30_4 (S : ai_S) (ls st : List Value) (h : ai_H) : ai_res S 30 4 ls st h = ai_go S 30 [] (24, 0, 0, 0, 0, []) ls st h := ai_blk_go S 30 4 ls st h
theorem e_30 (S : ai_S) (q0 : Nat) (a0 : Int32) (h : ai_H) : ai_call S 30 [.ref q0, .int a0] h = ai_res S 30 0 [.ref q0, .int a0] [] h := rfl
theorem k_31_0 (S : ai_S) (ls st : List Value) (h : ai_H) : ai_res S 31 0 ls st h = ai_go S 31 [(0, 0, 0, 0, 0), (6, 2, 0, 0, 0), (0, 0, 0, 0, 0), (6, 3, 0, 0, 0)] (0, 1, 0, 0, 0, []) ls st h := ai_blk_go S 31 0 ls st h
theorem k_31_1 (S : ai_S) (ls st : List Value) (h : ai_H) : ai_res S 31 1 ls st h = ai_go S 31 [(3, 3, 0, 0, 0), (5, 0, 0, 0, 0), (23, 5, 0, 10, 0), (23, 3, 3, 145, 0)] (11, 7, 2, 0, 0, []) ls st h := ai_blk_go S 31 1 ls st h
theorem k_31_2 (S : ai_S) (ls st : List Value) (h : ai_H) : ai_res S 31 2 ls st h = ai_go S 31 [(3, 1, 0, 0, 0), (3, 3, 0, 0, 0)] (19, 3, 82, 2, 0, [(0, 118)]) ls st h := ai_blk_go S 31 2 ls st h
theorem k_31_3 (S : ai_S) (ls st : List Value) (h : ai_H) : ai_res S 31 3 ls st h = ai_go S 31 [] (2, 6, 4, 0, 0, []) ls st h := ai_blk_go S 31 3 ls st h
theorem k_31_4 (S : ai_S) (ls st : List Value) (h : ai_H) : ai_res S 31 4 ls st h = ai_go S 31 [(3, 2, 0, 0, 0), (5, 0, 0, 0, 0), (23, 5, 0, 10, 0), (23, 3, 6, 103, 0), (3, 3, 0, 0, 0)] (19, 5, 79, 2, 0, [(0, 96)]) ls st h := ai_blk_go S 31 4 ls st h
theorem k_31_5 (S : ai_S) (ls st : List Value) (h : ai_H) : ai_res S 31 5 ls st h = ai_go S 31 [(10, 0, 0, 0, 0), (6, 2, 0, 0, 0)] (0, 6, 0, 0, 0, []) ls st h := ai_blk_go S 31 5 ls st h
theorem k_31_6 (S : ai_S) (ls st : List Value) (h : ai_H) : ai_res S 31 6 ls st h = ai_go S 31 [(9, 3, 0, 0, 1)] (1, 1, 0, 0, 0, []) ls st h := ai_blk_go S 31 6 ls st h
theorem k_31_7 (S : ai_S) (ls st : List Value) (h : ai_H) : ai_res S 31 7 ls st h = ai_go S 31 [(3, 2, 0, 0, 0)] (23, 0, 0, 0, 0, []) ls st h := ai_blk_go S 31 7 ls st h
theorem e_31 (S : ai_S) (q0 : Nat) (a0 : Int32) (h : ai_H) : ai_call S 31 [.ref q0, .int a0] h = ai_res S 31 0 [.ref q0, .int a0, ai_u, ai_u] [] h := rfl
theorem k_32_0 (S : ai_S) (ls st : List Value) (h : ai_H) : ai_res S 32 0 ls st h = ai_go S 32 [(3, 1, 0, 0, 0), (6, 2, 0, 0, 0), (0, 0, 0, 0, 1), (6, 3, 0, 0, 0)] (0, 1, 0, 0, 0, []) ls st h := ai_blk_go S 32 0 ls st h
theorem k_32_1 (S : ai_S) (ls st : List Value) (h : ai_H) : ai_res S 32 1 ls st h = ai_go S 32 [(3, 3, 0, 0, 0), (1, 0, 0, 0, 6)] (12, 9, 2, 0, 0, []) ls st h := ai_blk_go S 32 1 ls st h
theorem k_32_2 (S : ai_S) (ls st : List Value) (h : ai_H) : ai_res S 32 2 ls st h = ai_go S 32 [(5, 0, 0, 0, 0), (23, 5, 0, 10, 0), (23, 3, 7, 106, 0), (3, 2, 0, 0, 0)] (19, 3, 79, 2, 0, [(0, 96)]) ls st h := ai_blk_go S 32 2 ls st h
theorem k_32_3 (S : ai_S) (ls st : List Value) (h : ai_H) : ai_res S 32 3 ls st h = ai_go S 32 [(6, 2, 0, 0, 0), (5, 0, 0, 0, 0), (3, 2, 0, 0, 0)] (18, 4, 30, 2, 5, [(0, 90)]) ls st h := ai_blk_go S 32 3 ls st h
theorem k_32_4 (S : ai_S) (ls st : List Value) (h : ai_H) : ai_res S 32 4 ls st h = ai_go S 32 [] (3, 6, 5, 0, 0, []) ls st h := ai_blk_go S 32 4 ls st h
theorem k_32_5 (S : ai_S) (ls st : List Value) (h : ai_H) : ai_res S 32 5 ls st h = ai_go S 32 [(0, 0, 0, 0, 0)] (23, 0, 0, 0, 0, []) ls st h := ai_blk_go S 32 5 ls st h
theorem k_32_6 (S : ai_S) (ls st : List Value) (h : ai_H) : ai_res S 32 6 ls st h = ai_go S 32 [(3, 2, 0, 0, 0), (3, 1, 0, 0, 0)] (9, 8, 7, 0, 0, []) ls st h := ai_blk_go S 32 6 ls st h
theorem k_32_7 (S : ai_S) (ls st : List Value) (h : ai_H) : ai_res S 32 7 ls st h = ai_go S 32 [(3, 3, 0, 0, 0)] (23, 0, 0, 0, 0, []) ls st h := ai_blk_go S 32 7 ls st h
theorem k_32_8 (S : ai_S) (ls st : List Value) (h : ai_H) : ai_res S 32 8 ls st h = ai_go S 32 [(9, 3, 0, 0, 1)] (1, 1, 0, 0, 0, []) ls st h := ai_blk_go S 32 8 ls st h
theorem k_32_9 (S : ai_S) (ls st : List Value) (h : ai_H) : ai_res S 32 9 ls st h = ai_go S 32 [(0, 0, 0, 0, 0)] (23, 0, 0, 0, 0, []) ls st h := ai_blk_go S 32 9 ls st h
theorem e_32 (S : ai_S) (q0 : Nat) (a0 : Int32) (h : ai_H) : ai_call S 32 [.ref q0, .int a0] h = ai_res S 32 0 [.ref q0, .int a0, ai_u, ai_u] [] h := rfl
theorem k_33_0 (S : ai_S) (ls st : List Value) (h : ai_H) : ai_res S 33 0 ls st h = ai_go S 33 [(0, 0, 0, 0, 0), (6, 1, 0, 0, 0), (0, 0, 0, 0, 0), (6, 2, 0, 0, 0)] (0, 1, 0, 0, 0, []) ls st h := ai_blk_go S 33 0 ls st h
theorem k_33_1 (S : ai_S) (ls st : List Value) (h : ai_H) : ai_res S 33 1 ls st h = ai_go S 33 [(3, 2, 0, 0, 0), (5, 0, 0, 0, 0), (23, 5, 0, 10, 0), (23, 3, 3, 145, 0)] (11, 6, 2, 0, 0, []) ls st h := ai_blk_go S 33 1 ls st h
theorem k_33_2 (S : ai_S) (ls st : List Value) (h : ai_H) : ai_res S 33 2 ls st h = ai_go S 33 [(5, 0, 0, 0, 0), (3, 2, 0, 0, 0)] (18, 3, 32, 2, 5, [(0, 125)]) ls st h := ai_blk_go S 33 2 ls st h
theorem k_33_3 (S : ai_S) (ls st : List Value) (h : ai_H) : ai_res S 33 3 ls st h = ai_go S 33 [] (7, 5, 4, 0, 0, []) ls st h := ai_blk_go S 33 3 ls st h
theorem k_33_4 (S : ai_S) (ls st : List Value) (h : ai_H) : ai_res S 33 4 ls st h = ai_go S 33 [(3, 1, 0, 0, 0), (0, 0, 0, 0, 1), (3, 2, 0, 0, 0), (15, 0, 0, 0, 0), (14, 0, 0, 0, 0), (6, 1, 0, 0, 0)] (0, 5, 0, 0, 0, []) ls st h := ai_blk_go S 33 4 ls st h
theorem k_33_5 (S : ai_S) (ls st : List Value) (h : ai_H) : ai_res S 33 5 ls st h = ai_go S 33 [(9, 2, 0, 0, 1)] (1, 1, 0, 0, 0, []) ls st h := ai_blk_go S 33 5 ls st h
theorem k_33_6 (S : ai_S) (ls st : List Value) (h : ai_H) : ai_res S 33 6 ls st h = ai_go S 33 [(3, 1, 0, 0, 0)] (23, 0, 0, 0, 0, []) ls st h := ai_blk_go S 33 6 ls st h
theorem e_33 (S : ai_S) (q0 : Nat) (h : ai_H) : ai_call S 33 [.ref q0] h = ai_res S 33 0 [.ref q0, ai_u, ai_u] [] h := rfl
theorem k_34_0 (S : ai_S) (ls st : List Value) (h : ai_H) : ai_res S 34 0 ls st h = ai_go S 34 [(5, 0, 0, 0, 0), (3, 1, 0, 0, 0)] (18, 1, 30, 2, 5, [(0, 90)]) ls st h := ai_blk_go S 34 0 ls st h
theorem k_34_1 (S : ai_S) (ls st : List Value) (h : ai_H) : ai_res S 34 1 ls st h = ai_go S 34 [] (2, 4, 2, 0, 0, []) ls st h := ai_blk_go S 34 1 ls st h
theorem k_34_2 (S : ai_S) (ls st : List Value) (h : ai_H) : ai_res S 34 2 ls st h = ai_go S 34 [(3, 2, 0, 0, 0)] (19, 3, 83, 1, 0, [(0, 148)]) ls st h := ai_blk_go S 34 2 ls st h
theorem k_34_3 (S : ai_S) (ls st : List Value) (h : ai_H) : ai_res S 34 3 ls st h = ai_go S 34 [] (3, 5, 4, 0, 0, []) ls st h := ai_blk_go S 34 3 ls st h
theorem k_34_4 (S : ai_S) (ls st : List Value) (h : ai_H) : ai_res S 34 4 ls st h = ai_go S 34 [(0, 0, 0, 0, (-1))] (23, 0, 0, 0, 0, []) ls st h := ai_blk_go S 34 4 ls st h
theorem k_34_5 (S : ai_S) (ls st : List Value) (h : ai_H) : ai_res S 34 5 ls st h = ai_go S 34 [(5, 0, 0, 0, 0), (23, 5, 3, 29, 0), (23, 1, 7, 136, 0), (1, 0, 0, 0, (-9))] (9, 8, 6, 0, 0, []) ls st h := ai_blk_go S 34 5 ls st h
theorem k_34_6 (S : ai_S) (ls st : List Value) (h : ai_H) : ai_res S 34 6 ls st h = ai_go S 34 [(5, 0, 0, 0, 0), (23, 5, 3, 29, 0), (23, 1, 3, 122, 0), (3, 1, 0, 0, 0)] (19, 7, 82, 2, 0, [(0, 118)]) ls st h := ai_blk_go S 34 6 ls st h
theorem k_34_7 (S : ai_S) (ls st : List Value) (h : ai_H) : ai_res S 34 7 ls st h = ai_go S 34 [] (2, 9, 8, 0, 0, []) ls st h := ai_blk_go S 34 7 ls st h
theorem k_34_8 (S : ai_S) (ls st : List Value) (h : ai_H) : ai_res S 34 8 ls st h = ai_go S 34 [(1, 0, 0, 0, (-2))] (23, 0, 0, 0, 0, []) ls st h := ai_blk_go S 34 8 ls st h
theorem k_34_9 (S : ai_S) (ls st : List Value) (h : ai_H) : ai_res S 34 9 ls st h = ai_go S 34 [(5, 0, 0, 0, 0), (23, 5, 4, 36, 0), (5, 0, 0, 0, 0), (23, 5, 3, 29, 0)] (18, 10, 6, 2, 2, [(0, 151)]) ls st h := ai_blk_go S 34 9 ls st h
theorem k_34_10 (S : ai_S) (ls st : List Value) (h : ai_H) : ai_res S 34 10 ls st h = ai_go S 34 [(3, 2, 0, 0, 0), (0, 0, 0, 0, 1)] (9, 12, 11, 0, 0, []) ls st h := ai_blk_go S 34 10 ls st h
theorem k_34_11 (S : ai_S) (ls st : List Value) (h : ai_H) : ai_res S 34 11 ls st h = ai_go S 34 [(5, 0, 0, 0, 0), (23, 5, 3, 29, 0), (2, 0, 0, 0, 999), (5, 0, 0, 0, 0), (23, 5, 3, 29, 0), (23, 1, 5, 133, 0), (5, 0, 0, 0, 0), (23, 5, 0, 10, 0), (23, 3, 0, 155, 0), (10, 0, 0, 0, 0), (48, 0, 0, 158, 0), (24, 1, 5, 133, 0)] (0, 12, 0, 0, 0, []) ls st h := ai_blk_go S 34 11 ls st h
theorem k_34_12 (S : ai_S) (ls st : List Value) (h : ai_H) : ai_res S 34 12 ls st h = ai_go S 34 [(5, 0, 0, 0, 0), (23, 5, 3, 29, 0), (23, 1, 0, 109, 0), (3, 1, 0, 0, 0), (5, 0, 0, 0, 0), (23, 5, 3, 29, 0), (23, 1, 0, 109, 0), (3, 1, 0, 0, 0)] (19, 13, 79, 2, 0, [(0, 96)]) ls st h := ai_blk_go S 34 12 ls st h
theorem k_34_13 (S : ai_S) (ls st : List Value) (h : ai_H) : ai_res S 34 13 ls st h = ai_go S 34 [(5, 0, 0, 0, 0), (3, 2, 0, 0, 0)] (18, 14, 40, 2, 5, [(0, 164)]) ls st h := ai_blk_go S 34 13 ls st h
theorem k_34_14 (S : ai_S) (ls st : List Value) (h : ai_H) : ai_res S 34 14 ls st h = ai_go S 34 [(10, 0, 0, 0, 0)] (19, 15, 80, 3, 0, [(0, 167)]) ls st h := ai_blk_go S 34 14 ls st h
theorem k_34_15 (S : ai_S) (ls st : List Value) (h : ai_H) : ai_res S 34 15 ls st h = ai_go S 34 [(5, 0, 0, 0, 0), (23, 5, 3, 29, 0), (23, 1, 1, 112, 0), (3, 1, 0, 0, 0), (5, 0, 0, 0, 0), (23, 5, 3, 29, 0), (23, 1, 1, 112, 0), (3, 1, 0, 0, 0)] (19, 16, 79, 2, 0, [(0, 96)]) ls st h := ai_blk_go S 34 15 ls st h
theorem k_34_16 (S : ai_S) (ls st : List Value) (h : ai_H) : ai_res S 34 16 ls st h = ai_go S 34 [(5, 0, 0, 0, 0), (3, 2, 0, 0, 0)] (18, 17, 41, 2, 5, [(0, 171)]) ls st h := ai_blk_go S 34 16 ls st h
theorem k_34_17 (S : ai_S) (ls st : List Value) (h : ai_H) : ai_res S 34 17 ls st h = ai_go S 34 [(10, 0, 0, 0, 0)] (19, 18, 80, 3, 0, [(0, 167)]) ls st h := ai_blk_go S 34 17 ls st h
theorem k_34_18 (S : ai_S) (ls st : List Value) (h : ai_H) : ai_res S 34 18 ls st h = ai_go S 34 [(5, 0, 0, 0, 0), (3, 1, 0, 0, 0)] (18, 19, 42, 2, 5, [(0, 174)]) ls st h := ai_blk_go S 34 18 ls st h
theorem k_34_19 (S : ai_S) (ls st : List Value) (h : ai_H) : ai_res S 34 19 ls st h = ai_go S 34 [(6, 3, 0, 0, 0), (5, 0, 0, 0, 0), (3, 1, 0, 0, 0)] (18, 20, 43, 2, 5, [(0, 177)]) ls st h := ai_blk_go S 34 19 ls st h
theorem k_34_20 (S : ai_S) (ls st : List Value) (h : ai_H) : ai_res S 34 20 ls st h = ai_go S 34 [(3, 3, 0, 0, 0)] (23, 0, 0, 0, 0, []) ls st h := ai_blk_go S 34 20 ls st h
theorem e_34 (S : ai_S) (q0 : Nat) (a0 : Int32) (a1 : Int32) (h : ai_H) : ai_call S 34 [.ref q0, .int a0, .int a1] h = ai_res S 34 0 [.ref q0, .int a0, .int a1, ai_u] [] h := rfl
theorem k_35_0 (S : ai_S) (ls st : List Value) (h : ai_H) : ai_res S 35 0 ls st h = ai_go S 35 [(5, 0, 0, 0, 0), (23, 5, 3, 29, 0), (23, 1, 7, 136, 0), (6, 1, 0, 0, 0), (3, 1, 0, 0, 0), (1, 0, 0, 0, (-9))] (9, 2, 1, 0, 0, []) ls st h := ai_blk_go S 35 0 ls st h
theorem k_35_1 (S : ai_S) (ls st : List Value) (h : ai_H) : ai_res S 35 1 ls st h = ai_go S 35 [(1, 0, 0, 0, (-2))] (23, 0, 0, 0, 0, []) ls st h := ai_blk_go S 35 1 ls st h
theorem k_35_2 (S : ai_S) (ls st : List Value) (h : ai_H) : ai_res S 35 2 ls st h = ai_go S 35 [(5, 0, 0, 0, 0), (23, 5, 4, 36, 0), (5, 0, 0, 0, 0), (23, 5, 3, 29, 0)] (18, 3, 6, 2, 2, [(0, 151)]) ls st h := ai_blk_go S 35 2 ls st h
theorem k_35_3 (S : ai_S) (ls st : List Value) (h : ai_H) : ai_res S 35 3 ls st h = ai_go S 35 [(5, 0, 0, 0, 0), (23, 5, 3, 29, 0), (1, 0, 0, 0, (-9)), (24, 1, 7, 136, 0), (3, 1, 0, 0, 0)] (23, 0, 0, 0, 0, []) ls st h := ai_blk_go S 35 3 ls st h
theorem e_35 (S : ai_S) (q0 : Nat) (h : ai_H) : ai_call S 35 [.ref q0] h = ai_res S 35 0 [.ref q0, ai_u] [] h := rfl
theorem k_36_0 (S : ai_S) (ls st : List Value) (h : ai_H) : ai_res S 36 0 ls st h = ai_go S 36 [(3, 1, 0, 0, 0)] (4, 2, 1, 0, 0, []) ls st h := ai_blk_go S 36 0 ls st h
theorem k_36_1 (S : ai_S) (ls st : List Value) (h : ai_H) : ai_res S 36 1 ls st h = ai_go S 36 [(3, 1, 0, 0, 0), (1, 0, 0, 0, 10)] (10, 3, 2, 0, 0, []) ls st h := ai_blk_go S 36 1 ls st h
theorem k_36_2 (S : ai_S) (ls st : List Value) (h : ai_H) : ai_res S 36 2 ls st h = ai_go S 36 [(0, 0, 0, 0, (-1))] (23, 0, 0, 0, 0, []) ls st h := ai_blk_go S 36 2 ls st h
theorem k_36_3 (S : ai_S) (ls st : List Value) (h : ai_H) : ai_res S 36 3 ls st h = ai_go S 36 [(5, 0, 0, 0, 0), (23, 5, 3, 29, 0), (23, 1, 6, 129, 0), (6, 2, 0, 0, 0), (3, 2, 0, 0, 0), (3, 1, 0, 0, 0)] (9, 5, 4, 0, 0, []) ls st h := ai_blk_go S 36 3 ls st h
theorem k_36_4 (S : ai_S) (ls st : List Value) (h : ai_H) : ai_res S 36 4 ls st h = ai_go S 36 [(1, 0, 0, 0, (-2))] (23, 0, 0, 0, 0, []) ls st h := ai_blk_go S 36 4 ls st h
theorem k_36_5 (S : ai_S) (ls st : List Value) (h : ai_H) : ai_res S 36 5 ls st h = ai_go S 36 [(5, 0, 0, 0, 0), (23, 5, 4, 36, 0), (5, 0, 0, 0, 0), (23, 5, 3, 29, 0)] (18, 6, 6, 2, 2, [(0, 151)]) ls st h := ai_blk_go S 36 5 ls st h
theorem k_36_6 (S : ai_S) (ls st : List Value) (h : ai_H) : ai_res S 36 6 ls st h = ai_go S 36 [(5, 0, 0, 0, 0), (23, 5, 3, 29, 0), (3, 1, 0, 0, 0), (24, 1, 6, 129, 0), (3, 2, 0, 0, 0)] (23, 0, 0, 0, 0, []) ls st h := ai_blk_go S 36 6 ls st h
theorem e_36 (S : ai_S) (q0 : Nat) (a0 : Int32) (h : ai_H) : ai_call S 36 [.ref q0, .int a0] h = ai_res S 36 0 [.ref q0, .int a0, ai_u] [] h := rfl
theorem k_37_0 (S : ai_S) (ls st : List Value) (h : ai_H) : ai_res S 37 0 ls st h = ai_go S 37 [(5, 0, 0, 0, 0), (23, 5, 3, 29, 0), (23, 1, 4, 130, 0), (6, 1, 0, 0, 0), (3, 1, 0, 0, 0)] (3, 2, 1, 0, 0, []) ls st h := ai_blk_go S 37 0 ls st h
theorem k_37_1 (S : ai_S) (ls st : List Value) (h : ai_H) : ai_res S 37 1 ls st h = ai_go S 37 [(1, 0, 0, 0, (-2))] (23, 0, 0, 0, 0, []) ls st h := ai_blk_go S 37 1 ls st h
theorem k_37_2 (S : ai_S) (ls st : List Value) (h : ai_H) : ai_res S 37 2 ls st h = ai_go S 37 [(5, 0, 0, 0, 0), (23, 5, 4, 36, 0), (5, 0, 0, 0, 0), (23, 5, 3, 29, 0)] (18, 3, 6, 2, 2, [(0, 151)]) ls st h := ai_blk_go S 37 2 ls st h
theorem k_37_3 (S : ai_S) (ls st : List Value) (h : ai_H) : ai_res S 37 3 ls st h = ai_go S 37 [(5, 0, 0, 0, 0), (23, 5, 3, 29, 0), (0, 0, 0, 0, 0), (24, 1, 4, 130, 0), (3, 1, 0, 0, 0)] (23, 0, 0, 0, 0, []) ls st h := ai_blk_go S 37 3 ls st h
theorem e_37 (S : ai_S) (q0 : Nat) (h : ai_H) : ai_call S 37 [.ref q0] h = ai_res S 37 0 [.ref q0, ai_u] [] h := rfl
theorem k_38_0 (S : ai_S) (ls st : List Value) (h : ai_H) : ai_res S 38 0 ls st h = ai_go S 38 [(5, 0, 0, 0, 0), (3, 1, 0, 0, 0)] (18, 1, 30, 2, 5, [(0, 90)]) ls st h := ai_blk_go S 38 0 ls st h
theorem k_38_1 (S : ai_S) (ls st : List Value) (h : ai_H) : ai_res S 38 1 ls st h = ai_go S 38 [] (3, 3, 2, 0, 0, []) ls st h := ai_blk_go S 38 1 ls st h
theorem k_38_2 (S : ai_S) (ls st : List Value) (h : ai_H) : ai_res S 38 2 ls st h = ai_go S 38 [(0, 0, 0, 0, (-1))] (23, 0, 0, 0, 0, []) ls st h := ai_blk_go S 38 2 ls st h
theorem k_38_3 (S : ai_S) (ls st : List Value) (h : ai_H) : ai_res S 38 3 ls st h = ai_go S 38 [(5, 0, 0, 0, 0), (23, 5, 3, 29, 0), (23, 1, 0, 109, 0), (3, 1, 0, 0, 0)] (19, 4, 79, 2, 0, [(0, 96)]) ls st h := ai_blk_go S 38 3 ls st h
theorem k_38_4 (S : ai_S) (ls st : List Value) (h : ai_H) : ai_res S 38 4 ls st h = ai_go S 38 [(6, 2, 0, 0, 0), (3, 2, 0, 0, 0)] (2, 7, 5, 0, 0, []) ls st h := ai_blk_go S 38 4 ls st h
theorem k_38_5 (S : ai_S) (ls st : List Value) (h : ai_H) : ai_res S 38 5 ls st h = ai_go S 38 [(5, 0, 0, 0, 0), (23, 5, 3, 29, 0), (23, 1, 3, 122, 0), (3, 1, 0, 0, 0)] (19, 6, 82, 2, 0, [(0, 118)]) ls st h := ai_blk_go S 38 5 ls st h
theorem k_38_6 (S : ai_S) (ls st : List Value) (h : ai_H) : ai_res S 38 6 ls st h = ai_go S 38 [] (2, 8, 7, 0, 0, []) ls st h := ai_blk_go S 38 6 ls st h
theorem k_38_7 (S : ai_S) (ls st : List Value) (h : ai_H) : ai_res S 38 7 ls st h = ai_go S 38 [(1, 0, 0, 0, (-2))] (23, 0, 0, 0, 0, []) ls st h := ai_blk_go S 38 7 ls st h
theorem k_38_8 (S : ai_S) (ls st : List Value) (h : ai_H) : ai_res S 38 8 ls st h = ai_go S 38 [(5, 0, 0, 0, 0), (23, 5, 4, 36, 0), (5, 0, 0, 0, 0), (23, 5, 3, 29, 0)] (18, 9, 6, 2, 2, [(0, 151)]) ls st h := ai_blk_go S 38 8 ls st h
theorem k_38_9 (S : ai_S) (ls st : List Value) (h : ai_H) : ai_res S 38 9 ls st h = ai_go S 38 [(5, 0, 0, 0, 0), (23, 5, 3, 29, 0), (23, 1, 0, 109, 0), (3, 1, 0, 0, 0), (0, 0, 0, 0, 0)] (19, 10, 80, 3, 0, [(0, 167)]) ls st h := ai_blk_go S 38 9 ls st h
theorem k_38_10 (S : ai_S) (ls st : List Value) (h : ai_H) : ai_res S 38 10 ls st h = ai_go S 38 [(3, 2, 0, 0, 0)] (23, 0, 0, 0, 0, []) ls st h := ai_blk_go S 38 10 ls st h
theorem e_38 (S : ai_S) (q0 : Nat) (a0 : Int32) (h : ai_H) : ai_call S 38 [.ref q0, .int a0] h = ai_res S 38 0 [.ref q0, .int a0, ai_u] [] h := rfl
theorem k_39_0 (S : ai_S) (ls st : List Value) (h : ai_H) : ai_res S 39 0 ls st h = ai_go S 39 [(5, 0, 0, 0, 0), (23, 5, 4, 36, 0), (23, 2, 2, 81, 0)] (3, 2, 1, 0, 0, []) ls st h := ai_blk_go S 39 0 ls st h
theorem k_39_1 (S : ai_S) (ls st : List Value) (h : ai_H) : ai_res S 39 1 ls st h = ai_go S 39 [(1, 0, 0, 0, (-2))] (23, 0, 0, 0, 0, []) ls st h := ai_blk_go S 39 1 ls st h
theorem k_39_2 (S : ai_S) (ls st : List Value) (h : ai_H) : ai_res S 39 2 ls st h = ai_go S 39 [(5, 0, 0, 0, 0), (23, 5, 4, 36, 0), (5, 0, 0, 0, 0), (23, 5, 3, 29, 0)] (18, 3, 7, 2, 2, [(0, 180)]) ls st h := ai_blk_go S 39 2 ls st h
theorem k_39_3 (S : ai_S) (ls st : List Value) (h : ai_H) : ai_res S 39 3 ls st h = ai_go S 39 [(5, 0, 0, 0, 0), (23, 5, 4, 36, 0), (23, 2, 2, 81, 0)] (23, 0, 0, 0, 0, []) ls st h := ai_blk_go S 39 3 ls st h
theorem e_39 (S : ai_S) (q0 : Nat) (h : ai_H) : ai_call S 39 [.ref q0] h = ai_res S 39 0 [.ref q0] [] h := rfl
theorem k_40_0 (S : ai_S) (ls st : List Value) (h : ai_H) : ai_res S 40 0 ls st h = ai_go S 40 [(3, 1, 0, 0, 0), (0, 0, 0, 0, 1)] (9, 2, 1, 0, 0, []) ls st h := ai_blk_go S 40 0 ls st h
theorem k_40_1 (S : ai_S) (ls st : List Value) (h : ai_H) : ai_res S 40 1 ls st h = ai_go S 40 [(0, 0, 0, 0, 0)] (1, 3, 0, 0, 0, []) ls st h := ai_blk_go S 40 1 ls st h
theorem k_40_2 (S : ai_S) (ls st : List Value) (h : ai_H) : ai_res S 40 2 ls st h = ai_go S 40 [(5, 0, 0, 0, 0), (23, 5, 0, 10, 0), (23, 3, 0, 155, 0)] (0, 3, 0, 0, 0, []) ls st h := ai_blk_go S 40 2 ls st h
theorem k_40_3 (S : ai_S) (ls st : List Value) (h : ai_H) : ai_res S 40 3 ls st h = ai_go S 40 [] (23, 0, 0, 0, 0, []) ls st h := ai_blk_go S 40 3 ls st h
theorem e_40 (S : ai_S) (q0 : Nat) (a0 : Int32) (h : ai_H) : ai_call S 40 [.ref q0, .int a0] h = ai_res S 40 0 [.ref q0, .int a0] [] h := rfl
theorem k_41_0 (S : ai_S) (ls st : List Value) (h : ai_H) : ai_res S 41 0 ls st h = ai_go S 41 [(3, 1, 0, 0, 0), (0, 0, 0, 0, 1)] (9, 2, 1, 0, 0, []) ls st h := ai_blk_go S 41 0 ls st h
theorem k_41_1 (S : ai_S) (ls st : List Value) (h : ai_H) : ai_res S 41 1 ls st h = ai_go S 41 [(0, 0, 0, 0, 2), (5, 0, 0, 0, 0), (23, 5, 3, 29, 0), (23, 1, 6, 129, 0), (12, 0, 0, 0, 0)] (1, 3, 0, 0, 0, []) ls st h := ai_blk_go S 41 1 ls st h
theorem k_41_2 (S : ai_S) (ls st : List Value) (h : ai_H) : ai_res S 41 2 ls st h = ai_go S 41 [(5, 0, 0, 0, 0), (23, 5, 3, 29, 0), (23, 1, 6, 129, 0)] (0, 3, 0, 0, 0, []) ls st h := ai_blk_go S 41 2 ls st h
theorem k_41_3 (S : ai_S) (ls st : List Value) (h : ai_H) : ai_res S 41 3 ls st h = ai_go S 41 [] (23, 0, 0, 0, 0, []) ls st h := ai_blk_go S 41 3 ls st h
theorem e_41 (S : ai_S) (q0 : Nat) (a0 : Int32) (h : ai_H) : ai_call S 41 [.ref q0, .int a0] h = ai_res S 41 0 [.ref q0, .int a0] [] h := rfl
theorem k_42_0 (S : ai_S) (ls st : List Value) (h : ai_H) : ai_res S 42 0 ls st h = ai_go S 42 [(5, 0, 0, 0, 0), (23, 5, 3, 29, 0), (23, 1, 0, 109, 0), (3, 1, 0, 0, 0)] (19, 1, 79, 2, 0, [(0, 96)]) ls st h := ai_blk_go S 42 0 ls st h
theorem k_42_1 (S : ai_S) (ls st : List Value) (h : ai_H) : ai_res S 42 1 ls st h = ai_go S 42 [(6, 2, 0, 0, 0), (5, 0, 0, 0, 0), (3, 1, 0, 0, 0), (3, 2, 0, 0, 0), (5, 0, 0, 0, 0), (23, 5, 3, 29, 0), (23, 1, 1, 112, 0), (3, 1, 0, 0, 0)] (19, 2, 79, 2, 0, [(0, 96)]) ls st h := ai_blk_go S 42 1 ls st h
theorem k_42_2 (S : ai_S) (ls st : List Value) (h : ai_H) : ai_res S 42 2 ls st h = ai_go S 42 [] (18, 3, 44, 4, 5, [(0, 183)]) ls st h := ai_blk_go S 42 2 ls st h
theorem k_42_3 (S : ai_S) (ls st : List Value) (h : ai_H) : ai_res S 42 3 ls st h = ai_go S 42 [] (2, 7, 4, 0, 0, []) ls st h := ai_blk_go S 42 3 ls st h
theorem k_42_4 (S : ai_S) (ls st : List Value) (h : ai_H) : ai_res S 42 4 ls st h = ai_go S 42 [(5, 0, 0, 0, 0), (23, 5, 3, 29, 0), (20, 0, 0, 0, 0), (23, 1, 2, 115, 0), (0, 0, 0, 0, 1), (3, 1, 0, 0, 0), (15, 0, 0, 0, 0), (14, 0, 0, 0, 0), (24, 1, 2, 115, 0), (5, 0, 0, 0, 0), (23, 5, 3, 29, 0), (23, 1, 0, 109, 0), (3, 1, 0, 0, 0), (0, 0, 0, 0, 0)] (19, 5, 80, 3, 0, [(0, 167)]) ls st h := ai_blk_go S 42 4 ls st h
theorem k_42_5 (S : ai_S) (ls st : List Value) (h : ai_H) : ai_res S 42 5 ls st h = ai_go S 42 [(5, 0, 0, 0, 0), (23, 5, 3, 29, 0), (23, 1, 1, 112, 0), (3, 1, 0, 0, 0), (0, 0, 0, 0, 0)] (19, 6, 80, 3, 0, [(0, 167)]) ls st h := ai_blk_go S 42 5 ls st h
theorem k_42_6 (S : ai_S) (ls st : List Value) (h : ai_H) : ai_res S 42 6 ls st h = ai_go S 42 [(0, 0, 0, 0, 1)] (23, 0, 0, 0, 0, []) ls st h := ai_blk_go S 42 6 ls st h
theorem k_42_7 (S : ai_S) (ls st : List Value) (h : ai_H) : ai_res S 42 7 ls st h = ai_go S 42 [(5, 0, 0, 0, 0), (3, 1, 0, 0, 0), (3, 2, 0, 0, 0)] (18, 8, 45, 3, 5, [(0, 187)]) ls st h := ai_blk_go S 42 7 ls st h
theorem k_42_8 (S : ai_S) (ls st : List Value) (h : ai_H) : ai_res S 42 8 ls st h = ai_go S 42 [] (2, 10, 9, 0, 0, []) ls st h := ai_blk_go S 42 8 ls st h
theorem k_42_9 (S : ai_S) (ls st : List Value) (h : ai_H) : ai_res S 42 9 ls st h = ai_go S 42 [(5, 0, 0, 0, 0), (23, 5, 3, 29, 0), (20, 0, 0, 0, 0), (23, 1, 3, 122, 0), (0, 0, 0, 0, 1), (3, 1, 0, 0, 0), (15, 0, 0, 0, 0), (14, 0, 0, 0, 0), (24, 1, 3, 122, 0), (0, 0, 0, 0, 2)] (23, 0, 0, 0, 0, []) ls st h := ai_blk_go S 42 9 ls st h
theorem k_42_10 (S : ai_S) (ls st : List Value) (h : ai_H) : ai_res S 42 10 ls st h = ai_go S 42 [(0, 0, 0, 0, 0)] (23, 0, 0, 0, 0, []) ls st h := ai_blk_go S 42 10 ls st h
theorem e_42 (S : ai_S) (q0 : Nat) (a0 : Int32) (h : ai_H) : ai_call S 42 [.ref q0, .int a0] h = ai_res S 42 0 [.ref q0, .int a0, ai_u] [] h := rfl
theorem k_43_0 (S : ai_S) (ls st : List Value) (h : ai_H) : ai_res S 43 0 ls st h = ai_go S 43 [(5, 0, 0, 0, 0), (23, 5, 3, 29, 0), (20, 0, 0, 0, 0), (23, 1, 4, 130, 0), (0, 0, 0, 0, 1), (10, 0, 0, 0, 0), (24, 1, 4, 130, 0), (5, 0, 0, 0, 0), (23, 5, 3, 29, 0), (23, 1, 4, 130, 0), (5, 0, 0, 0, 0), (23, 5, 0, 10, 0), (23, 3, 2, 190, 0)] (9, 2, 1, 0, 0, []) ls st h := ai_blk_go S 43 0 ls st h
theorem k_43_1 (S : ai_S) (ls st : List Value) (h : ai_H) : ai_res S 43 1 ls st h = ai_go S 43 [(5, 0, 0, 0, 0), (23, 5, 3, 29, 0), (3, 1, 0, 0, 0), (24, 1, 7, 136, 0), (5, 0, 0, 0, 0), (23, 5, 3, 29, 0), (0, 0, 0, 0, 0), (24, 1, 4, 130, 0)] (0, 2, 0, 0, 0, []) ls st h := ai_blk_go S 43 1 ls st h
theorem k_43_2 (S : ai_S) (ls st : List Value) (h : ai_H) : ai_res S 43 2 ls st h = ai_go S 43 [] (27, 0, 0, 0, 0, []) ls st h := ai_blk_go S 43 2 ls st h
theorem e_43 (S : ai_S) (q0 : Nat) (a0 : Int32) (h : ai_H) : ai_call S 43 [.ref q0, .int a0] h = ai_res S 43 0 [.ref q0, .int a0] [] h := rfl
theorem k_44_0 (S : ai_S) (ls st : List Value) (h : ai_H) : ai_res S 44 0 ls st h = ai_go S 44 [(3, 3, 0, 0, 0), (5, 0, 0, 0, 0), (23, 5, 0, 10, 0), (23, 3, 5, 100, 0), (3, 1, 0, 0, 0)] (19, 1, 79, 2, 0, [(0, 96)]) ls st h := ai_blk_go S 44 0 ls st h
theorem k_44_1 (S : ai_S) (ls st : List Value) (h : ai_H) : ai_res S 44 1 ls st h = ai_go S 44 [] (10, 5, 2, 0, 0, []) ls st h := ai_blk_go S 44 1 ls st h
theorem k_44_2 (S : ai_S) (ls st : List Value) (h : ai_H) : ai_res S 44 2 ls st h = ai_go S 44 [(3, 2, 0, 0, 0), (5, 0, 0, 0, 0), (23, 5, 0, 10, 0), (23, 3, 4, 93, 0), (3, 1, 0, 0, 0)] (19, 3, 79, 2, 0, [(0, 96)]) ls st h := ai_blk_go S 44 2 ls st h
theorem k_44_3 (S : ai_S) (ls st : List Value) (h : ai_H) : ai_res S 44 3 ls st h = ai_go S 44 [] (10, 5, 4, 0, 0, []) ls st h := ai_blk_go S 44 3 ls st h
theorem k_44_4 (S : ai_S) (ls st : List Value) (h : ai_H) : ai_res S 44 4 ls st h = ai_go S 44 [(0, 0, 0, 0, 1)] (1, 6, 0, 0, 0, []) ls st h := ai_blk_go S 44 4 ls st h
theorem k_44_5 (S : ai_S) (ls st : List Value) (h : ai_H) : ai_res S 44 5 ls st h = ai_go S 44 [(0, 0, 0, 0, 0)] (0, 6, 0, 0, 0, []) ls st h := ai_blk_go S 44 5 ls st h
theorem k_44_6 (S : ai_S) (ls st : List Value) (h : ai_H) : ai_res S 44 6 ls st h = ai_go S 44 [] (24, 0, 0, 0, 0, []) ls st h := ai_blk_go S 44 6 ls st h
theorem e_44 (S : ai_S) (q0 : Nat) (a0 : Int32) (a1 : Int32) (a2 : Int32) (h : ai_H) : ai_call S 44 [.ref q0, .int a0, .int a1, .int a2] h = ai_res S 44 0 [.ref q0, .int a0, .int a1, .int a2] [] h := rfl
theorem k_45_0 (S : ai_S) (ls st : List Value) (h : ai_H) : ai_res S 45 0 ls st h = ai_go S 45 [(3, 2, 0, 0, 0), (5, 0, 0, 0, 0), (23, 5, 0, 10, 0), (23, 3, 4, 93, 0), (3, 1, 0, 0, 0)] (19, 1, 79, 2, 0, [(0, 96)]) ls st h := ai_blk_go S 45 0 ls st h
theorem k_45_1 (S : ai_S) (ls st : List Value) (h : ai_H) : ai_res S 45 1 ls st h = ai_go S 45 [(1, 0, 0, 0, 10), (10, 0, 0, 0, 0)] (13, 3, 2, 0, 0, []) ls st h := ai_blk_go S 45 1 ls st h
theorem k_45_2 (S : ai_S) (ls st : List Value) (h : ai_H) : ai_res S 45 2 ls st h = ai_go S 45 [(0, 0, 0, 0, 1)] (1, 4, 0, 0, 0, []) ls st h := ai_blk_go S 45 2 ls st h
theorem k_45_3 (S : ai_S) (ls st : List Value) (h : ai_H) : ai_res S 45 3 ls st h = ai_go S 45 [(0, 0, 0, 0, 0)] (0, 4, 0, 0, 0, []) ls st h := ai_blk_go S 45 3 ls st h
theorem k_45_4 (S : ai_S) (ls st : List Value) (h : ai_H) : ai_res S 45 4 ls st h = ai_go S 45 [] (24, 0, 0, 0, 0, []) ls st h := ai_blk_go S 45 4 ls st h
theorem e_45 (S : ai_S) (q0 : Nat) (a0 : Int32) (a1 : Int32) (h : ai_H) : ai_call S 45 [.ref q0, .int a0, .int a1] h = ai_res S 45 0 [.ref q0, .int a0, .int a1] [] h := rfl
theorem k_46_0 (S : ai_S) (ls st : List Value) (h : ai_H) : ai_res S 46 0 ls st h = ai_go S 46 [(5, 0, 0, 0, 0), (3, 1, 0, 0, 0)] (18, 1, 30, 2, 5, [(0, 90)]) ls st h := ai_blk_go S 46 0 ls st h
theorem k_46_1 (S : ai_S) (ls st : List Value) (h : ai_H) : ai_res S 46 1 ls st h = ai_go S 46 [] (2, 4, 2, 0, 0, []) ls st h := ai_blk_go S 46 1 ls st h
theorem k_46_2 (S : ai_S) (ls st : List Value) (h : ai_H) : ai_res S 46 2 ls st h = ai_go S 46 [(3, 2, 0, 0, 0), (0, 0, 0, 0, (-1))] (10, 4, 3, 0, 0, []) ls st h := ai_blk_go S 46 2 ls st h
theorem k_46_3 (S : ai_S) (ls st : List Value) (h : ai_H) : ai_res S 46 3 ls st h = ai_go S 46 [(3, 2, 0, 0, 0), (1, 0, 0, 0, 10)] (10, 5, 4, 0, 0, []) ls st h := ai_blk_go S 46 3 ls st h
theorem k_46_4 (S : ai_S) (ls st : List Value) (h : ai_H) : ai_res S 46 4 ls st h = ai_go S 46 [(0, 0, 0, 0, (-1))] (23, 0, 0, 0, 0, []) ls st h := ai_blk_go S 46 4 ls st h
theorem k_46_5 (S : ai_S) (ls st : List Value) (h : ai_H) : ai_res S 46 5 ls st h = ai_go S 46 [(5, 0, 0, 0, 0), (3, 1, 0, 0, 0)] (18, 6, 50, 2, 5, [(0, 193)]) ls st h := ai_blk_go S 46 5 ls st h
theorem k_46_6 (S : ai_S) (ls st : List Value) (h : ai_H) : ai_res S 46 6 ls st h = ai_go S 46 [] (3, 8, 7, 0, 0, []) ls st h := ai_blk_go S 46 6 ls st h
theorem k_46_7 (S : ai_S) (ls st : List Value) (h : ai_H) : ai_res S 46 7 ls st h = ai_go S 46 [(1, 0, 0, 0, (-2))] (23, 0, 0, 0, 0, []) ls st h := ai_blk_go S 46 7 ls st h
theorem k_46_8 (S : ai_S) (ls st : List Value) (h : ai_H) : ai_res S 46 8 ls st h = ai_go S 46 [(5, 0, 0, 0, 0), (3, 1, 0, 0, 0)] (18, 9, 51, 2, 5, [(0, 196)]) ls st h := ai_blk_go S 46 8 ls st h
theorem k_46_9 (S : ai_S) (ls st : List Value) (h : ai_H) : ai_res S 46 9 ls st h = ai_go S 46 [(6, 3, 0, 0, 0), (3, 3, 0, 0, 0), (2, 0, 0, 0, 1000)] (8, 11, 10, 0, 0, []) ls st h := ai_blk_go S 46 9 ls st h
theorem k_46_10 (S : ai_S) (ls st : List Value) (h : ai_H) : ai_res S 46 10 ls st h = ai_go S 46 [(3, 2, 0, 0, 0), (3, 3, 0, 0, 0)] (10, 12, 11, 0, 0, []) ls st h := ai_blk_go S 46 10 ls st h
theorem k_46_11 (S : ai_S) (ls st : List Value) (h : ai_H) : ai_res S 46 11 ls st h = ai_go S 46 [(1, 0, 0, 0, (-9))] (23, 0, 0, 0, 0, []) ls st h := ai_blk_go S 46 11 ls st h
theorem k_46_12 (S : ai_S) (ls st : List Value) (h : ai_H) : ai_res S 46 12 ls st h = ai_go S 46 [(3, 2, 0, 0, 0), (0, 0, 0, 0, (-1))] (9, 14, 13, 0, 0, []) ls st h := ai_blk_go S 46 12 ls st h
theorem k_46_13 (S : ai_S) (ls st : List Value) (h : ai_H) : ai_res S 46 13 ls st h = ai_go S 46 [(3, 3, 0, 0, 0)] (1, 15, 0, 0, 0, []) ls st h := ai_blk_go S 46 13 ls st h
theorem k_46_14 (S : ai_S) (ls st : List Value) (h : ai_H) : ai_res S 46 14 ls st h = ai_go S 46 [(5, 0, 0, 0, 0), (3, 2, 0, 0, 0)] (18, 15, 55, 2, 5, [(0, 199)]) ls st h := ai_blk_go S 46 14 ls st h
theorem k_46_15 (S : ai_S) (ls st : List Value) (h : ai_H) : ai_res S 46 15 ls st h = ai_go S 46 [] (23, 0, 0, 0, 0, []) ls st h := ai_blk_go S 46 15 ls st h
theorem e_46 (S : ai_S) (q0 : Nat) (a0 : Int32) (a1 : Int32) (h : ai_H) : ai_call S 46 [.ref q0, .int a0, .int a1] h = ai_res S 46 0 [.ref q0, .int a0, .int a1, ai_u] [] h := rfl
theorem k_47_0 (S : ai_S) (ls st : List Value) (h : ai_H) : ai_res S 47 0 ls st h = ai_go S 47 [(3, 1, 0, 0, 0)] (4, 4, 1, 0, 0, []) ls st h := ai_blk_go S 47 0 ls st h
theorem k_47_1 (S : ai_S) (ls st : List Value) (h : ai_H) : ai_res S 47 1 ls st h = ai_go S 47 [(3, 1, 0, 0, 0), (1, 0, 0, 0, 40)] (12, 4, 2, 0, 0, []) ls st h := ai_blk_go S 47 1 ls st h
theorem k_47_2 (S : ai_S) (ls st : List Value) (h : ai_H) : ai_res S 47 2 ls st h = ai_go S 47 [(3, 2, 0, 0, 0)] (19, 3, 83, 1, 0, [(0, 148)]) ls st h := ai_blk_go S 47 2 ls st h
theorem k_47_3 (S : ai_S) (ls st : List Value) (h : ai_H) : ai_res S 47 3 ls st h = ai_go S 47 [] (3, 5, 4, 0, 0, []) ls st h := ai_blk_go S 47 3 ls st h
theorem k_47_4 (S : ai_S) (ls st : List Value) (h : ai_H) : ai_res S 47 4 ls st h = ai_go S 47 [(0, 0, 0, 0, (-1))] (23, 0, 0, 0, 0, []) ls st h := ai_blk_go S 47 4 ls st h
theorem k_47_5 (S : ai_S) (ls st : List Value) (h : ai_H) : ai_res S 47 5 ls st h = ai_go S 47 [(5, 0, 0, 0, 0)] (18, 6, 56, 1, 5, [(0, 202)]) ls st h := ai_blk_go S 47 5 ls st h
theorem k_47_6 (S : ai_S) (ls st : List Value) (h : ai_H) : ai_res S 47 6 ls st h = ai_go S 47 [(0, 0, 0, 0, 0), (6, 3, 0, 0, 0), (0, 0, 0, 0, 0), (7, 4, 0, 0, 0), (0, 0, 0, 0, 0), (7, 5, 0, 0, 0), (0, 0, 0, 0, 1), (7, 6, 0, 0, 0)] (0, 7, 0, 0, 0, []) ls st h := ai_blk_go S 47 6 ls st h
theorem k_47_7 (S : ai_S) (ls st : List Value) (h : ai_H) : ai_res S 47 7 ls st h = ai_go S 47 [(4, 6, 0, 0, 0), (0, 0, 0, 0, 1), (5, 0, 0, 0, 0), (23, 5, 0, 10, 0), (23, 3, 3, 145, 0), (15, 0, 0, 0, 0)] (11, 19, 8, 0, 0, []) ls st h := ai_blk_go S 47 7 ls st h
theorem k_47_8 (S : ai_S) (ls st : List Value) (h : ai_H) : ai_res S 47 8 ls st h = ai_go S 47 [(5, 0, 0, 0, 0), (4, 6, 0, 0, 0)] (18, 9, 57, 2, 5, [(0, 205)]) ls st h := ai_blk_go S 47 8 ls st h
theorem k_47_9 (S : ai_S) (ls st : List Value) (h : ai_H) : ai_res S 47 9 ls st h = ai_go S 47 [(7, 7, 0, 0, 0), (5, 0, 0, 0, 0), (4, 6, 0, 0, 0)] (18, 10, 31, 2, 5, [(0, 139)]) ls st h := ai_blk_go S 47 9 ls st h
theorem k_47_10 (S : ai_S) (ls st : List Value) (h : ai_H) : ai_res S 47 10 ls st h = ai_go S 47 [(7, 8, 0, 0, 0), (4, 8, 0, 0, 0), (4, 4, 0, 0, 0)] (12, 13, 11, 0, 0, []) ls st h := ai_blk_go S 47 10 ls st h
theorem k_47_11 (S : ai_S) (ls st : List Value) (h : ai_H) : ai_res S 47 11 ls st h = ai_go S 47 [(4, 8, 0, 0, 0), (4, 4, 0, 0, 0)] (9, 14, 12, 0, 0, []) ls st h := ai_blk_go S 47 11 ls st h
theorem k_47_12 (S : ai_S) (ls st : List Value) (h : ai_H) : ai_res S 47 12 ls st h = ai_go S 47 [(4, 7, 0, 0, 0), (4, 5, 0, 0, 0)] (11, 14, 13, 0, 0, []) ls st h := ai_blk_go S 47 12 ls st h
theorem k_47_13 (S : ai_S) (ls st : List Value) (h : ai_H) : ai_res S 47 13 ls st h = ai_go S 47 [(0, 0, 0, 0, 1)] (1, 15, 0, 0, 0, []) ls st h := ai_blk_go S 47 13 ls st h
theorem k_47_14 (S : ai_S) (ls st : List Value) (h : ai_H) : ai_res S 47 14 ls st h = ai_go S 47 [(0, 0, 0, 0, 0)] (0, 15, 0, 0, 0, []) ls st h := ai_blk_go S 47 14 ls st h
theorem k_47_15 (S : ai_S) (ls st : List Value) (h : ai_H) : ai_res S 47 15 ls st h = ai_go S 47 [(7, 9, 0, 0, 0), (4, 7, 0, 0, 0), (3, 1, 0, 0, 0)] (12, 18, 16, 0, 0, []) ls st h := ai_blk_go S 47 15 ls st h
theorem k_47_16 (S : ai_S) (ls st : List Value) (h : ai_H) : ai_res S 47 16 ls st h = ai_go S 47 [(4, 9, 0, 0, 0)] (2, 18, 17, 0, 0, []) ls st h := ai_blk_go S 47 16 ls st h
theorem k_47_17 (S : ai_S) (ls st : List Value) (h : ai_H) : ai_res S 47 17 ls st h = ai_go S 47 [(4, 6, 0, 0, 0), (6, 3, 0, 0, 0), (4, 8, 0, 0, 0), (7, 4, 0, 0, 0), (4, 7, 0, 0, 0), (7, 5, 0, 0, 0)] (0, 18, 0, 0, 0, []) ls st h := ai_blk_go S 47 17 ls st h
theorem k_47_18 (S : ai_S) (ls st : List Value) (h : ai_H) : ai_res S 47 18 ls st h = ai_go S 47 [(9, 6, 0, 0, 1)] (1, 7, 0, 0, 0, []) ls st h := ai_blk_go S 47 18 ls st h
theorem k_47_19 (S : ai_S) (ls st : List Value) (h : ai_H) : ai_res S 47 19 ls st h = ai_go S 47 [(3, 2, 0, 0, 0)] (3, 21, 20, 0, 0, []) ls st h := ai_blk_go S 47 19 ls st h
theorem k_47_20 (S : ai_S) (ls st : List Value) (h : ai_H) : ai_res S 47 20 ls st h = ai_go S 47 [(4, 4, 0, 0, 0)] (1, 22, 0, 0, 0, []) ls st h := ai_blk_go S 47 20 ls st h
theorem k_47_21 (S : ai_S) (ls st : List Value) (h : ai_H) : ai_res S 47 21 ls st h = ai_go S 47 [(3, 3, 0, 0, 0)] (0, 22, 0, 0, 0, []) ls st h := ai_blk_go S 47 21 ls st h
theorem k_47_22 (S : ai_S) (ls st : List Value) (h : ai_H) : ai_res S 47 22 ls st h = ai_go S 47 [] (23, 0, 0, 0, 0, []) ls st h := ai_blk_go S 47 22 ls st h
theorem e_47 (S : ai_S) (q0 : Nat) (a0 : Int32) (a1 : Int32) (h : ai_H) : ai_call S 47 [.ref q0, .int a0, .int a1] h = ai_res S 47 0 [.ref q0, .int a0, .int a1, ai_u, ai_u, ai_u, ai_u, ai_u, ai_u, ai_u] [] h := rfl
theorem k_48_0 (S : ai_S) (ls st : List Value) (h : ai_H) : ai_res S 48 0 ls st h = ai_go S 48 [(3, 1, 0, 0, 0)] (4, 4, 1, 0, 0, []) ls st h := ai_blk_go S 48 0 ls st h
theorem k_48_1 (S : ai_S) (ls st : List Value) (h : ai_H) : ai_res S 48 1 ls st h = ai_go S 48 [(3, 1, 0, 0, 0), (0, 0, 0, 0, 1), (5, 0, 0, 0, 0), (23, 5, 0, 10, 0), (23, 3, 3, 145, 0), (15, 0, 0, 0, 0)] (11, 4, 2, 0, 0, []) ls st h := ai_blk_go S 48 1 ls st h
theorem k_48_2 (S : ai_S) (ls st : List Value) (h : ai_H) : ai_res S 48 2 ls st h = ai_go S 48 [(3, 2, 0, 0, 0), (0, 0, 0, 0, 1)] (10, 4, 3, 0, 0, []) ls st h := ai_blk_go S 48 2 ls st h
theorem k_48_3 (S : ai_S) (ls st : List Value) (h : ai_H) : ai_res S 48 3 ls st h = ai_go S 48 [(3, 2, 0, 0, 0), (0, 0, 0, 0, 5)] (13, 5, 4, 0, 0, []) ls st h := ai_blk_go S 48 3 ls st h
theorem k_48_4 (S : ai_S) (ls st : List Value) (h : ai_H) : ai_res S 48 4 ls st h = ai_go S 48 [(0, 0, 0, 0, (-1))] (23, 0, 0, 0, 0, []) ls st h := ai_blk_go S 48 4 ls st h
theorem k_48_5 (S : ai_S) (ls st : List Value) (h : ai_H) : ai_res S 48 5 ls st h = ai_go S 48 [(0, 0, 0, 0, 0), (6, 3, 0, 0, 0)] (0, 6, 0, 0, 0, []) ls st h := ai_blk_go S 48 5 ls st h
theorem k_48_6 (S : ai_S) (ls st : List Value) (h : ai_H) : ai_res S 48 6 ls st h = ai_go S 48 [(3, 3, 0, 0, 0), (1, 0, 0, 0, 10)] (11, 14, 7, 0, 0, []) ls st h := ai_blk_go S 48 6 ls st h
theorem k_48_7 (S : ai_S) (ls st : List Value) (h : ai_H) : ai_res S 48 7 ls st h = ai_go S 48 [(0, 0, 0, 0, 0), (7, 4, 0, 0, 0)] (0, 8, 0, 0, 0, []) ls st h := ai_blk_go S 48 7 ls st h
theorem k_48_8 (S : ai_S) (ls st : List Value) (h : ai_H) : ai_res S 48 8 ls st h = ai_go S 48 [(4, 4, 0, 0, 0), (1, 0, 0, 0, 10)] (11, 13, 9, 0, 0, []) ls st h := ai_blk_go S 48 8 ls st h
theorem k_48_9 (S : ai_S) (ls st : List Value) (h : ai_H) : ai_res S 48 9 ls st h = ai_go S 48 [(5, 0, 0, 0, 0), (3, 1, 0, 0, 0), (3, 2, 0, 0, 0), (3, 3, 0, 0, 0), (4, 4, 0, 0, 0)] (18, 10, 58, 5, 5, [(0, 208)]) ls st h := ai_blk_go S 48 9 ls st h
theorem k_48_10 (S : ai_S) (ls st : List Value) (h : ai_H) : ai_res S 48 10 ls st h = ai_go S 48 [] (2, 12, 11, 0, 0, []) ls st h := ai_blk_go S 48 10 ls st h
theorem k_48_11 (S : ai_S) (ls st : List Value) (h : ai_H) : ai_res S 48 11 ls st h = ai_go S 48 [(1, 0, 0, 0, 10), (3, 3, 0, 0, 0), (12, 0, 0, 0, 0), (4, 4, 0, 0, 0), (10, 0, 0, 0, 0)] (23, 0, 0, 0, 0, []) ls st h := ai_blk_go S 48 11 ls st h
theorem k_48_12 (S : ai_S) (ls st : List Value) (h : ai_H) : ai_res S 48 12 ls st h = ai_go S 48 [(9, 4, 0, 0, 1)] (1, 8, 0, 0, 0, []) ls st h := ai_blk_go S 48 12 ls st h
theorem k_48_13 (S : ai_S) (ls st : List Value) (h : ai_H) : ai_res S 48 13 ls st h = ai_go S 48 [(9, 3, 0, 0, 1)] (1, 6, 0, 0, 0, []) ls st h := ai_blk_go S 48 13 ls st h
theorem k_48_14 (S : ai_S) (ls st : List Value) (h : ai_H) : ai_res S 48 14 ls st h = ai_go S 48 [(1, 0, 0, 0, (-9))] (23, 0, 0, 0, 0, []) ls st h := ai_blk_go S 48 14 ls st h
theorem e_48 (S : ai_S) (q0 : Nat) (a0 : Int32) (a1 : Int32) (h : ai_H) : ai_call S 48 [.ref q0, .int a0, .int a1] h = ai_res S 48 0 [.ref q0, .int a0, .int a1, ai_u, ai_u] [] h := rfl
theorem k_49_0 (S : ai_S) (ls st : List Value) (h : ai_H) : ai_res S 49 0 ls st h = ai_go S 49 [(3, 1, 0, 0, 0)] (4, 6, 1, 0, 0, []) ls st h := ai_blk_go S 49 0 ls st h
theorem k_49_1 (S : ai_S) (ls st : List Value) (h : ai_H) : ai_res S 49 1 ls st h = ai_go S 49 [(3, 1, 0, 0, 0), (1, 0, 0, 0, 10)] (12, 6, 2, 0, 0, []) ls st h := ai_blk_go S 49 1 ls st h
theorem k_49_2 (S : ai_S) (ls st : List Value) (h : ai_H) : ai_res S 49 2 ls st h = ai_go S 49 [(3, 2, 0, 0, 0)] (4, 6, 3, 0, 0, []) ls st h := ai_blk_go S 49 2 ls st h
theorem k_49_3 (S : ai_S) (ls st : List Value) (h : ai_H) : ai_res S 49 3 ls st h = ai_go S 49 [(3, 2, 0, 0, 0), (1, 0, 0, 0, 6)] (12, 6, 4, 0, 0, []) ls st h := ai_blk_go S 49 3 ls st h
theorem k_49_4 (S : ai_S) (ls st : List Value) (h : ai_H) : ai_res S 49 4 ls st h = ai_go S 49 [(3, 3, 0, 0, 0)] (19, 5, 83, 1, 0, [(0, 148)]) ls st h := ai_blk_go S 49 4 ls st h
theorem k_49_5 (S : ai_S) (ls st : List Value) (h : ai_H) : ai_res S 49 5 ls st h = ai_go S 49 [] (3, 7, 6, 0, 0, []) ls st h := ai_blk_go S 49 5 ls st h
theorem k_49_6 (S : ai_S) (ls st : List Value) (h : ai_H) : ai_res S 49 6 ls st h = ai_go S 49 [(0, 0, 0, 0, (-1))] (23, 0, 0, 0, 0, []) ls st h := ai_blk_go S 49 6 ls st h
theorem k_49_7 (S : ai_S) (ls st : List Value) (h : ai_H) : ai_res S 49 7 ls st h = ai_go S 49 [(5, 0, 0, 0, 0), (23, 5, 0, 10, 0), (23, 3, 3, 145, 0), (5, 0, 0, 0, 0), (23, 5, 3, 29, 0), (23, 1, 3, 122, 0)] (19, 8, 138, 1, 0, [(0, 212)]) ls st h := ai_blk_go S 49 7 ls st h
theorem k_49_8 (S : ai_S) (ls st : List Value) (h : ai_H) : ai_res S 49 8 ls st h = ai_go S 49 [(11, 0, 0, 0, 0), (7, 4, 0, 0, 0), (4, 4, 0, 0, 0), (3, 1, 0, 0, 0), (3, 2, 0, 0, 0)] (19, 9, 60, 3, 0, [(0, 217)]) ls st h := ai_blk_go S 49 8 ls st h
theorem k_49_9 (S : ai_S) (ls st : List Value) (h : ai_H) : ai_res S 49 9 ls st h = ai_go S 49 [(7, 5, 0, 0, 0), (1, 0, 0, 0, 10), (4, 4, 0, 0, 0)] (19, 10, 61, 2, 0, [(0, 221)]) ls st h := ai_blk_go S 49 9 ls st h
theorem k_49_10 (S : ai_S) (ls st : List Value) (h : ai_H) : ai_res S 49 10 ls st h = ai_go S 49 [(7, 6, 0, 0, 0), (4, 6, 0, 0, 0), (4, 5, 0, 0, 0)] (19, 11, 62, 2, 0, [(0, 224)]) ls st h := ai_blk_go S 49 10 ls st h
theorem k_49_11 (S : ai_S) (ls st : List Value) (h : ai_H) : ai_res S 49 11 ls st h = ai_go S 49 [(7, 7, 0, 0, 0), (4, 7, 0, 0, 0)] (3, 13, 12, 0, 0, []) ls st h := ai_blk_go S 49 11 ls st h
theorem k_49_12 (S : ai_S) (ls st : List Value) (h : ai_H) : ai_res S 49 12 ls st h = ai_go S 49 [(1, 0, 0, 0, (-9))] (23, 0, 0, 0, 0, []) ls st h := ai_blk_go S 49 12 ls st h
theorem k_49_13 (S : ai_S) (ls st : List Value) (h : ai_H) : ai_res S 49 13 ls st h = ai_go S 49 [(3, 3, 0, 0, 0)] (3, 15, 14, 0, 0, []) ls st h := ai_blk_go S 49 13 ls st h
theorem k_49_14 (S : ai_S) (ls st : List Value) (h : ai_H) : ai_res S 49 14 ls st h = ai_go S 49 [(4, 5, 0, 0, 0), (4, 7, 0, 0, 0), (18, 0, 0, 0, 0)] (1, 16, 0, 0, 0, []) ls st h := ai_blk_go S 49 14 ls st h
theorem k_49_15 (S : ai_S) (ls st : List Value) (h : ai_H) : ai_res S 49 15 ls st h = ai_go S 49 [(4, 6, 0, 0, 0), (4, 7, 0, 0, 0), (18, 0, 0, 0, 0)] (0, 16, 0, 0, 0, []) ls st h := ai_blk_go S 49 15 ls st h
theorem k_49_16 (S : ai_S) (ls st : List Value) (h : ai_H) : ai_res S 49 16 ls st h = ai_go S 49 [] (23, 0, 0, 0, 0, []) ls st h := ai_blk_go S 49 16 ls st h
theorem e_49 (S : ai_S) (q0 : Nat) (a0 : Int32) (a1 : Int32) (a2 : Int32) (h : ai_H) : ai_call S 49 [.ref q0, .int a0, .int a1, .int a2] h = ai_res S 49 0 [.ref q0, .int a0, .int a1, .int a2, ai_u, ai_u, ai_u, ai_u] [] h := rfl
theorem k_50_0 (S : ai_S) (ls st : List Value) (h : ai_H) : ai_res S 50 0 ls st h = ai_go S 50 [(5, 0, 0, 0, 0), (23, 5, 3, 29, 0), (23, 1, 2, 115, 0), (5, 0, 0, 0, 0), (23, 5, 3, 29, 0), (23, 1, 3, 122, 0), (14, 0, 0, 0, 0), (3, 1, 0, 0, 0)] (19, 1, 82, 2, 0, [(0, 118)]) ls st h := ai_blk_go S 50 0 ls st h
theorem k_50_1 (S : ai_S) (ls st : List Value) (h : ai_H) : ai_res S 50 1 ls st h = ai_go S 50 [] (3, 3, 2, 0, 0, []) ls st h := ai_blk_go S 50 1 ls st h
theorem k_50_2 (S : ai_S) (ls st : List Value) (h : ai_H) : ai_res S 50 2 ls st h = ai_go S 50 [(0, 0, 0, 0, 1)] (1, 4, 0, 0, 0, []) ls st h := ai_blk_go S 50 2 ls st h
theorem k_50_3 (S : ai_S) (ls st : List Value) (h : ai_H) : ai_res S 50 3 ls st h = ai_go S 50 [(0, 0, 0, 0, 0)] (0, 4, 0, 0, 0, []) ls st h := ai_blk_go S 50 3 ls st h
theorem k_50_4 (S : ai_S) (ls st : List Value) (h : ai_H) : ai_res S 50 4 ls st h = ai_go S 50 [] (24, 0, 0, 0, 0, []) ls st h := ai_blk_go S 50 4 ls st h
theorem e_50 (S : ai_S) (q0 : Nat) (a0 : Int32) (h : ai_H) : ai_call S 50 [.ref q0, .int a0] h = ai_res S 50 0 [.ref q0, .int a0] [] h := rfl
theorem k_51_0 (S : ai_S) (ls st : List Value) (h : ai_H) : ai_res S 51 0 ls st h = ai_go S 51 [(1, 0, 0, 0, 10), (6, 2, 0, 0, 0)] (0, 1, 0, 0, 0, []) ls st h := ai_blk_go S 51 0 ls st h
theorem k_51_1 (S : ai_S) (ls st : List Value) (h : ai_H) : ai_res S 51 1 ls st h = ai_go S 51 [(3, 2, 0, 0, 0)] (4, 9, 2, 0, 0, []) ls st h := ai_blk_go S 51 1 ls st h
theorem k_51_2 (S : ai_S) (ls st : List Value) (h : ai_H) : ai_res S 51 2 ls st h = ai_go S 51 [(0, 0, 0, 0, 0), (6, 3, 0, 0, 0)] (0, 3, 0, 0, 0, []) ls st h := ai_blk_go S 51 2 ls st h
theorem k_51_3 (S : ai_S) (ls st : List Value) (h : ai_H) : ai_res S 51 3 ls st h = ai_go S 51 [(3, 3, 0, 0, 0), (3, 2, 0, 0, 0)] (12, 8, 4, 0, 0, []) ls st h := ai_blk_go S 51 3 ls st h
theorem k_51_4 (S : ai_S) (ls st : List Value) (h : ai_H) : ai_res S 51 4 ls st h = ai_go S 51 [(5, 0, 0, 0, 0), (23, 5, 9, 55, 0), (3, 2, 0, 0, 0), (3, 3, 0, 0, 0)] (19, 5, 52, 2, 0, [(0, 227)]) ls st h := ai_blk_go S 51 4 ls st h
theorem k_51_5 (S : ai_S) (ls st : List Value) (h : ai_H) : ai_res S 51 5 ls st h = ai_go S 51 [(5, 0, 0, 0, 0), (3, 1, 0, 0, 0), (3, 2, 0, 0, 0), (3, 3, 0, 0, 0)] (18, 6, 53, 4, 5, [(0, 230)]) ls st h := ai_blk_go S 51 5 ls st h
theorem k_51_6 (S : ai_S) (ls st : List Value) (h : ai_H) : ai_res S 51 6 ls st h = ai_go S 51 [] (19, 7, 80, 3, 0, [(0, 167)]) ls st h := ai_blk_go S 51 6 ls st h
theorem k_51_7 (S : ai_S) (ls st : List Value) (h : ai_H) : ai_res S 51 7 ls st h = ai_go S 51 [(9, 3, 0, 0, 1)] (1, 3, 0, 0, 0, []) ls st h := ai_blk_go S 51 7 ls st h
theorem k_51_8 (S : ai_S) (ls st : List Value) (h : ai_H) : ai_res S 51 8 ls st h = ai_go S 51 [(9, 2, 0, 0, (-1))] (1, 1, 0, 0, 0, []) ls st h := ai_blk_go S 51 8 ls st h
theorem k_51_9 (S : ai_S) (ls st : List Value) (h : ai_H) : ai_res S 51 9 ls st h = ai_go S 51 [(5, 0, 0, 0, 0), (23, 5, 9, 55, 0), (0, 0, 0, 0, 0), (0, 0, 0, 0, 0)] (19, 10, 52, 2, 0, [(0, 227)]) ls st h := ai_blk_go S 51 9 ls st h
theorem k_51_10 (S : ai_S) (ls st : List Value) (h : ai_H) : ai_res S 51 10 ls st h = ai_go S 51 [] (19, 11, 79, 2, 0, [(0, 96)]) ls st h := ai_blk_go S 51 10 ls st h
theorem k_51_11 (S : ai_S) (ls st : List Value) (h : ai_H) : ai_res S 51 11 ls st h = ai_go S 51 [] (23, 0, 0, 0, 0, []) ls st h := ai_blk_go S 51 11 ls st h
theorem e_51 (S : ai_S) (q0 : Nat) (a0 : Int32) (h : ai_H) : ai_call S 51 [.ref q0, .int a0] h = ai_res S 51 0 [.ref q0, .int a0, ai_u, ai_u] [] h := rfl
theorem k_52_0 (S : ai_S) (ls st : List Value) (h : ai_H) : ai_res S 52 0 ls st h = ai_go S 52 [(3, 0, 0, 0, 0), (1, 0, 0, 0, 11), (12, 0, 0, 0, 0), (3, 1, 0, 0, 0), (10, 0, 0, 0, 0)] (23, 0, 0, 0, 0, []) ls st h := ai_blk_go S 52 0 ls st h
theorem e_52 (S : ai_S) (a0 : Int32) (a1 : Int32) (h : ai_H) : ai_call S 52 [.int a0, .int a1] h = ai_res S 52 0 [.int a0, .int a1] [] h := rfl
theorem k_53_0 (S : ai_S) (ls st : List Value) (h : ai_H) : ai_res S 53 0 ls st h = ai_go S 53 [(3, 2, 0, 0, 0), (3, 3, 0, 0, 0), (11, 0, 0, 0, 0), (7, 4, 0, 0, 0), (5, 0, 0, 0, 0), (23, 5, 3, 29, 0), (23, 1, 0, 109, 0), (3, 1, 0, 0, 0)] (19, 1, 79, 2, 0, [(0, 96)]) ls st h := ai_blk_go S 53 0 ls st h
theorem k_53_1 (S : ai_S) (ls st : List Value) (h : ai_H) : ai_res S 53 1 ls st h = ai_go S 53 [(3, 3, 0, 0, 0), (5, 0, 0, 0, 0), (0, 0, 0, 0, 0)] (18, 2, 40, 2, 5, [(0, 164)]) ls st h := ai_blk_go S 53 1 ls st h
theorem k_53_2 (S : ai_S) (ls st : List Value) (h : ai_H) : ai_res S 53 2 ls st h = ai_go S 53 [(12, 0, 0, 0, 0), (10, 0, 0, 0, 0), (7, 5, 0, 0, 0), (5, 0, 0, 0, 0), (23, 5, 3, 29, 0), (23, 1, 1, 112, 0), (3, 1, 0, 0, 0)] (19, 3, 79, 2, 0, [(0, 96)]) ls st h := ai_blk_go S 53 2 ls st h
theorem k_53_3 (S : ai_S) (ls st : List Value) (h : ai_H) : ai_res S 53 3 ls st h = ai_go S 53 [(3, 3, 0, 0, 0), (5, 0, 0, 0, 0), (0, 0, 0, 0, 0)] (18, 4, 41, 2, 5, [(0, 171)]) ls st h := ai_blk_go S 53 3 ls st h
theorem k_53_4 (S : ai_S) (ls st : List Value) (h : ai_H) : ai_res S 53 4 ls st h = ai_go S 53 [(12, 0, 0, 0, 0), (10, 0, 0, 0, 0), (4, 4, 0, 0, 0), (5, 0, 0, 0, 0), (0, 0, 0, 0, 1)] (18, 5, 41, 2, 5, [(0, 171)]) ls st h := ai_blk_go S 53 4 ls st h
theorem k_53_5 (S : ai_S) (ls st : List Value) (h : ai_H) : ai_res S 53 5 ls st h = ai_go S 53 [(12, 0, 0, 0, 0), (10, 0, 0, 0, 0), (7, 6, 0, 0, 0), (3, 2, 0, 0, 0)] (7, 9, 6, 0, 0, []) ls st h := ai_blk_go S 53 5 ls st h
theorem k_53_6 (S : ai_S) (ls st : List Value) (h : ai_H) : ai_res S 53 6 ls st h = ai_go S 53 [(5, 0, 0, 0, 0), (3, 1, 0, 0, 0), (4, 5, 0, 0, 0), (4, 6, 0, 0, 0)] (18, 7, 44, 4, 5, [(0, 183)]) ls st h := ai_blk_go S 53 6 ls st h
theorem k_53_7 (S : ai_S) (ls st : List Value) (h : ai_H) : ai_res S 53 7 ls st h = ai_go S 53 [] (2, 9, 8, 0, 0, []) ls st h := ai_blk_go S 53 7 ls st h
theorem k_53_8 (S : ai_S) (ls st : List Value) (h : ai_H) : ai_res S 53 8 ls st h = ai_go S 53 [(0, 0, 0, 0, 0)] (23, 0, 0, 0, 0, []) ls st h := ai_blk_go S 53 8 ls st h
theorem k_53_9 (S : ai_S) (ls st : List Value) (h : ai_H) : ai_res S 53 9 ls st h = ai_go S 53 [(3, 2, 0, 0, 0), (1, 0, 0, 0, 10)] (8, 13, 10, 0, 0, []) ls st h := ai_blk_go S 53 9 ls st h
theorem k_53_10 (S : ai_S) (ls st : List Value) (h : ai_H) : ai_res S 53 10 ls st h = ai_go S 53 [(3, 2, 0, 0, 0)] (7, 14, 11, 0, 0, []) ls st h := ai_blk_go S 53 10 ls st h
theorem k_53_11 (S : ai_S) (ls st : List Value) (h : ai_H) : ai_res S 53 11 ls st h = ai_go S 53 [(5, 0, 0, 0, 0), (3, 1, 0, 0, 0), (4, 5, 0, 0, 0)] (18, 12, 45, 3, 5, [(0, 187)]) ls st h := ai_blk_go S 53 11 ls st h
theorem k_53_12 (S : ai_S) (ls st : List Value) (h : ai_H) : ai_res S 53 12 ls st h = ai_go S 53 [] (2, 14, 13, 0, 0, []) ls st h := ai_blk_go S 53 12 ls st h
theorem k_53_13 (S : ai_S) (ls st : List Value) (h : ai_H) : ai_res S 53 13 ls st h = ai_go S 53 [(2, 0, 0, 0, 1000)] (23, 0, 0, 0, 0, []) ls st h := ai_blk_go S 53 13 ls st h
theorem k_53_14 (S : ai_S) (ls st : List Value) (h : ai_H) : ai_res S 53 14 ls st h = ai_go S 53 [(2, 0, 0, 0, 1000), (0, 0, 0, 0, 1), (5, 0, 0, 0, 0), (3, 2, 0, 0, 0), (3, 3, 0, 0, 0), (0, 0, 0, 0, 0)] (18, 15, 54, 4, 5, [(0, 233)]) ls st h := ai_blk_go S 53 14 ls st h
theorem k_53_15 (S : ai_S) (ls st : List Value) (h : ai_H) : ai_res S 53 15 ls st h = ai_go S 53 [(5, 0, 0, 0, 0), (3, 2, 0, 0, 0), (3, 3, 0, 0, 0), (0, 0, 0, 0, 1)] (18, 16, 54, 4, 5, [(0, 233)]) ls st h := ai_blk_go S 53 15 ls st h
theorem k_53_16 (S : ai_S) (ls st : List Value) (h : ai_H) : ai_res S 53 16 ls st h = ai_go S 53 [(48, 0, 0, 158, 0), (10, 0, 0, 0, 0), (48, 0, 0, 158, 0)] (23, 0, 0, 0, 0, []) ls st h := ai_blk_go S 53 16 ls st h
theorem e_53 (S : ai_S) (q0 : Nat) (a0 : Int32) (a1 : Int32) (a2 : Int32) (h : ai_H) : ai_call S 53 [.ref q0, .int a0, .int a1, .int a2] h = ai_res S 53 0 [.ref q0, .int a0, .int a1, .int a2, ai_u, ai_u, ai_u] [] h := rfl
theorem k_54_0 (S : ai_S) (ls st : List Value) (h : ai_H) : ai_res S 54 0 ls st h = ai_go S 54 [(5, 0, 0, 0, 0), (23, 5, 9, 55, 0), (3, 1, 0, 0, 0), (0, 0, 0, 0, 1), (10, 0, 0, 0, 0), (3, 2, 0, 0, 0), (0, 0, 0, 0, 1), (10, 0, 0, 0, 0), (3, 3, 0, 0, 0), (11, 0, 0, 0, 0)] (19, 1, 52, 2, 0, [(0, 227)]) ls st h := ai_blk_go S 54 0 ls st h
theorem k_54_1 (S : ai_S) (ls st : List Value) (h : ai_H) : ai_res S 54 1 ls st h = ai_go S 54 [] (19, 2, 79, 2, 0, [(0, 96)]) ls st h := ai_blk_go S 54 1 ls st h
theorem k_54_2 (S : ai_S) (ls st : List Value) (h : ai_H) : ai_res S 54 2 ls st h = ai_go S 54 [] (23, 0, 0, 0, 0, []) ls st h := ai_blk_go S 54 2 ls st h
theorem e_54 (S : ai_S) (q0 : Nat) (a0 : Int32) (a1 : Int32) (a2 : Int32) (h : ai_H) : ai_call S 54 [.ref q0, .int a0, .int a1, .int a2] h = ai_res S 54 0 [.ref q0, .int a0, .int a1, .int a2] [] h := rfl
theorem k_55_0 (S : ai_S) (ls st : List Value) (h : ai_H) : ai_res S 55 0 ls st h = ai_go S 55 [(0, 0, 0, 0, 0), (6, 2, 0, 0, 0), (0, 0, 0, 0, 0), (6, 3, 0, 0, 0), (0, 0, 0, 0, 0), (7, 4, 0, 0, 0)] (0, 1, 0, 0, 0, []) ls st h := ai_blk_go S 55 0 ls st h
theorem k_55_1 (S : ai_S) (ls st : List Value) (h : ai_H) : ai_res S 55 1 ls st h = ai_go S 55 [(4, 4, 0, 0, 0), (3, 1, 0, 0, 0)] (12, 8, 2, 0, 0, []) ls st h := ai_blk_go S 55 1 ls st h
theorem k_55_2 (S : ai_S) (ls st : List Value) (h : ai_H) : ai_res S 55 2 ls st h = ai_go S 55 [(5, 0, 0, 0, 0), (4, 4, 0, 0, 0), (3, 2, 0, 0, 0), (0, 0, 0, 0, 0)] (18, 3, 54, 4, 5, [(0, 233)]) ls st h := ai_blk_go S 55 2 ls st h
theorem k_55_3 (S : ai_S) (ls st : List Value) (h : ai_H) : ai_res S 55 3 ls st h = ai_go S 55 [(5, 0, 0, 0, 0), (4, 4, 0, 0, 0), (3, 2, 0, 0, 0), (0, 0, 0, 0, 1)] (18, 4, 54, 4, 5, [(0, 233)]) ls st h := ai_blk_go S 55 3 ls st h
theorem k_55_4 (S : ai_S) (ls st : List Value) (h : ai_H) : ai_res S 55 4 ls st h = ai_go S 55 [] (12, 6, 5, 0, 0, []) ls st h := ai_blk_go S 55 4 ls st h
theorem k_55_5 (S : ai_S) (ls st : List Value) (h : ai_H) : ai_res S 55 5 ls st h = ai_go S 55 [(0, 0, 0, 0, 0)] (1, 7, 0, 0, 0, []) ls st h := ai_blk_go S 55 5 ls st h
theorem k_55_6 (S : ai_S) (ls st : List Value) (h : ai_H) : ai_res S 55 6 ls st h = ai_go S 55 [(0, 0, 0, 0, 1)] (0, 7, 0, 0, 0, []) ls st h := ai_blk_go S 55 6 ls st h
theorem k_55_7 (S : ai_S) (ls st : List Value) (h : ai_H) : ai_res S 55 7 ls st h = ai_go S 55 [(6, 3, 0, 0, 0), (3, 2, 0, 0, 0), (0, 0, 0, 0, 1), (3, 3, 0, 0, 0), (11, 0, 0, 0, 0), (10, 0, 0, 0, 0), (6, 2, 0, 0, 0), (9, 4, 0, 0, 1)] (1, 1, 0, 0, 0, []) ls st h := ai_blk_go S 55 7 ls st h
theorem k_55_8 (S : ai_S) (ls st : List Value) (h : ai_H) : ai_res S 55 8 ls st h = ai_go S 55 [(3, 3, 0, 0, 0)] (23, 0, 0, 0, 0, []) ls st h := ai_blk_go S 55 8 ls st h
theorem e_55 (S : ai_S) (q0 : Nat) (a0 : Int32) (h : ai_H) : ai_call S 55 [.ref q0, .int a0] h = ai_res S 55 0 [.ref q0, .int a0, ai_u, ai_u, ai_u] [] h := rfl
theorem k_56_0 (S : ai_S) (ls st : List Value) (h : ai_H) : ai_res S 56 0 ls st h = ai_go S 56 [(0, 0, 0, 0, 0), (6, 1, 0, 0, 0)] (0, 1, 0, 0, 0, []) ls st h := ai_blk_go S 56 0 ls st h
theorem k_56_1 (S : ai_S) (ls st : List Value) (h : ai_H) : ai_res S 56 1 ls st h = ai_go S 56 [(3, 1, 0, 0, 0), (5, 0, 0, 0, 0), (23, 5, 0, 10, 0), (23, 3, 3, 145, 0)] (11, 9, 2, 0, 0, []) ls st h := ai_blk_go S 56 1 ls st h
theorem k_56_2 (S : ai_S) (ls st : List Value) (h : ai_H) : ai_res S 56 2 ls st h = ai_go S 56 [(5, 0, 0, 0, 0), (23, 5, 8, 51, 0), (3, 1, 0, 0, 0), (5, 0, 0, 0, 0), (3, 1, 0, 0, 0)] (18, 3, 50, 2, 5, [(0, 193)]) ls st h := ai_blk_go S 56 2 ls st h
theorem k_56_3 (S : ai_S) (ls st : List Value) (h : ai_H) : ai_res S 56 3 ls st h = ai_go S 56 [] (2, 6, 4, 0, 0, []) ls st h := ai_blk_go S 56 3 ls st h
theorem k_56_4 (S : ai_S) (ls st : List Value) (h : ai_H) : ai_res S 56 4 ls st h = ai_go S 56 [(5, 0, 0, 0, 0), (3, 1, 0, 0, 0)] (18, 5, 51, 2, 5, [(0, 196)]) ls st h := ai_blk_go S 56 4 ls st h
theorem k_56_5 (S : ai_S) (ls st : List Value) (h : ai_H) : ai_res S 56 5 ls st h = ai_go S 56 [] (1, 7, 0, 0, 0, []) ls st h := ai_blk_go S 56 5 ls st h
theorem k_56_6 (S : ai_S) (ls st : List Value) (h : ai_H) : ai_res S 56 6 ls st h = ai_go S 56 [(2, 0, 0, 0, 1000)] (0, 7, 0, 0, 0, []) ls st h := ai_blk_go S 56 6 ls st h
theorem k_56_7 (S : ai_S) (ls st : List Value) (h : ai_H) : ai_res S 56 7 ls st h = ai_go S 56 [] (19, 8, 80, 3, 0, [(0, 167)]) ls st h := ai_blk_go S 56 7 ls st h
theorem k_56_8 (S : ai_S) (ls st : List Value) (h : ai_H) : ai_res S 56 8 ls st h = ai_go S 56 [(9, 1, 0, 0, 1)] (1, 1, 0, 0, 0, []) ls st h := ai_blk_go S 56 8 ls st h
theorem k_56_9 (S : ai_S) (ls st : List Value) (h : ai_H) : ai_res S 56 9 ls st h = ai_go S 56 [] (27, 0, 0, 0, 0, []) ls st h := ai_blk_go S 56 9 ls st h
theorem e_56 (S : ai_S) (q0 : Nat) (h : ai_H) : ai_call S 56 [.ref q0] h = ai_res S 56 0 [.ref q0, ai_u] [] h := rfl
theorem k_57_0 (S : ai_S) (ls st : List Value) (h : ai_H) : ai_res S 57 0 ls st h = ai_go S 57 [(0, 0, 0, 0, 0), (6, 2, 0, 0, 0), (0, 0, 0, 0, 0), (6, 3, 0, 0, 0)] (0, 1, 0, 0, 0, []) ls st h := ai_blk_go S 57 0 ls st h
theorem k_57_1 (S : ai_S) (ls st : List Value) (h : ai_H) : ai_res S 57 1 ls st h = ai_go S 57 [(3, 3, 0, 0, 0), (5, 0, 0, 0, 0), (23, 5, 0, 10, 0), (23, 3, 3, 145, 0)] (11, 7, 2, 0, 0, []) ls st h := ai_blk_go S 57 1 ls st h
theorem k_57_2 (S : ai_S) (ls st : List Value) (h : ai_H) : ai_res S 57 2 ls st h = ai_go S 57 [(3, 1, 0, 0, 0), (3, 3, 0, 0, 0)] (19, 3, 82, 2, 0, [(0, 118)]) ls st h := ai_blk_go S 57 2 ls st h
theorem k_57_3 (S : ai_S) (ls st : List Value) (h : ai_H) : ai_res S 57 3 ls st h = ai_go S 57 [] (2, 6, 4, 0, 0, []) ls st h := ai_blk_go S 57 3 ls st h
theorem k_57_4 (S : ai_S) (ls st : List Value) (h : ai_H) : ai_res S 57 4 ls st h = ai_go S 57 [(3, 2, 0, 0, 0), (5, 0, 0, 0, 0), (23, 5, 8, 51, 0), (3, 3, 0, 0, 0)] (19, 5, 79, 2, 0, [(0, 96)]) ls st h := ai_blk_go S 57 4 ls st h
theorem k_57_5 (S : ai_S) (ls st : List Value) (h : ai_H) : ai_res S 57 5 ls st h = ai_go S 57 [(10, 0, 0, 0, 0), (6, 2, 0, 0, 0)] (0, 6, 0, 0, 0, []) ls st h := ai_blk_go S 57 5 ls st h
theorem k_57_6 (S : ai_S) (ls st : List Value) (h : ai_H) : ai_res S 57 6 ls st h = ai_go S 57 [(9, 3, 0, 0, 1)] (1, 1, 0, 0, 0, []) ls st h := ai_blk_go S 57 6 ls st h
theorem k_57_7 (S : ai_S) (ls st : List Value) (h : ai_H) : ai_res S 57 7 ls st h = ai_go S 57 [(3, 2, 0, 0, 0)] (23, 0, 0, 0, 0, []) ls st h := ai_blk_go S 57 7 ls st h
theorem e_57 (S : ai_S) (q0 : Nat) (a0 : Int32) (h : ai_H) : ai_call S 57 [.ref q0, .int a0] h = ai_res S 57 0 [.ref q0, .int a0, ai_u, ai_u] [] h := rfl
theorem k_58_0 (S : ai_S) (ls st : List Value) (h : ai_H) : ai_res S 58 0 ls st h = ai_go S 58 [(0, 0, 0, 0, 0), (7, 5, 0, 0, 0)] (0, 1, 0, 0, 0, []) ls st h := ai_blk_go S 58 0 ls st h
theorem k_58_1 (S : ai_S) (ls st : List Value) (h : ai_H) : ai_res S 58 1 ls st h = ai_go S 58 [(4, 5, 0, 0, 0), (5, 0, 0, 0, 0), (23, 5, 0, 10, 0), (23, 3, 3, 145, 0)] (11, 10, 2, 0, 0, []) ls st h := ai_blk_go S 58 1 ls st h
theorem k_58_2 (S : ai_S) (ls st : List Value) (h : ai_H) : ai_res S 58 2 ls st h = ai_go S 58 [(3, 1, 0, 0, 0), (4, 5, 0, 0, 0)] (19, 3, 82, 2, 0, [(0, 118)]) ls st h := ai_blk_go S 58 2 ls st h
theorem k_58_3 (S : ai_S) (ls st : List Value) (h : ai_H) : ai_res S 58 3 ls st h = ai_go S 58 [] (2, 5, 4, 0, 0, []) ls st h := ai_blk_go S 58 3 ls st h
theorem k_58_4 (S : ai_S) (ls st : List Value) (h : ai_H) : ai_res S 58 4 ls st h = ai_go S 58 [(0, 0, 0, 0, 1)] (1, 6, 0, 0, 0, []) ls st h := ai_blk_go S 58 4 ls st h
theorem k_58_5 (S : ai_S) (ls st : List Value) (h : ai_H) : ai_res S 58 5 ls st h = ai_go S 58 [(0, 0, 0, 0, 0)] (0, 6, 0, 0, 0, []) ls st h := ai_blk_go S 58 5 ls st h
theorem k_58_6 (S : ai_S) (ls st : List Value) (h : ai_H) : ai_res S 58 6 ls st h = ai_go S 58 [(7, 6, 0, 0, 0), (5, 0, 0, 0, 0), (4, 5, 0, 0, 0), (3, 2, 0, 0, 0), (3, 3, 0, 0, 0), (4, 4, 0, 0, 0)] (18, 7, 59, 5, 5, [(0, 236)]) ls st h := ai_blk_go S 58 6 ls st h
theorem k_58_7 (S : ai_S) (ls st : List Value) (h : ai_H) : ai_res S 58 7 ls st h = ai_go S 58 [(4, 6, 0, 0, 0)] (8, 9, 8, 0, 0, []) ls st h := ai_blk_go S 58 7 ls st h
theorem k_58_8 (S : ai_S) (ls st : List Value) (h : ai_H) : ai_res S 58 8 ls st h = ai_go S 58 [(0, 0, 0, 0, 0)] (24, 0, 0, 0, 0, []) ls st h := ai_blk_go S 58 8 ls st h
theorem k_58_9 (S : ai_S) (ls st : List Value) (h : ai_H) : ai_res S 58 9 ls st h = ai_go S 58 [(9, 5, 0, 0, 1)] (1, 1, 0, 0, 0, []) ls st h := ai_blk_go S 58 9 ls st h
theorem k_58_10 (S : ai_S) (ls st : List Value) (h : ai_H) : ai_res S 58 10 ls st h = ai_go S 58 [(0, 0, 0, 0, 1)] (24, 0, 0, 0, 0, []) ls st h := ai_blk_go S 58 10 ls st h
theorem e_58 (S : ai_S) (q0 : Nat) (a0 : Int32) (a1 : Int32) (a2 : Int32) (a3 : Int32) (h : ai_H) : ai_call S 58 [.ref q0, .int a0, .int a1, .int a2, .int a3] h = ai_res S 58 0 [.ref q0, .int a0, .int a1, .int a2, .int a3, ai_u, ai_u] [] h := rfl
theorem k_59_0 (S : ai_S) (ls st : List Value) (h : ai_H) : ai_res S 59 0 ls st h = ai_go S 59 [(0, 0, 0, 0, 0), (7, 5, 0, 0, 0), (0, 0, 0, 0, 0), (7, 6, 0, 0, 0), (0, 0, 0, 0, 0), (7, 7, 0, 0, 0), (0, 0, 0, 0, 0), (7, 8, 0, 0, 0)] (0, 1, 0, 0, 0, []) ls st h := ai_blk_go S 59 0 ls st h
theorem k_59_1 (S : ai_S) (ls st : List Value) (h : ai_H) : ai_res S 59 1 ls st h = ai_go S 59 [(4, 8, 0, 0, 0), (3, 2, 0, 0, 0)] (11, 9, 2, 0, 0, []) ls st h := ai_blk_go S 59 1 ls st h
theorem k_59_2 (S : ai_S) (ls st : List Value) (h : ai_H) : ai_res S 59 2 ls st h = ai_go S 59 [(4, 5, 0, 0, 0), (3, 3, 0, 0, 0), (10, 0, 0, 0, 0), (7, 5, 0, 0, 0), (4, 6, 0, 0, 0), (4, 4, 0, 0, 0), (10, 0, 0, 0, 0), (7, 6, 0, 0, 0), (5, 0, 0, 0, 0), (3, 1, 0, 0, 0), (4, 5, 0, 0, 0), (4, 6, 0, 0, 0)] (18, 3, 44, 4, 5, [(0, 183)]) ls st h := ai_blk_go S 59 2 ls st h
theorem k_59_3 (S : ai_S) (ls st : List Value) (h : ai_H) : ai_res S 59 3 ls st h = ai_go S 59 [] (2, 5, 4, 0, 0, []) ls st h := ai_blk_go S 59 3 ls st h
theorem k_59_4 (S : ai_S) (ls st : List Value) (h : ai_H) : ai_res S 59 4 ls st h = ai_go S 59 [(4, 7, 0, 0, 0), (0, 0, 0, 0, 1), (14, 0, 0, 0, 0), (7, 7, 0, 0, 0), (0, 0, 0, 0, 0), (7, 5, 0, 0, 0), (0, 0, 0, 0, 0), (7, 6, 0, 0, 0)] (1, 8, 0, 0, 0, []) ls st h := ai_blk_go S 59 4 ls st h
theorem k_59_5 (S : ai_S) (ls st : List Value) (h : ai_H) : ai_res S 59 5 ls st h = ai_go S 59 [(5, 0, 0, 0, 0), (3, 1, 0, 0, 0), (4, 5, 0, 0, 0)] (18, 6, 45, 3, 5, [(0, 187)]) ls st h := ai_blk_go S 59 5 ls st h
theorem k_59_6 (S : ai_S) (ls st : List Value) (h : ai_H) : ai_res S 59 6 ls st h = ai_go S 59 [] (2, 8, 7, 0, 0, []) ls st h := ai_blk_go S 59 6 ls st h
theorem k_59_7 (S : ai_S) (ls st : List Value) (h : ai_H) : ai_res S 59 7 ls st h = ai_go S 59 [(4, 7, 0, 0, 0), (0, 0, 0, 0, 2), (14, 0, 0, 0, 0)] (23, 0, 0, 0, 0, []) ls st h := ai_blk_go S 59 7 ls st h
theorem k_59_8 (S : ai_S) (ls st : List Value) (h : ai_H) : ai_res S 59 8 ls st h = ai_go S 59 [(9, 8, 0, 0, 1)] (1, 1, 0, 0, 0, []) ls st h := ai_blk_go S 59 8 ls st h
theorem k_59_9 (S : ai_S) (ls st : List Value) (h : ai_H) : ai_res S 59 9 ls st h = ai_go S 59 [(4, 7, 0, 0, 0)] (23, 0, 0, 0, 0, []) ls st h := ai_blk_go S 59 9 ls st h
theorem e_59 (S : ai_S) (q0 : Nat) (a0 : Int32) (a1 : Int32) (a2 : Int32) (a3 : Int32) (h : ai_H) : ai_call S 59 [.ref q0, .int a0, .int a1, .int a2, .int a3] h = ai_res S 59 0 [.ref q0, .int a0, .int a1, .int a2, .int a3, ai_u, ai_u, ai_u, ai_u] [] h := rfl
theorem k_60_0 (S : ai_S) (ls st : List Value) (h : ai_H) : ai_res S 60 0 ls st h = ai_go S 60 [(0, 0, 0, 0, 0), (6, 3, 0, 0, 0), (0, 0, 0, 0, 0), (7, 4, 0, 0, 0)] (0, 1, 0, 0, 0, []) ls st h := ai_blk_go S 60 0 ls st h
theorem k_60_1 (S : ai_S) (ls st : List Value) (h : ai_H) : ai_res S 60 1 ls st h = ai_go S 60 [(4, 4, 0, 0, 0), (0, 0, 0, 0, 1), (3, 0, 0, 0, 0), (15, 0, 0, 0, 0)] (11, 8, 2, 0, 0, []) ls st h := ai_blk_go S 60 1 ls st h
theorem k_60_2 (S : ai_S) (ls st : List Value) (h : ai_H) : ai_res S 60 2 ls st h = ai_go S 60 [(4, 4, 0, 0, 0)] (19, 3, 138, 1, 0, [(0, 212)]) ls st h := ai_blk_go S 60 2 ls st h
theorem k_60_3 (S : ai_S) (ls st : List Value) (h : ai_H) : ai_res S 60 3 ls st h = ai_go S 60 [(7, 5, 0, 0, 0), (4, 5, 0, 0, 0), (3, 2, 0, 0, 0)] (12, 7, 4, 0, 0, []) ls st h := ai_blk_go S 60 3 ls st h
theorem k_60_4 (S : ai_S) (ls st : List Value) (h : ai_H) : ai_res S 60 4 ls st h = ai_go S 60 [(3, 3, 0, 0, 0), (3, 1, 0, 0, 0), (4, 5, 0, 0, 0)] (19, 5, 61, 2, 0, [(0, 221)]) ls st h := ai_blk_go S 60 4 ls st h
theorem k_60_5 (S : ai_S) (ls st : List Value) (h : ai_H) : ai_res S 60 5 ls st h = ai_go S 60 [(1, 0, 0, 0, 10), (3, 1, 0, 0, 0), (11, 0, 0, 0, 0), (3, 0, 0, 0, 0), (4, 5, 0, 0, 0), (11, 0, 0, 0, 0)] (19, 6, 61, 2, 0, [(0, 221)]) ls st h := ai_blk_go S 60 5 ls st h
theorem k_60_6 (S : ai_S) (ls st : List Value) (h : ai_H) : ai_res S 60 6 ls st h = ai_go S 60 [(12, 0, 0, 0, 0), (10, 0, 0, 0, 0), (6, 3, 0, 0, 0)] (0, 7, 0, 0, 0, []) ls st h := ai_blk_go S 60 6 ls st h
theorem k_60_7 (S : ai_S) (ls st : List Value) (h : ai_H) : ai_res S 60 7 ls st h = ai_go S 60 [(9, 4, 0, 0, 1)] (1, 1, 0, 0, 0, []) ls st h := ai_blk_go S 60 7 ls st h
theorem k_60_8 (S : ai_S) (ls st : List Value) (h : ai_H) : ai_res S 60 8 ls st h = ai_go S 60 [(3, 3, 0, 0, 0)] (23, 0, 0, 0, 0, []) ls st h := ai_blk_go S 60 8 ls st h
theorem e_60 (S : ai_S) (a0 : Int32) (a1 : Int32) (a2 : Int32) (h : ai_H) : ai_call S 60 [.int a0, .int a1, .int a2] h = ai_res S 60 0 [.int a0, .int a1, .int a2, ai_u, ai_u, ai_u] [] h := rfl
theorem k_61_0 (S : ai_S) (ls st : List Value) (h : ai_H) : ai_res S 61 0 ls st h = ai_go S 61 [(0, 0, 0, 0, 1), (6, 2, 0, 0, 0), (0, 0, 0, 0, 0), (6, 3, 0, 0, 0)] (0, 1, 0, 0, 0, []) ls st h := ai_blk_go S 61 0 ls st h
theorem k_61_1 (S : ai_S) (ls st : List Value) (h : ai_H) : ai_res S 61 1 ls st h = ai_go S 61 [(3, 3, 0, 0, 0), (3, 1, 0, 0, 0)] (11, 3, 2, 0, 0, []) ls st h := ai_blk_go S 61 1 ls st h
theorem k_61_2 (S : ai_S) (ls st : List Value) (h : ai_H) : ai_res S 61 2 ls st h = ai_go S 61 [(3, 2, 0, 0, 0), (3, 0, 0, 0, 0), (12, 0, 0, 0, 0), (6, 2, 0, 0, 0), (9, 3, 0, 0, 1)] (1, 1, 0, 0, 0, []) ls st h := ai_blk_go S 61 2 ls st h
theorem k_61_3 (S : ai_S) (ls st : List Value) (h : ai_H) : ai_res S 61 3 ls st h = ai_go S 61 [(3, 2, 0, 0, 0)] (23, 0, 0, 0, 0, []) ls st h := ai_blk_go S 61 3 ls st h
theorem e_61 (S : ai_S) (a0 : Int32) (a1 : Int32) (h : ai_H) : ai_call S 61 [.int a0, .int a1] h = ai_res S 61 0 [.int a0, .int a1, ai_u, ai_u] [] h := rfl
theorem k_62_0 (S : ai_S) (ls st : List Value) (h : ai_H) : ai_res S 62 0 ls st h = ai_go S 62 [(3, 0, 0, 0, 0), (6, 2, 0, 0, 0), (3, 1, 0, 0, 0), (6, 3, 0, 0, 0), (0, 0, 0, 0, 0), (7, 4, 0, 0, 0)] (0, 1, 0, 0, 0, []) ls st h := ai_blk_go S 62 0 ls st h
theorem k_62_1 (S : ai_S) (ls st : List Value) (h : ai_H) : ai_res S 62 1 ls st h = ai_go S 62 [(4, 4, 0, 0, 0), (40, 0, 0, 240, 1000000)] (11, 4, 2, 0, 0, []) ls st h := ai_blk_go S 62 1 ls st h
theorem k_62_2 (S : ai_S) (ls st : List Value) (h : ai_H) : ai_res S 62 2 ls st h = ai_go S 62 [(3, 3, 0, 0, 0)] (2, 4, 3, 0, 0, []) ls st h := ai_blk_go S 62 2 ls st h
theorem k_62_3 (S : ai_S) (ls st : List Value) (h : ai_H) : ai_res S 62 3 ls st h = ai_go S 62 [(3, 2, 0, 0, 0), (3, 3, 0, 0, 0), (19, 0, 0, 0, 0), (7, 5, 0, 0, 0), (3, 3, 0, 0, 0), (6, 2, 0, 0, 0), (4, 5, 0, 0, 0), (6, 3, 0, 0, 0), (9, 4, 0, 0, 1)] (1, 1, 0, 0, 0, []) ls st h := ai_blk_go S 62 3 ls st h
theorem k_62_4 (S : ai_S) (ls st : List Value) (h : ai_H) : ai_res S 62 4 ls st h = ai_go S 62 [(3, 2, 0, 0, 0)] (23, 0, 0, 0, 0, []) ls st h := ai_blk_go S 62 4 ls st h
theorem e_62 (S : ai_S) (a0 : Int32) (a1 : Int32) (h : ai_H) : ai_call S 62 [.int a0, .int a1] h = ai_res S 62 0 [.int a0, .int a1, ai_u, ai_u, ai_u, ai_u] [] h := rfl
theorem k_63_0 (S : ai_S) (ls st : List Value) (h : ai_H) : ai_res S 63 0 ls st h = ai_go S 63 [(5, 0, 0, 0, 0), (3, 1, 0, 0, 0)] (18, 1, 30, 2, 5, [(0, 90)]) ls st h := ai_blk_go S 63 0 ls st h
theorem k_63_1 (S : ai_S) (ls st : List Value) (h : ai_H) : ai_res S 63 1 ls st h = ai_go S 63 [] (2, 6, 2, 0, 0, []) ls st h := ai_blk_go S 63 1 ls st h
theorem k_63_2 (S : ai_S) (ls st : List Value) (h : ai_H) : ai_res S 63 2 ls st h = ai_go S 63 [(3, 2, 0, 0, 0), (0, 0, 0, 0, 1)] (10, 6, 3, 0, 0, []) ls st h := ai_blk_go S 63 2 ls st h
theorem k_63_3 (S : ai_S) (ls st : List Value) (h : ai_H) : ai_res S 63 3 ls st h = ai_go S 63 [(3, 2, 0, 0, 0), (1, 0, 0, 0, 9)] (12, 6, 4, 0, 0, []) ls st h := ai_blk_go S 63 3 ls st h
theorem k_63_4 (S : ai_S) (ls st : List Value) (h : ai_H) : ai_res S 63 4 ls st h = ai_go S 63 [(3, 3, 0, 0, 0)] (19, 5, 83, 1, 0, [(0, 148)]) ls st h := ai_blk_go S 63 4 ls st h
theorem k_63_5 (S : ai_S) (ls st : List Value) (h : ai_H) : ai_res S 63 5 ls st h = ai_go S 63 [] (3, 7, 6, 0, 0, []) ls st h := ai_blk_go S 63 5 ls st h
theorem k_63_6 (S : ai_S) (ls st : List Value) (h : ai_H) : ai_res S 63 6 ls st h = ai_go S 63 [(0, 0, 0, 0, (-1))] (23, 0, 0, 0, 0, []) ls st h := ai_blk_go S 63 6 ls st h
theorem k_63_7 (S : ai_S) (ls st : List Value) (h : ai_H) : ai_res S 63 7 ls st h = ai_go S 63 [(5, 0, 0, 0, 0), (23, 5, 7, 47, 0), (3, 1, 0, 0, 0), (3, 2, 0, 0, 0), (3, 3, 0, 0, 0)] (18, 8, 1, 4, 0, [(0, 241)]) ls st h := ai_blk_go S 63 7 ls st h
theorem k_63_8 (S : ai_S) (ls st : List Value) (h : ai_H) : ai_res S 63 8 ls st h = ai_go S 63 [] (2, 10, 9, 0, 0, []) ls st h := ai_blk_go S 63 8 ls st h
theorem k_63_9 (S : ai_S) (ls st : List Value) (h : ai_H) : ai_res S 63 9 ls st h = ai_go S 63 [(5, 0, 0, 0, 0), (23, 5, 7, 47, 0), (23, 0, 3, 87, 0)] (1, 11, 0, 0, 0, []) ls st h := ai_blk_go S 63 9 ls st h
theorem k_63_10 (S : ai_S) (ls st : List Value) (h : ai_H) : ai_res S 63 10 ls st h = ai_go S 63 [(1, 0, 0, 0, (-3))] (0, 11, 0, 0, 0, []) ls st h := ai_blk_go S 63 10 ls st h
theorem k_63_11 (S : ai_S) (ls st : List Value) (h : ai_H) : ai_res S 63 11 ls st h = ai_go S 63 [] (23, 0, 0, 0, 0, []) ls st h := ai_blk_go S 63 11 ls st h
theorem e_63 (S : ai_S) (q0 : Nat) (a0 : Int32) (a1 : Int32) (a2 : Int32) (h : ai_H) : ai_call S 63 [.ref q0, .int a0, .int a1, .int a2] h = ai_res S 63 0 [.ref q0, .int a0, .int a1, .int a2] [] h := rfl
theorem k_64_0 (S : ai_S) (ls st : List Value) (h : ai_H) : ai_res S 64 0 ls st h = ai_go S 64 [(5, 0, 0, 0, 0), (23, 5, 7, 47, 0), (23, 0, 3, 87, 0), (6, 1, 0, 0, 0), (5, 0, 0, 0, 0), (23, 5, 7, 47, 0), (0, 0, 0, 0, 0), (24, 0, 3, 87, 0), (3, 1, 0, 0, 0)] (23, 0, 0, 0, 0, []) ls st h := ai_blk_go S 64 0 ls st h
theorem e_64 (S : ai_S) (q0 : Nat) (h : ai_H) : ai_call S 64 [.ref q0] h = ai_res S 64 0 [.ref q0, ai_u] [] h := rfl
theorem k_65_0 (S : ai_S) (ls st : List Value) (h : ai_H) : ai_res S 65 0 ls st h = ai_go S 65 [(2, 0, 0, 0, 1023), (6, 1, 0, 0, 0), (3, 1, 0, 0, 0), (6, 2, 0, 0, 0), (0, 0, 0, 0, 0), (6, 3, 0, 0, 0)] (0, 1, 0, 0, 0, []) ls st h := ai_blk_go S 65 0 ls st h
theorem k_65_1 (S : ai_S) (ls st : List Value) (h : ai_H) : ai_res S 65 1 ls st h = ai_go S 65 [(3, 3, 0, 0, 0), (5, 0, 0, 0, 0), (23, 5, 7, 47, 0), (23, 0, 3, 87, 0)] (11, 10, 2, 0, 0, []) ls st h := ai_blk_go S 65 1 ls st h
theorem k_65_2 (S : ai_S) (ls st : List Value) (h : ai_H) : ai_res S 65 2 ls st h = ai_go S 65 [(5, 0, 0, 0, 0), (5, 0, 0, 0, 0), (23, 5, 7, 47, 0), (23, 0, 0, 243, 0), (3, 3, 0, 0, 0)] (19, 3, 79, 2, 0, [(0, 96)]) ls st h := ai_blk_go S 65 2 ls st h
theorem k_65_3 (S : ai_S) (ls st : List Value) (h : ai_H) : ai_res S 65 3 ls st h = ai_go S 65 [(5, 0, 0, 0, 0), (23, 5, 7, 47, 0), (23, 0, 1, 246, 0), (3, 3, 0, 0, 0)] (19, 4, 79, 2, 0, [(0, 96)]) ls st h := ai_blk_go S 65 3 ls st h
theorem k_65_4 (S : ai_S) (ls st : List Value) (h : ai_H) : ai_res S 65 4 ls st h = ai_go S 65 [] (18, 5, 67, 3, 5, [(0, 249)]) ls st h := ai_blk_go S 65 4 ls st h
theorem k_65_5 (S : ai_S) (ls st : List Value) (h : ai_H) : ai_res S 65 5 ls st h = ai_go S 65 [(7, 4, 0, 0, 0), (3, 2, 0, 0, 0), (5, 0, 0, 0, 0), (23, 5, 7, 47, 0), (23, 0, 2, 252, 0), (3, 3, 0, 0, 0)] (19, 6, 79, 2, 0, [(0, 96)]) ls st h := ai_blk_go S 65 5 ls st h
theorem k_65_6 (S : ai_S) (ls st : List Value) (h : ai_H) : ai_res S 65 6 ls st h = ai_go S 65 [(0, 0, 0, 0, 1)] (9, 8, 7, 0, 0, []) ls st h := ai_blk_go S 65 6 ls st h
theorem k_65_7 (S : ai_S) (ls st : List Value) (h : ai_H) : ai_res S 65 7 ls st h = ai_go S 65 [(4, 4, 0, 0, 0)] (1, 9, 0, 0, 0, []) ls st h := ai_blk_go S 65 7 ls st h
theorem k_65_8 (S : ai_S) (ls st : List Value) (h : ai_H) : ai_res S 65 8 ls st h = ai_go S 65 [(3, 1, 0, 0, 0), (4, 4, 0, 0, 0), (11, 0, 0, 0, 0)] (0, 9, 0, 0, 0, []) ls st h := ai_blk_go S 65 8 ls st h
theorem k_65_9 (S : ai_S) (ls st : List Value) (h : ai_H) : ai_res S 65 9 ls st h = ai_go S 65 [(13, 0, 0, 0, 0), (6, 2, 0, 0, 0), (9, 3, 0, 0, 1)] (1, 1, 0, 0, 0, []) ls st h := ai_blk_go S 65 9 ls st h
theorem k_65_10 (S : ai_S) (ls st : List Value) (h : ai_H) : ai_res S 65 10 ls st h = ai_go S 65 [(3, 2, 0, 0, 0)] (23, 0, 0, 0, 0, []) ls st h := ai_blk_go S 65 10 ls st h
theorem e_65 (S : ai_S) (q0 : Nat) (h : ai_H) : ai_call S 65 [.ref q0] h = ai_res S 65 0 [.ref q0, ai_u, ai_u, ai_u, ai_u] [] h := rfl
theorem k_66_0 (S : ai_S) (ls st : List Value) (h : ai_H) : ai_res S 66 0 ls st h = ai_go S 66 [(3, 1, 0, 0, 0), (0, 0, 0, 0, 1)] (10, 2, 1, 0, 0, []) ls st h := ai_blk_go S 66 0 ls st h
theorem k_66_1 (S : ai_S) (ls st : List Value) (h : ai_H) : ai_res S 66 1 ls st h = ai_go S 66 [(3, 1, 0, 0, 0), (1, 0, 0, 0, 9)] (13, 3, 2, 0, 0, []) ls st h := ai_blk_go S 66 1 ls st h
theorem k_66_2 (S : ai_S) (ls st : List Value) (h : ai_H) : ai_res S 66 2 ls st h = ai_go S 66 [(0, 0, 0, 0, (-1))] (23, 0, 0, 0, 0, []) ls st h := ai_blk_go S 66 2 ls st h
theorem k_66_3 (S : ai_S) (ls st : List Value) (h : ai_H) : ai_res S 66 3 ls st h = ai_go S 66 [(5, 0, 0, 0, 0)] (18, 4, 65, 1, 5, [(0, 254)]) ls st h := ai_blk_go S 66 3 ls st h
theorem k_66_4 (S : ai_S) (ls st : List Value) (h : ai_H) : ai_res S 66 4 ls st h = ai_go S 66 [(6, 2, 0, 0, 0), (3, 2, 0, 0, 0)] (19, 5, 138, 1, 0, [(0, 212)]) ls st h := ai_blk_go S 66 4 ls st h
theorem k_66_5 (S : ai_S) (ls st : List Value) (h : ai_H) : ai_res S 66 5 ls st h = ai_go S 66 [(6, 3, 0, 0, 0), (3, 3, 0, 0, 0), (0, 0, 0, 0, 1)] (12, 7, 6, 0, 0, []) ls st h := ai_blk_go S 66 5 ls st h
theorem k_66_6 (S : ai_S) (ls st : List Value) (h : ai_H) : ai_res S 66 6 ls st h = ai_go S 66 [(1, 0, 0, 0, (-9))] (23, 0, 0, 0, 0, []) ls st h := ai_blk_go S 66 6 ls st h
theorem k_66_7 (S : ai_S) (ls st : List Value) (h : ai_H) : ai_res S 66 7 ls st h = ai_go S 66 [(1, 0, 0, 0, (-9)), (7, 4, 0, 0, 0), (3, 3, 0, 0, 0), (0, 0, 0, 0, 1), (10, 0, 0, 0, 0), (7, 5, 0, 0, 0), (0, 0, 0, 0, 0), (7, 6, 0, 0, 0)] (0, 8, 0, 0, 0, []) ls st h := ai_blk_go S 66 7 ls st h
theorem k_66_8 (S : ai_S) (ls st : List Value) (h : ai_H) : ai_res S 66 8 ls st h = ai_go S 66 [(4, 6, 0, 0, 0), (5, 0, 0, 0, 0), (23, 5, 0, 10, 0), (23, 3, 3, 145, 0)] (11, 14, 9, 0, 0, []) ls st h := ai_blk_go S 66 8 ls st h
theorem k_66_9 (S : ai_S) (ls st : List Value) (h : ai_H) : ai_res S 66 9 ls st h = ai_go S 66 [(3, 2, 0, 0, 0), (5, 0, 0, 0, 0), (4, 6, 0, 0, 0), (3, 1, 0, 0, 0)] (18, 10, 67, 3, 5, [(0, 249)]) ls st h := ai_blk_go S 66 9 ls st h
theorem k_66_10 (S : ai_S) (ls st : List Value) (h : ai_H) : ai_res S 66 10 ls st h = ai_go S 66 [(13, 0, 0, 0, 0)] (19, 11, 138, 1, 0, [(0, 212)]) ls st h := ai_blk_go S 66 10 ls st h
theorem k_66_11 (S : ai_S) (ls st : List Value) (h : ai_H) : ai_res S 66 11 ls st h = ai_go S 66 [(7, 7, 0, 0, 0), (4, 7, 0, 0, 0), (3, 3, 0, 0, 0), (4, 7, 0, 0, 0), (11, 0, 0, 0, 0), (49, 0, 0, 257, 0), (7, 8, 0, 0, 0), (4, 8, 0, 0, 0), (4, 5, 0, 0, 0)] (11, 13, 12, 0, 0, []) ls st h := ai_blk_go S 66 11 ls st h
theorem k_66_12 (S : ai_S) (ls st : List Value) (h : ai_H) : ai_res S 66 12 ls st h = ai_go S 66 [(4, 6, 0, 0, 0), (7, 4, 0, 0, 0), (4, 8, 0, 0, 0), (7, 5, 0, 0, 0)] (0, 13, 0, 0, 0, []) ls st h := ai_blk_go S 66 12 ls st h
theorem k_66_13 (S : ai_S) (ls st : List Value) (h : ai_H) : ai_res S 66 13 ls st h = ai_go S 66 [(9, 6, 0, 0, 1)] (1, 8, 0, 0, 0, []) ls st h := ai_blk_go S 66 13 ls st h
theorem k_66_14 (S : ai_S) (ls st : List Value) (h : ai_H) : ai_res S 66 14 ls st h = ai_go S 66 [(4, 4, 0, 0, 0)] (23, 0, 0, 0, 0, []) ls st h := ai_blk_go S 66 14 ls st h
theorem e_66 (S : ai_S) (q0 : Nat) (a0 : Int32) (h : ai_H) : ai_call S 66 [.ref q0, .int a0] h = ai_res S 66 0 [.ref q0, .int a0, ai_u, ai_u, ai_u, ai_u, ai_u, ai_u, ai_u] [] h := rfl
theorem k_67_0 (S : ai_S) (ls st : List Value) (h : ai_H) : ai_res S 67 0 ls st h = ai_go S 67 [(0, 0, 0, 0, 0), (6, 3, 0, 0, 0), (0, 0, 0, 0, 0), (7, 4, 0, 0, 0)] (0, 1, 0, 0, 0, []) ls st h := ai_blk_go S 67 0 ls st h
theorem k_67_1 (S : ai_S) (ls st : List Value) (h : ai_H) : ai_res S 67 1 ls st h = ai_go S 67 [(4, 4, 0, 0, 0), (1, 0, 0, 0, 10)] (11, 6, 2, 0, 0, []) ls st h := ai_blk_go S 67 1 ls st h
theorem k_67_2 (S : ai_S) (ls st : List Value) (h : ai_H) : ai_res S 67 2 ls st h = ai_go S 67 [(5, 0, 0, 0, 0), (3, 1, 0, 0, 0), (3, 2, 0, 0, 0), (5, 0, 0, 0, 0), (23, 5, 0, 10, 0), (23, 3, 0, 155, 0), (4, 4, 0, 0, 0)] (18, 3, 59, 5, 5, [(0, 236)]) ls st h := ai_blk_go S 67 2 ls st h
theorem k_67_3 (S : ai_S) (ls st : List Value) (h : ai_H) : ai_res S 67 3 ls st h = ai_go S 67 [(0, 0, 0, 0, 1), (13, 0, 0, 0, 0)] (2, 5, 4, 0, 0, []) ls st h := ai_blk_go S 67 3 ls st h
theorem k_67_4 (S : ai_S) (ls st : List Value) (h : ai_H) : ai_res S 67 4 ls st h = ai_go S 67 [(3, 3, 0, 0, 0), (0, 0, 0, 0, 1), (4, 4, 0, 0, 0), (15, 0, 0, 0, 0), (14, 0, 0, 0, 0), (6, 3, 0, 0, 0)] (0, 5, 0, 0, 0, []) ls st h := ai_blk_go S 67 4 ls st h
theorem k_67_5 (S : ai_S) (ls st : List Value) (h : ai_H) : ai_res S 67 5 ls st h = ai_go S 67 [(9, 4, 0, 0, 1)] (1, 1, 0, 0, 0, []) ls st h := ai_blk_go S 67 5 ls st h
theorem k_67_6 (S : ai_S) (ls st : List Value) (h : ai_H) : ai_res S 67 6 ls st h = ai_go S 67 [(3, 3, 0, 0, 0)] (23, 0, 0, 0, 0, []) ls st h := ai_blk_go S 67 6 ls st h
theorem e_67 (S : ai_S) (q0 : Nat) (a0 : Int32) (a1 : Int32) (h : ai_H) : ai_call S 67 [.ref q0, .int a0, .int a1] h = ai_res S 67 0 [.ref q0, .int a0, .int a1, ai_u, ai_u] [] h := rfl
theorem k_68_0 (S : ai_S) (ls st : List Value) (h : ai_H) : ai_res S 68 0 ls st h = ai_go S 68 [(5, 0, 0, 0, 0), (3, 2, 0, 0, 0)] (18, 1, 30, 2, 5, [(0, 90)]) ls st h := ai_blk_go S 68 0 ls st h
theorem k_68_1 (S : ai_S) (ls st : List Value) (h : ai_H) : ai_res S 68 1 ls st h = ai_go S 68 [] (3, 3, 2, 0, 0, []) ls st h := ai_blk_go S 68 1 ls st h
theorem k_68_2 (S : ai_S) (ls st : List Value) (h : ai_H) : ai_res S 68 2 ls st h = ai_go S 68 [(41, 0, 0, 260, (-1000000))] (23, 0, 0, 0, 0, []) ls st h := ai_blk_go S 68 2 ls st h
theorem k_68_3 (S : ai_S) (ls st : List Value) (h : ai_H) : ai_res S 68 3 ls st h = ai_go S 68 [(3, 1, 0, 0, 0)] (16, 16, 0, 39, 0, [(0, 4), (1, 6), (2, 8), (3, 10), (4, 12), (5, 14)]) ls st h := ai_blk_go S 68 3 ls st h
theorem k_68_4 (S : ai_S) (ls st : List Value) (h : ai_H) : ai_res S 68 4 ls st h = ai_go S 68 [(5, 0, 0, 0, 0), (3, 2, 0, 0, 0)] (18, 5, 73, 2, 5, [(0, 261)]) ls st h := ai_blk_go S 68 4 ls st h
theorem k_68_5 (S : ai_S) (ls st : List Value) (h : ai_H) : ai_res S 68 5 ls st h = ai_go S 68 [] (23, 0, 0, 0, 0, []) ls st h := ai_blk_go S 68 5 ls st h
theorem k_68_6 (S : ai_S) (ls st : List Value) (h : ai_H) : ai_res S 68 6 ls st h = ai_go S 68 [(5, 0, 0, 0, 0), (3, 2, 0, 0, 0)] (18, 7, 74, 2, 5, [(0, 264)]) ls st h := ai_blk_go S 68 6 ls st h
theorem k_68_7 (S : ai_S) (ls st : List Value) (h : ai_H) : ai_res S 68 7 ls st h = ai_go S 68 [] (23, 0, 0, 0, 0, []) ls st h := ai_blk_go S 68 7 ls st h
theorem k_68_8 (S : ai_S) (ls st : List Value) (h : ai_H) : ai_res S 68 8 ls st h = ai_go S 68 [(5, 0, 0, 0, 0), (3, 2, 0, 0, 0)] (18, 9, 75, 2, 5, [(0, 267)]) ls st h := ai_blk_go S 68 8 ls st h
theorem k_68_9 (S : ai_S) (ls st : List Value) (h : ai_H) : ai_res S 68 9 ls st h = ai_go S 68 [] (23, 0, 0, 0, 0, []) ls st h := ai_blk_go S 68 9 ls st h
theorem k_68_10 (S : ai_S) (ls st : List Value) (h : ai_H) : ai_res S 68 10 ls st h = ai_go S 68 [(5, 0, 0, 0, 0), (3, 2, 0, 0, 0)] (18, 11, 76, 2, 5, [(0, 270)]) ls st h := ai_blk_go S 68 10 ls st h
theorem k_68_11 (S : ai_S) (ls st : List Value) (h : ai_H) : ai_res S 68 11 ls st h = ai_go S 68 [] (23, 0, 0, 0, 0, []) ls st h := ai_blk_go S 68 11 ls st h
theorem k_68_12 (S : ai_S) (ls st : List Value) (h : ai_H) : ai_res S 68 12 ls st h = ai_go S 68 [(5, 0, 0, 0, 0), (3, 2, 0, 0, 0)] (18, 13, 77, 2, 5, [(0, 273)]) ls st h := ai_blk_go S 68 12 ls st h
theorem k_68_13 (S : ai_S) (ls st : List Value) (h : ai_H) : ai_res S 68 13 ls st h = ai_go S 68 [] (23, 0, 0, 0, 0, []) ls st h := ai_blk_go S 68 13 ls st h
theorem k_68_14 (S : ai_S) (ls st : List Value) (h : ai_H) : ai_res S 68 14 ls st h = ai_go S 68 [(5, 0, 0, 0, 0), (3, 2, 0, 0, 0)] (18, 15, 78, 2, 5, [(0, 276)]) ls st h := ai_blk_go S 68 14 ls st h
theorem k_68_15 (S : ai_S) (ls st : List Value) (h : ai_H) : ai_res S 68 15 ls st h = ai_go S 68 [] (23, 0, 0, 0, 0, []) ls st h := ai_blk_go S 68 15 ls st h
theorem k_68_16 (S : ai_S) (ls st : List Value) (h : ai_H) : ai_res S 68 16 ls st h = ai_go S 68 [(41, 0, 0, 260, (-1000000))] (23, 0, 0, 0, 0, []) ls st h := ai_blk_go S 68 16 ls st h
theorem e_68 (S : ai_S) (q0 : Nat) (a0 : Int32) (a1 : Int32) (h : ai_H) : ai_call S 68 [.ref q0, .int a0, .int a1] h = ai_res S 68 0 [.ref q0, .int a0, .int a1] [] h := rfl
theorem k_69_0 (S : ai_S) (ls st : List Value) (h : ai_H) : ai_res S 69 0 ls st h = ai_go S 69 [(5, 0, 0, 0, 0), (23, 5, 5, 40, 0), (3, 1, 0, 0, 0)] (19, 1, 81, 2, 0, [(0, 279)]) ls st h := ai_blk_go S 69 0 ls st h
theorem k_69_1 (S : ai_S) (ls st : List Value) (h : ai_H) : ai_res S 69 1 ls st h = ai_go S 69 [(8, 2, 0, 0, 0), (5, 2, 0, 0, 0)] (15, 3, 2, 0, 0, []) ls st h := ai_blk_go S 69 1 ls st h
theorem k_69_2 (S : ai_S) (ls st : List Value) (h : ai_H) : ai_res S 69 2 ls st h = ai_go S 69 [(0, 0, 0, 0, (-1))] (23, 0, 0, 0, 0, []) ls st h := ai_blk_go S 69 2 ls st h
theorem k_69_3 (S : ai_S) (ls st : List Value) (h : ai_H) : ai_res S 69 3 ls st h = ai_go S 69 [(5, 2, 0, 0, 0), (5, 0, 0, 0, 0), (23, 5, 3, 29, 0)] (18, 4, 4, 2, 1, [(0, 283)]) ls st h := ai_blk_go S 69 3 ls st h
theorem k_69_4 (S : ai_S) (ls st : List Value) (h : ai_H) : ai_res S 69 4 ls st h = ai_go S 69 [(5, 0, 0, 0, 0), (20, 0, 0, 0, 0), (23, 5, 6, 84, 0), (0, 0, 0, 0, 1), (3, 1, 0, 0, 0), (15, 0, 0, 0, 0), (14, 0, 0, 0, 0), (24, 5, 6, 84, 0), (5, 0, 0, 0, 0), (23, 5, 3, 29, 0), (23, 1, 2, 115, 0)] (19, 5, 138, 1, 0, [(0, 212)]) ls st h := ai_blk_go S 69 4 ls st h
theorem k_69_5 (S : ai_S) (ls st : List Value) (h : ai_H) : ai_res S 69 5 ls st h = ai_go S 69 [] (23, 0, 0, 0, 0, []) ls st h := ai_blk_go S 69 5 ls st h
theorem e_69 (S : ai_S) (q0 : Nat) (a0 : Int32) (h : ai_H) : ai_call S 69 [.ref q0, .int a0] h = ai_res S 69 0 [.ref q0, .int a0, ai_u] [] h := rfl
theorem k_70_0 (S : ai_S) (ls st : List Value) (h : ai_H) : ai_res S 70 0 ls st h = ai_go S 70 [(5, 0, 0, 0, 0), (23, 5, 5, 40, 0), (3, 1, 0, 0, 0)] (19, 1, 81, 2, 0, [(0, 279)]) ls st h := ai_blk_go S 70 0 ls st h
theorem k_70_1 (S : ai_S) (ls st : List Value) (h : ai_H) : ai_res S 70 1 ls st h = ai_go S 70 [(8, 2, 0, 0, 0), (5, 2, 0, 0, 0)] (15, 3, 2, 0, 0, []) ls st h := ai_blk_go S 70 1 ls st h
theorem k_70_2 (S : ai_S) (ls st : List Value) (h : ai_H) : ai_res S 70 2 ls st h = ai_go S 70 [(0, 0, 0, 0, (-1))] (23, 0, 0, 0, 0, []) ls st h := ai_blk_go S 70 2 ls st h
theorem k_70_3 (S : ai_S) (ls st : List Value) (h : ai_H) : ai_res S 70 3 ls st h = ai_go S 70 [(5, 0, 0, 0, 0), (23, 5, 6, 84, 0), (3, 1, 0, 0, 0)] (19, 4, 82, 2, 0, [(0, 118)]) ls st h := ai_blk_go S 70 3 ls st h
theorem k_70_4 (S : ai_S) (ls st : List Value) (h : ai_H) : ai_res S 70 4 ls st h = ai_go S 70 [] (3, 6, 5, 0, 0, []) ls st h := ai_blk_go S 70 4 ls st h
theorem k_70_5 (S : ai_S) (ls st : List Value) (h : ai_H) : ai_res S 70 5 ls st h = ai_go S 70 [(1, 0, 0, 0, (-2))] (23, 0, 0, 0, 0, []) ls st h := ai_blk_go S 70 5 ls st h
theorem k_70_6 (S : ai_S) (ls st : List Value) (h : ai_H) : ai_res S 70 6 ls st h = ai_go S 70 [(5, 0, 0, 0, 0), (23, 5, 3, 29, 0), (5, 2, 0, 0, 0)] (18, 7, 4, 2, 1, [(0, 283)]) ls st h := ai_blk_go S 70 6 ls st h
theorem k_70_7 (S : ai_S) (ls st : List Value) (h : ai_H) : ai_res S 70 7 ls st h = ai_go S 70 [(5, 0, 0, 0, 0), (23, 5, 4, 36, 0), (0, 0, 0, 0, 0), (24, 2, 2, 81, 0), (5, 0, 0, 0, 0), (23, 5, 3, 29, 0), (23, 1, 2, 115, 0)] (19, 8, 138, 1, 0, [(0, 212)]) ls st h := ai_blk_go S 70 7 ls st h
theorem k_70_8 (S : ai_S) (ls st : List Value) (h : ai_H) : ai_res S 70 8 ls st h = ai_go S 70 [] (23, 0, 0, 0, 0, []) ls st h := ai_blk_go S 70 8 ls st h
theorem e_70 (S : ai_S) (q0 : Nat) (a0 : Int32) (h : ai_H) : ai_call S 70 [.ref q0, .int a0] h = ai_res S 70 0 [.ref q0, .int a0, ai_u] [] h := rfl
theorem k_71_0 (S : ai_S) (ls st : List Value) (h : ai_H) : ai_res S 71 0 ls st h = ai_go S 71 [(3, 1, 0, 0, 0)] (16, 7, 0, 39, 0, [(0, 1), (1, 2), (2, 3), (3, 4), (4, 5), (5, 6)]) ls st h := ai_blk_go S 71 0 ls st h
theorem k_71_1 (S : ai_S) (ls st : List Value) (h : ai_H) : ai_res S 71 1 ls st h = ai_go S 71 [(5, 0, 0, 0, 0), (23, 5, 0, 10, 0), (23, 3, 3, 145, 0)] (23, 0, 0, 0, 0, []) ls st h := ai_blk_go S 71 1 ls st h
theorem k_71_2 (S : ai_S) (ls st : List Value) (h : ai_H) : ai_res S 71 2 ls st h = ai_go S 71 [(5, 0, 0, 0, 0), (23, 5, 0, 10, 0), (23, 3, 0, 155, 0)] (23, 0, 0, 0, 0, []) ls st h := ai_blk_go S 71 2 ls st h
theorem k_71_3 (S : ai_S) (ls st : List Value) (h : ai_H) : ai_res S 71 3 ls st h = ai_go S 71 [(5, 0, 0, 0, 0), (23, 5, 0, 10, 0), (23, 3, 1, 58, 0)] (23, 0, 0, 0, 0, []) ls st h := ai_blk_go S 71 3 ls st h
theorem k_71_4 (S : ai_S) (ls st : List Value) (h : ai_H) : ai_res S 71 4 ls st h = ai_go S 71 [(5, 0, 0, 0, 0), (23, 5, 0, 10, 0), (23, 3, 2, 190, 0)] (23, 0, 0, 0, 0, []) ls st h := ai_blk_go S 71 4 ls st h
theorem k_71_5 (S : ai_S) (ls st : List Value) (h : ai_H) : ai_res S 71 5 ls st h = ai_go S 71 [(5, 0, 0, 0, 0), (23, 5, 7, 47, 0), (23, 0, 3, 87, 0)] (23, 0, 0, 0, 0, []) ls st h := ai_blk_go S 71 5 ls st h
theorem k_71_6 (S : ai_S) (ls st : List Value) (h : ai_H) : ai_res S 71 6 ls st h = ai_go S 71 [(5, 0, 0, 0, 0), (23, 5, 2, 22, 0), (23, 4, 1, 70, 0)] (23, 0, 0, 0, 0, []) ls st h := ai_blk_go S 71 6 ls st h
theorem k_71_7 (S : ai_S) (ls st : List Value) (h : ai_H) : ai_res S 71 7 ls st h = ai_go S 71 [(0, 0, 0, 0, (-1))] (23, 0, 0, 0, 0, []) ls st h := ai_blk_go S 71 7 ls st h
theorem e_71 (S : ai_S) (q0 : Nat) (a0 : Int32) (h : ai_H) : ai_call S 71 [.ref q0, .int a0] h = ai_res S 71 0 [.ref q0, .int a0] [] h := rfl
theorem k_72_0 (S : ai_S) (ls st : List Value) (h : ai_H) : ai_res S 72 0 ls st h = ai_go S 72 [(5, 0, 0, 0, 0), (23, 5, 10, 286, 0)] (25, 0, 0, 0, 0, []) ls st h := ai_blk_go S 72 0 ls st h
theorem e_72 (S : ai_S) (q0 : Nat) (h : ai_H) : ai_call S 72 [.ref q0] h = ai_res S 72 0 [.ref q0] [] h := rfl
theorem k_73_0 (S : ai_S) (ls st : List Value) (h : ai_H) : ai_res S 73 0 ls st h = ai_go S 73 [(5, 0, 0, 0, 0), (20, 0, 0, 0, 0), (23, 5, 10, 286, 0), (43, 1, 0, 0, 1), (44, 0, 0, 0, 0), (26, 5, 10, 286, 0), (5, 0, 0, 0, 0), (23, 5, 0, 10, 0), (23, 3, 6, 103, 0), (3, 1, 0, 0, 0)] (19, 1, 79, 2, 0, [(0, 96)]) ls st h := ai_blk_go S 73 0 ls st h
theorem k_73_1 (S : ai_S) (ls st : List Value) (h : ai_H) : ai_res S 73 1 ls st h = ai_go S 73 [] (23, 0, 0, 0, 0, []) ls st h := ai_blk_go S 73 1 ls st h
theorem e_73 (S : ai_S) (q0 : Nat) (a0 : Int32) (h : ai_H) : ai_call S 73 [.ref q0, .int a0] h = ai_res S 73 0 [.ref q0, .int a0] [] h := rfl
theorem k_74_0 (S : ai_S) (ls st : List Value) (h : ai_H) : ai_res S 74 0 ls st h = ai_go S 74 [(5, 0, 0, 0, 0), (20, 0, 0, 0, 0), (23, 5, 10, 286, 0), (42, 0, 0, 290, 10), (44, 0, 0, 0, 0), (26, 5, 10, 286, 0), (5, 0, 0, 0, 0), (3, 1, 0, 0, 0)] (18, 1, 73, 2, 5, [(0, 261)]) ls st h := ai_blk_go S 74 0 ls st h
theorem k_74_1 (S : ai_S) (ls st : List Value) (h : ai_H) : ai_res S 74 1 ls st h = ai_go S 74 [(5, 0, 0, 0, 0), (23, 5, 3, 29, 0), (23, 1, 1, 112, 0), (3, 1, 0, 0, 0)] (19, 2, 79, 2, 0, [(0, 96)]) ls st h := ai_blk_go S 74 1 ls st h
theorem k_74_2 (S : ai_S) (ls st : List Value) (h : ai_H) : ai_res S 74 2 ls st h = ai_go S 74 [(10, 0, 0, 0, 0)] (23, 0, 0, 0, 0, []) ls st h := ai_blk_go S 74 2 ls st h
theorem e_74 (S : ai_S) (q0 : Nat) (a0 : Int32) (h : ai_H) : ai_call S 74 [.ref q0, .int a0] h = ai_res S 74 0 [.ref q0, .int a0] [] h := rfl
theorem k_75_0 (S : ai_S) (ls st : List Value) (h : ai_H) : ai_res S 75 0 ls st h = ai_go S 75 [(5, 0, 0, 0, 0), (20, 0, 0, 0, 0), (23, 5, 10, 286, 0), (42, 0, 0, 292, 100), (44, 0, 0, 0, 0), (26, 5, 10, 286, 0), (5, 0, 0, 0, 0), (3, 1, 0, 0, 0)] (18, 1, 73, 2, 5, [(0, 261)]) ls st h := ai_blk_go S 75 0 ls st h
theorem k_75_1 (S : ai_S) (ls st : List Value) (h : ai_H) : ai_res S 75 1 ls st h = ai_go S 75 [(5, 0, 0, 0, 0), (23, 5, 3, 29, 0), (23, 1, 0, 109, 0), (3, 1, 0, 0, 0)] (19, 2, 79, 2, 0, [(0, 96)]) ls st h := ai_blk_go S 75 1 ls st h
theorem k_75_2 (S : ai_S) (ls st : List Value) (h : ai_H) : ai_res S 75 2 ls st h = ai_go S 75 [(11, 0, 0, 0, 0)] (23, 0, 0, 0, 0, []) ls st h := ai_blk_go S 75 2 ls st h
theorem e_75 (S : ai_S) (q0 : Nat) (a0 : Int32) (h : ai_H) : ai_call S 75 [.ref q0, .int a0] h = ai_res S 75 0 [.ref q0, .int a0] [] h := rfl
theorem k_76_0 (S : ai_S) (ls st : List Value) (h : ai_H) : ai_res S 76 0 ls st h = ai_go S 76 [(5, 0, 0, 0, 0), (20, 0, 0, 0, 0), (23, 5, 10, 286, 0), (42, 0, 0, 294, 1000), (44, 0, 0, 0, 0), (26, 5, 10, 286, 0), (0, 0, 0, 0, 2), (5, 0, 0, 0, 0), (3, 1, 0, 0, 0)] (18, 1, 74, 2, 5, [(0, 264)]) ls st h := ai_blk_go S 76 0 ls st h
theorem k_76_1 (S : ai_S) (ls st : List Value) (h : ai_H) : ai_res S 76 1 ls st h = ai_go S 76 [(12, 0, 0, 0, 0)] (23, 0, 0, 0, 0, []) ls st h := ai_blk_go S 76 1 ls st h
theorem e_76 (S : ai_S) (q0 : Nat) (a0 : Int32) (h : ai_H) : ai_call S 76 [.ref q0, .int a0] h = ai_res S 76 0 [.ref q0, .int a0] [] h := rfl
theorem k_77_0 (S : ai_S) (ls st : List Value) (h : ai_H) : ai_res S 77 0 ls st h = ai_go S 77 [(5, 0, 0, 0, 0), (20, 0, 0, 0, 0), (23, 5, 10, 286, 0), (42, 0, 0, 296, 10000), (44, 0, 0, 0, 0), (26, 5, 10, 286, 0), (5, 0, 0, 0, 0), (3, 1, 0, 0, 0)] (18, 1, 75, 2, 5, [(0, 267)]) ls st h := ai_blk_go S 77 0 ls st h
theorem k_77_1 (S : ai_S) (ls st : List Value) (h : ai_H) : ai_res S 77 1 ls st h = ai_go S 77 [(3, 1, 0, 0, 0), (10, 0, 0, 0, 0)] (23, 0, 0, 0, 0, []) ls st h := ai_blk_go S 77 1 ls st h
theorem e_77 (S : ai_S) (q0 : Nat) (a0 : Int32) (h : ai_H) : ai_call S 77 [.ref q0, .int a0] h = ai_res S 77 0 [.ref q0, .int a0] [] h := rfl
theorem k_78_0 (S : ai_S) (ls st : List Value) (h : ai_H) : ai_res S 78 0 ls st h = ai_go S 78 [(5, 0, 0, 0, 0), (20, 0, 0, 0, 0), (23, 5, 10, 286, 0), (42, 0, 0, 298, 100000), (44, 0, 0, 0, 0), (26, 5, 10, 286, 0), (5, 0, 0, 0, 0), (3, 1, 0, 0, 0)] (18, 1, 73, 2, 5, [(0, 261)]) ls st h := ai_blk_go S 78 0 ls st h
theorem k_78_1 (S : ai_S) (ls st : List Value) (h : ai_H) : ai_res S 78 1 ls st h = ai_go S 78 [(5, 0, 0, 0, 0), (23, 5, 3, 29, 0), (23, 1, 5, 133, 0), (10, 0, 0, 0, 0)] (23, 0, 0, 0, 0, []) ls st h := ai_blk_go S 78 1 ls st h
theorem e_78 (S : ai_S) (q0 : Nat) (a0 : Int32) (h : ai_H) : ai_call S 78 [.ref q0, .int a0] h = ai_res S 78 0 [.ref q0, .int a0] [] h := rfl
theorem k_79_0 (S : ai_S) (ls st : List Value) (h : ai_H) : ai_res S 79 0 ls st h = ai_go S 79 [(3, 1, 0, 0, 0)] (4, 3, 1, 0, 0, []) ls st h := ai_blk_go S 79 0 ls st h
theorem k_79_1 (S : ai_S) (ls st : List Value) (h : ai_H) : ai_res S 79 1 ls st h = ai_go S 79 [(3, 1, 0, 0, 0), (5, 0, 0, 0, 0), (35, 0, 0, 0, 0)] (11, 3, 2, 0, 0, []) ls st h := ai_blk_go S 79 1 ls st h
theorem k_79_2 (S : ai_S) (ls st : List Value) (h : ai_H) : ai_res S 79 2 ls st h = ai_go S 79 [(5, 0, 0, 0, 0), (3, 1, 0, 0, 0), (29, 0, 0, 0, 0)] (1, 4, 0, 0, 0, []) ls st h := ai_blk_go S 79 2 ls st h
theorem k_79_3 (S : ai_S) (ls st : List Value) (h : ai_H) : ai_res S 79 3 ls st h = ai_go S 79 [(0, 0, 0, 0, 0)] (0, 4, 0, 0, 0, []) ls st h := ai_blk_go S 79 3 ls st h
theorem k_79_4 (S : ai_S) (ls st : List Value) (h : ai_H) : ai_res S 79 4 ls st h = ai_go S 79 [] (23, 0, 0, 0, 0, []) ls st h := ai_blk_go S 79 4 ls st h
theorem e_79 (S : ai_S) (q1 : Nat) (a1 : Int32) (h : ai_H) : ai_call S 79 [.ref q1, .int a1] h = ai_res S 79 0 [.ref q1, .int a1] [] h := rfl
theorem k_80_0 (S : ai_S) (ls st : List Value) (h : ai_H) : ai_res S 80 0 ls st h = ai_go S 80 [(3, 1, 0, 0, 0)] (4, 3, 1, 0, 0, []) ls st h := ai_blk_go S 80 0 ls st h
theorem k_80_1 (S : ai_S) (ls st : List Value) (h : ai_H) : ai_res S 80 1 ls st h = ai_go S 80 [(3, 1, 0, 0, 0), (5, 0, 0, 0, 0), (35, 0, 0, 0, 0)] (11, 3, 2, 0, 0, []) ls st h := ai_blk_go S 80 1 ls st h
theorem k_80_2 (S : ai_S) (ls st : List Value) (h : ai_H) : ai_res S 80 2 ls st h = ai_go S 80 [(5, 0, 0, 0, 0), (3, 1, 0, 0, 0), (3, 2, 0, 0, 0), (30, 0, 0, 0, 0)] (0, 3, 0, 0, 0, []) ls st h := ai_blk_go S 80 2 ls st h
theorem k_80_3 (S : ai_S) (ls st : List Value) (h : ai_H) : ai_res S 80 3 ls st h = ai_go S 80 [] (27, 0, 0, 0, 0, []) ls st h := ai_blk_go S 80 3 ls st h
theorem e_80 (S : ai_S) (q1 : Nat) (a1 : Int32) (a2 : Int32) (h : ai_H) : ai_call S 80 [.ref q1, .int a1, .int a2] h = ai_res S 80 0 [.ref q1, .int a1, .int a2] [] h := rfl
theorem k_81_0 (S : ai_S) (ls st : List Value) (h : ai_H) : ai_res S 81 0 ls st h = ai_go S 81 [(3, 1, 0, 0, 0)] (4, 3, 1, 0, 0, []) ls st h := ai_blk_go S 81 0 ls st h
theorem k_81_1 (S : ai_S) (ls st : List Value) (h : ai_H) : ai_res S 81 1 ls st h = ai_go S 81 [(3, 1, 0, 0, 0), (5, 0, 0, 0, 0), (35, 0, 0, 0, 0)] (11, 3, 2, 0, 0, []) ls st h := ai_blk_go S 81 1 ls st h
theorem k_81_2 (S : ai_S) (ls st : List Value) (h : ai_H) : ai_res S 81 2 ls st h = ai_go S 81 [(5, 0, 0, 0, 0), (3, 1, 0, 0, 0), (33, 0, 0, 0, 0)] (1, 4, 0, 0, 0, []) ls st h := ai_blk_go S 81 2 ls st h
theorem k_81_3 (S : ai_S) (ls st : List Value) (h : ai_H) : ai_res S 81 3 ls st h = ai_go S 81 [(46, 0, 0, 0, 0)] (0, 4, 0, 0, 0, []) ls st h := ai_blk_go S 81 3 ls st h
theorem k_81_4 (S : ai_S) (ls st : List Value) (h : ai_H) : ai_res S 81 4 ls st h = ai_go S 81 [] (26, 0, 0, 0, 0, []) ls st h := ai_blk_go S 81 4 ls st h
theorem e_81 (S : ai_S) (q1 : Nat) (a1 : Int32) (h : ai_H) : ai_call S 81 [.ref q1, .int a1] h = ai_res S 81 0 [.ref q1, .int a1] [] h := rfl
theorem k_82_0 (S : ai_S) (ls st : List Value) (h : ai_H) : ai_res S 82 0 ls st h = ai_go S 82 [(3, 0, 0, 0, 0), (3, 1, 0, 0, 0), (16, 0, 0, 0, 0), (0, 0, 0, 0, 1), (13, 0, 0, 0, 0), (0, 0, 0, 0, 1)] (9, 2, 1, 0, 0, []) ls st h := ai_blk_go S 82 0 ls st h
theorem k_82_1 (S : ai_S) (ls st : List Value) (h : ai_H) : ai_res S 82 1 ls st h = ai_go S 82 [(0, 0, 0, 0, 1)] (1, 3, 0, 0, 0, []) ls st h := ai_blk_go S 82 1 ls st h
theorem k_82_2 (S : ai_S) (ls st : List Value) (h : ai_H) : ai_res S 82 2 ls st h = ai_go S 82 [(0, 0, 0, 0, 0)] (0, 3, 0, 0, 0, []) ls st h := ai_blk_go S 82 2 ls st h
theorem k_82_3 (S : ai_S) (ls st : List Value) (h : ai_H) : ai_res S 82 3 ls st h = ai_go S 82 [] (24, 0, 0, 0, 0, []) ls st h := ai_blk_go S 82 3 ls st h
theorem e_82 (S : ai_S) (a0 : Int32) (a1 : Int32) (h : ai_H) : ai_call S 82 [.int a0, .int a1] h = ai_res S 82 0 [.int a0, .int a1] [] h := rfl
theorem k_83_0 (S : ai_S) (ls st : List Value) (h : ai_H) : ai_res S 83 0 ls st h = ai_go S 83 [(3, 0, 0, 0, 0)] (2, 2, 1, 0, 0, []) ls st h := ai_blk_go S 83 0 ls st h
theorem k_83_1 (S : ai_S) (ls st : List Value) (h : ai_H) : ai_res S 83 1 ls st h = ai_go S 83 [(3, 0, 0, 0, 0), (0, 0, 0, 0, 1)] (9, 3, 2, 0, 0, []) ls st h := ai_blk_go S 83 1 ls st h
theorem k_83_2 (S : ai_S) (ls st : List Value) (h : ai_H) : ai_res S 83 2 ls st h = ai_go S 83 [(0, 0, 0, 0, 1)] (1, 4, 0, 0, 0, []) ls st h := ai_blk_go S 83 2 ls st h
theorem k_83_3 (S : ai_S) (ls st : List Value) (h : ai_H) : ai_res S 83 3 ls st h = ai_go S 83 [(0, 0, 0, 0, 0)] (0, 4, 0, 0, 0, []) ls st h := ai_blk_go S 83 3 ls st h
theorem k_83_4 (S : ai_S) (ls st : List Value) (h : ai_H) : ai_res S 83 4 ls st h = ai_go S 83 [] (24, 0, 0, 0, 0, []) ls st h := ai_blk_go S 83 4 ls st h
theorem e_83 (S : ai_S) (a0 : Int32) (h : ai_H) : ai_call S 83 [.int a0] h = ai_res S 83 0 [.int a0] [] h := rfl
theorem k_84_0 (S : ai_S) (ls st : List Value) (h : ai_H) : ai_res S 84 0 ls st h = ai_go S 84 [(5, 0, 0, 0, 0), (47, 0, 0, 1, 0), (5, 0, 0, 0, 0), (1, 0, 0, 0, 120), (36, 0, 0, 0, 0), (28, 6, 2, 7, 0), (5, 0, 0, 0, 0), (1, 0, 0, 0, 8), (36, 0, 0, 0, 0), (28, 6, 10, 13, 0), (5, 0, 0, 0, 0), (1, 0, 0, 0, 12), (36, 0, 0, 0, 0), (28, 6, 11, 16, 0), (5, 0, 0, 0, 0), (1, 0, 0, 0, 12), (36, 0, 0, 0, 0), (28, 6, 12, 19, 0), (5, 0, 0, 0, 0), (1, 0, 0, 0, 12), (36, 0, 0, 0, 0), (28, 6, 13, 22, 0), (5, 0, 0, 0, 0), (1, 0, 0, 0, 12), (36, 0, 0, 0, 0), (28, 6, 14, 25, 0), (5, 0, 0, 0, 0), (1, 0, 0, 0, 18), (36, 0, 0, 0, 0), (28, 6, 15, 28, 0), (5, 0, 0, 0, 0), (1, 0, 0, 0, 36), (36, 0, 0, 0, 0), (28, 6, 16, 31, 0), (5, 0, 0, 0, 0), (0, 0, 0, 0, 2), (37, 0, 0, 0, 0), (28, 6, 17, 34, 0), (5, 0, 0, 0, 0), (2, 0, 0, 0, 180), (36, 0, 0, 0, 0), (28, 6, 18, 38, 0), (5, 0, 0, 0, 0), (1, 0, 0, 0, 6), (36, 0, 0, 0, 0), (28, 6, 20, 41, 0), (5, 0, 0, 0, 0), (1, 0, 0, 0, 6), (36, 0, 0, 0, 0), (28, 6, 21, 44, 0), (5, 0, 0, 0, 0), (1, 0, 0, 0, 6), (36, 0, 0, 0, 0), (28, 6, 22, 47, 0), (5, 0, 0, 0, 0), (1, 0, 0, 0, 6), (36, 0, 0, 0, 0), (28, 6, 26, 50, 0), (5, 0, 0, 0, 0)] (18, 1, 96, 1, 6, [(0, 53)]) ls st h := ai_blk_go S 84 0 ls st h
theorem k_84_1 (S : ai_S) (ls st : List Value) (h : ai_H) : ai_res S 84 1 ls st h = ai_go S 84 [(5, 0, 0, 0, 0)] (18, 2, 101, 1, 6, [(0, 56)]) ls st h := ai_blk_go S 84 1 ls st h
theorem k_84_2 (S : ai_S) (ls st : List Value) (h : ai_H) : ai_res S 84 2 ls st h = ai_go S 84 [] (27, 0, 0, 0, 0, []) ls st h := ai_blk_go S 84 2 ls st h
theorem e_84 (S : ai_S) (q0 : Nat) (h : ai_H) : ai_call S 84 [.ref q0] h = ai_res S 84 0 [.ref q0] [] h := rfl
theorem k_85_0 (S : ai_S) (ls st : List Value) (h : ai_H) : ai_res S 85 0 ls st h = ai_go S 85 [(3, 0, 0, 0, 0), (3, 1, 0, 0, 0)] (10, 3, 1, 0, 0, []) ls st h := ai_blk_go S 85 0 ls st h
theorem k_85_1 (S : ai_S) (ls st : List Value) (h : ai_H) : ai_res S 85 1 ls st h = ai_go S 85 [(3, 0, 0, 0, 0), (3, 2, 0, 0, 0)] (12, 3, 2, 0, 0, []) ls st h := ai_blk_go S 85 1 ls st h
theorem k_85_2 (S : ai_S) (ls st : List Value) (h : ai_H) : ai_res S 85 2 ls st h = ai_go S 85 [(0, 0, 0, 0, 1)] (1, 4, 0, 0, 0, []) ls st h := ai_blk_go S 85 2 ls st h
theorem k_85_3 (S : ai_S) (ls st : List Value) (h : ai_H) : ai_res S 85 3 ls st h = ai_go S 85 [(0, 0, 0, 0, 0)] (0, 4, 0, 0, 0, []) ls st h := ai_blk_go S 85 3 ls st h
theorem k_85_4 (S : ai_S) (ls st : List Value) (h : ai_H) : ai_res S 85 4 ls st h = ai_go S 85 [] (24, 0, 0, 0, 0, []) ls st h := ai_blk_go S 85 4 ls st h
theorem e_85 (S : ai_S) (a0 : Int32) (a1 : Int32) (a2 : Int32) (h : ai_H) : ai_call S 85 [.int a0, .int a1, .int a2] h = ai_res S 85 0 [.int a0, .int a1, .int a2] [] h := rfl
theorem k_86_0 (S : ai_S) (ls st : List Value) (h : ai_H) : ai_res S 86 0 ls st h = ai_go S 86 [(3, 0, 0, 0, 0), (3, 1, 0, 0, 0), (16, 0, 0, 0, 0), (0, 0, 0, 0, 1), (13, 0, 0, 0, 0), (0, 0, 0, 0, 1)] (9, 2, 1, 0, 0, []) ls st h := ai_blk_go S 86 0 ls st h
theorem k_86_1 (S : ai_S) (ls st : List Value) (h : ai_H) : ai_res S 86 1 ls st h = ai_go S 86 [(0, 0, 0, 0, 1)] (1, 3, 0, 0, 0, []) ls st h := ai_blk_go S 86 1 ls st h
theorem k_86_2 (S : ai_S) (ls st : List Value) (h : ai_H) : ai_res S 86 2 ls st h = ai_go S 86 [(0, 0, 0, 0, 0)] (0, 3, 0, 0, 0, []) ls st h := ai_blk_go S 86 2 ls st h
theorem k_86_3 (S : ai_S) (ls st : List Value) (h : ai_H) : ai_res S 86 3 ls st h = ai_go S 86 [] (24, 0, 0, 0, 0, []) ls st h := ai_blk_go S 86 3 ls st h
theorem e_86 (S : ai_S) (a0 : Int32) (a1 : Int32) (h : ai_H) : ai_call S 86 [.int a0, .int a1] h = ai_res S 86 0 [.int a0, .int a1] [] h := rfl
theorem k_87_0 (S : ai_S) (ls st : List Value) (h : ai_H) : ai_res S 87 0 ls st h = ai_go S 87 [(0, 0, 0, 0, 0), (6, 1, 0, 0, 0), (0, 0, 0, 0, 0), (6, 2, 0, 0, 0)] (0, 1, 0, 0, 0, []) ls st h := ai_blk_go S 87 0 ls st h
theorem k_87_1 (S : ai_S) (ls st : List Value) (h : ai_H) : ai_res S 87 1 ls st h = ai_go S 87 [(3, 2, 0, 0, 0), (1, 0, 0, 0, 10)] (11, 3, 2, 0, 0, []) ls st h := ai_blk_go S 87 1 ls st h
theorem k_87_2 (S : ai_S) (ls st : List Value) (h : ai_H) : ai_res S 87 2 ls st h = ai_go S 87 [(3, 1, 0, 0, 0), (3, 0, 0, 0, 0), (3, 2, 0, 0, 0), (16, 0, 0, 0, 0), (0, 0, 0, 0, 1), (13, 0, 0, 0, 0), (10, 0, 0, 0, 0), (6, 1, 0, 0, 0), (9, 2, 0, 0, 1)] (1, 1, 0, 0, 0, []) ls st h := ai_blk_go S 87 2 ls st h
theorem k_87_3 (S : ai_S) (ls st : List Value) (h : ai_H) : ai_res S 87 3 ls st h = ai_go S 87 [(3, 1, 0, 0, 0)] (23, 0, 0, 0, 0, []) ls st h := ai_blk_go S 87 3 ls st h
theorem e_87 (S : ai_S) (a0 : Int32) (h : ai_H) : ai_call S 87 [.int a0] h = ai_res S 87 0 [.int a0, ai_u, ai_u] [] h := rfl
theorem k_88_0 (S : ai_S) (ls st : List Value) (h : ai_H) : ai_res S 88 0 ls st h = ai_go S 88 [(5, 0, 0, 0, 0), (0, 0, 0, 0, 0), (24, 6, 0, 59, 0), (3, 1, 0, 0, 0), (0, 0, 0, 0, 0), (2, 0, 0, 0, 255)] (19, 1, 85, 3, 0, [(0, 63)]) ls st h := ai_blk_go S 88 0 ls st h
theorem k_88_1 (S : ai_S) (ls st : List Value) (h : ai_H) : ai_res S 88 1 ls st h = ai_go S 88 [] (3, 3, 2, 0, 0, []) ls st h := ai_blk_go S 88 1 ls st h
theorem k_88_2 (S : ai_S) (ls st : List Value) (h : ai_H) : ai_res S 88 2 ls st h = ai_go S 88 [(0, 0, 0, 0, (-1))] (23, 0, 0, 0, 0, []) ls st h := ai_blk_go S 88 2 ls st h
theorem k_88_3 (S : ai_S) (ls st : List Value) (h : ai_H) : ai_res S 88 3 ls st h = ai_go S 88 [(5, 0, 0, 0, 0), (23, 6, 3, 67, 0), (1, 0, 0, 0, 120)] (9, 5, 4, 0, 0, []) ls st h := ai_blk_go S 88 3 ls st h
theorem k_88_4 (S : ai_S) (ls st : List Value) (h : ai_H) : ai_res S 88 4 ls st h = ai_go S 88 [(1, 0, 0, 0, (-3))] (23, 0, 0, 0, 0, []) ls st h := ai_blk_go S 88 4 ls st h
theorem k_88_5 (S : ai_S) (ls st : List Value) (h : ai_H) : ai_res S 88 5 ls st h = ai_go S 88 [(5, 0, 0, 0, 0), (23, 6, 2, 7, 0), (5, 0, 0, 0, 0), (23, 6, 3, 67, 0), (3, 1, 0, 0, 0), (30, 0, 0, 0, 0), (5, 0, 0, 0, 0), (20, 0, 0, 0, 0), (23, 6, 3, 67, 0), (0, 0, 0, 0, 1), (10, 0, 0, 0, 0), (24, 6, 3, 67, 0), (5, 0, 0, 0, 0), (23, 6, 3, 67, 0)] (23, 0, 0, 0, 0, []) ls st h := ai_blk_go S 88 5 ls st h
theorem e_88 (S : ai_S) (q0 : Nat) (a0 : Int32) (h : ai_H) : ai_call S 88 [.ref q0, .int a0] h = ai_res S 88 0 [.ref q0, .int a0] [] h := rfl
theorem k_89_0 (S : ai_S) (ls st : List Value) (h : ai_H) : ai_res S 89 0 ls st h = ai_go S 89 [(5, 0, 0, 0, 0), (0, 0, 0, 0, 0), (24, 6, 0, 59, 0), (5, 0, 0, 0, 0), (23, 6, 3, 67, 0), (6, 1, 0, 0, 0), (5, 0, 0, 0, 0), (0, 0, 0, 0, 0), (24, 6, 3, 67, 0), (3, 1, 0, 0, 0)] (23, 0, 0, 0, 0, []) ls st h := ai_blk_go S 89 0 ls st h
theorem e_89 (S : ai_S) (q0 : Nat) (h : ai_H) : ai_call S 89 [.ref q0] h = ai_res S 89 0 [.ref q0, ai_u] [] h := rfl
theorem k_90_0 (S : ai_S) (ls st : List Value) (h : ai_H) : ai_res S 90 0 ls st h = ai_go S 90 [(3, 1, 0, 0, 0), (5, 0, 0, 0, 0), (23, 6, 3, 67, 0)] (11, 2, 1, 0, 0, []) ls st h := ai_blk_go S 90 0 ls st h
theorem k_90_1 (S : ai_S) (ls st : List Value) (h : ai_H) : ai_res S 90 1 ls st h = ai_go S 90 [(5, 0, 0, 0, 0), (23, 6, 2, 7, 0), (3, 1, 0, 0, 0), (29, 0, 0, 0, 0)] (1, 3, 0, 0, 0, []) ls st h := ai_blk_go S 90 1 ls st h
theorem k_90_2 (S : ai_S) (ls st : List Value) (h : ai_H) : ai_res S 90 2 ls st h = ai_go S 90 [(0, 0, 0, 0, (-1))] (0, 3, 0, 0, 0, []) ls st h := ai_blk_go S 90 2 ls st h
theorem k_90_3 (S : ai_S) (ls st : List Value) (h : ai_H) : ai_res S 90 3 ls st h = ai_go S 90 [] (23, 0, 0, 0, 0, []) ls st h := ai_blk_go S 90 3 ls st h
theorem e_90 (S : ai_S) (q0 : Nat) (a0 : Int32) (h : ai_H) : ai_call S 90 [.ref q0, .int a0] h = ai_res S 90 0 [.ref q0, .int a0] [] h := rfl
theorem k_91_0 (S : ai_S) (ls st : List Value) (h : ai_H) : ai_res S 91 0 ls st h = ai_go S 91 [(3, 0, 0, 0, 0), (1, 0, 0, 0, 99)] (8, 4, 1, 0, 0, []) ls st h := ai_blk_go S 91 0 ls st h
theorem k_91_1 (S : ai_S) (ls st : List Value) (h : ai_H) : ai_res S 91 1 ls st h = ai_go S 91 [(3, 0, 0, 0, 0), (1, 0, 0, 0, 103)] (8, 4, 2, 0, 0, []) ls st h := ai_blk_go S 91 1 ls st h
theorem k_91_2 (S : ai_S) (ls st : List Value) (h : ai_H) : ai_res S 91 2 ls st h = ai_go S 91 [(3, 0, 0, 0, 0), (1, 0, 0, 0, 118)] (8, 4, 3, 0, 0, []) ls st h := ai_blk_go S 91 2 ls st h
theorem k_91_3 (S : ai_S) (ls st : List Value) (h : ai_H) : ai_res S 91 3 ls st h = ai_go S 91 [(3, 0, 0, 0, 0), (1, 0, 0, 0, 115)] (9, 5, 4, 0, 0, []) ls st h := ai_blk_go S 91 3 ls st h
theorem k_91_4 (S : ai_S) (ls st : List Value) (h : ai_H) : ai_res S 91 4 ls st h = ai_go S 91 [(0, 0, 0, 0, 1)] (1, 6, 0, 0, 0, []) ls st h := ai_blk_go S 91 4 ls st h
theorem k_91_5 (S : ai_S) (ls st : List Value) (h : ai_H) : ai_res S 91 5 ls st h = ai_go S 91 [(0, 0, 0, 0, 0)] (0, 6, 0, 0, 0, []) ls st h := ai_blk_go S 91 5 ls st h
theorem k_91_6 (S : ai_S) (ls st : List Value) (h : ai_H) : ai_res S 91 6 ls st h = ai_go S 91 [] (24, 0, 0, 0, 0, []) ls st h := ai_blk_go S 91 6 ls st h
theorem e_91 (S : ai_S) (a0 : Int32) (h : ai_H) : ai_call S 91 [.int a0] h = ai_res S 91 0 [.int a0] [] h := rfl
theorem k_92_0 (S : ai_S) (ls st : List Value) (h : ai_H) : ai_res S 92 0 ls st h = ai_go S 92 [(5, 0, 0, 0, 0), (5, 0, 0, 0, 0), (23, 6, 4, 70, 0)] (18, 1, 90, 2, 6, [(0, 73)]) ls st h := ai_blk_go S 92 0 ls st h
theorem k_92_1 (S : ai_S) (ls st : List Value) (h : ai_H) : ai_res S 92 1 ls st h = ai_go S 92 [(1, 0, 0, 0, 32)] (9, 3, 2, 0, 0, []) ls st h := ai_blk_go S 92 1 ls st h
theorem k_92_2 (S : ai_S) (ls st : List Value) (h : ai_H) : ai_res S 92 2 ls st h = ai_go S 92 [(5, 0, 0, 0, 0), (20, 0, 0, 0, 0), (23, 6, 4, 70, 0), (0, 0, 0, 0, 1), (10, 0, 0, 0, 0), (24, 6, 4, 70, 0)] (1, 0, 0, 0, 0, []) ls st h := ai_blk_go S 92 2 ls st h
theorem k_92_3 (S : ai_S) (ls st : List Value) (h : ai_H) : ai_res S 92 3 ls st h = ai_go S 92 [(5, 0, 0, 0, 0), (5, 0, 0, 0, 0), (23, 6, 4, 70, 0), (24, 6, 6, 77, 0), (5, 0, 0, 0, 0), (5, 0, 0, 0, 0), (23, 6, 4, 70, 0)] (18, 4, 90, 2, 6, [(0, 73)]) ls st h := ai_blk_go S 92 3 ls st h
theorem k_92_4 (S : ai_S) (ls st : List Value) (h : ai_H) : ai_res S 92 4 ls st h = ai_go S 92 [(6, 1, 0, 0, 0), (3, 1, 0, 0, 0)] (5, 6, 5, 0, 0, []) ls st h := ai_blk_go S 92 4 ls st h
theorem k_92_5 (S : ai_S) (ls st : List Value) (h : ai_H) : ai_res S 92 5 ls st h = ai_go S 92 [(5, 0, 0, 0, 0), (0, 0, 0, 0, 0), (24, 6, 5, 80, 0)] (1, 30, 0, 0, 0, []) ls st h := ai_blk_go S 92 5 ls st h
theorem k_92_6 (S : ai_S) (ls st : List Value) (h : ai_H) : ai_res S 92 6 ls st h = ai_go S 92 [(3, 1, 0, 0, 0), (1, 0, 0, 0, 48), (1, 0, 0, 0, 57)] (19, 7, 85, 3, 0, [(0, 63)]) ls st h := ai_blk_go S 92 6 ls st h
theorem k_92_7 (S : ai_S) (ls st : List Value) (h : ai_H) : ai_res S 92 7 ls st h = ai_go S 92 [] (2, 23, 8, 0, 0, []) ls st h := ai_blk_go S 92 7 ls st h
theorem k_92_8 (S : ai_S) (ls st : List Value) (h : ai_H) : ai_res S 92 8 ls st h = ai_go S 92 [(5, 0, 0, 0, 0), (0, 0, 0, 0, 0), (24, 6, 7, 83, 0)] (0, 9, 0, 0, 0, []) ls st h := ai_blk_go S 92 8 ls st h
theorem k_92_9 (S : ai_S) (ls st : List Value) (h : ai_H) : ai_res S 92 9 ls st h = ai_go S 92 [(5, 0, 0, 0, 0), (5, 0, 0, 0, 0), (23, 6, 4, 70, 0)] (18, 10, 90, 2, 6, [(0, 73)]) ls st h := ai_blk_go S 92 9 ls st h
theorem k_92_10 (S : ai_S) (ls st : List Value) (h : ai_H) : ai_res S 92 10 ls st h = ai_go S 92 [(1, 0, 0, 0, 48), (1, 0, 0, 0, 57)] (19, 11, 85, 3, 0, [(0, 63)]) ls st h := ai_blk_go S 92 10 ls st h
theorem k_92_11 (S : ai_S) (ls st : List Value) (h : ai_H) : ai_res S 92 11 ls st h = ai_go S 92 [] (2, 17, 12, 0, 0, []) ls st h := ai_blk_go S 92 11 ls st h
theorem k_92_12 (S : ai_S) (ls st : List Value) (h : ai_H) : ai_res S 92 12 ls st h = ai_go S 92 [(5, 0, 0, 0, 0), (5, 0, 0, 0, 0), (23, 6, 7, 83, 0), (1, 0, 0, 0, 99)] (13, 14, 13, 0, 0, []) ls st h := ai_blk_go S 92 12 ls st h
theorem k_92_13 (S : ai_S) (ls st : List Value) (h : ai_H) : ai_res S 92 13 ls st h = ai_go S 92 [(5, 0, 0, 0, 0), (23, 6, 7, 83, 0)] (1, 16, 0, 0, 0, []) ls st h := ai_blk_go S 92 13 ls st h
theorem k_92_14 (S : ai_S) (ls st : List Value) (h : ai_H) : ai_res S 92 14 ls st h = ai_go S 92 [(1, 0, 0, 0, 10), (5, 0, 0, 0, 0), (23, 6, 7, 83, 0), (12, 0, 0, 0, 0), (5, 0, 0, 0, 0), (5, 0, 0, 0, 0), (23, 6, 4, 70, 0)] (18, 15, 90, 2, 6, [(0, 73)]) ls st h := ai_blk_go S 92 14 ls st h
theorem k_92_15 (S : ai_S) (ls st : List Value) (h : ai_H) : ai_res S 92 15 ls st h = ai_go S 92 [(10, 0, 0, 0, 0), (1, 0, 0, 0, 48), (11, 0, 0, 0, 0)] (0, 16, 0, 0, 0, []) ls st h := ai_blk_go S 92 15 ls st h
theorem k_92_16 (S : ai_S) (ls st : List Value) (h : ai_H) : ai_res S 92 16 ls st h = ai_go S 92 [(24, 6, 7, 83, 0), (5, 0, 0, 0, 0), (20, 0, 0, 0, 0), (23, 6, 4, 70, 0), (0, 0, 0, 0, 1), (10, 0, 0, 0, 0), (24, 6, 4, 70, 0)] (1, 9, 0, 0, 0, []) ls st h := ai_blk_go S 92 16 ls st h
theorem k_92_17 (S : ai_S) (ls st : List Value) (h : ai_H) : ai_res S 92 17 ls st h = ai_go S 92 [(5, 0, 0, 0, 0), (5, 0, 0, 0, 0), (23, 6, 7, 83, 0), (1, 0, 0, 0, 99)] (12, 20, 18, 0, 0, []) ls st h := ai_blk_go S 92 17 ls st h
theorem k_92_18 (S : ai_S) (ls st : List Value) (h : ai_H) : ai_res S 92 18 ls st h = ai_go S 92 [(3, 1, 0, 0, 0), (1, 0, 0, 0, 48)] (9, 21, 19, 0, 0, []) ls st h := ai_blk_go S 92 18 ls st h
theorem k_92_19 (S : ai_S) (ls st : List Value) (h : ai_H) : ai_res S 92 19 ls st h = ai_go S 92 [(5, 0, 0, 0, 0), (23, 6, 4, 70, 0), (5, 0, 0, 0, 0), (23, 6, 6, 77, 0), (11, 0, 0, 0, 0), (0, 0, 0, 0, 1)] (13, 21, 20, 0, 0, []) ls st h := ai_blk_go S 92 19 ls st h
theorem k_92_20 (S : ai_S) (ls st : List Value) (h : ai_H) : ai_res S 92 20 ls st h = ai_go S 92 [(0, 0, 0, 0, 4)] (1, 22, 0, 0, 0, []) ls st h := ai_blk_go S 92 20 ls st h
theorem k_92_21 (S : ai_S) (ls st : List Value) (h : ai_H) : ai_res S 92 21 ls st h = ai_go S 92 [(0, 0, 0, 0, 2)] (0, 22, 0, 0, 0, []) ls st h := ai_blk_go S 92 21 ls st h
theorem k_92_22 (S : ai_S) (ls st : List Value) (h : ai_H) : ai_res S 92 22 ls st h = ai_go S 92 [(24, 6, 5, 80, 0)] (1, 30, 0, 0, 0, []) ls st h := ai_blk_go S 92 22 ls st h
theorem k_92_23 (S : ai_S) (ls st : List Value) (h : ai_H) : ai_res S 92 23 ls st h = ai_go S 92 [(5, 0, 0, 0, 0), (20, 0, 0, 0, 0), (23, 6, 4, 70, 0), (0, 0, 0, 0, 1), (10, 0, 0, 0, 0), (24, 6, 4, 70, 0), (5, 0, 0, 0, 0), (3, 1, 0, 0, 0), (24, 6, 7, 83, 0), (5, 0, 0, 0, 0), (3, 1, 0, 0, 0), (1, 0, 0, 0, 59)] (9, 25, 24, 0, 0, []) ls st h := ai_blk_go S 92 23 ls st h
theorem k_92_24 (S : ai_S) (ls st : List Value) (h : ai_H) : ai_res S 92 24 ls st h = ai_go S 92 [(0, 0, 0, 0, 3)] (1, 29, 0, 0, 0, []) ls st h := ai_blk_go S 92 24 ls st h
theorem k_92_25 (S : ai_S) (ls st : List Value) (h : ai_H) : ai_res S 92 25 ls st h = ai_go S 92 [(3, 1, 0, 0, 0)] (19, 26, 91, 1, 0, [(0, 86)]) ls st h := ai_blk_go S 92 25 ls st h
theorem k_92_26 (S : ai_S) (ls st : List Value) (h : ai_H) : ai_res S 92 26 ls st h = ai_go S 92 [] (2, 28, 27, 0, 0, []) ls st h := ai_blk_go S 92 26 ls st h
theorem k_92_27 (S : ai_S) (ls st : List Value) (h : ai_H) : ai_res S 92 27 ls st h = ai_go S 92 [(0, 0, 0, 0, 1)] (1, 29, 0, 0, 0, []) ls st h := ai_blk_go S 92 27 ls st h
theorem k_92_28 (S : ai_S) (ls st : List Value) (h : ai_H) : ai_res S 92 28 ls st h = ai_go S 92 [(0, 0, 0, 0, 4)] (0, 29, 0, 0, 0, []) ls st h := ai_blk_go S 92 28 ls st h
theorem k_92_29 (S : ai_S) (ls st : List Value) (h : ai_H) : ai_res S 92 29 ls st h = ai_go S 92 [(24, 6, 5, 80, 0)] (0, 30, 0, 0, 0, []) ls st h := ai_blk_go S 92 29 ls st h
theorem k_92_30 (S : ai_S) (ls st : List Value) (h : ai_H) : ai_res S 92 30 ls st h = ai_go S 92 [] (27, 0, 0, 0, 0, []) ls st h := ai_blk_go S 92 30 ls st h
theorem e_92 (S : ai_S) (q0 : Nat) (h : ai_H) : ai_call S 92 [.ref q0] h = ai_res S 92 0 [.ref q0, ai_u] [] h := rfl
theorem k_93_0 (S : ai_S) (ls st : List Value) (h : ai_H) : ai_res S 93 0 ls st h = ai_go S 93 [(5, 0, 0, 0, 0), (23, 6, 8, 90, 0)] (5, 2, 1, 0, 0, []) ls st h := ai_blk_go S 93 0 ls st h
theorem k_93_1 (S : ai_S) (ls st : List Value) (h : ai_H) : ai_res S 93 1 ls st h = ai_go S 93 [(0, 0, 0, 0, 1)] (1, 3, 0, 0, 0, []) ls st h := ai_blk_go S 93 1 ls st h
theorem k_93_2 (S : ai_S) (ls st : List Value) (h : ai_H) : ai_res S 93 2 ls st h = ai_go S 93 [(0, 0, 0, 0, 0)] (0, 3, 0, 0, 0, []) ls st h := ai_blk_go S 93 2 ls st h
theorem k_93_3 (S : ai_S) (ls st : List Value) (h : ai_H) : ai_res S 93 3 ls st h = ai_go S 93 [] (24, 0, 0, 0, 0, []) ls st h := ai_blk_go S 93 3 ls st h
theorem e_93 (S : ai_S) (q0 : Nat) (h : ai_H) : ai_call S 93 [.ref q0] h = ai_res S 93 0 [.ref q0] [] h := rfl
theorem k_94_0 (S : ai_S) (ls st : List Value) (h : ai_H) : ai_res S 94 0 ls st h = ai_go S 94 [(5, 0, 0, 0, 0)] (18, 1, 93, 1, 6, [(0, 93)]) ls st h := ai_blk_go S 94 0 ls st h
theorem k_94_1 (S : ai_S) (ls st : List Value) (h : ai_H) : ai_res S 94 1 ls st h = ai_go S 94 [] (3, 3, 2, 0, 0, []) ls st h := ai_blk_go S 94 1 ls st h
theorem k_94_2 (S : ai_S) (ls st : List Value) (h : ai_H) : ai_res S 94 2 ls st h = ai_go S 94 [(0, 0, 0, 0, 0)] (23, 0, 0, 0, 0, []) ls st h := ai_blk_go S 94 2 ls st h
theorem k_94_3 (S : ai_S) (ls st : List Value) (h : ai_H) : ai_res S 94 3 ls st h = ai_go S 94 [(3, 1, 0, 0, 0)] (3, 5, 4, 0, 0, []) ls st h := ai_blk_go S 94 3 ls st h
theorem k_94_4 (S : ai_S) (ls st : List Value) (h : ai_H) : ai_res S 94 4 ls st h = ai_go S 94 [(5, 0, 0, 0, 0), (5, 0, 0, 0, 0), (23, 6, 6, 77, 0), (24, 6, 8, 90, 0), (0, 0, 0, 0, 0)] (23, 0, 0, 0, 0, []) ls st h := ai_blk_go S 94 4 ls st h
theorem k_94_5 (S : ai_S) (ls st : List Value) (h : ai_H) : ai_res S 94 5 ls st h = ai_go S 94 [(5, 0, 0, 0, 0), (23, 6, 7, 83, 0), (6, 2, 0, 0, 0), (5, 0, 0, 0, 0)] (18, 6, 92, 1, 6, [(0, 97)]) ls st h := ai_blk_go S 94 5 ls st h
theorem k_94_6 (S : ai_S) (ls st : List Value) (h : ai_H) : ai_res S 94 6 ls st h = ai_go S 94 [(3, 2, 0, 0, 0)] (23, 0, 0, 0, 0, []) ls st h := ai_blk_go S 94 6 ls st h
theorem e_94 (S : ai_S) (q0 : Nat) (a0 : Int32) (h : ai_H) : ai_call S 94 [.ref q0, .int a0] h = ai_res S 94 0 [.ref q0, .int a0, ai_u] [] h := rfl
theorem k_95_0 (S : ai_S) (ls st : List Value) (h : ai_H) : ai_res S 95 0 ls st h = ai_go S 95 [(5, 0, 0, 0, 0), (5, 0, 0, 0, 0), (23, 6, 5, 80, 0), (0, 0, 0, 0, 2)] (9, 4, 1, 0, 0, []) ls st h := ai_blk_go S 95 0 ls st h
theorem k_95_1 (S : ai_S) (ls st : List Value) (h : ai_H) : ai_res S 95 1 ls st h = ai_go S 95 [(5, 0, 0, 0, 0), (23, 6, 7, 83, 0), (3, 1, 0, 0, 0), (3, 2, 0, 0, 0)] (19, 2, 85, 3, 0, [(0, 63)]) ls st h := ai_blk_go S 95 1 ls st h
theorem k_95_2 (S : ai_S) (ls st : List Value) (h : ai_H) : ai_res S 95 2 ls st h = ai_go S 95 [] (2, 4, 3, 0, 0, []) ls st h := ai_blk_go S 95 2 ls st h
theorem k_95_3 (S : ai_S) (ls st : List Value) (h : ai_H) : ai_res S 95 3 ls st h = ai_go S 95 [(0, 0, 0, 0, 1)] (1, 5, 0, 0, 0, []) ls st h := ai_blk_go S 95 3 ls st h
theorem k_95_4 (S : ai_S) (ls st : List Value) (h : ai_H) : ai_res S 95 4 ls st h = ai_go S 95 [(0, 0, 0, 0, 0)] (0, 5, 0, 0, 0, []) ls st h := ai_blk_go S 95 4 ls st h
theorem k_95_5 (S : ai_S) (ls st : List Value) (h : ai_H) : ai_res S 95 5 ls st h = ai_go S 95 [] (18, 6, 94, 2, 6, [(0, 100)]) ls st h := ai_blk_go S 95 5 ls st h
theorem k_95_6 (S : ai_S) (ls st : List Value) (h : ai_H) : ai_res S 95 6 ls st h = ai_go S 95 [] (23, 0, 0, 0, 0, []) ls st h := ai_blk_go S 95 6 ls st h
theorem e_95 (S : ai_S) (q0 : Nat) (a0 : Int32) (a1 : Int32) (h : ai_H) : ai_call S 95 [.ref q0, .int a0, .int a1] h = ai_res S 95 0 [.ref q0, .int a0, .int a1] [] h := rfl
theorem k_96_0 (S : ai_S) (ls st : List Value) (h : ai_H) : ai_res S 96 0 ls st h = ai_go S 96 [(5, 0, 0, 0, 0), (0, 0, 0, 0, 0), (24, 6, 9, 104, 0), (5, 0, 0, 0, 0), (23, 6, 10, 13, 0), (0, 0, 0, 0, 4), (0, 0, 0, 0, 0), (30, 0, 0, 0, 0), (5, 0, 0, 0, 0), (23, 6, 10, 13, 0), (0, 0, 0, 0, 5), (0, 0, 0, 0, 4), (30, 0, 0, 0, 0), (5, 0, 0, 0, 0), (23, 6, 10, 13, 0), (1, 0, 0, 0, 6), (0, 0, 0, 0, 3), (30, 0, 0, 0, 0), (5, 0, 0, 0, 0), (23, 6, 10, 13, 0), (1, 0, 0, 0, 7), (1, 0, 0, 0, 20), (30, 0, 0, 0, 0)] (27, 0, 0, 0, 0, []) ls st h := ai_blk_go S 96 0 ls st h
theorem e_96 (S : ai_S) (q0 : Nat) (h : ai_H) : ai_call S 96 [.ref q0] h = ai_res S 96 0 [.ref q0] [] h := rfl
theorem k_97_0 (S : ai_S) (ls st : List Value) (h : ai_H) : ai_res S 97 0 ls st h = ai_go S 97 [(3, 0, 0, 0, 0), (1, 0, 0, 0, 103)] (9, 2, 1, 0, 0, []) ls st h := ai_blk_go S 97 0 ls st h
theorem k_97_1 (S : ai_S) (ls st : List Value) (h : ai_H) : ai_res S 97 1 ls st h = ai_go S 97 [(0, 0, 0, 0, 1)] (1, 5, 0, 0, 0, []) ls st h := ai_blk_go S 97 1 ls st h
theorem k_97_2 (S : ai_S) (ls st : List Value) (h : ai_H) : ai_res S 97 2 ls st h = ai_go S 97 [(3, 0, 0, 0, 0), (1, 0, 0, 0, 118)] (9, 4, 3, 0, 0, []) ls st h := ai_blk_go S 97 2 ls st h
theorem k_97_3 (S : ai_S) (ls st : List Value) (h : ai_H) : ai_res S 97 3 ls st h = ai_go S 97 [(0, 0, 0, 0, 2)] (1, 5, 0, 0, 0, []) ls st h := ai_blk_go S 97 3 ls st h
theorem k_97_4 (S : ai_S) (ls st : List Value) (h : ai_H) : ai_res S 97 4 ls st h = ai_go S 97 [(0, 0, 0, 0, 4)] (0, 5, 0, 0, 0, []) ls st h := ai_blk_go S 97 4 ls st h
theorem k_97_5 (S : ai_S) (ls st : List Value) (h : ai_H) : ai_res S 97 5 ls st h = ai_go S 97 [] (23, 0, 0, 0, 0, []) ls st h := ai_blk_go S 97 5 ls st h
theorem e_97 (S : ai_S) (a0 : Int32) (h : ai_H) : ai_call S 97 [.int a0] h = ai_res S 97 0 [.int a0] [] h := rfl
theorem k_98_0 (S : ai_S) (ls st : List Value) (h : ai_H) : ai_res S 98 0 ls st h = ai_go S 98 [(5, 0, 0, 0, 0), (23, 6, 7, 83, 0), (1, 0, 0, 0, 99)] (9, 4, 1, 0, 0, []) ls st h := ai_blk_go S 98 0 ls st h
theorem k_98_1 (S : ai_S) (ls st : List Value) (h : ai_H) : ai_res S 98 1 ls st h = ai_go S 98 [(5, 0, 0, 0, 0), (23, 6, 10, 13, 0), (0, 0, 0, 0, 4), (29, 0, 0, 0, 0), (1, 0, 0, 0, 6)] (11, 3, 2, 0, 0, []) ls st h := ai_blk_go S 98 1 ls st h
theorem k_98_2 (S : ai_S) (ls st : List Value) (h : ai_H) : ai_res S 98 2 ls st h = ai_go S 98 [(0, 0, 0, 0, 1)] (1, 8, 0, 0, 0, []) ls st h := ai_blk_go S 98 2 ls st h
theorem k_98_3 (S : ai_S) (ls st : List Value) (h : ai_H) : ai_res S 98 3 ls st h = ai_go S 98 [(0, 0, 0, 0, 0)] (1, 8, 0, 0, 0, []) ls st h := ai_blk_go S 98 3 ls st h
theorem k_98_4 (S : ai_S) (ls st : List Value) (h : ai_H) : ai_res S 98 4 ls st h = ai_go S 98 [(5, 0, 0, 0, 0), (23, 6, 9, 104, 0), (5, 0, 0, 0, 0), (23, 6, 7, 83, 0)] (19, 5, 97, 1, 0, [(0, 107)]) ls st h := ai_blk_go S 98 4 ls st h
theorem k_98_5 (S : ai_S) (ls st : List Value) (h : ai_H) : ai_res S 98 5 ls st h = ai_go S 98 [(13, 0, 0, 0, 0)] (3, 7, 6, 0, 0, []) ls st h := ai_blk_go S 98 5 ls st h
theorem k_98_6 (S : ai_S) (ls st : List Value) (h : ai_H) : ai_res S 98 6 ls st h = ai_go S 98 [(0, 0, 0, 0, 1)] (1, 8, 0, 0, 0, []) ls st h := ai_blk_go S 98 6 ls st h
theorem k_98_7 (S : ai_S) (ls st : List Value) (h : ai_H) : ai_res S 98 7 ls st h = ai_go S 98 [(0, 0, 0, 0, 0)] (0, 8, 0, 0, 0, []) ls st h := ai_blk_go S 98 7 ls st h
theorem k_98_8 (S : ai_S) (ls st : List Value) (h : ai_H) : ai_res S 98 8 ls st h = ai_go S 98 [] (24, 0, 0, 0, 0, []) ls st h := ai_blk_go S 98 8 ls st h
theorem e_98 (S : ai_S) (q0 : Nat) (h : ai_H) : ai_call S 98 [.ref q0] h = ai_res S 98 0 [.ref q0] [] h := rfl
theorem k_99_0 (S : ai_S) (ls st : List Value) (h : ai_H) : ai_res S 99 0 ls st h = ai_go S 99 [(3, 1, 0, 0, 0), (1, 0, 0, 0, 99)] (9, 6, 1, 0, 0, []) ls st h := ai_blk_go S 99 0 ls st h
theorem k_99_1 (S : ai_S) (ls st : List Value) (h : ai_H) : ai_res S 99 1 ls st h = ai_go S 99 [(1, 0, 0, 0, 6), (5, 0, 0, 0, 0), (23, 6, 10, 13, 0), (0, 0, 0, 0, 4), (29, 0, 0, 0, 0), (10, 0, 0, 0, 0), (6, 2, 0, 0, 0), (5, 0, 0, 0, 0), (23, 6, 11, 16, 0), (3, 2, 0, 0, 0), (5, 0, 0, 0, 0), (0, 0, 0, 0, 1), (1, 0, 0, 0, 30)] (18, 2, 95, 3, 6, [(0, 110)]) ls st h := ai_blk_go S 99 1 ls st h
theorem k_99_2 (S : ai_S) (ls st : List Value) (h : ai_H) : ai_res S 99 2 ls st h = ai_go S 99 [(30, 0, 0, 0, 0), (5, 0, 0, 0, 0), (23, 6, 12, 19, 0), (3, 2, 0, 0, 0), (5, 0, 0, 0, 0), (0, 0, 0, 0, 0), (1, 0, 0, 0, 30)] (18, 3, 95, 3, 6, [(0, 110)]) ls st h := ai_blk_go S 99 2 ls st h
theorem k_99_3 (S : ai_S) (ls st : List Value) (h : ai_H) : ai_res S 99 3 ls st h = ai_go S 99 [(30, 0, 0, 0, 0), (5, 0, 0, 0, 0), (23, 6, 13, 22, 0), (3, 2, 0, 0, 0), (5, 0, 0, 0, 0), (0, 0, 0, 0, 0), (1, 0, 0, 0, 9)] (18, 4, 95, 3, 6, [(0, 110)]) ls st h := ai_blk_go S 99 3 ls st h
theorem k_99_4 (S : ai_S) (ls st : List Value) (h : ai_H) : ai_res S 99 4 ls st h = ai_go S 99 [(30, 0, 0, 0, 0), (5, 0, 0, 0, 0), (23, 6, 14, 25, 0), (3, 2, 0, 0, 0), (5, 0, 0, 0, 0), (0, 0, 0, 0, 0), (0, 0, 0, 0, 5)] (18, 5, 95, 3, 6, [(0, 110)]) ls st h := ai_blk_go S 99 4 ls st h
theorem k_99_5 (S : ai_S) (ls st : List Value) (h : ai_H) : ai_res S 99 5 ls st h = ai_go S 99 [(30, 0, 0, 0, 0), (5, 0, 0, 0, 0), (23, 6, 10, 13, 0), (0, 0, 0, 0, 4), (21, 0, 0, 0, 0), (29, 0, 0, 0, 0), (0, 0, 0, 0, 1), (10, 0, 0, 0, 0), (30, 0, 0, 0, 0)] (1, 20, 0, 0, 0, []) ls st h := ai_blk_go S 99 5 ls st h
theorem k_99_6 (S : ai_S) (ls st : List Value) (h : ai_H) : ai_res S 99 6 ls st h = ai_go S 99 [(3, 1, 0, 0, 0), (1, 0, 0, 0, 103)] (9, 8, 7, 0, 0, []) ls st h := ai_blk_go S 99 6 ls st h
theorem k_99_7 (S : ai_S) (ls st : List Value) (h : ai_H) : ai_res S 99 7 ls st h = ai_go S 99 [(0, 0, 0, 0, 1)] (1, 11, 0, 0, 0, []) ls st h := ai_blk_go S 99 7 ls st h
theorem k_99_8 (S : ai_S) (ls st : List Value) (h : ai_H) : ai_res S 99 8 ls st h = ai_go S 99 [(3, 1, 0, 0, 0), (1, 0, 0, 0, 118)] (9, 10, 9, 0, 0, []) ls st h := ai_blk_go S 99 8 ls st h
theorem k_99_9 (S : ai_S) (ls st : List Value) (h : ai_H) : ai_res S 99 9 ls st h = ai_go S 99 [(0, 0, 0, 0, 2)] (1, 11, 0, 0, 0, []) ls st h := ai_blk_go S 99 9 ls st h
theorem k_99_10 (S : ai_S) (ls st : List Value) (h : ai_H) : ai_res S 99 10 ls st h = ai_go S 99 [(0, 0, 0, 0, 3)] (0, 11, 0, 0, 0, []) ls st h := ai_blk_go S 99 10 ls st h
theorem k_99_11 (S : ai_S) (ls st : List Value) (h : ai_H) : ai_res S 99 11 ls st h = ai_go S 99 [(6, 2, 0, 0, 0), (5, 0, 0, 0, 0), (23, 6, 10, 13, 0), (0, 0, 0, 0, 4), (3, 2, 0, 0, 0), (10, 0, 0, 0, 0), (5, 0, 0, 0, 0), (3, 1, 0, 0, 0), (1, 0, 0, 0, 115)] (9, 13, 12, 0, 0, []) ls st h := ai_blk_go S 99 11 ls st h
theorem k_99_12 (S : ai_S) (ls st : List Value) (h : ai_H) : ai_res S 99 12 ls st h = ai_go S 99 [(0, 0, 0, 0, 1)] (1, 14, 0, 0, 0, []) ls st h := ai_blk_go S 99 12 ls st h
theorem k_99_13 (S : ai_S) (ls st : List Value) (h : ai_H) : ai_res S 99 13 ls st h = ai_go S 99 [(0, 0, 0, 0, 0)] (0, 14, 0, 0, 0, []) ls st h := ai_blk_go S 99 13 ls st h
theorem k_99_14 (S : ai_S) (ls st : List Value) (h : ai_H) : ai_res S 99 14 ls st h = ai_go S 99 [(3, 1, 0, 0, 0), (1, 0, 0, 0, 115)] (9, 16, 15, 0, 0, []) ls st h := ai_blk_go S 99 14 ls st h
theorem k_99_15 (S : ai_S) (ls st : List Value) (h : ai_H) : ai_res S 99 15 ls st h = ai_go S 99 [(1, 0, 0, 0, 60)] (1, 17, 0, 0, 0, []) ls st h := ai_blk_go S 99 15 ls st h
theorem k_99_16 (S : ai_S) (ls st : List Value) (h : ai_H) : ai_res S 99 16 ls st h = ai_go S 99 [(1, 0, 0, 0, 9)] (0, 17, 0, 0, 0, []) ls st h := ai_blk_go S 99 16 ls st h
theorem k_99_17 (S : ai_S) (ls st : List Value) (h : ai_H) : ai_res S 99 17 ls st h = ai_go S 99 [] (18, 18, 95, 3, 6, [(0, 110)]) ls st h := ai_blk_go S 99 17 ls st h
theorem k_99_18 (S : ai_S) (ls st : List Value) (h : ai_H) : ai_res S 99 18 ls st h = ai_go S 99 [(30, 0, 0, 0, 0), (5, 0, 0, 0, 0), (20, 0, 0, 0, 0), (23, 6, 9, 104, 0), (3, 1, 0, 0, 0)] (19, 19, 97, 1, 0, [(0, 107)]) ls st h := ai_blk_go S 99 18 ls st h
theorem k_99_19 (S : ai_S) (ls st : List Value) (h : ai_H) : ai_res S 99 19 ls st h = ai_go S 99 [(14, 0, 0, 0, 0), (24, 6, 9, 104, 0)] (0, 20, 0, 0, 0, []) ls st h := ai_blk_go S 99 19 ls st h
theorem k_99_20 (S : ai_S) (ls st : List Value) (h : ai_H) : ai_res S 99 20 ls st h = ai_go S 99 [] (27, 0, 0, 0, 0, []) ls st h := ai_blk_go S 99 20 ls st h
theorem e_99 (S : ai_S) (q0 : Nat) (a0 : Int32) (h : ai_H) : ai_call S 99 [.ref q0, .int a0] h = ai_res S 99 0 [.ref q0, .int a0, ai_u] [] h := rfl
theorem k_100_0 (S : ai_S) (ls st : List Value) (h : ai_H) : ai_res S 100 0 ls st h = ai_go S 100 [(5, 0, 0, 0, 0), (0, 0, 0, 0, 0), (24, 6, 0, 59, 0), (5, 0, 0, 0, 0), (0, 0, 0, 0, (-1)), (24, 6, 8, 90, 0), (5, 0, 0, 0, 0), (0, 0, 0, 0, 0), (24, 6, 4, 70, 0), (5, 0, 0, 0, 0)] (18, 1, 96, 1, 6, [(0, 53)]) ls st h := ai_blk_go S 100 0 ls st h
theorem k_100_1 (S : ai_S) (ls st : List Value) (h : ai_H) : ai_res S 100 1 ls st h = ai_go S 100 [(0, 0, 0, 0, 0), (6, 1, 0, 0, 0), (5, 0, 0, 0, 0)] (18, 2, 92, 1, 6, [(0, 97)]) ls st h := ai_blk_go S 100 1 ls st h
theorem k_100_2 (S : ai_S) (ls st : List Value) (h : ai_H) : ai_res S 100 2 ls st h = ai_go S 100 [(5, 0, 0, 0, 0)] (18, 3, 93, 1, 6, [(0, 93)]) ls st h := ai_blk_go S 100 2 ls st h
theorem k_100_3 (S : ai_S) (ls st : List Value) (h : ai_H) : ai_res S 100 3 ls st h = ai_go S 100 [] (2, 19, 4, 0, 0, []) ls st h := ai_blk_go S 100 3 ls st h
theorem k_100_4 (S : ai_S) (ls st : List Value) (h : ai_H) : ai_res S 100 4 ls st h = ai_go S 100 [(5, 0, 0, 0, 0), (23, 6, 5, 80, 0)] (2, 19, 5, 0, 0, []) ls st h := ai_blk_go S 100 4 ls st h
theorem k_100_5 (S : ai_S) (ls st : List Value) (h : ai_H) : ai_res S 100 5 ls st h = ai_go S 100 [(5, 0, 0, 0, 0), (5, 0, 0, 0, 0), (23, 6, 5, 80, 0), (0, 0, 0, 0, 1)] (9, 9, 6, 0, 0, []) ls st h := ai_blk_go S 100 5 ls st h
theorem k_100_6 (S : ai_S) (ls st : List Value) (h : ai_H) : ai_res S 100 6 ls st h = ai_go S 100 [(5, 0, 0, 0, 0)] (18, 7, 98, 1, 6, [(0, 114)]) ls st h := ai_blk_go S 100 6 ls st h
theorem k_100_7 (S : ai_S) (ls st : List Value) (h : ai_H) : ai_res S 100 7 ls st h = ai_go S 100 [] (2, 9, 8, 0, 0, []) ls st h := ai_blk_go S 100 7 ls st h
theorem k_100_8 (S : ai_S) (ls st : List Value) (h : ai_H) : ai_res S 100 8 ls st h = ai_go S 100 [(0, 0, 0, 0, 1)] (1, 10, 0, 0, 0, []) ls st h := ai_blk_go S 100 8 ls st h
theorem k_100_9 (S : ai_S) (ls st : List Value) (h : ai_H) : ai_res S 100 9 ls st h = ai_go S 100 [(0, 0, 0, 0, 0)] (0, 10, 0, 0, 0, []) ls st h := ai_blk_go S 100 9 ls st h
theorem k_100_10 (S : ai_S) (ls st : List Value) (h : ai_H) : ai_res S 100 10 ls st h = ai_go S 100 [] (18, 11, 94, 2, 6, [(0, 100)]) ls st h := ai_blk_go S 100 10 ls st h
theorem k_100_11 (S : ai_S) (ls st : List Value) (h : ai_H) : ai_res S 100 11 ls st h = ai_go S 100 [(6, 2, 0, 0, 0), (5, 0, 0, 0, 0)] (18, 12, 93, 1, 6, [(0, 93)]) ls st h := ai_blk_go S 100 11 ls st h
theorem k_100_12 (S : ai_S) (ls st : List Value) (h : ai_H) : ai_res S 100 12 ls st h = ai_go S 100 [] (2, 14, 13, 0, 0, []) ls st h := ai_blk_go S 100 12 ls st h
theorem k_100_13 (S : ai_S) (ls st : List Value) (h : ai_H) : ai_res S 100 13 ls st h = ai_go S 100 [(5, 0, 0, 0, 0), (3, 2, 0, 0, 0)] (18, 14, 99, 2, 6, [(0, 117)]) ls st h := ai_blk_go S 100 13 ls st h
theorem k_100_14 (S : ai_S) (ls st : List Value) (h : ai_H) : ai_res S 100 14 ls st h = ai_go S 100 [(5, 0, 0, 0, 0), (5, 0, 0, 0, 0), (23, 6, 5, 80, 0), (0, 0, 0, 0, 3)] (9, 16, 15, 0, 0, []) ls st h := ai_blk_go S 100 14 ls st h
theorem k_100_15 (S : ai_S) (ls st : List Value) (h : ai_H) : ai_res S 100 15 ls st h = ai_go S 100 [(0, 0, 0, 0, 1)] (1, 17, 0, 0, 0, []) ls st h := ai_blk_go S 100 15 ls st h
theorem k_100_16 (S : ai_S) (ls st : List Value) (h : ai_H) : ai_res S 100 16 ls st h = ai_go S 100 [(0, 0, 0, 0, 0)] (0, 17, 0, 0, 0, []) ls st h := ai_blk_go S 100 16 ls st h
theorem k_100_17 (S : ai_S) (ls st : List Value) (h : ai_H) : ai_res S 100 17 ls st h = ai_go S 100 [] (18, 18, 94, 2, 6, [(0, 100)]) ls st h := ai_blk_go S 100 17 ls st h
theorem k_100_18 (S : ai_S) (ls st : List Value) (h : ai_H) : ai_res S 100 18 ls st h = ai_go S 100 [(22, 0, 0, 0, 0), (9, 1, 0, 0, 1)] (1, 2, 0, 0, 0, []) ls st h := ai_blk_go S 100 18 ls st h
theorem k_100_19 (S : ai_S) (ls st : List Value) (h : ai_H) : ai_res S 100 19 ls st h = ai_go S 100 [(5, 0, 0, 0, 0)] (18, 20, 93, 1, 6, [(0, 93)]) ls st h := ai_blk_go S 100 19 ls st h
theorem k_100_20 (S : ai_S) (ls st : List Value) (h : ai_H) : ai_res S 100 20 ls st h = ai_go S 100 [] (3, 22, 21, 0, 0, []) ls st h := ai_blk_go S 100 20 ls st h
theorem k_100_21 (S : ai_S) (ls st : List Value) (h : ai_H) : ai_res S 100 21 ls st h = ai_go S 100 [(1, 0, 0, 0, (-10)), (5, 0, 0, 0, 0), (23, 6, 8, 90, 0), (11, 0, 0, 0, 0)] (23, 0, 0, 0, 0, []) ls st h := ai_blk_go S 100 21 ls st h
theorem k_100_22 (S : ai_S) (ls st : List Value) (h : ai_H) : ai_res S 100 22 ls st h = ai_go S 100 [(5, 0, 0, 0, 0)] (18, 23, 101, 1, 6, [(0, 56)]) ls st h := ai_blk_go S 100 22 ls st h
theorem k_100_23 (S : ai_S) (ls st : List Value) (h : ai_H) : ai_res S 100 23 ls st h = ai_go S 100 [(3, 1, 0, 0, 0)] (23, 0, 0, 0, 0, []) ls st h := ai_blk_go S 100 23 ls st h
theorem e_100 (S : ai_S) (q0 : Nat) (h : ai_H) : ai_call S 100 [.ref q0] h = ai_res S 100 0 [.ref q0, ai_u, ai_u] [] h := rfl
theorem k_101_0 (S : ai_S) (ls st : List Value) (h : ai_H) : ai_res S 101 0 ls st h = ai_go S 101 [(0, 0, 0, 0, 0), (6, 1, 0, 0, 0)] (0, 1, 0, 0, 0, []) ls st h := ai_blk_go S 101 0 ls st h
theorem k_101_1 (S : ai_S) (ls st : List Value) (h : ai_H) : ai_res S 101 1 ls st h = ai_go S 101 [(3, 1, 0, 0, 0), (0, 0, 0, 0, 4)] (11, 3, 2, 0, 0, []) ls st h := ai_blk_go S 101 1 ls st h
theorem k_101_2 (S : ai_S) (ls st : List Value) (h : ai_H) : ai_res S 101 2 ls st h = ai_go S 101 [(5, 0, 0, 0, 0), (23, 6, 10, 13, 0), (3, 1, 0, 0, 0), (5, 0, 0, 0, 0), (23, 6, 10, 13, 0), (0, 0, 0, 0, 4), (3, 1, 0, 0, 0), (10, 0, 0, 0, 0), (29, 0, 0, 0, 0), (30, 0, 0, 0, 0), (9, 1, 0, 0, 1)] (1, 1, 0, 0, 0, []) ls st h := ai_blk_go S 101 2 ls st h
theorem k_101_3 (S : ai_S) (ls st : List Value) (h : ai_H) : ai_res S 101 3 ls st h = ai_go S 101 [(0, 0, 0, 0, 0), (6, 1, 0, 0, 0)] (0, 4, 0, 0, 0, []) ls st h := ai_blk_go S 101 3 ls st h
theorem k_101_4 (S : ai_S) (ls st : List Value) (h : ai_H) : ai_res S 101 4 ls st h = ai_go S 101 [(3, 1, 0, 0, 0), (1, 0, 0, 0, 6)] (11, 6, 5, 0, 0, []) ls st h := ai_blk_go S 101 4 ls st h
theorem k_101_5 (S : ai_S) (ls st : List Value) (h : ai_H) : ai_res S 101 5 ls st h = ai_go S 101 [(5, 0, 0, 0, 0), (23, 6, 11, 16, 0), (3, 1, 0, 0, 0), (5, 0, 0, 0, 0), (23, 6, 11, 16, 0), (1, 0, 0, 0, 6), (3, 1, 0, 0, 0), (10, 0, 0, 0, 0), (29, 0, 0, 0, 0), (30, 0, 0, 0, 0), (5, 0, 0, 0, 0), (23, 6, 12, 19, 0), (3, 1, 0, 0, 0), (5, 0, 0, 0, 0), (23, 6, 12, 19, 0), (1, 0, 0, 0, 6), (3, 1, 0, 0, 0), (10, 0, 0, 0, 0), (29, 0, 0, 0, 0), (30, 0, 0, 0, 0), (5, 0, 0, 0, 0), (23, 6, 13, 22, 0), (3, 1, 0, 0, 0), (5, 0, 0, 0, 0), (23, 6, 13, 22, 0), (1, 0, 0, 0, 6), (3, 1, 0, 0, 0), (10, 0, 0, 0, 0), (29, 0, 0, 0, 0), (30, 0, 0, 0, 0), (5, 0, 0, 0, 0), (23, 6, 14, 25, 0), (3, 1, 0, 0, 0), (5, 0, 0, 0, 0), (23, 6, 14, 25, 0), (1, 0, 0, 0, 6), (3, 1, 0, 0, 0), (10, 0, 0, 0, 0), (29, 0, 0, 0, 0), (30, 0, 0, 0, 0), (9, 1, 0, 0, 1)] (1, 4, 0, 0, 0, []) ls st h := ai_blk_go S 101 5 ls st h
theorem k_101_6 (S : ai_S) (ls st : List Value) (h : ai_H) : ai_res S 101 6 ls st h = ai_go S 101 [(0, 0, 0, 0, 0), (6, 1, 0, 0, 0)] (0, 7, 0, 0, 0, []) ls st h := ai_blk_go S 101 6 ls st h
theorem k_101_7 (S : ai_S) (ls st : List Value) (h : ai_H) : ai_res S 101 7 ls st h = ai_go S 101 [(3, 1, 0, 0, 0), (1, 0, 0, 0, 18)] (11, 9, 8, 0, 0, []) ls st h := ai_blk_go S 101 7 ls st h
theorem k_101_8 (S : ai_S) (ls st : List Value) (h : ai_H) : ai_res S 101 8 ls st h = ai_go S 101 [(5, 0, 0, 0, 0), (23, 6, 15, 28, 0), (3, 1, 0, 0, 0), (0, 0, 0, 0, 0), (30, 0, 0, 0, 0), (9, 1, 0, 0, 1)] (1, 7, 0, 0, 0, []) ls st h := ai_blk_go S 101 8 ls st h
theorem k_101_9 (S : ai_S) (ls st : List Value) (h : ai_H) : ai_res S 101 9 ls st h = ai_go S 101 [(5, 0, 0, 0, 0), (23, 6, 15, 28, 0), (1, 0, 0, 0, 16), (5, 0, 0, 0, 0), (23, 6, 10, 13, 0), (0, 0, 0, 0, 2), (29, 0, 0, 0, 0), (30, 0, 0, 0, 0), (5, 0, 0, 0, 0), (0, 0, 0, 0, 0), (24, 6, 3, 67, 0), (5, 0, 0, 0, 0), (0, 0, 0, 0, 0), (24, 6, 23, 121, 0), (5, 0, 0, 0, 0), (0, 0, 0, 0, 0), (24, 6, 19, 124, 0), (5, 0, 0, 0, 0), (23, 6, 17, 34, 0), (0, 0, 0, 0, 0), (0, 0, 0, 0, 0), (32, 0, 0, 0, 0), (5, 0, 0, 0, 0), (23, 6, 17, 34, 0), (0, 0, 0, 0, 1), (0, 0, 0, 0, 0), (32, 0, 0, 0, 0)] (27, 0, 0, 0, 0, []) ls st h := ai_blk_go S 101 9 ls st h
theorem e_101 (S : ai_S) (q0 : Nat) (h : ai_H) : ai_call S 101 [.ref q0] h = ai_res S 101 0 [.ref q0, ai_u] [] h := rfl
theorem k_102_0 (S : ai_S) (ls st : List Value) (h : ai_H) : ai_res S 102 0 ls st h = ai_go S 102 [(3, 1, 0, 0, 0), (0, 0, 0, 0, 0), (5, 0, 0, 0, 0), (23, 6, 10, 13, 0), (0, 0, 0, 0, 0), (29, 0, 0, 0, 0), (0, 0, 0, 0, 1), (11, 0, 0, 0, 0)] (19, 1, 85, 3, 0, [(0, 63)]) ls st h := ai_blk_go S 102 0 ls st h
theorem k_102_1 (S : ai_S) (ls st : List Value) (h : ai_H) : ai_res S 102 1 ls st h = ai_go S 102 [] (24, 0, 0, 0, 0, []) ls st h := ai_blk_go S 102 1 ls st h
theorem e_102 (S : ai_S) (q0 : Nat) (a0 : Int32) (h : ai_H) : ai_call S 102 [.ref q0, .int a0] h = ai_res S 102 0 [.ref q0, .int a0] [] h := rfl
theorem k_103_0 (S : ai_S) (ls st : List Value) (h : ai_H) : ai_res S 103 0 ls st h = ai_go S 103 [(3, 1, 0, 0, 0), (6, 2, 0, 0, 0), (0, 0, 0, 0, 1), (6, 3, 0, 0, 0)] (0, 1, 0, 0, 0, []) ls st h := ai_blk_go S 103 0 ls st h
theorem k_103_1 (S : ai_S) (ls st : List Value) (h : ai_H) : ai_res S 103 1 ls st h = ai_go S 103 [(3, 3, 0, 0, 0), (1, 0, 0, 0, 6)] (12, 8, 2, 0, 0, []) ls st h := ai_blk_go S 103 1 ls st h
theorem k_103_2 (S : ai_S) (ls st : List Value) (h : ai_H) : ai_res S 103 2 ls st h = ai_go S 103 [(5, 0, 0, 0, 0), (23, 6, 14, 25, 0), (3, 2, 0, 0, 0), (29, 0, 0, 0, 0), (6, 2, 0, 0, 0), (5, 0, 0, 0, 0), (3, 2, 0, 0, 0)] (18, 3, 102, 2, 6, [(0, 127)]) ls st h := ai_blk_go S 103 2 ls st h
theorem k_103_3 (S : ai_S) (ls st : List Value) (h : ai_H) : ai_res S 103 3 ls st h = ai_go S 103 [] (3, 5, 4, 0, 0, []) ls st h := ai_blk_go S 103 3 ls st h
theorem k_103_4 (S : ai_S) (ls st : List Value) (h : ai_H) : ai_res S 103 4 ls st h = ai_go S 103 [(0, 0, 0, 0, 0)] (23, 0, 0, 0, 0, []) ls st h := ai_blk_go S 103 4 ls st h
theorem k_103_5 (S : ai_S) (ls st : List Value) (h : ai_H) : ai_res S 103 5 ls st h = ai_go S 103 [(3, 2, 0, 0, 0), (3, 1, 0, 0, 0)] (9, 7, 6, 0, 0, []) ls st h := ai_blk_go S 103 5 ls st h
theorem k_103_6 (S : ai_S) (ls st : List Value) (h : ai_H) : ai_res S 103 6 ls st h = ai_go S 103 [(3, 3, 0, 0, 0)] (23, 0, 0, 0, 0, []) ls st h := ai_blk_go S 103 6 ls st h
theorem k_103_7 (S : ai_S) (ls st : List Value) (h : ai_H) : ai_res S 103 7 ls st h = ai_go S 103 [(9, 3, 0, 0, 1)] (1, 1, 0, 0, 0, []) ls st h := ai_blk_go S 103 7 ls st h
theorem k_103_8 (S : ai_S) (ls st : List Value) (h : ai_H) : ai_res S 103 8 ls st h = ai_go S 103 [(0, 0, 0, 0, 0)] (23, 0, 0, 0, 0, []) ls st h := ai_blk_go S 103 8 ls st h
theorem e_103 (S : ai_S) (q0 : Nat) (a0 : Int32) (h : ai_H) : ai_call S 103 [.ref q0, .int a0] h = ai_res S 103 0 [.ref q0, .int a0, ai_u, ai_u] [] h := rfl
theorem k_104_0 (S : ai_S) (ls st : List Value) (h : ai_H) : ai_res S 104 0 ls st h = ai_go S 104 [(5, 0, 0, 0, 0), (0, 0, 0, 0, 0), (24, 6, 0, 59, 0), (5, 0, 0, 0, 0), (3, 1, 0, 0, 0)] (18, 1, 102, 2, 6, [(0, 127)]) ls st h := ai_blk_go S 104 0 ls st h
theorem k_104_1 (S : ai_S) (ls st : List Value) (h : ai_H) : ai_res S 104 1 ls st h = ai_go S 104 [] (2, 4, 2, 0, 0, []) ls st h := ai_blk_go S 104 1 ls st h
theorem k_104_2 (S : ai_S) (ls st : List Value) (h : ai_H) : ai_res S 104 2 ls st h = ai_go S 104 [(3, 2, 0, 0, 0), (0, 0, 0, 0, 0), (1, 0, 0, 0, 8)] (19, 3, 85, 3, 0, [(0, 63)]) ls st h := ai_blk_go S 104 2 ls st h
theorem k_104_3 (S : ai_S) (ls st : List Value) (h : ai_H) : ai_res S 104 3 ls st h = ai_go S 104 [] (3, 5, 4, 0, 0, []) ls st h := ai_blk_go S 104 3 ls st h
theorem k_104_4 (S : ai_S) (ls st : List Value) (h : ai_H) : ai_res S 104 4 ls st h = ai_go S 104 [(0, 0, 0, 0, (-1))] (23, 0, 0, 0, 0, []) ls st h := ai_blk_go S 104 4 ls st h
theorem k_104_5 (S : ai_S) (ls st : List Value) (h : ai_H) : ai_res S 104 5 ls st h = ai_go S 104 [(3, 2, 0, 0, 0), (0, 0, 0, 0, 4)] (11, 14, 6, 0, 0, []) ls st h := ai_blk_go S 104 5 ls st h
theorem k_104_6 (S : ai_S) (ls st : List Value) (h : ai_H) : ai_res S 104 6 ls st h = ai_go S 104 [(3, 2, 0, 0, 0)] (3, 8, 7, 0, 0, []) ls st h := ai_blk_go S 104 6 ls st h
theorem k_104_7 (S : ai_S) (ls st : List Value) (h : ai_H) : ai_res S 104 7 ls st h = ai_go S 104 [(5, 0, 0, 0, 0), (23, 6, 11, 16, 0), (3, 1, 0, 0, 0), (29, 0, 0, 0, 0)] (1, 13, 0, 0, 0, []) ls st h := ai_blk_go S 104 7 ls st h
theorem k_104_8 (S : ai_S) (ls st : List Value) (h : ai_H) : ai_res S 104 8 ls st h = ai_go S 104 [(3, 2, 0, 0, 0), (0, 0, 0, 0, 1)] (9, 10, 9, 0, 0, []) ls st h := ai_blk_go S 104 8 ls st h
theorem k_104_9 (S : ai_S) (ls st : List Value) (h : ai_H) : ai_res S 104 9 ls st h = ai_go S 104 [(5, 0, 0, 0, 0), (23, 6, 12, 19, 0), (3, 1, 0, 0, 0), (29, 0, 0, 0, 0)] (1, 13, 0, 0, 0, []) ls st h := ai_blk_go S 104 9 ls st h
theorem k_104_10 (S : ai_S) (ls st : List Value) (h : ai_H) : ai_res S 104 10 ls st h = ai_go S 104 [(3, 2, 0, 0, 0), (0, 0, 0, 0, 2)] (9, 12, 11, 0, 0, []) ls st h := ai_blk_go S 104 10 ls st h
theorem k_104_11 (S : ai_S) (ls st : List Value) (h : ai_H) : ai_res S 104 11 ls st h = ai_go S 104 [(5, 0, 0, 0, 0), (23, 6, 13, 22, 0), (3, 1, 0, 0, 0), (29, 0, 0, 0, 0)] (1, 13, 0, 0, 0, []) ls st h := ai_blk_go S 104 11 ls st h
theorem k_104_12 (S : ai_S) (ls st : List Value) (h : ai_H) : ai_res S 104 12 ls st h = ai_go S 104 [(5, 0, 0, 0, 0), (23, 6, 14, 25, 0), (3, 1, 0, 0, 0), (29, 0, 0, 0, 0)] (0, 13, 0, 0, 0, []) ls st h := ai_blk_go S 104 12 ls st h
theorem k_104_13 (S : ai_S) (ls st : List Value) (h : ai_H) : ai_res S 104 13 ls st h = ai_go S 104 [] (23, 0, 0, 0, 0, []) ls st h := ai_blk_go S 104 13 ls st h
theorem k_104_14 (S : ai_S) (ls st : List Value) (h : ai_H) : ai_res S 104 14 ls st h = ai_go S 104 [(3, 2, 0, 0, 0), (1, 0, 0, 0, 6)] (11, 19, 15, 0, 0, []) ls st h := ai_blk_go S 104 14 ls st h
theorem k_104_15 (S : ai_S) (ls st : List Value) (h : ai_H) : ai_res S 104 15 ls st h = ai_go S 104 [(3, 2, 0, 0, 0), (0, 0, 0, 0, 4)] (9, 17, 16, 0, 0, []) ls st h := ai_blk_go S 104 15 ls st h
theorem k_104_16 (S : ai_S) (ls st : List Value) (h : ai_H) : ai_res S 104 16 ls st h = ai_go S 104 [(5, 0, 0, 0, 0), (23, 6, 15, 28, 0), (0, 0, 0, 0, 0), (3, 1, 0, 0, 0), (10, 0, 0, 0, 0), (29, 0, 0, 0, 0)] (1, 18, 0, 0, 0, []) ls st h := ai_blk_go S 104 16 ls st h
theorem k_104_17 (S : ai_S) (ls st : List Value) (h : ai_H) : ai_res S 104 17 ls st h = ai_go S 104 [(5, 0, 0, 0, 0), (23, 6, 15, 28, 0), (1, 0, 0, 0, 6), (3, 1, 0, 0, 0), (10, 0, 0, 0, 0), (29, 0, 0, 0, 0)] (0, 18, 0, 0, 0, []) ls st h := ai_blk_go S 104 17 ls st h
theorem k_104_18 (S : ai_S) (ls st : List Value) (h : ai_H) : ai_res S 104 18 ls st h = ai_go S 104 [] (23, 0, 0, 0, 0, []) ls st h := ai_blk_go S 104 18 ls st h
theorem k_104_19 (S : ai_S) (ls st : List Value) (h : ai_H) : ai_res S 104 19 ls st h = ai_go S 104 [(3, 2, 0, 0, 0), (1, 0, 0, 0, 6)] (9, 21, 20, 0, 0, []) ls st h := ai_blk_go S 104 19 ls st h
theorem k_104_20 (S : ai_S) (ls st : List Value) (h : ai_H) : ai_res S 104 20 ls st h = ai_go S 104 [(5, 0, 0, 0, 0), (23, 6, 15, 28, 0), (1, 0, 0, 0, 12), (29, 0, 0, 0, 0), (3, 1, 0, 0, 0), (16, 0, 0, 0, 0), (0, 0, 0, 0, 1), (13, 0, 0, 0, 0)] (1, 24, 0, 0, 0, []) ls st h := ai_blk_go S 104 20 ls st h
theorem k_104_21 (S : ai_S) (ls st : List Value) (h : ai_H) : ai_res S 104 21 ls st h = ai_go S 104 [(3, 2, 0, 0, 0), (1, 0, 0, 0, 7)] (9, 23, 22, 0, 0, []) ls st h := ai_blk_go S 104 21 ls st h
theorem k_104_22 (S : ai_S) (ls st : List Value) (h : ai_H) : ai_res S 104 22 ls st h = ai_go S 104 [(5, 0, 0, 0, 0), (23, 6, 15, 28, 0), (1, 0, 0, 0, 13), (29, 0, 0, 0, 0), (3, 1, 0, 0, 0), (16, 0, 0, 0, 0), (0, 0, 0, 0, 1), (13, 0, 0, 0, 0)] (1, 24, 0, 0, 0, []) ls st h := ai_blk_go S 104 22 ls st h
theorem k_104_23 (S : ai_S) (ls st : List Value) (h : ai_H) : ai_res S 104 23 ls st h = ai_go S 104 [(5, 0, 0, 0, 0), (3, 1, 0, 0, 0)] (18, 24, 103, 2, 6, [(0, 130)]) ls st h := ai_blk_go S 104 23 ls st h
theorem k_104_24 (S : ai_S) (ls st : List Value) (h : ai_H) : ai_res S 104 24 ls st h = ai_go S 104 [] (23, 0, 0, 0, 0, []) ls st h := ai_blk_go S 104 24 ls st h
theorem e_104 (S : ai_S) (q0 : Nat) (a0 : Int32) (a1 : Int32) (h : ai_H) : ai_call S 104 [.ref q0, .int a0, .int a1] h = ai_res S 104 0 [.ref q0, .int a0, .int a1] [] h := rfl
theorem k_105_0 (S : ai_S) (ls st : List Value) (h : ai_H) : ai_res S 105 0 ls st h = ai_go S 105 [(0, 0, 0, 0, 0), (6, 2, 0, 0, 0), (0, 0, 0, 0, 0), (6, 3, 0, 0, 0)] (0, 1, 0, 0, 0, []) ls st h := ai_blk_go S 105 0 ls st h
theorem k_105_1 (S : ai_S) (ls st : List Value) (h : ai_H) : ai_res S 105 1 ls st h = ai_go S 105 [(3, 3, 0, 0, 0), (5, 0, 0, 0, 0), (23, 6, 10, 13, 0), (0, 0, 0, 0, 0), (29, 0, 0, 0, 0)] (11, 7, 2, 0, 0, []) ls st h := ai_blk_go S 105 1 ls st h
theorem k_105_2 (S : ai_S) (ls st : List Value) (h : ai_H) : ai_res S 105 2 ls st h = ai_go S 105 [(3, 2, 0, 0, 0), (3, 1, 0, 0, 0), (3, 3, 0, 0, 0)] (19, 3, 86, 2, 0, [(0, 133)]) ls st h := ai_blk_go S 105 2 ls st h
theorem k_105_3 (S : ai_S) (ls st : List Value) (h : ai_H) : ai_res S 105 3 ls st h = ai_go S 105 [] (2, 5, 4, 0, 0, []) ls st h := ai_blk_go S 105 3 ls st h
theorem k_105_4 (S : ai_S) (ls st : List Value) (h : ai_H) : ai_res S 105 4 ls st h = ai_go S 105 [(5, 0, 0, 0, 0), (23, 6, 13, 22, 0), (3, 3, 0, 0, 0), (29, 0, 0, 0, 0)] (1, 6, 0, 0, 0, []) ls st h := ai_blk_go S 105 4 ls st h
theorem k_105_5 (S : ai_S) (ls st : List Value) (h : ai_H) : ai_res S 105 5 ls st h = ai_go S 105 [(0, 0, 0, 0, 0)] (0, 6, 0, 0, 0, []) ls st h := ai_blk_go S 105 5 ls st h
theorem k_105_6 (S : ai_S) (ls st : List Value) (h : ai_H) : ai_res S 105 6 ls st h = ai_go S 105 [(10, 0, 0, 0, 0), (6, 2, 0, 0, 0), (9, 3, 0, 0, 1)] (1, 1, 0, 0, 0, []) ls st h := ai_blk_go S 105 6 ls st h
theorem k_105_7 (S : ai_S) (ls st : List Value) (h : ai_H) : ai_res S 105 7 ls st h = ai_go S 105 [(3, 2, 0, 0, 0)] (23, 0, 0, 0, 0, []) ls st h := ai_blk_go S 105 7 ls st h
theorem e_105 (S : ai_S) (q0 : Nat) (a0 : Int32) (h : ai_H) : ai_call S 105 [.ref q0, .int a0] h = ai_res S 105 0 [.ref q0, .int a0, ai_u, ai_u] [] h := rfl
theorem k_106_0 (S : ai_S) (ls st : List Value) (h : ai_H) : ai_res S 106 0 ls st h = ai_go S 106 [(0, 0, 0, 0, 0), (6, 1, 0, 0, 0), (0, 0, 0, 0, 0), (6, 2, 0, 0, 0)] (0, 1, 0, 0, 0, []) ls st h := ai_blk_go S 106 0 ls st h
theorem k_106_1 (S : ai_S) (ls st : List Value) (h : ai_H) : ai_res S 106 1 ls st h = ai_go S 106 [(3, 2, 0, 0, 0), (5, 0, 0, 0, 0), (23, 6, 10, 13, 0), (0, 0, 0, 0, 0), (29, 0, 0, 0, 0)] (11, 7, 2, 0, 0, []) ls st h := ai_blk_go S 106 1 ls st h
theorem k_106_2 (S : ai_S) (ls st : List Value) (h : ai_H) : ai_res S 106 2 ls st h = ai_go S 106 [(3, 1, 0, 0, 0), (5, 0, 0, 0, 0), (3, 2, 0, 0, 0)] (18, 3, 103, 2, 6, [(0, 130)]) ls st h := ai_blk_go S 106 2 ls st h
theorem k_106_3 (S : ai_S) (ls st : List Value) (h : ai_H) : ai_res S 106 3 ls st h = ai_go S 106 [] (7, 5, 4, 0, 0, []) ls st h := ai_blk_go S 106 3 ls st h
theorem k_106_4 (S : ai_S) (ls st : List Value) (h : ai_H) : ai_res S 106 4 ls st h = ai_go S 106 [(0, 0, 0, 0, 1), (3, 2, 0, 0, 0), (15, 0, 0, 0, 0)] (1, 6, 0, 0, 0, []) ls st h := ai_blk_go S 106 4 ls st h
theorem k_106_5 (S : ai_S) (ls st : List Value) (h : ai_H) : ai_res S 106 5 ls st h = ai_go S 106 [(0, 0, 0, 0, 0)] (0, 6, 0, 0, 0, []) ls st h := ai_blk_go S 106 5 ls st h
theorem k_106_6 (S : ai_S) (ls st : List Value) (h : ai_H) : ai_res S 106 6 ls st h = ai_go S 106 [(14, 0, 0, 0, 0), (6, 1, 0, 0, 0), (9, 2, 0, 0, 1)] (1, 1, 0, 0, 0, []) ls st h := ai_blk_go S 106 6 ls st h
theorem k_106_7 (S : ai_S) (ls st : List Value) (h : ai_H) : ai_res S 106 7 ls st h = ai_go S 106 [(3, 1, 0, 0, 0)] (23, 0, 0, 0, 0, []) ls st h := ai_blk_go S 106 7 ls st h
theorem e_106 (S : ai_S) (q0 : Nat) (h : ai_H) : ai_call S 106 [.ref q0] h = ai_res S 106 0 [.ref q0, ai_u, ai_u] [] h := rfl
theorem k_107_0 (S : ai_S) (ls st : List Value) (h : ai_H) : ai_res S 107 0 ls st h = ai_go S 107 [(5, 0, 0, 0, 0), (0, 0, 0, 0, 0), (24, 6, 0, 59, 0), (3, 1, 0, 0, 0), (0, 0, 0, 0, 0), (1, 0, 0, 0, 6)] (19, 1, 85, 3, 0, [(0, 63)]) ls st h := ai_blk_go S 107 0 ls st h
theorem k_107_1 (S : ai_S) (ls st : List Value) (h : ai_H) : ai_res S 107 1 ls st h = ai_go S 107 [] (3, 3, 2, 0, 0, []) ls st h := ai_blk_go S 107 1 ls st h
theorem k_107_2 (S : ai_S) (ls st : List Value) (h : ai_H) : ai_res S 107 2 ls st h = ai_go S 107 [(0, 0, 0, 0, (-1))] (23, 0, 0, 0, 0, []) ls st h := ai_blk_go S 107 2 ls st h
theorem k_107_3 (S : ai_S) (ls st : List Value) (h : ai_H) : ai_res S 107 3 ls st h = ai_go S 107 [(3, 1, 0, 0, 0), (0, 0, 0, 0, 3)] (11, 10, 4, 0, 0, []) ls st h := ai_blk_go S 107 3 ls st h
theorem k_107_4 (S : ai_S) (ls st : List Value) (h : ai_H) : ai_res S 107 4 ls st h = ai_go S 107 [(3, 1, 0, 0, 0)] (3, 6, 5, 0, 0, []) ls st h := ai_blk_go S 107 4 ls st h
theorem k_107_5 (S : ai_S) (ls st : List Value) (h : ai_H) : ai_res S 107 5 ls st h = ai_go S 107 [(5, 0, 0, 0, 0), (23, 6, 15, 28, 0), (1, 0, 0, 0, 16), (29, 0, 0, 0, 0)] (1, 9, 0, 0, 0, []) ls st h := ai_blk_go S 107 5 ls st h
theorem k_107_6 (S : ai_S) (ls st : List Value) (h : ai_H) : ai_res S 107 6 ls st h = ai_go S 107 [(3, 1, 0, 0, 0), (0, 0, 0, 0, 1)] (9, 8, 7, 0, 0, []) ls st h := ai_blk_go S 107 6 ls st h
theorem k_107_7 (S : ai_S) (ls st : List Value) (h : ai_H) : ai_res S 107 7 ls st h = ai_go S 107 [(5, 0, 0, 0, 0), (23, 6, 15, 28, 0), (1, 0, 0, 0, 14), (29, 0, 0, 0, 0)] (1, 9, 0, 0, 0, []) ls st h := ai_blk_go S 107 7 ls st h
theorem k_107_8 (S : ai_S) (ls st : List Value) (h : ai_H) : ai_res S 107 8 ls st h = ai_go S 107 [(5, 0, 0, 0, 0), (23, 6, 15, 28, 0), (1, 0, 0, 0, 15), (29, 0, 0, 0, 0)] (0, 9, 0, 0, 0, []) ls st h := ai_blk_go S 107 8 ls st h
theorem k_107_9 (S : ai_S) (ls st : List Value) (h : ai_H) : ai_res S 107 9 ls st h = ai_go S 107 [] (23, 0, 0, 0, 0, []) ls st h := ai_blk_go S 107 9 ls st h
theorem k_107_10 (S : ai_S) (ls st : List Value) (h : ai_H) : ai_res S 107 10 ls st h = ai_go S 107 [(3, 1, 0, 0, 0), (0, 0, 0, 0, 3)] (9, 15, 11, 0, 0, []) ls st h := ai_blk_go S 107 10 ls st h
theorem k_107_11 (S : ai_S) (ls st : List Value) (h : ai_H) : ai_res S 107 11 ls st h = ai_go S 107 [(5, 0, 0, 0, 0), (23, 6, 15, 28, 0), (1, 0, 0, 0, 17), (29, 0, 0, 0, 0)] (3, 13, 12, 0, 0, []) ls st h := ai_blk_go S 107 11 ls st h
theorem k_107_12 (S : ai_S) (ls st : List Value) (h : ai_H) : ai_res S 107 12 ls st h = ai_go S 107 [(1, 0, 0, 0, (-9))] (1, 14, 0, 0, 0, []) ls st h := ai_blk_go S 107 12 ls st h
theorem k_107_13 (S : ai_S) (ls st : List Value) (h : ai_H) : ai_res S 107 13 ls st h = ai_go S 107 [(5, 0, 0, 0, 0), (23, 6, 15, 28, 0), (1, 0, 0, 0, 17), (29, 0, 0, 0, 0), (0, 0, 0, 0, 1), (11, 0, 0, 0, 0)] (0, 14, 0, 0, 0, []) ls st h := ai_blk_go S 107 13 ls st h
theorem k_107_14 (S : ai_S) (ls st : List Value) (h : ai_H) : ai_res S 107 14 ls st h = ai_go S 107 [] (23, 0, 0, 0, 0, []) ls st h := ai_blk_go S 107 14 ls st h
theorem k_107_15 (S : ai_S) (ls st : List Value) (h : ai_H) : ai_res S 107 15 ls st h = ai_go S 107 [(3, 1, 0, 0, 0), (0, 0, 0, 0, 4)] (9, 18, 16, 0, 0, []) ls st h := ai_blk_go S 107 15 ls st h
theorem k_107_16 (S : ai_S) (ls st : List Value) (h : ai_H) : ai_res S 107 16 ls st h = ai_go S 107 [(5, 0, 0, 0, 0), (5, 0, 0, 0, 0), (23, 6, 15, 28, 0), (1, 0, 0, 0, 12), (29, 0, 0, 0, 0)] (18, 17, 105, 2, 6, [(0, 137)]) ls st h := ai_blk_go S 107 16 ls st h
theorem k_107_17 (S : ai_S) (ls st : List Value) (h : ai_H) : ai_res S 107 17 ls st h = ai_go S 107 [] (1, 22, 0, 0, 0, []) ls st h := ai_blk_go S 107 17 ls st h
theorem k_107_18 (S : ai_S) (ls st : List Value) (h : ai_H) : ai_res S 107 18 ls st h = ai_go S 107 [(3, 1, 0, 0, 0), (0, 0, 0, 0, 5)] (9, 21, 19, 0, 0, []) ls st h := ai_blk_go S 107 18 ls st h
theorem k_107_19 (S : ai_S) (ls st : List Value) (h : ai_H) : ai_res S 107 19 ls st h = ai_go S 107 [(5, 0, 0, 0, 0)] (18, 20, 106, 1, 6, [(0, 140)]) ls st h := ai_blk_go S 107 19 ls st h
theorem k_107_20 (S : ai_S) (ls st : List Value) (h : ai_H) : ai_res S 107 20 ls st h = ai_go S 107 [] (1, 22, 0, 0, 0, []) ls st h := ai_blk_go S 107 20 ls st h
theorem k_107_21 (S : ai_S) (ls st : List Value) (h : ai_H) : ai_res S 107 21 ls st h = ai_go S 107 [(5, 0, 0, 0, 0), (23, 6, 19, 124, 0)] (0, 22, 0, 0, 0, []) ls st h := ai_blk_go S 107 21 ls st h
theorem k_107_22 (S : ai_S) (ls st : List Value) (h : ai_H) : ai_res S 107 22 ls st h = ai_go S 107 [] (23, 0, 0, 0, 0, []) ls st h := ai_blk_go S 107 22 ls st h
theorem e_107 (S : ai_S) (q0 : Nat) (a0 : Int32) (h : ai_H) : ai_call S 107 [.ref q0, .int a0] h = ai_res S 107 0 [.ref q0, .int a0] [] h := rfl
theorem k_108_0 (S : ai_S) (ls st : List Value) (h : ai_H) : ai_res S 108 0 ls st h = ai_go S 108 [(5, 0, 0, 0, 0), (23, 6, 19, 124, 0), (1, 0, 0, 0, 10)] (9, 5, 1, 0, 0, []) ls st h := ai_blk_go S 108 0 ls st h
theorem k_108_1 (S : ai_S) (ls st : List Value) (h : ai_H) : ai_res S 108 1 ls st h = ai_go S 108 [(0, 0, 0, 0, 0), (6, 1, 0, 0, 0)] (0, 2, 0, 0, 0, []) ls st h := ai_blk_go S 108 1 ls st h
theorem k_108_2 (S : ai_S) (ls st : List Value) (h : ai_H) : ai_res S 108 2 ls st h = ai_go S 108 [(3, 1, 0, 0, 0), (2, 0, 0, 0, 162)] (11, 4, 3, 0, 0, []) ls st h := ai_blk_go S 108 2 ls st h
theorem k_108_3 (S : ai_S) (ls st : List Value) (h : ai_H) : ai_res S 108 3 ls st h = ai_go S 108 [(5, 0, 0, 0, 0), (23, 6, 18, 38, 0), (3, 1, 0, 0, 0), (5, 0, 0, 0, 0), (23, 6, 18, 38, 0), (3, 1, 0, 0, 0), (1, 0, 0, 0, 18), (10, 0, 0, 0, 0), (29, 0, 0, 0, 0), (30, 0, 0, 0, 0), (9, 1, 0, 0, 1)] (1, 2, 0, 0, 0, []) ls st h := ai_blk_go S 108 3 ls st h
theorem k_108_4 (S : ai_S) (ls st : List Value) (h : ai_H) : ai_res S 108 4 ls st h = ai_go S 108 [(5, 0, 0, 0, 0), (1, 0, 0, 0, 9), (24, 6, 19, 124, 0)] (0, 5, 0, 0, 0, []) ls st h := ai_blk_go S 108 4 ls st h
theorem k_108_5 (S : ai_S) (ls st : List Value) (h : ai_H) : ai_res S 108 5 ls st h = ai_go S 108 [(0, 0, 0, 0, 0), (6, 1, 0, 0, 0)] (0, 6, 0, 0, 0, []) ls st h := ai_blk_go S 108 5 ls st h
theorem k_108_6 (S : ai_S) (ls st : List Value) (h : ai_H) : ai_res S 108 6 ls st h = ai_go S 108 [(3, 1, 0, 0, 0), (1, 0, 0, 0, 18)] (11, 8, 7, 0, 0, []) ls st h := ai_blk_go S 108 6 ls st h
theorem k_108_7 (S : ai_S) (ls st : List Value) (h : ai_H) : ai_res S 108 7 ls st h = ai_go S 108 [(5, 0, 0, 0, 0), (23, 6, 18, 38, 0), (1, 0, 0, 0, 18), (5, 0, 0, 0, 0), (23, 6, 19, 124, 0), (12, 0, 0, 0, 0), (3, 1, 0, 0, 0), (10, 0, 0, 0, 0), (5, 0, 0, 0, 0), (23, 6, 15, 28, 0), (3, 1, 0, 0, 0), (29, 0, 0, 0, 0), (30, 0, 0, 0, 0), (9, 1, 0, 0, 1)] (1, 6, 0, 0, 0, []) ls st h := ai_blk_go S 108 7 ls st h
theorem k_108_8 (S : ai_S) (ls st : List Value) (h : ai_H) : ai_res S 108 8 ls st h = ai_go S 108 [(5, 0, 0, 0, 0), (20, 0, 0, 0, 0), (23, 6, 19, 124, 0), (0, 0, 0, 0, 1), (10, 0, 0, 0, 0), (24, 6, 19, 124, 0)] (27, 0, 0, 0, 0, []) ls st h := ai_blk_go S 108 8 ls st h
theorem e_108 (S : ai_S) (q0 : Nat) (h : ai_H) : ai_call S 108 [.ref q0] h = ai_res S 108 0 [.ref q0, ai_u] [] h := rfl
theorem k_109_0 (S : ai_S) (ls st : List Value) (h : ai_H) : ai_res S 109 0 ls st h = ai_go S 109 [(5, 0, 0, 0, 0), (20, 0, 0, 0, 0), (23, 6, 24, 144, 0), (3, 2, 0, 0, 0)] (3, 2, 1, 0, 0, []) ls st h := ai_blk_go S 109 0 ls st h
theorem k_109_1 (S : ai_S) (ls st : List Value) (h : ai_H) : ai_res S 109 1 ls st h = ai_go S 109 [(3, 3, 0, 0, 0)] (1, 3, 0, 0, 0, []) ls st h := ai_blk_go S 109 1 ls st h
theorem k_109_2 (S : ai_S) (ls st : List Value) (h : ai_H) : ai_res S 109 2 ls st h = ai_go S 109 [(0, 0, 0, 0, 0)] (0, 3, 0, 0, 0, []) ls st h := ai_blk_go S 109 2 ls st h
theorem k_109_3 (S : ai_S) (ls st : List Value) (h : ai_H) : ai_res S 109 3 ls st h = ai_go S 109 [(10, 0, 0, 0, 0), (24, 6, 24, 144, 0), (5, 0, 0, 0, 0), (20, 0, 0, 0, 0), (23, 6, 25, 147, 0), (3, 2, 0, 0, 0)] (3, 5, 4, 0, 0, []) ls st h := ai_blk_go S 109 3 ls st h
theorem k_109_4 (S : ai_S) (ls st : List Value) (h : ai_H) : ai_res S 109 4 ls st h = ai_go S 109 [(4, 4, 0, 0, 0)] (1, 6, 0, 0, 0, []) ls st h := ai_blk_go S 109 4 ls st h
theorem k_109_5 (S : ai_S) (ls st : List Value) (h : ai_H) : ai_res S 109 5 ls st h = ai_go S 109 [(0, 0, 0, 0, 2), (4, 4, 0, 0, 0), (12, 0, 0, 0, 0)] (0, 6, 0, 0, 0, []) ls st h := ai_blk_go S 109 5 ls st h
theorem k_109_6 (S : ai_S) (ls st : List Value) (h : ai_H) : ai_res S 109 6 ls st h = ai_go S 109 [(10, 0, 0, 0, 0), (24, 6, 25, 147, 0), (5, 0, 0, 0, 0), (23, 6, 25, 147, 0), (5, 0, 0, 0, 0), (23, 6, 12, 19, 0), (3, 1, 0, 0, 0), (29, 0, 0, 0, 0)] (10, 9, 7, 0, 0, []) ls st h := ai_blk_go S 109 6 ls st h
theorem k_109_7 (S : ai_S) (ls st : List Value) (h : ai_H) : ai_res S 109 7 ls st h = ai_go S 109 [(5, 0, 0, 0, 0), (23, 6, 24, 144, 0), (5, 0, 0, 0, 0), (23, 6, 11, 16, 0), (3, 1, 0, 0, 0), (29, 0, 0, 0, 0)] (10, 9, 8, 0, 0, []) ls st h := ai_blk_go S 109 7 ls st h
theorem k_109_8 (S : ai_S) (ls st : List Value) (h : ai_H) : ai_res S 109 8 ls st h = ai_go S 109 [(5, 0, 0, 0, 0), (0, 0, 0, 0, 0), (24, 6, 24, 144, 0), (5, 0, 0, 0, 0), (0, 0, 0, 0, 0), (24, 6, 25, 147, 0), (0, 0, 0, 0, 1)] (23, 0, 0, 0, 0, []) ls st h := ai_blk_go S 109 8 ls st h
theorem k_109_9 (S : ai_S) (ls st : List Value) (h : ai_H) : ai_res S 109 9 ls st h = ai_go S 109 [(5, 0, 0, 0, 0), (23, 6, 24, 144, 0), (5, 0, 0, 0, 0), (23, 6, 11, 16, 0), (3, 1, 0, 0, 0), (29, 0, 0, 0, 0), (1, 0, 0, 0, 10), (10, 0, 0, 0, 0)] (13, 11, 10, 0, 0, []) ls st h := ai_blk_go S 109 9 ls st h
theorem k_109_10 (S : ai_S) (ls st : List Value) (h : ai_H) : ai_res S 109 10 ls st h = ai_go S 109 [(0, 0, 0, 0, 2)] (1, 12, 0, 0, 0, []) ls st h := ai_blk_go S 109 10 ls st h
theorem k_109_11 (S : ai_S) (ls st : List Value) (h : ai_H) : ai_res S 109 11 ls st h = ai_go S 109 [(0, 0, 0, 0, 0)] (0, 12, 0, 0, 0, []) ls st h := ai_blk_go S 109 11 ls st h
theorem k_109_12 (S : ai_S) (ls st : List Value) (h : ai_H) : ai_res S 109 12 ls st h = ai_go S 109 [] (23, 0, 0, 0, 0, []) ls st h := ai_blk_go S 109 12 ls st h
theorem e_109 (S : ai_S) (q0 : Nat) (a0 : Int32) (a1 : Int32) (a2 : Int32) (a3 : Int32) (h : ai_H) : ai_call S 109 [.ref q0, .int a0, .int a1, .int a2, .int a3] h = ai_res S 109 0 [.ref q0, .int a0, .int a1, .int a2, .int a3] [] h := rfl
theorem k_110_0 (S : ai_S) (ls st : List Value) (h : ai_H) : ai_res S 110 0 ls st h = ai_go S 110 [(5, 0, 0, 0, 0), (5, 0, 0, 0, 0), (23, 6, 15, 28, 0), (0, 0, 0, 0, 0), (3, 1, 0, 0, 0), (10, 0, 0, 0, 0), (29, 0, 0, 0, 0), (24, 6, 24, 144, 0), (5, 0, 0, 0, 0), (5, 0, 0, 0, 0), (23, 6, 15, 28, 0), (1, 0, 0, 0, 6), (3, 1, 0, 0, 0), (10, 0, 0, 0, 0), (29, 0, 0, 0, 0), (24, 6, 25, 147, 0)] (27, 0, 0, 0, 0, []) ls st h := ai_blk_go S 110 0 ls st h
theorem e_110 (S : ai_S) (q0 : Nat) (a0 : Int32) (h : ai_H) : ai_call S 110 [.ref q0, .int a0] h = ai_res S 110 0 [.ref q0, .int a0] [] h := rfl
theorem k_111_0 (S : ai_S) (ls st : List Value) (h : ai_H) : ai_res S 111 0 ls st h = ai_go S 111 [(5, 0, 0, 0, 0), (0, 0, 0, 0, 0), (24, 6, 0, 59, 0), (5, 0, 0, 0, 0), (3, 1, 0, 0, 0)] (18, 1, 102, 2, 6, [(0, 127)]) ls st h := ai_blk_go S 111 0 ls st h
theorem k_111_1 (S : ai_S) (ls st : List Value) (h : ai_H) : ai_res S 111 1 ls st h = ai_go S 111 [] (2, 4, 2, 0, 0, []) ls st h := ai_blk_go S 111 1 ls st h
theorem k_111_2 (S : ai_S) (ls st : List Value) (h : ai_H) : ai_res S 111 2 ls st h = ai_go S 111 [(3, 2, 0, 0, 0), (0, 0, 0, 0, 0), (0, 0, 0, 0, 1)] (19, 3, 85, 3, 0, [(0, 63)]) ls st h := ai_blk_go S 111 2 ls st h
theorem k_111_3 (S : ai_S) (ls st : List Value) (h : ai_H) : ai_res S 111 3 ls st h = ai_go S 111 [] (3, 5, 4, 0, 0, []) ls st h := ai_blk_go S 111 3 ls st h
theorem k_111_4 (S : ai_S) (ls st : List Value) (h : ai_H) : ai_res S 111 4 ls st h = ai_go S 111 [(0, 0, 0, 0, (-1))] (23, 0, 0, 0, 0, []) ls st h := ai_blk_go S 111 4 ls st h
theorem k_111_5 (S : ai_S) (ls st : List Value) (h : ai_H) : ai_res S 111 5 ls st h = ai_go S 111 [(5, 0, 0, 0, 0), (23, 6, 15, 28, 0), (1, 0, 0, 0, 17), (29, 0, 0, 0, 0)] (6, 8, 6, 0, 0, []) ls st h := ai_blk_go S 111 5 ls st h
theorem k_111_6 (S : ai_S) (ls st : List Value) (h : ai_H) : ai_res S 111 6 ls st h = ai_go S 111 [(5, 0, 0, 0, 0), (23, 6, 15, 28, 0), (1, 0, 0, 0, 13), (29, 0, 0, 0, 0), (3, 1, 0, 0, 0)] (19, 7, 86, 2, 0, [(0, 133)]) ls st h := ai_blk_go S 111 6 ls st h
theorem k_111_7 (S : ai_S) (ls st : List Value) (h : ai_H) : ai_res S 111 7 ls st h = ai_go S 111 [] (2, 9, 8, 0, 0, []) ls st h := ai_blk_go S 111 7 ls st h
theorem k_111_8 (S : ai_S) (ls st : List Value) (h : ai_H) : ai_res S 111 8 ls st h = ai_go S 111 [(1, 0, 0, 0, (-2))] (23, 0, 0, 0, 0, []) ls st h := ai_blk_go S 111 8 ls st h
theorem k_111_9 (S : ai_S) (ls st : List Value) (h : ai_H) : ai_res S 111 9 ls st h = ai_go S 111 [(5, 0, 0, 0, 0)] (18, 10, 108, 1, 6, [(0, 150)]) ls st h := ai_blk_go S 111 9 ls st h
theorem k_111_10 (S : ai_S) (ls st : List Value) (h : ai_H) : ai_res S 111 10 ls st h = ai_go S 111 [(5, 0, 0, 0, 0), (3, 1, 0, 0, 0)] (18, 11, 110, 2, 6, [(0, 153)]) ls st h := ai_blk_go S 111 10 ls st h
theorem k_111_11 (S : ai_S) (ls st : List Value) (h : ai_H) : ai_res S 111 11 ls st h = ai_go S 111 [(5, 0, 0, 0, 0), (3, 1, 0, 0, 0), (3, 2, 0, 0, 0), (5, 0, 0, 0, 0), (23, 6, 10, 13, 0), (0, 0, 0, 0, 1), (29, 0, 0, 0, 0), (5, 0, 0, 0, 0), (23, 6, 15, 28, 0), (1, 0, 0, 0, 16), (29, 0, 0, 0, 0)] (18, 12, 109, 5, 6, [(0, 156)]) ls st h := ai_blk_go S 111 11 ls st h
theorem k_111_12 (S : ai_S) (ls st : List Value) (h : ai_H) : ai_res S 111 12 ls st h = ai_go S 111 [(6, 3, 0, 0, 0), (5, 0, 0, 0, 0), (23, 6, 15, 28, 0), (0, 0, 0, 0, 0), (3, 1, 0, 0, 0), (10, 0, 0, 0, 0), (5, 0, 0, 0, 0), (23, 6, 24, 144, 0), (30, 0, 0, 0, 0), (5, 0, 0, 0, 0), (23, 6, 15, 28, 0), (1, 0, 0, 0, 6), (3, 1, 0, 0, 0), (10, 0, 0, 0, 0), (5, 0, 0, 0, 0), (23, 6, 25, 147, 0), (30, 0, 0, 0, 0), (5, 0, 0, 0, 0), (23, 6, 15, 28, 0), (1, 0, 0, 0, 12), (21, 0, 0, 0, 0), (29, 0, 0, 0, 0), (3, 3, 0, 0, 0), (0, 0, 0, 0, 1)] (9, 14, 13, 0, 0, []) ls st h := ai_blk_go S 111 12 ls st h
theorem k_111_13 (S : ai_S) (ls st : List Value) (h : ai_H) : ai_res S 111 13 ls st h = ai_go S 111 [(0, 0, 0, 0, 1), (3, 1, 0, 0, 0), (15, 0, 0, 0, 0)] (1, 15, 0, 0, 0, []) ls st h := ai_blk_go S 111 13 ls st h
theorem k_111_14 (S : ai_S) (ls st : List Value) (h : ai_H) : ai_res S 111 14 ls st h = ai_go S 111 [(0, 0, 0, 0, 0)] (0, 15, 0, 0, 0, []) ls st h := ai_blk_go S 111 14 ls st h
theorem k_111_15 (S : ai_S) (ls st : List Value) (h : ai_H) : ai_res S 111 15 ls st h = ai_go S 111 [(14, 0, 0, 0, 0), (30, 0, 0, 0, 0), (5, 0, 0, 0, 0), (23, 6, 15, 28, 0), (1, 0, 0, 0, 13), (21, 0, 0, 0, 0), (29, 0, 0, 0, 0), (3, 3, 0, 0, 0), (0, 0, 0, 0, 2)] (9, 17, 16, 0, 0, []) ls st h := ai_blk_go S 111 15 ls st h
theorem k_111_16 (S : ai_S) (ls st : List Value) (h : ai_H) : ai_res S 111 16 ls st h = ai_go S 111 [(0, 0, 0, 0, 1), (3, 1, 0, 0, 0), (15, 0, 0, 0, 0)] (1, 18, 0, 0, 0, []) ls st h := ai_blk_go S 111 16 ls st h
theorem k_111_17 (S : ai_S) (ls st : List Value) (h : ai_H) : ai_res S 111 17 ls st h = ai_go S 111 [(0, 0, 0, 0, 0)] (0, 18, 0, 0, 0, []) ls st h := ai_blk_go S 111 17 ls st h
theorem k_111_18 (S : ai_S) (ls st : List Value) (h : ai_H) : ai_res S 111 18 ls st h = ai_go S 111 [(14, 0, 0, 0, 0), (30, 0, 0, 0, 0), (5, 0, 0, 0, 0), (23, 6, 15, 28, 0), (1, 0, 0, 0, 15), (29, 0, 0, 0, 0), (3, 2, 0, 0, 0), (0, 0, 0, 0, 1)] (9, 20, 19, 0, 0, []) ls st h := ai_blk_go S 111 18 ls st h
theorem k_111_19 (S : ai_S) (ls st : List Value) (h : ai_H) : ai_res S 111 19 ls st h = ai_go S 111 [(5, 0, 0, 0, 0), (23, 6, 10, 13, 0), (0, 0, 0, 0, 1), (29, 0, 0, 0, 0)] (1, 21, 0, 0, 0, []) ls st h := ai_blk_go S 111 19 ls st h
theorem k_111_20 (S : ai_S) (ls st : List Value) (h : ai_H) : ai_res S 111 20 ls st h = ai_go S 111 [(0, 0, 0, 0, 0)] (0, 21, 0, 0, 0, []) ls st h := ai_blk_go S 111 20 ls st h
theorem k_111_21 (S : ai_S) (ls st : List Value) (h : ai_H) : ai_res S 111 21 ls st h = ai_go S 111 [(10, 0, 0, 0, 0), (7, 4, 0, 0, 0), (5, 0, 0, 0, 0), (23, 6, 15, 28, 0), (1, 0, 0, 0, 15), (4, 4, 0, 0, 0), (2, 0, 0, 0, 999)] (13, 23, 22, 0, 0, []) ls st h := ai_blk_go S 111 21 ls st h
theorem k_111_22 (S : ai_S) (ls st : List Value) (h : ai_H) : ai_res S 111 22 ls st h = ai_go S 111 [(2, 0, 0, 0, 999)] (1, 24, 0, 0, 0, []) ls st h := ai_blk_go S 111 22 ls st h
theorem k_111_23 (S : ai_S) (ls st : List Value) (h : ai_H) : ai_res S 111 23 ls st h = ai_go S 111 [(4, 4, 0, 0, 0)] (0, 24, 0, 0, 0, []) ls st h := ai_blk_go S 111 23 ls st h
theorem k_111_24 (S : ai_S) (ls st : List Value) (h : ai_H) : ai_res S 111 24 ls st h = ai_go S 111 [(30, 0, 0, 0, 0), (5, 0, 0, 0, 0), (23, 6, 15, 28, 0), (1, 0, 0, 0, 14), (21, 0, 0, 0, 0), (29, 0, 0, 0, 0), (0, 0, 0, 0, 1), (10, 0, 0, 0, 0), (30, 0, 0, 0, 0), (5, 0, 0, 0, 0), (23, 6, 15, 28, 0), (1, 0, 0, 0, 14), (29, 0, 0, 0, 0), (5, 0, 0, 0, 0), (23, 6, 10, 13, 0), (0, 0, 0, 0, 3), (29, 0, 0, 0, 0)] (9, 26, 25, 0, 0, []) ls st h := ai_blk_go S 111 24 ls st h
theorem k_111_25 (S : ai_S) (ls st : List Value) (h : ai_H) : ai_res S 111 25 ls st h = ai_go S 111 [(5, 0, 0, 0, 0), (23, 6, 15, 28, 0), (1, 0, 0, 0, 14), (0, 0, 0, 0, 0), (30, 0, 0, 0, 0), (5, 0, 0, 0, 0), (23, 6, 15, 28, 0), (1, 0, 0, 0, 17), (3, 1, 0, 0, 0), (0, 0, 0, 0, 1), (10, 0, 0, 0, 0), (30, 0, 0, 0, 0)] (0, 26, 0, 0, 0, []) ls st h := ai_blk_go S 111 25 ls st h
theorem k_111_26 (S : ai_S) (ls st : List Value) (h : ai_H) : ai_res S 111 26 ls st h = ai_go S 111 [(3, 3, 0, 0, 0)] (23, 0, 0, 0, 0, []) ls st h := ai_blk_go S 111 26 ls st h
theorem e_111 (S : ai_S) (q0 : Nat) (a0 : Int32) (a1 : Int32) (h : ai_H) : ai_call S 111 [.ref q0, .int a0, .int a1] h = ai_res S 111 0 [.ref q0, .int a0, .int a1, ai_u, ai_u] [] h := rfl
theorem k_112_0 (S : ai_S) (ls st : List Value) (h : ai_H) : ai_res S 112 0 ls st h = ai_go S 112 [(5, 0, 0, 0, 0), (0, 0, 0, 0, 0), (24, 6, 0, 59, 0), (5, 0, 0, 0, 0), (23, 6, 15, 28, 0), (1, 0, 0, 0, 17), (29, 0, 0, 0, 0)] (3, 2, 1, 0, 0, []) ls st h := ai_blk_go S 112 0 ls st h
theorem k_112_1 (S : ai_S) (ls st : List Value) (h : ai_H) : ai_res S 112 1 ls st h = ai_go S 112 [(1, 0, 0, 0, (-2))] (23, 0, 0, 0, 0, []) ls st h := ai_blk_go S 112 1 ls st h
theorem k_112_2 (S : ai_S) (ls st : List Value) (h : ai_H) : ai_res S 112 2 ls st h = ai_go S 112 [(5, 0, 0, 0, 0)] (18, 3, 108, 1, 6, [(0, 150)]) ls st h := ai_blk_go S 112 2 ls st h
theorem k_112_3 (S : ai_S) (ls st : List Value) (h : ai_H) : ai_res S 112 3 ls st h = ai_go S 112 [(5, 0, 0, 0, 0), (23, 6, 15, 28, 0), (1, 0, 0, 0, 17), (29, 0, 0, 0, 0), (0, 0, 0, 0, 1), (11, 0, 0, 0, 0), (6, 1, 0, 0, 0), (5, 0, 0, 0, 0), (23, 6, 15, 28, 0), (1, 0, 0, 0, 17), (0, 0, 0, 0, 0), (30, 0, 0, 0, 0), (3, 1, 0, 0, 0)] (23, 0, 0, 0, 0, []) ls st h := ai_blk_go S 112 3 ls st h
theorem e_112 (S : ai_S) (q0 : Nat) (h : ai_H) : ai_call S 112 [.ref q0] h = ai_res S 112 0 [.ref q0, ai_u] [] h := rfl
theorem k_113_0 (S : ai_S) (ls st : List Value) (h : ai_H) : ai_res S 113 0 ls st h = ai_go S 113 [(5, 0, 0, 0, 0), (0, 0, 0, 0, 0), (24, 6, 0, 59, 0), (3, 1, 0, 0, 0), (0, 0, 0, 0, 0), (1, 0, 0, 0, 9)] (19, 1, 85, 3, 0, [(0, 63)]) ls st h := ai_blk_go S 113 0 ls st h
theorem k_113_1 (S : ai_S) (ls st : List Value) (h : ai_H) : ai_res S 113 1 ls st h = ai_go S 113 [] (3, 3, 2, 0, 0, []) ls st h := ai_blk_go S 113 1 ls st h
theorem k_113_2 (S : ai_S) (ls st : List Value) (h : ai_H) : ai_res S 113 2 ls st h = ai_go S 113 [(0, 0, 0, 0, (-1))] (23, 0, 0, 0, 0, []) ls st h := ai_blk_go S 113 2 ls st h
theorem k_113_3 (S : ai_S) (ls st : List Value) (h : ai_H) : ai_res S 113 3 ls st h = ai_go S 113 [(5, 0, 0, 0, 0), (23, 6, 15, 28, 0), (1, 0, 0, 0, 16), (29, 0, 0, 0, 0), (6, 2, 0, 0, 0), (3, 2, 0, 0, 0), (3, 1, 0, 0, 0)] (9, 5, 4, 0, 0, []) ls st h := ai_blk_go S 113 3 ls st h
theorem k_113_4 (S : ai_S) (ls st : List Value) (h : ai_H) : ai_res S 113 4 ls st h = ai_go S 113 [(1, 0, 0, 0, (-2))] (23, 0, 0, 0, 0, []) ls st h := ai_blk_go S 113 4 ls st h
theorem k_113_5 (S : ai_S) (ls st : List Value) (h : ai_H) : ai_res S 113 5 ls st h = ai_go S 113 [(5, 0, 0, 0, 0)] (18, 6, 108, 1, 6, [(0, 150)]) ls st h := ai_blk_go S 113 5 ls st h
theorem k_113_6 (S : ai_S) (ls st : List Value) (h : ai_H) : ai_res S 113 6 ls st h = ai_go S 113 [(5, 0, 0, 0, 0), (23, 6, 15, 28, 0), (1, 0, 0, 0, 16), (3, 1, 0, 0, 0), (30, 0, 0, 0, 0), (3, 2, 0, 0, 0)] (23, 0, 0, 0, 0, []) ls st h := ai_blk_go S 113 6 ls st h
theorem e_113 (S : ai_S) (q0 : Nat) (a0 : Int32) (h : ai_H) : ai_call S 113 [.ref q0, .int a0] h = ai_res S 113 0 [.ref q0, .int a0, ai_u] [] h := rfl
theorem k_114_0 (S : ai_S) (ls st : List Value) (h : ai_H) : ai_res S 114 0 ls st h = ai_go S 114 [(5, 0, 0, 0, 0), (0, 0, 0, 0, 0), (24, 6, 0, 59, 0), (5, 0, 0, 0, 0), (23, 6, 15, 28, 0), (1, 0, 0, 0, 14), (29, 0, 0, 0, 0), (6, 1, 0, 0, 0), (3, 1, 0, 0, 0)] (3, 2, 1, 0, 0, []) ls st h := ai_blk_go S 114 0 ls st h
theorem k_114_1 (S : ai_S) (ls st : List Value) (h : ai_H) : ai_res S 114 1 ls st h = ai_go S 114 [(1, 0, 0, 0, (-2))] (23, 0, 0, 0, 0, []) ls st h := ai_blk_go S 114 1 ls st h
theorem k_114_2 (S : ai_S) (ls st : List Value) (h : ai_H) : ai_res S 114 2 ls st h = ai_go S 114 [(5, 0, 0, 0, 0)] (18, 3, 108, 1, 6, [(0, 150)]) ls st h := ai_blk_go S 114 2 ls st h
theorem k_114_3 (S : ai_S) (ls st : List Value) (h : ai_H) : ai_res S 114 3 ls st h = ai_go S 114 [(5, 0, 0, 0, 0), (23, 6, 15, 28, 0), (1, 0, 0, 0, 14), (0, 0, 0, 0, 0), (30, 0, 0, 0, 0), (3, 1, 0, 0, 0)] (23, 0, 0, 0, 0, []) ls st h := ai_blk_go S 114 3 ls st h
theorem e_114 (S : ai_S) (q0 : Nat) (h : ai_H) : ai_call S 114 [.ref q0] h = ai_res S 114 0 [.ref q0, ai_u] [] h := rfl
theorem k_115_0 (S : ai_S) (ls st : List Value) (h : ai_H) : ai_res S 115 0 ls st h = ai_go S 115 [(5, 0, 0, 0, 0), (0, 0, 0, 0, 0), (24, 6, 0, 59, 0), (5, 0, 0, 0, 0), (3, 1, 0, 0, 0)] (18, 1, 102, 2, 6, [(0, 127)]) ls st h := ai_blk_go S 115 0 ls st h
theorem k_115_1 (S : ai_S) (ls st : List Value) (h : ai_H) : ai_res S 115 1 ls st h = ai_go S 115 [] (3, 3, 2, 0, 0, []) ls st h := ai_blk_go S 115 1 ls st h
theorem k_115_2 (S : ai_S) (ls st : List Value) (h : ai_H) : ai_res S 115 2 ls st h = ai_go S 115 [(0, 0, 0, 0, (-1))] (23, 0, 0, 0, 0, []) ls st h := ai_blk_go S 115 2 ls st h
theorem k_115_3 (S : ai_S) (ls st : List Value) (h : ai_H) : ai_res S 115 3 ls st h = ai_go S 115 [(5, 0, 0, 0, 0), (23, 6, 15, 28, 0), (0, 0, 0, 0, 0), (3, 1, 0, 0, 0), (10, 0, 0, 0, 0), (29, 0, 0, 0, 0), (6, 2, 0, 0, 0), (3, 2, 0, 0, 0)] (2, 6, 4, 0, 0, []) ls st h := ai_blk_go S 115 3 ls st h
theorem k_115_4 (S : ai_S) (ls st : List Value) (h : ai_H) : ai_res S 115 4 ls st h = ai_go S 115 [(5, 0, 0, 0, 0), (23, 6, 15, 28, 0), (1, 0, 0, 0, 13), (29, 0, 0, 0, 0), (3, 1, 0, 0, 0)] (19, 5, 86, 2, 0, [(0, 133)]) ls st h := ai_blk_go S 115 4 ls st h
theorem k_115_5 (S : ai_S) (ls st : List Value) (h : ai_H) : ai_res S 115 5 ls st h = ai_go S 115 [] (2, 7, 6, 0, 0, []) ls st h := ai_blk_go S 115 5 ls st h
theorem k_115_6 (S : ai_S) (ls st : List Value) (h : ai_H) : ai_res S 115 6 ls st h = ai_go S 115 [(1, 0, 0, 0, (-2))] (23, 0, 0, 0, 0, []) ls st h := ai_blk_go S 115 6 ls st h
theorem k_115_7 (S : ai_S) (ls st : List Value) (h : ai_H) : ai_res S 115 7 ls st h = ai_go S 115 [(5, 0, 0, 0, 0)] (18, 8, 108, 1, 6, [(0, 150)]) ls st h := ai_blk_go S 115 7 ls st h
theorem k_115_8 (S : ai_S) (ls st : List Value) (h : ai_H) : ai_res S 115 8 ls st h = ai_go S 115 [(5, 0, 0, 0, 0), (23, 6, 15, 28, 0), (0, 0, 0, 0, 0), (3, 1, 0, 0, 0), (10, 0, 0, 0, 0), (0, 0, 0, 0, 0), (30, 0, 0, 0, 0), (3, 2, 0, 0, 0)] (23, 0, 0, 0, 0, []) ls st h := ai_blk_go S 115 8 ls st h
theorem e_115 (S : ai_S) (q0 : Nat) (a0 : Int32) (h : ai_H) : ai_call S 115 [.ref q0, .int a0] h = ai_res S 115 0 [.ref q0, .int a0, ai_u] [] h := rfl
theorem k_116_0 (S : ai_S) (ls st : List Value) (h : ai_H) : ai_res S 116 0 ls st h = ai_go S 116 [(5, 0, 0, 0, 0), (0, 0, 0, 0, 0), (24, 6, 0, 59, 0), (5, 0, 0, 0, 0), (23, 6, 19, 124, 0)] (3, 2, 1, 0, 0, []) ls st h := ai_blk_go S 116 0 ls st h
theorem k_116_1 (S : ai_S) (ls st : List Value) (h : ai_H) : ai_res S 116 1 ls st h = ai_go S 116 [(1, 0, 0, 0, (-2))] (23, 0, 0, 0, 0, []) ls st h := ai_blk_go S 116 1 ls st h
theorem k_116_2 (S : ai_S) (ls st : List Value) (h : ai_H) : ai_res S 116 2 ls st h = ai_go S 116 [(5, 0, 0, 0, 0), (20, 0, 0, 0, 0), (23, 6, 19, 124, 0), (0, 0, 0, 0, 1), (11, 0, 0, 0, 0), (24, 6, 19, 124, 0), (0, 0, 0, 0, 0), (6, 1, 0, 0, 0)] (0, 3, 0, 0, 0, []) ls st h := ai_blk_go S 116 2 ls st h
theorem k_116_3 (S : ai_S) (ls st : List Value) (h : ai_H) : ai_res S 116 3 ls st h = ai_go S 116 [(3, 1, 0, 0, 0), (1, 0, 0, 0, 18)] (11, 5, 4, 0, 0, []) ls st h := ai_blk_go S 116 3 ls st h
theorem k_116_4 (S : ai_S) (ls st : List Value) (h : ai_H) : ai_res S 116 4 ls st h = ai_go S 116 [(5, 0, 0, 0, 0), (23, 6, 15, 28, 0), (3, 1, 0, 0, 0), (5, 0, 0, 0, 0), (23, 6, 18, 38, 0), (1, 0, 0, 0, 18), (5, 0, 0, 0, 0), (23, 6, 19, 124, 0), (12, 0, 0, 0, 0), (3, 1, 0, 0, 0), (10, 0, 0, 0, 0), (29, 0, 0, 0, 0), (30, 0, 0, 0, 0), (9, 1, 0, 0, 1)] (1, 3, 0, 0, 0, []) ls st h := ai_blk_go S 116 4 ls st h
theorem k_116_5 (S : ai_S) (ls st : List Value) (h : ai_H) : ai_res S 116 5 ls st h = ai_go S 116 [(5, 0, 0, 0, 0), (23, 6, 19, 124, 0)] (23, 0, 0, 0, 0, []) ls st h := ai_blk_go S 116 5 ls st h
theorem e_116 (S : ai_S) (q0 : Nat) (h : ai_H) : ai_call S 116 [.ref q0] h = ai_res S 116 0 [.ref q0, ai_u] [] h := rfl
theorem k_117_0 (S : ai_S) (ls st : List Value) (h : ai_H) : ai_res S 117 0 ls st h = ai_go S 117 [(5, 0, 0, 0, 0), (3, 1, 0, 0, 0)] (18, 1, 110, 2, 6, [(0, 153)]) ls st h := ai_blk_go S 117 0 ls st h
theorem k_117_1 (S : ai_S) (ls st : List Value) (h : ai_H) : ai_res S 117 1 ls st h = ai_go S 117 [(0, 0, 0, 0, 0), (7, 4, 0, 0, 0), (3, 3, 0, 0, 0), (0, 0, 0, 0, 1), (11, 0, 0, 0, 0), (7, 5, 0, 0, 0)] (0, 2, 0, 0, 0, []) ls st h := ai_blk_go S 117 1 ls st h
theorem k_117_2 (S : ai_S) (ls st : List Value) (h : ai_H) : ai_res S 117 2 ls st h = ai_go S 117 [(4, 5, 0, 0, 0)] (4, 7, 3, 0, 0, []) ls st h := ai_blk_go S 117 2 ls st h
theorem k_117_3 (S : ai_S) (ls st : List Value) (h : ai_H) : ai_res S 117 3 ls st h = ai_go S 117 [(4, 4, 0, 0, 0)] (2, 5, 4, 0, 0, []) ls st h := ai_blk_go S 117 3 ls st h
theorem k_117_4 (S : ai_S) (ls st : List Value) (h : ai_H) : ai_res S 117 4 ls st h = ai_go S 117 [(0, 0, 0, 0, 0)] (24, 0, 0, 0, 0, []) ls st h := ai_blk_go S 117 4 ls st h
theorem k_117_5 (S : ai_S) (ls st : List Value) (h : ai_H) : ai_res S 117 5 ls st h = ai_go S 117 [(5, 0, 0, 0, 0), (3, 1, 0, 0, 0), (3, 2, 0, 0, 0), (4, 5, 0, 0, 0), (16, 0, 0, 0, 0), (0, 0, 0, 0, 1), (13, 0, 0, 0, 0), (5, 0, 0, 0, 0), (23, 6, 10, 13, 0), (0, 0, 0, 0, 1), (29, 0, 0, 0, 0), (5, 0, 0, 0, 0), (23, 6, 15, 28, 0), (1, 0, 0, 0, 16), (29, 0, 0, 0, 0)] (18, 6, 109, 5, 6, [(0, 156)]) ls st h := ai_blk_go S 117 5 ls st h
theorem k_117_6 (S : ai_S) (ls st : List Value) (h : ai_H) : ai_res S 117 6 ls st h = ai_go S 117 [(7, 4, 0, 0, 0), (9, 5, 0, 0, (-1))] (1, 2, 0, 0, 0, []) ls st h := ai_blk_go S 117 6 ls st h
theorem k_117_7 (S : ai_S) (ls st : List Value) (h : ai_H) : ai_res S 117 7 ls st h = ai_go S 117 [(4, 4, 0, 0, 0), (0, 0, 0, 0, 1)] (9, 9, 8, 0, 0, []) ls st h := ai_blk_go S 117 7 ls st h
theorem k_117_8 (S : ai_S) (ls st : List Value) (h : ai_H) : ai_res S 117 8 ls st h = ai_go S 117 [(0, 0, 0, 0, 1)] (1, 10, 0, 0, 0, []) ls st h := ai_blk_go S 117 8 ls st h
theorem k_117_9 (S : ai_S) (ls st : List Value) (h : ai_H) : ai_res S 117 9 ls st h = ai_go S 117 [(0, 0, 0, 0, 0)] (0, 10, 0, 0, 0, []) ls st h := ai_blk_go S 117 9 ls st h
theorem k_117_10 (S : ai_S) (ls st : List Value) (h : ai_H) : ai_res S 117 10 ls st h = ai_go S 117 [] (24, 0, 0, 0, 0, []) ls st h := ai_blk_go S 117 10 ls st h
theorem e_117 (S : ai_S) (q0 : Nat) (a0 : Int32) (a1 : Int32) (a2 : Int32) (h : ai_H) : ai_call S 117 [.ref q0, .int a0, .int a1, .int a2] h = ai_res S 117 0 [.ref q0, .int a0, .int a1, .int a2, ai_u, ai_u] [] h := rfl
theorem k_118_0 (S : ai_S) (ls st : List Value) (h : ai_H) : ai_res S 118 0 ls st h = ai_go S 118 [(0, 0, 0, 0, 1), (6, 2, 0, 0, 0)] (0, 1, 0, 0, 0, []) ls st h := ai_blk_go S 118 0 ls st h
theorem k_118_1 (S : ai_S) (ls st : List Value) (h : ai_H) : ai_res S 118 1 ls st h = ai_go S 118 [(3, 2, 0, 0, 0), (1, 0, 0, 0, 10)] (12, 9, 2, 0, 0, []) ls st h := ai_blk_go S 118 1 ls st h
theorem k_118_2 (S : ai_S) (ls st : List Value) (h : ai_H) : ai_res S 118 2 ls st h = ai_go S 118 [(0, 0, 0, 0, 0), (6, 3, 0, 0, 0)] (0, 3, 0, 0, 0, []) ls st h := ai_blk_go S 118 2 ls st h
theorem k_118_3 (S : ai_S) (ls st : List Value) (h : ai_H) : ai_res S 118 3 ls st h = ai_go S 118 [(3, 3, 0, 0, 0), (0, 0, 0, 0, 1), (3, 2, 0, 0, 0), (15, 0, 0, 0, 0)] (11, 8, 4, 0, 0, []) ls st h := ai_blk_go S 118 3 ls st h
theorem k_118_4 (S : ai_S) (ls st : List Value) (h : ai_H) : ai_res S 118 4 ls st h = ai_go S 118 [(5, 0, 0, 0, 0), (3, 1, 0, 0, 0), (3, 3, 0, 0, 0), (3, 2, 0, 0, 0)] (18, 5, 117, 4, 6, [(0, 160)]) ls st h := ai_blk_go S 118 4 ls st h
theorem k_118_5 (S : ai_S) (ls st : List Value) (h : ai_H) : ai_res S 118 5 ls st h = ai_go S 118 [] (2, 7, 6, 0, 0, []) ls st h := ai_blk_go S 118 5 ls st h
theorem k_118_6 (S : ai_S) (ls st : List Value) (h : ai_H) : ai_res S 118 6 ls st h = ai_go S 118 [(1, 0, 0, 0, 16), (3, 3, 0, 0, 0), (12, 0, 0, 0, 0), (3, 2, 0, 0, 0), (10, 0, 0, 0, 0)] (23, 0, 0, 0, 0, []) ls st h := ai_blk_go S 118 6 ls st h
theorem k_118_7 (S : ai_S) (ls st : List Value) (h : ai_H) : ai_res S 118 7 ls st h = ai_go S 118 [(9, 3, 0, 0, 1)] (1, 3, 0, 0, 0, []) ls st h := ai_blk_go S 118 7 ls st h
theorem k_118_8 (S : ai_S) (ls st : List Value) (h : ai_H) : ai_res S 118 8 ls st h = ai_go S 118 [(9, 2, 0, 0, 1)] (1, 1, 0, 0, 0, []) ls st h := ai_blk_go S 118 8 ls st h
theorem k_118_9 (S : ai_S) (ls st : List Value) (h : ai_H) : ai_res S 118 9 ls st h = ai_go S 118 [(1, 0, 0, 0, (-9))] (23, 0, 0, 0, 0, []) ls st h := ai_blk_go S 118 9 ls st h
theorem e_118 (S : ai_S) (q0 : Nat) (a0 : Int32) (h : ai_H) : ai_call S 118 [.ref q0, .int a0] h = ai_res S 118 0 [.ref q0, .int a0, ai_u, ai_u] [] h := rfl
theorem k_119_0 (S : ai_S) (ls st : List Value) (h : ai_H) : ai_res S 119 0 ls st h = ai_go S 119 [(5, 0, 0, 0, 0), (23, 6, 15, 28, 0), (1, 0, 0, 0, 12), (29, 0, 0, 0, 0), (5, 0, 0, 0, 0), (23, 6, 15, 28, 0), (1, 0, 0, 0, 13), (29, 0, 0, 0, 0), (14, 0, 0, 0, 0), (3, 1, 0, 0, 0)] (19, 1, 86, 2, 0, [(0, 133)]) ls st h := ai_blk_go S 119 0 ls st h
theorem k_119_1 (S : ai_S) (ls st : List Value) (h : ai_H) : ai_res S 119 1 ls st h = ai_go S 119 [] (24, 0, 0, 0, 0, []) ls st h := ai_blk_go S 119 1 ls st h
theorem e_119 (S : ai_S) (q0 : Nat) (a0 : Int32) (h : ai_H) : ai_call S 119 [.ref q0, .int a0] h = ai_res S 119 0 [.ref q0, .int a0] [] h := rfl
theorem k_120_0 (S : ai_S) (ls st : List Value) (h : ai_H) : ai_res S 120 0 ls st h = ai_go S 120 [(5, 0, 0, 0, 0), (0, 0, 0, 0, 0), (24, 6, 0, 59, 0), (5, 0, 0, 0, 0), (3, 1, 0, 0, 0)] (18, 1, 102, 2, 6, [(0, 127)]) ls st h := ai_blk_go S 120 0 ls st h
theorem k_120_1 (S : ai_S) (ls st : List Value) (h : ai_H) : ai_res S 120 1 ls st h = ai_go S 120 [] (2, 4, 2, 0, 0, []) ls st h := ai_blk_go S 120 1 ls st h
theorem k_120_2 (S : ai_S) (ls st : List Value) (h : ai_H) : ai_res S 120 2 ls st h = ai_go S 120 [(3, 2, 0, 0, 0), (0, 0, 0, 0, (-1)), (1, 0, 0, 0, 9)] (19, 3, 85, 3, 0, [(0, 63)]) ls st h := ai_blk_go S 120 2 ls st h
theorem k_120_3 (S : ai_S) (ls st : List Value) (h : ai_H) : ai_res S 120 3 ls st h = ai_go S 120 [] (3, 5, 4, 0, 0, []) ls st h := ai_blk_go S 120 3 ls st h
theorem k_120_4 (S : ai_S) (ls st : List Value) (h : ai_H) : ai_res S 120 4 ls st h = ai_go S 120 [(0, 0, 0, 0, (-1))] (23, 0, 0, 0, 0, []) ls st h := ai_blk_go S 120 4 ls st h
theorem k_120_5 (S : ai_S) (ls st : List Value) (h : ai_H) : ai_res S 120 5 ls st h = ai_go S 120 [(5, 0, 0, 0, 0), (3, 1, 0, 0, 0)] (18, 6, 119, 2, 6, [(0, 163)]) ls st h := ai_blk_go S 120 5 ls st h
theorem k_120_6 (S : ai_S) (ls st : List Value) (h : ai_H) : ai_res S 120 6 ls st h = ai_go S 120 [] (2, 8, 7, 0, 0, []) ls st h := ai_blk_go S 120 6 ls st h
theorem k_120_7 (S : ai_S) (ls st : List Value) (h : ai_H) : ai_res S 120 7 ls st h = ai_go S 120 [(1, 0, 0, 0, (-2))] (23, 0, 0, 0, 0, []) ls st h := ai_blk_go S 120 7 ls st h
theorem k_120_8 (S : ai_S) (ls st : List Value) (h : ai_H) : ai_res S 120 8 ls st h = ai_go S 120 [(5, 0, 0, 0, 0), (3, 1, 0, 0, 0)] (18, 9, 118, 2, 6, [(0, 166)]) ls st h := ai_blk_go S 120 8 ls st h
theorem k_120_9 (S : ai_S) (ls st : List Value) (h : ai_H) : ai_res S 120 9 ls st h = ai_go S 120 [(6, 3, 0, 0, 0), (3, 3, 0, 0, 0), (1, 0, 0, 0, (-9))] (9, 11, 10, 0, 0, []) ls st h := ai_blk_go S 120 9 ls st h
theorem k_120_10 (S : ai_S) (ls st : List Value) (h : ai_H) : ai_res S 120 10 ls st h = ai_go S 120 [(1, 0, 0, 0, (-9))] (23, 0, 0, 0, 0, []) ls st h := ai_blk_go S 120 10 ls st h
theorem k_120_11 (S : ai_S) (ls st : List Value) (h : ai_H) : ai_res S 120 11 ls st h = ai_go S 120 [(3, 3, 0, 0, 0), (1, 0, 0, 0, 16), (19, 0, 0, 0, 0), (7, 4, 0, 0, 0), (3, 2, 0, 0, 0), (0, 0, 0, 0, (-1))] (9, 13, 12, 0, 0, []) ls st h := ai_blk_go S 120 11 ls st h
theorem k_120_12 (S : ai_S) (ls st : List Value) (h : ai_H) : ai_res S 120 12 ls st h = ai_go S 120 [(4, 4, 0, 0, 0)] (1, 16, 0, 0, 0, []) ls st h := ai_blk_go S 120 12 ls st h
theorem k_120_13 (S : ai_S) (ls st : List Value) (h : ai_H) : ai_res S 120 13 ls st h = ai_go S 120 [(3, 2, 0, 0, 0), (4, 4, 0, 0, 0)] (11, 15, 14, 0, 0, []) ls st h := ai_blk_go S 120 13 ls st h
theorem k_120_14 (S : ai_S) (ls st : List Value) (h : ai_H) : ai_res S 120 14 ls st h = ai_go S 120 [(3, 3, 0, 0, 0), (1, 0, 0, 0, 16), (18, 0, 0, 0, 0), (4, 4, 0, 0, 0), (0, 0, 0, 0, 1), (11, 0, 0, 0, 0), (3, 2, 0, 0, 0), (11, 0, 0, 0, 0), (16, 0, 0, 0, 0), (0, 0, 0, 0, 1), (13, 0, 0, 0, 0)] (1, 16, 0, 0, 0, []) ls st h := ai_blk_go S 120 14 ls st h
theorem k_120_15 (S : ai_S) (ls st : List Value) (h : ai_H) : ai_res S 120 15 ls st h = ai_go S 120 [(1, 0, 0, 0, (-9))] (0, 16, 0, 0, 0, []) ls st h := ai_blk_go S 120 15 ls st h
theorem k_120_16 (S : ai_S) (ls st : List Value) (h : ai_H) : ai_res S 120 16 ls st h = ai_go S 120 [] (23, 0, 0, 0, 0, []) ls st h := ai_blk_go S 120 16 ls st h
theorem e_120 (S : ai_S) (q0 : Nat) (a0 : Int32) (a1 : Int32) (h : ai_H) : ai_call S 120 [.ref q0, .int a0, .int a1] h = ai_res S 120 0 [.ref q0, .int a0, .int a1, ai_u, ai_u] [] h := rfl
theorem k_121_0 (S : ai_S) (ls st : List Value) (h : ai_H) : ai_res S 121 0 ls st h = ai_go S 121 [(0, 0, 0, 0, 0), (6, 2, 0, 0, 0), (0, 0, 0, 0, 0), (6, 3, 0, 0, 0)] (0, 1, 0, 0, 0, []) ls st h := ai_blk_go S 121 0 ls st h
theorem k_121_1 (S : ai_S) (ls st : List Value) (h : ai_H) : ai_res S 121 1 ls st h = ai_go S 121 [(3, 3, 0, 0, 0), (5, 0, 0, 0, 0), (23, 6, 10, 13, 0), (0, 0, 0, 0, 0), (29, 0, 0, 0, 0)] (11, 7, 2, 0, 0, []) ls st h := ai_blk_go S 121 1 ls st h
theorem k_121_2 (S : ai_S) (ls st : List Value) (h : ai_H) : ai_res S 121 2 ls st h = ai_go S 121 [(3, 2, 0, 0, 0), (3, 1, 0, 0, 0), (3, 3, 0, 0, 0)] (19, 3, 86, 2, 0, [(0, 133)]) ls st h := ai_blk_go S 121 2 ls st h
theorem k_121_3 (S : ai_S) (ls st : List Value) (h : ai_H) : ai_res S 121 3 ls st h = ai_go S 121 [] (2, 5, 4, 0, 0, []) ls st h := ai_blk_go S 121 3 ls st h
theorem k_121_4 (S : ai_S) (ls st : List Value) (h : ai_H) : ai_res S 121 4 ls st h = ai_go S 121 [(5, 0, 0, 0, 0), (23, 6, 26, 50, 0), (3, 3, 0, 0, 0), (29, 0, 0, 0, 0)] (1, 6, 0, 0, 0, []) ls st h := ai_blk_go S 121 4 ls st h
theorem k_121_5 (S : ai_S) (ls st : List Value) (h : ai_H) : ai_res S 121 5 ls st h = ai_go S 121 [(0, 0, 0, 0, 0)] (0, 6, 0, 0, 0, []) ls st h := ai_blk_go S 121 5 ls st h
theorem k_121_6 (S : ai_S) (ls st : List Value) (h : ai_H) : ai_res S 121 6 ls st h = ai_go S 121 [(10, 0, 0, 0, 0), (6, 2, 0, 0, 0), (9, 3, 0, 0, 1)] (1, 1, 0, 0, 0, []) ls st h := ai_blk_go S 121 6 ls st h
theorem k_121_7 (S : ai_S) (ls st : List Value) (h : ai_H) : ai_res S 121 7 ls st h = ai_go S 121 [(3, 2, 0, 0, 0)] (23, 0, 0, 0, 0, []) ls st h := ai_blk_go S 121 7 ls st h
theorem e_121 (S : ai_S) (q0 : Nat) (a0 : Int32) (h : ai_H) : ai_call S 121 [.ref q0, .int a0] h = ai_res S 121 0 [.ref q0, .int a0, ai_u, ai_u] [] h := rfl
theorem k_122_0 (S : ai_S) (ls st : List Value) (h : ai_H) : ai_res S 122 0 ls st h = ai_go S 122 [(5, 0, 0, 0, 0), (0, 0, 0, 0, 0), (24, 6, 0, 59, 0), (3, 1, 0, 0, 0), (0, 0, 0, 0, 0), (1, 0, 0, 0, 40)] (19, 1, 85, 3, 0, [(0, 63)]) ls st h := ai_blk_go S 122 0 ls st h
theorem k_122_1 (S : ai_S) (ls st : List Value) (h : ai_H) : ai_res S 122 1 ls st h = ai_go S 122 [] (2, 4, 2, 0, 0, []) ls st h := ai_blk_go S 122 1 ls st h
theorem k_122_2 (S : ai_S) (ls st : List Value) (h : ai_H) : ai_res S 122 2 ls st h = ai_go S 122 [(3, 2, 0, 0, 0), (0, 0, 0, 0, 0), (0, 0, 0, 0, 1)] (19, 3, 85, 3, 0, [(0, 63)]) ls st h := ai_blk_go S 122 2 ls st h
theorem k_122_3 (S : ai_S) (ls st : List Value) (h : ai_H) : ai_res S 122 3 ls st h = ai_go S 122 [] (3, 5, 4, 0, 0, []) ls st h := ai_blk_go S 122 3 ls st h
theorem k_122_4 (S : ai_S) (ls st : List Value) (h : ai_H) : ai_res S 122 4 ls st h = ai_go S 122 [(0, 0, 0, 0, (-1))] (23, 0, 0, 0, 0, []) ls st h := ai_blk_go S 122 4 ls st h
theorem k_122_5 (S : ai_S) (ls st : List Value) (h : ai_H) : ai_res S 122 5 ls st h = ai_go S 122 [(0, 0, 0, 0, 0), (6, 3, 0, 0, 0)] (0, 6, 0, 0, 0, []) ls st h := ai_blk_go S 122 5 ls st h
theorem k_122_6 (S : ai_S) (ls st : List Value) (h : ai_H) : ai_res S 122 6 ls st h = ai_go S 122 [(3, 3, 0, 0, 0), (5, 0, 0, 0, 0), (23, 6, 10, 13, 0), (0, 0, 0, 0, 0), (29, 0, 0, 0, 0)] (11, 15, 7, 0, 0, []) ls st h := ai_blk_go S 122 6 ls st h
theorem k_122_7 (S : ai_S) (ls st : List Value) (h : ai_H) : ai_res S 122 7 ls st h = ai_go S 122 [(5, 0, 0, 0, 0), (3, 3, 0, 0, 0)] (18, 8, 119, 2, 6, [(0, 163)]) ls st h := ai_blk_go S 122 7 ls st h
theorem k_122_8 (S : ai_S) (ls st : List Value) (h : ai_H) : ai_res S 122 8 ls st h = ai_go S 122 [] (2, 10, 9, 0, 0, []) ls st h := ai_blk_go S 122 8 ls st h
theorem k_122_9 (S : ai_S) (ls st : List Value) (h : ai_H) : ai_res S 122 9 ls st h = ai_go S 122 [(1, 0, 0, 0, (-9))] (1, 11, 0, 0, 0, []) ls st h := ai_blk_go S 122 9 ls st h
theorem k_122_10 (S : ai_S) (ls st : List Value) (h : ai_H) : ai_res S 122 10 ls st h = ai_go S 122 [(5, 0, 0, 0, 0), (3, 3, 0, 0, 0)] (18, 11, 118, 2, 6, [(0, 166)]) ls st h := ai_blk_go S 122 10 ls st h
theorem k_122_11 (S : ai_S) (ls st : List Value) (h : ai_H) : ai_res S 122 11 ls st h = ai_go S 122 [(7, 4, 0, 0, 0), (5, 0, 0, 0, 0), (23, 6, 26, 50, 0), (3, 3, 0, 0, 0), (4, 4, 0, 0, 0), (1, 0, 0, 0, (-9))] (9, 13, 12, 0, 0, []) ls st h := ai_blk_go S 122 11 ls st h
theorem k_122_12 (S : ai_S) (ls st : List Value) (h : ai_H) : ai_res S 122 12 ls st h = ai_go S 122 [(40, 0, 0, 169, 1000000)] (1, 14, 0, 0, 0, []) ls st h := ai_blk_go S 122 12 ls st h
theorem k_122_13 (S : ai_S) (ls st : List Value) (h : ai_H) : ai_res S 122 13 ls st h = ai_go S 122 [(4, 4, 0, 0, 0), (1, 0, 0, 0, 16), (19, 0, 0, 0, 0)] (0, 14, 0, 0, 0, []) ls st h := ai_blk_go S 122 13 ls st h
theorem k_122_14 (S : ai_S) (ls st : List Value) (h : ai_H) : ai_res S 122 14 ls st h = ai_go S 122 [(30, 0, 0, 0, 0), (9, 3, 0, 0, 1)] (1, 6, 0, 0, 0, []) ls st h := ai_blk_go S 122 14 ls st h
theorem k_122_15 (S : ai_S) (ls st : List Value) (h : ai_H) : ai_res S 122 15 ls st h = ai_go S 122 [(0, 0, 0, 0, 0), (6, 3, 0, 0, 0), (0, 0, 0, 0, 0), (7, 4, 0, 0, 0)] (0, 16, 0, 0, 0, []) ls st h := ai_blk_go S 122 15 ls st h
theorem k_122_16 (S : ai_S) (ls st : List Value) (h : ai_H) : ai_res S 122 16 ls st h = ai_go S 122 [(4, 4, 0, 0, 0), (0, 0, 0, 0, 1), (5, 0, 0, 0, 0), (23, 6, 10, 13, 0), (0, 0, 0, 0, 0), (29, 0, 0, 0, 0), (15, 0, 0, 0, 0)] (11, 32, 17, 0, 0, []) ls st h := ai_blk_go S 122 16 ls st h
theorem k_122_17 (S : ai_S) (ls st : List Value) (h : ai_H) : ai_res S 122 17 ls st h = ai_go S 122 [(5, 0, 0, 0, 0), (4, 4, 0, 0, 0)] (18, 18, 105, 2, 6, [(0, 137)]) ls st h := ai_blk_go S 122 17 ls st h
theorem k_122_18 (S : ai_S) (ls st : List Value) (h : ai_H) : ai_res S 122 18 ls st h = ai_go S 122 [(5, 0, 0, 0, 0), (3, 3, 0, 0, 0)] (18, 19, 105, 2, 6, [(0, 137)]) ls st h := ai_blk_go S 122 18 ls st h
theorem k_122_19 (S : ai_S) (ls st : List Value) (h : ai_H) : ai_res S 122 19 ls st h = ai_go S 122 [(11, 0, 0, 0, 0), (7, 5, 0, 0, 0), (4, 5, 0, 0, 0)] (6, 24, 20, 0, 0, []) ls st h := ai_blk_go S 122 19 ls st h
theorem k_122_20 (S : ai_S) (ls st : List Value) (h : ai_H) : ai_res S 122 20 ls st h = ai_go S 122 [(4, 5, 0, 0, 0)] (3, 25, 21, 0, 0, []) ls st h := ai_blk_go S 122 20 ls st h
theorem k_122_21 (S : ai_S) (ls st : List Value) (h : ai_H) : ai_res S 122 21 ls st h = ai_go S 122 [(5, 0, 0, 0, 0), (4, 4, 0, 0, 0)] (18, 22, 121, 2, 6, [(0, 170)]) ls st h := ai_blk_go S 122 21 ls st h
theorem k_122_22 (S : ai_S) (ls st : List Value) (h : ai_H) : ai_res S 122 22 ls st h = ai_go S 122 [(5, 0, 0, 0, 0), (3, 3, 0, 0, 0)] (18, 23, 121, 2, 6, [(0, 170)]) ls st h := ai_blk_go S 122 22 ls st h
theorem k_122_23 (S : ai_S) (ls st : List Value) (h : ai_H) : ai_res S 122 23 ls st h = ai_go S 122 [] (11, 25, 24, 0, 0, []) ls st h := ai_blk_go S 122 23 ls st h
theorem k_122_24 (S : ai_S) (ls st : List Value) (h : ai_H) : ai_res S 122 24 ls st h = ai_go S 122 [(0, 0, 0, 0, 1)] (1, 26, 0, 0, 0, []) ls st h := ai_blk_go S 122 24 ls st h
theorem k_122_25 (S : ai_S) (ls st : List Value) (h : ai_H) : ai_res S 122 25 ls st h = ai_go S 122 [(0, 0, 0, 0, 0)] (0, 26, 0, 0, 0, []) ls st h := ai_blk_go S 122 25 ls st h
theorem k_122_26 (S : ai_S) (ls st : List Value) (h : ai_H) : ai_res S 122 26 ls st h = ai_go S 122 [(7, 6, 0, 0, 0), (4, 6, 0, 0, 0)] (2, 30, 27, 0, 0, []) ls st h := ai_blk_go S 122 26 ls st h
theorem k_122_27 (S : ai_S) (ls st : List Value) (h : ai_H) : ai_res S 122 27 ls st h = ai_go S 122 [(5, 0, 0, 0, 0), (4, 4, 0, 0, 0)] (18, 28, 121, 2, 6, [(0, 170)]) ls st h := ai_blk_go S 122 27 ls st h
theorem k_122_28 (S : ai_S) (ls st : List Value) (h : ai_H) : ai_res S 122 28 ls st h = ai_go S 122 [(3, 1, 0, 0, 0)] (12, 30, 29, 0, 0, []) ls st h := ai_blk_go S 122 28 ls st h
theorem k_122_29 (S : ai_S) (ls st : List Value) (h : ai_H) : ai_res S 122 29 ls st h = ai_go S 122 [(4, 4, 0, 0, 0)] (1, 31, 0, 0, 0, []) ls st h := ai_blk_go S 122 29 ls st h
theorem k_122_30 (S : ai_S) (ls st : List Value) (h : ai_H) : ai_res S 122 30 ls st h = ai_go S 122 [(3, 3, 0, 0, 0)] (0, 31, 0, 0, 0, []) ls st h := ai_blk_go S 122 30 ls st h
theorem k_122_31 (S : ai_S) (ls st : List Value) (h : ai_H) : ai_res S 122 31 ls st h = ai_go S 122 [(6, 3, 0, 0, 0), (9, 4, 0, 0, 1)] (1, 16, 0, 0, 0, []) ls st h := ai_blk_go S 122 31 ls st h
theorem k_122_32 (S : ai_S) (ls st : List Value) (h : ai_H) : ai_res S 122 32 ls st h = ai_go S 122 [(3, 2, 0, 0, 0)] (3, 35, 33, 0, 0, []) ls st h := ai_blk_go S 122 32 ls st h
theorem k_122_33 (S : ai_S) (ls st : List Value) (h : ai_H) : ai_res S 122 33 ls st h = ai_go S 122 [(5, 0, 0, 0, 0), (3, 3, 0, 0, 0)] (18, 34, 105, 2, 6, [(0, 137)]) ls st h := ai_blk_go S 122 33 ls st h
theorem k_122_34 (S : ai_S) (ls st : List Value) (h : ai_H) : ai_res S 122 34 ls st h = ai_go S 122 [] (1, 36, 0, 0, 0, []) ls st h := ai_blk_go S 122 34 ls st h
theorem k_122_35 (S : ai_S) (ls st : List Value) (h : ai_H) : ai_res S 122 35 ls st h = ai_go S 122 [(3, 3, 0, 0, 0)] (0, 36, 0, 0, 0, []) ls st h := ai_blk_go S 122 35 ls st h
theorem k_122_36 (S : ai_S) (ls st : List Value) (h : ai_H) : ai_res S 122 36 ls st h = ai_go S 122 [] (23, 0, 0, 0, 0, []) ls st h := ai_blk_go S 122 36 ls st h
theorem e_122 (S : ai_S) (q0 : Nat) (a0 : Int32) (a1 : Int32) (h : ai_H) : ai_call S 122 [.ref q0, .int a0, .int a1] h = ai_res S 122 0 [.ref q0, .int a0, .int a1, ai_u, ai_u, ai_u, ai_u] [] h := rfl
theorem k_123_0 (S : ai_S) (ls st : List Value) (h : ai_H) : ai_res S 123 0 ls st h = ai_go S 123 [(5, 0, 0, 0, 0), (0, 0, 0, 0, 0), (24, 6, 24, 144, 0), (5, 0, 0, 0, 0), (0, 0, 0, 0, 0), (24, 6, 25, 147, 0), (0, 0, 0, 0, 0), (7, 5, 0, 0, 0), (0, 0, 0, 0, 0), (7, 6, 0, 0, 0)] (0, 1, 0, 0, 0, []) ls st h := ai_blk_go S 123 0 ls st h
theorem k_123_1 (S : ai_S) (ls st : List Value) (h : ai_H) : ai_res S 123 1 ls st h = ai_go S 123 [(4, 6, 0, 0, 0), (3, 2, 0, 0, 0)] (11, 5, 2, 0, 0, []) ls st h := ai_blk_go S 123 1 ls st h
theorem k_123_2 (S : ai_S) (ls st : List Value) (h : ai_H) : ai_res S 123 2 ls st h = ai_go S 123 [(4, 5, 0, 0, 0), (0, 0, 0, 0, 2)] (11, 5, 3, 0, 0, []) ls st h := ai_blk_go S 123 2 ls st h
theorem k_123_3 (S : ai_S) (ls st : List Value) (h : ai_H) : ai_res S 123 3 ls st h = ai_go S 123 [(4, 5, 0, 0, 0), (5, 0, 0, 0, 0), (3, 1, 0, 0, 0), (0, 0, 0, 0, 0), (3, 3, 0, 0, 0), (4, 4, 0, 0, 0)] (18, 4, 109, 5, 6, [(0, 156)]) ls st h := ai_blk_go S 123 3 ls st h
theorem k_123_4 (S : ai_S) (ls st : List Value) (h : ai_H) : ai_res S 123 4 ls st h = ai_go S 123 [(14, 0, 0, 0, 0), (7, 5, 0, 0, 0), (9, 6, 0, 0, 1)] (1, 1, 0, 0, 0, []) ls st h := ai_blk_go S 123 4 ls st h
theorem k_123_5 (S : ai_S) (ls st : List Value) (h : ai_H) : ai_res S 123 5 ls st h = ai_go S 123 [(4, 5, 0, 0, 0)] (23, 0, 0, 0, 0, []) ls st h := ai_blk_go S 123 5 ls st h
theorem e_123 (S : ai_S) (q0 : Nat) (a0 : Int32) (a1 : Int32) (a2 : Int32) (a3 : Int32) (h : ai_H) : ai_call S 123 [.ref q0, .int a0, .int a1, .int a2, .int a3] h = ai_res S 123 0 [.ref q0, .int a0, .int a1, .int a2, .int a3, ai_u, ai_u] [] h := rfl
theorem k_124_0 (S : ai_S) (ls st : List Value) (h : ai_H) : ai_res S 124 0 ls st h = ai_go S 124 [(5, 0, 0, 0, 0), (0, 0, 0, 0, 0), (24, 6, 0, 59, 0), (3, 1, 0, 0, 0), (0, 0, 0, 0, 0), (0, 0, 0, 0, 1), (5, 0, 0, 0, 0), (23, 6, 10, 13, 0), (0, 0, 0, 0, 0), (29, 0, 0, 0, 0), (15, 0, 0, 0, 0), (0, 0, 0, 0, 1), (11, 0, 0, 0, 0)] (19, 1, 85, 3, 0, [(0, 63)]) ls st h := ai_blk_go S 124 0 ls st h
theorem k_124_1 (S : ai_S) (ls st : List Value) (h : ai_H) : ai_res S 124 1 ls st h = ai_go S 124 [] (2, 4, 2, 0, 0, []) ls st h := ai_blk_go S 124 1 ls st h
theorem k_124_2 (S : ai_S) (ls st : List Value) (h : ai_H) : ai_res S 124 2 ls st h = ai_go S 124 [(3, 2, 0, 0, 0), (0, 0, 0, 0, 1), (0, 0, 0, 0, 5)] (19, 3, 85, 3, 0, [(0, 63)]) ls st h := ai_blk_go S 124 2 ls st h
theorem k_124_3 (S : ai_S) (ls st : List Value) (h : ai_H) : ai_res S 124 3 ls st h = ai_go S 124 [] (3, 5, 4, 0, 0, []) ls st h := ai_blk_go S 124 3 ls st h
theorem k_124_4 (S : ai_S) (ls st : List Value) (h : ai_H) : ai_res S 124 4 ls st h = ai_go S 124 [(0, 0, 0, 0, (-1))] (23, 0, 0, 0, 0, []) ls st h := ai_blk_go S 124 4 ls st h
theorem k_124_5 (S : ai_S) (ls st : List Value) (h : ai_H) : ai_res S 124 5 ls st h = ai_go S 124 [(0, 0, 0, 0, 0), (6, 3, 0, 0, 0)] (0, 6, 0, 0, 0, []) ls st h := ai_blk_go S 124 5 ls st h
theorem k_124_6 (S : ai_S) (ls st : List Value) (h : ai_H) : ai_res S 124 6 ls st h = ai_go S 124 [(3, 3, 0, 0, 0), (1, 0, 0, 0, 100)] (11, 18, 7, 0, 0, []) ls st h := ai_blk_go S 124 6 ls st h
theorem k_124_7 (S : ai_S) (ls st : List Value) (h : ai_H) : ai_res S 124 7 ls st h = ai_go S 124 [(0, 0, 0, 0, 1), (7, 4, 0, 0, 0), (0, 0, 0, 0, 0), (7, 5, 0, 0, 0)] (0, 8, 0, 0, 0, []) ls st h := ai_blk_go S 124 7 ls st h
theorem k_124_8 (S : ai_S) (ls st : List Value) (h : ai_H) : ai_res S 124 8 ls st h = ai_go S 124 [(4, 5, 0, 0, 0), (5, 0, 0, 0, 0), (23, 6, 10, 13, 0), (0, 0, 0, 0, 0), (29, 0, 0, 0, 0)] (11, 15, 9, 0, 0, []) ls st h := ai_blk_go S 124 8 ls st h
theorem k_124_9 (S : ai_S) (ls st : List Value) (h : ai_H) : ai_res S 124 9 ls st h = ai_go S 124 [(4, 4, 0, 0, 0)] (2, 13, 10, 0, 0, []) ls st h := ai_blk_go S 124 9 ls st h
theorem k_124_10 (S : ai_S) (ls st : List Value) (h : ai_H) : ai_res S 124 10 ls st h = ai_go S 124 [(5, 0, 0, 0, 0), (4, 5, 0, 0, 0), (3, 2, 0, 0, 0), (3, 3, 0, 0, 0), (1, 0, 0, 0, 10), (18, 0, 0, 0, 0), (3, 3, 0, 0, 0), (1, 0, 0, 0, 10), (19, 0, 0, 0, 0)] (18, 11, 123, 5, 6, [(0, 173)]) ls st h := ai_blk_go S 124 10 ls st h
theorem k_124_11 (S : ai_S) (ls st : List Value) (h : ai_H) : ai_res S 124 11 ls st h = ai_go S 124 [(3, 1, 0, 0, 0), (4, 5, 0, 0, 0), (16, 0, 0, 0, 0), (0, 0, 0, 0, 1), (13, 0, 0, 0, 0)] (9, 13, 12, 0, 0, []) ls st h := ai_blk_go S 124 11 ls st h
theorem k_124_12 (S : ai_S) (ls st : List Value) (h : ai_H) : ai_res S 124 12 ls st h = ai_go S 124 [(0, 0, 0, 0, 1)] (1, 14, 0, 0, 0, []) ls st h := ai_blk_go S 124 12 ls st h
theorem k_124_13 (S : ai_S) (ls st : List Value) (h : ai_H) : ai_res S 124 13 ls st h = ai_go S 124 [(0, 0, 0, 0, 0)] (0, 14, 0, 0, 0, []) ls st h := ai_blk_go S 124 13 ls st h
theorem k_124_14 (S : ai_S) (ls st : List Value) (h : ai_H) : ai_res S 124 14 ls st h = ai_go S 124 [(7, 4, 0, 0, 0), (9, 5, 0, 0, 1)] (1, 8, 0, 0, 0, []) ls st h := ai_blk_go S 124 14 ls st h
theorem k_124_15 (S : ai_S) (ls st : List Value) (h : ai_H) : ai_res S 124 15 ls st h = ai_go S 124 [(4, 4, 0, 0, 0)] (2, 17, 16, 0, 0, []) ls st h := ai_blk_go S 124 15 ls st h
theorem k_124_16 (S : ai_S) (ls st : List Value) (h : ai_H) : ai_res S 124 16 ls st h = ai_go S 124 [(3, 3, 0, 0, 0)] (23, 0, 0, 0, 0, []) ls st h := ai_blk_go S 124 16 ls st h
theorem k_124_17 (S : ai_S) (ls st : List Value) (h : ai_H) : ai_res S 124 17 ls st h = ai_go S 124 [(9, 3, 0, 0, 1)] (1, 6, 0, 0, 0, []) ls st h := ai_blk_go S 124 17 ls st h
theorem k_124_18 (S : ai_S) (ls st : List Value) (h : ai_H) : ai_res S 124 18 ls st h = ai_go S 124 [(1, 0, 0, 0, (-9))] (23, 0, 0, 0, 0, []) ls st h := ai_blk_go S 124 18 ls st h
theorem e_124 (S : ai_S) (q0 : Nat) (a0 : Int32) (a1 : Int32) (h : ai_H) : ai_call S 124 [.ref q0, .int a0, .int a1] h = ai_res S 124 0 [.ref q0, .int a0, .int a1, ai_u, ai_u, ai_u] [] h := rfl
theorem k_125_0 (S : ai_S) (ls st : List Value) (h : ai_H) : ai_res S 125 0 ls st h = ai_go S 125 [(0, 0, 0, 0, 1), (6, 2, 0, 0, 0), (0, 0, 0, 0, 0), (6, 3, 0, 0, 0)] (0, 1, 0, 0, 0, []) ls st h := ai_blk_go S 125 0 ls st h
theorem k_125_1 (S : ai_S) (ls st : List Value) (h : ai_H) : ai_res S 125 1 ls st h = ai_go S 125 [(3, 3, 0, 0, 0), (3, 1, 0, 0, 0)] (11, 3, 2, 0, 0, []) ls st h := ai_blk_go S 125 1 ls st h
theorem k_125_2 (S : ai_S) (ls st : List Value) (h : ai_H) : ai_res S 125 2 ls st h = ai_go S 125 [(3, 2, 0, 0, 0), (3, 0, 0, 0, 0), (12, 0, 0, 0, 0), (6, 2, 0, 0, 0), (9, 3, 0, 0, 1)] (1, 1, 0, 0, 0, []) ls st h := ai_blk_go S 125 2 ls st h
theorem k_125_3 (S : ai_S) (ls st : List Value) (h : ai_H) : ai_res S 125 3 ls st h = ai_go S 125 [(3, 2, 0, 0, 0)] (23, 0, 0, 0, 0, []) ls st h := ai_blk_go S 125 3 ls st h
theorem e_125 (S : ai_S) (a0 : Int32) (a1 : Int32) (h : ai_H) : ai_call S 125 [.int a0, .int a1] h = ai_res S 125 0 [.int a0, .int a1, ai_u, ai_u] [] h := rfl
theorem k_126_0 (S : ai_S) (ls st : List Value) (h : ai_H) : ai_res S 126 0 ls st h = ai_go S 126 [(3, 0, 0, 0, 0), (6, 2, 0, 0, 0), (3, 1, 0, 0, 0), (6, 3, 0, 0, 0)] (0, 1, 0, 0, 0, []) ls st h := ai_blk_go S 126 0 ls st h
theorem k_126_1 (S : ai_S) (ls st : List Value) (h : ai_H) : ai_res S 126 1 ls st h = ai_go S 126 [(3, 3, 0, 0, 0)] (2, 3, 2, 0, 0, []) ls st h := ai_blk_go S 126 1 ls st h
theorem k_126_2 (S : ai_S) (ls st : List Value) (h : ai_H) : ai_res S 126 2 ls st h = ai_go S 126 [(3, 2, 0, 0, 0), (3, 3, 0, 0, 0), (19, 0, 0, 0, 0), (7, 4, 0, 0, 0), (3, 3, 0, 0, 0), (6, 2, 0, 0, 0), (4, 4, 0, 0, 0), (6, 3, 0, 0, 0)] (1, 1, 0, 0, 0, []) ls st h := ai_blk_go S 126 2 ls st h
theorem k_126_3 (S : ai_S) (ls st : List Value) (h : ai_H) : ai_res S 126 3 ls st h = ai_go S 126 [(3, 2, 0, 0, 0)] (23, 0, 0, 0, 0, []) ls st h := ai_blk_go S 126 3 ls st h
theorem e_126 (S : ai_S) (a0 : Int32) (a1 : Int32) (h : ai_H) : ai_call S 126 [.int a0, .int a1] h = ai_res S 126 0 [.int a0, .int a1, ai_u, ai_u, ai_u] [] h := rfl
theorem k_127_0 (S : ai_S) (ls st : List Value) (h : ai_H) : ai_res S 127 0 ls st h = ai_go S 127 [(5, 0, 0, 0, 0), (0, 0, 0, 0, 0), (24, 6, 0, 59, 0), (3, 1, 0, 0, 0), (0, 0, 0, 0, 0), (1, 0, 0, 0, 10)] (19, 1, 85, 3, 0, [(0, 63)]) ls st h := ai_blk_go S 127 0 ls st h
theorem k_127_1 (S : ai_S) (ls st : List Value) (h : ai_H) : ai_res S 127 1 ls st h = ai_go S 127 [] (2, 6, 2, 0, 0, []) ls st h := ai_blk_go S 127 1 ls st h
theorem k_127_2 (S : ai_S) (ls st : List Value) (h : ai_H) : ai_res S 127 2 ls st h = ai_go S 127 [(3, 2, 0, 0, 0), (0, 0, 0, 0, 0), (1, 0, 0, 0, 6)] (19, 3, 85, 3, 0, [(0, 63)]) ls st h := ai_blk_go S 127 2 ls st h
theorem k_127_3 (S : ai_S) (ls st : List Value) (h : ai_H) : ai_res S 127 3 ls st h = ai_go S 127 [] (2, 6, 4, 0, 0, []) ls st h := ai_blk_go S 127 3 ls st h
theorem k_127_4 (S : ai_S) (ls st : List Value) (h : ai_H) : ai_res S 127 4 ls st h = ai_go S 127 [(3, 3, 0, 0, 0), (0, 0, 0, 0, 0), (0, 0, 0, 0, 1)] (19, 5, 85, 3, 0, [(0, 63)]) ls st h := ai_blk_go S 127 4 ls st h
theorem k_127_5 (S : ai_S) (ls st : List Value) (h : ai_H) : ai_res S 127 5 ls st h = ai_go S 127 [] (3, 7, 6, 0, 0, []) ls st h := ai_blk_go S 127 5 ls st h
theorem k_127_6 (S : ai_S) (ls st : List Value) (h : ai_H) : ai_res S 127 6 ls st h = ai_go S 127 [(0, 0, 0, 0, (-1))] (23, 0, 0, 0, 0, []) ls st h := ai_blk_go S 127 6 ls st h
theorem k_127_7 (S : ai_S) (ls st : List Value) (h : ai_H) : ai_res S 127 7 ls st h = ai_go S 127 [(5, 0, 0, 0, 0), (23, 6, 10, 13, 0), (0, 0, 0, 0, 0), (29, 0, 0, 0, 0), (5, 0, 0, 0, 0), (23, 6, 15, 28, 0), (1, 0, 0, 0, 13), (29, 0, 0, 0, 0)] (19, 8, 87, 1, 0, [(0, 176)]) ls st h := ai_blk_go S 127 7 ls st h
theorem k_127_8 (S : ai_S) (ls st : List Value) (h : ai_H) : ai_res S 127 8 ls st h = ai_go S 127 [(11, 0, 0, 0, 0), (7, 4, 0, 0, 0), (0, 0, 0, 0, 0), (7, 5, 0, 0, 0), (0, 0, 0, 0, 0), (7, 6, 0, 0, 0)] (0, 9, 0, 0, 0, []) ls st h := ai_blk_go S 127 8 ls st h
theorem k_127_9 (S : ai_S) (ls st : List Value) (h : ai_H) : ai_res S 127 9 ls st h = ai_go S 127 [(4, 6, 0, 0, 0), (0, 0, 0, 0, 1), (4, 4, 0, 0, 0), (15, 0, 0, 0, 0)] (11, 19, 10, 0, 0, []) ls st h := ai_blk_go S 127 9 ls st h
theorem k_127_10 (S : ai_S) (ls st : List Value) (h : ai_H) : ai_res S 127 10 ls st h = ai_go S 127 [(4, 5, 0, 0, 0), (4, 6, 0, 0, 0)] (19, 11, 87, 1, 0, [(0, 176)]) ls st h := ai_blk_go S 127 10 ls st h
theorem k_127_11 (S : ai_S) (ls st : List Value) (h : ai_H) : ai_res S 127 11 ls st h = ai_go S 127 [(3, 2, 0, 0, 0)] (12, 17, 12, 0, 0, []) ls st h := ai_blk_go S 127 11 ls st h
theorem k_127_12 (S : ai_S) (ls st : List Value) (h : ai_H) : ai_res S 127 12 ls st h = ai_go S 127 [(3, 1, 0, 0, 0), (4, 6, 0, 0, 0)] (19, 13, 87, 1, 0, [(0, 176)]) ls st h := ai_blk_go S 127 12 ls st h
theorem k_127_13 (S : ai_S) (ls st : List Value) (h : ai_H) : ai_res S 127 13 ls st h = ai_go S 127 [] (19, 14, 125, 2, 0, [(0, 179)]) ls st h := ai_blk_go S 127 13 ls st h
theorem k_127_14 (S : ai_S) (ls st : List Value) (h : ai_H) : ai_res S 127 14 ls st h = ai_go S 127 [(1, 0, 0, 0, 10), (3, 1, 0, 0, 0), (11, 0, 0, 0, 0), (4, 4, 0, 0, 0), (4, 6, 0, 0, 0)] (19, 15, 87, 1, 0, [(0, 176)]) ls st h := ai_blk_go S 127 14 ls st h
theorem k_127_15 (S : ai_S) (ls st : List Value) (h : ai_H) : ai_res S 127 15 ls st h = ai_go S 127 [(11, 0, 0, 0, 0)] (19, 16, 125, 2, 0, [(0, 179)]) ls st h := ai_blk_go S 127 15 ls st h
theorem k_127_16 (S : ai_S) (ls st : List Value) (h : ai_H) : ai_res S 127 16 ls st h = ai_go S 127 [(12, 0, 0, 0, 0)] (1, 18, 0, 0, 0, []) ls st h := ai_blk_go S 127 16 ls st h
theorem k_127_17 (S : ai_S) (ls st : List Value) (h : ai_H) : ai_res S 127 17 ls st h = ai_go S 127 [(0, 0, 0, 0, 0)] (0, 18, 0, 0, 0, []) ls st h := ai_blk_go S 127 17 ls st h
theorem k_127_18 (S : ai_S) (ls st : List Value) (h : ai_H) : ai_res S 127 18 ls st h = ai_go S 127 [(10, 0, 0, 0, 0), (7, 5, 0, 0, 0), (9, 6, 0, 0, 1)] (1, 9, 0, 0, 0, []) ls st h := ai_blk_go S 127 18 ls st h
theorem k_127_19 (S : ai_S) (ls st : List Value) (h : ai_H) : ai_res S 127 19 ls st h = ai_go S 127 [(1, 0, 0, 0, 10), (4, 4, 0, 0, 0)] (19, 20, 125, 2, 0, [(0, 179)]) ls st h := ai_blk_go S 127 19 ls st h
theorem k_127_20 (S : ai_S) (ls st : List Value) (h : ai_H) : ai_res S 127 20 ls st h = ai_go S 127 [(7, 6, 0, 0, 0), (4, 5, 0, 0, 0), (4, 6, 0, 0, 0)] (19, 21, 126, 2, 0, [(0, 182)]) ls st h := ai_blk_go S 127 20 ls st h
theorem k_127_21 (S : ai_S) (ls st : List Value) (h : ai_H) : ai_res S 127 21 ls st h = ai_go S 127 [(7, 7, 0, 0, 0), (3, 3, 0, 0, 0)] (3, 23, 22, 0, 0, []) ls st h := ai_blk_go S 127 21 ls st h
theorem k_127_22 (S : ai_S) (ls st : List Value) (h : ai_H) : ai_res S 127 22 ls st h = ai_go S 127 [(4, 5, 0, 0, 0), (4, 7, 0, 0, 0), (18, 0, 0, 0, 0)] (1, 24, 0, 0, 0, []) ls st h := ai_blk_go S 127 22 ls st h
theorem k_127_23 (S : ai_S) (ls st : List Value) (h : ai_H) : ai_res S 127 23 ls st h = ai_go S 127 [(4, 6, 0, 0, 0), (4, 7, 0, 0, 0), (18, 0, 0, 0, 0)] (0, 24, 0, 0, 0, []) ls st h := ai_blk_go S 127 23 ls st h
theorem k_127_24 (S : ai_S) (ls st : List Value) (h : ai_H) : ai_res S 127 24 ls st h = ai_go S 127 [] (23, 0, 0, 0, 0, []) ls st h := ai_blk_go S 127 24 ls st h
theorem e_127 (S : ai_S) (q0 : Nat) (a0 : Int32) (a1 : Int32) (a2 : Int32) (h : ai_H) : ai_call S 127 [.ref q0, .int a0, .int a1, .int a2] h = ai_res S 127 0 [.ref q0, .int a0, .int a1, .int a2, ai_u, ai_u, ai_u, ai_u] [] h := rfl
theorem k_128_0 (S : ai_S) (ls st : List Value) (h : ai_H) : ai_res S 128 0 ls st h = ai_go S 128 [(5, 0, 0, 0, 0), (0, 0, 0, 0, 0), (24, 6, 0, 59, 0), (5, 0, 0, 0, 0), (3, 1, 0, 0, 0)] (18, 1, 102, 2, 6, [(0, 127)]) ls st h := ai_blk_go S 128 0 ls st h
theorem k_128_1 (S : ai_S) (ls st : List Value) (h : ai_H) : ai_res S 128 1 ls st h = ai_go S 128 [] (2, 6, 2, 0, 0, []) ls st h := ai_blk_go S 128 1 ls st h
theorem k_128_2 (S : ai_S) (ls st : List Value) (h : ai_H) : ai_res S 128 2 ls st h = ai_go S 128 [(3, 2, 0, 0, 0), (0, 0, 0, 0, 1), (1, 0, 0, 0, 9)] (19, 3, 85, 3, 0, [(0, 63)]) ls st h := ai_blk_go S 128 2 ls st h
theorem k_128_3 (S : ai_S) (ls st : List Value) (h : ai_H) : ai_res S 128 3 ls st h = ai_go S 128 [] (2, 6, 4, 0, 0, []) ls st h := ai_blk_go S 128 3 ls st h
theorem k_128_4 (S : ai_S) (ls st : List Value) (h : ai_H) : ai_res S 128 4 ls st h = ai_go S 128 [(3, 3, 0, 0, 0), (0, 0, 0, 0, 0), (0, 0, 0, 0, 1)] (19, 5, 85, 3, 0, [(0, 63)]) ls st h := ai_blk_go S 128 4 ls st h
theorem k_128_5 (S : ai_S) (ls st : List Value) (h : ai_H) : ai_res S 128 5 ls st h = ai_go S 128 [] (3, 7, 6, 0, 0, []) ls st h := ai_blk_go S 128 5 ls st h
theorem k_128_6 (S : ai_S) (ls st : List Value) (h : ai_H) : ai_res S 128 6 ls st h = ai_go S 128 [(0, 0, 0, 0, (-1))] (23, 0, 0, 0, 0, []) ls st h := ai_blk_go S 128 6 ls st h
theorem k_128_7 (S : ai_S) (ls st : List Value) (h : ai_H) : ai_res S 128 7 ls st h = ai_go S 128 [(5, 0, 0, 0, 0), (23, 6, 23, 121, 0), (1, 0, 0, 0, 6)] (9, 9, 8, 0, 0, []) ls st h := ai_blk_go S 128 7 ls st h
theorem k_128_8 (S : ai_S) (ls st : List Value) (h : ai_H) : ai_res S 128 8 ls st h = ai_go S 128 [(1, 0, 0, 0, (-3))] (23, 0, 0, 0, 0, []) ls st h := ai_blk_go S 128 8 ls st h
theorem k_128_9 (S : ai_S) (ls st : List Value) (h : ai_H) : ai_res S 128 9 ls st h = ai_go S 128 [(5, 0, 0, 0, 0), (23, 6, 20, 41, 0), (5, 0, 0, 0, 0), (23, 6, 23, 121, 0), (3, 1, 0, 0, 0), (30, 0, 0, 0, 0), (5, 0, 0, 0, 0), (23, 6, 21, 44, 0), (5, 0, 0, 0, 0), (23, 6, 23, 121, 0), (3, 2, 0, 0, 0), (30, 0, 0, 0, 0), (5, 0, 0, 0, 0), (23, 6, 22, 47, 0), (5, 0, 0, 0, 0), (23, 6, 23, 121, 0), (3, 3, 0, 0, 0), (30, 0, 0, 0, 0), (5, 0, 0, 0, 0), (20, 0, 0, 0, 0), (23, 6, 23, 121, 0), (0, 0, 0, 0, 1), (10, 0, 0, 0, 0), (24, 6, 23, 121, 0), (5, 0, 0, 0, 0), (23, 6, 23, 121, 0)] (23, 0, 0, 0, 0, []) ls st h := ai_blk_go S 128 9 ls st h
theorem e_128 (S : ai_S) (q0 : Nat) (a0 : Int32) (a1 : Int32) (a2 : Int32) (h : ai_H) : ai_call S 128 [.ref q0, .int a0, .int a1, .int a2] h = ai_res S 128 0 [.ref q0, .int a0, .int a1, .int a2] [] h := rfl
theorem k_129_0 (S : ai_S) (ls st : List Value) (h : ai_H) : ai_res S 129 0 ls st h = ai_go S 129 [(5, 0, 0, 0, 0), (0, 0, 0, 0, 0), (24, 6, 0, 59, 0), (5, 0, 0, 0, 0), (23, 6, 23, 121, 0), (6, 1, 0, 0, 0), (5, 0, 0, 0, 0), (0, 0, 0, 0, 0), (24, 6, 23, 121, 0), (3, 1, 0, 0, 0)] (23, 0, 0, 0, 0, []) ls st h := ai_blk_go S 129 0 ls st h
theorem e_129 (S : ai_S) (q0 : Nat) (h : ai_H) : ai_call S 129 [.ref q0] h = ai_res S 129 0 [.ref q0, ai_u] [] h := rfl
theorem k_130_0 (S : ai_S) (ls st : List Value) (h : ai_H) : ai_res S 130 0 ls st h = ai_go S 130 [(0, 0, 0, 0, 0), (6, 1, 0, 0, 0), (0, 0, 0, 0, 0), (6, 2, 0, 0, 0)] (0, 1, 0, 0, 0, []) ls st h := ai_blk_go S 130 0 ls st h
theorem k_130_1 (S : ai_S) (ls st : List Value) (h : ai_H) : ai_res S 130 1 ls st h = ai_go S 130 [(3, 2, 0, 0, 0), (1, 0, 0, 0, 10)] (11, 14, 2, 0, 0, []) ls st h := ai_blk_go S 130 1 ls st h
theorem k_130_2 (S : ai_S) (ls st : List Value) (h : ai_H) : ai_res S 130 2 ls st h = ai_go S 130 [(0, 0, 0, 0, 1), (6, 3, 0, 0, 0), (0, 0, 0, 0, 0), (7, 4, 0, 0, 0)] (0, 3, 0, 0, 0, []) ls st h := ai_blk_go S 130 2 ls st h
theorem k_130_3 (S : ai_S) (ls st : List Value) (h : ai_H) : ai_res S 130 3 ls st h = ai_go S 130 [(4, 4, 0, 0, 0), (5, 0, 0, 0, 0), (23, 6, 23, 121, 0)] (11, 10, 4, 0, 0, []) ls st h := ai_blk_go S 130 3 ls st h
theorem k_130_4 (S : ai_S) (ls st : List Value) (h : ai_H) : ai_res S 130 4 ls st h = ai_go S 130 [(3, 3, 0, 0, 0)] (2, 8, 5, 0, 0, []) ls st h := ai_blk_go S 130 4 ls st h
theorem k_130_5 (S : ai_S) (ls st : List Value) (h : ai_H) : ai_res S 130 5 ls st h = ai_go S 130 [(5, 0, 0, 0, 0), (5, 0, 0, 0, 0), (23, 6, 20, 41, 0), (4, 4, 0, 0, 0), (29, 0, 0, 0, 0), (5, 0, 0, 0, 0), (23, 6, 21, 44, 0), (4, 4, 0, 0, 0), (29, 0, 0, 0, 0), (5, 0, 0, 0, 0), (23, 6, 10, 13, 0), (0, 0, 0, 0, 1), (29, 0, 0, 0, 0), (3, 2, 0, 0, 0)] (18, 6, 123, 5, 6, [(0, 173)]) ls st h := ai_blk_go S 130 5 ls st h
theorem k_130_6 (S : ai_S) (ls st : List Value) (h : ai_H) : ai_res S 130 6 ls st h = ai_go S 130 [(0, 0, 0, 0, 1), (13, 0, 0, 0, 0), (5, 0, 0, 0, 0), (23, 6, 22, 47, 0), (4, 4, 0, 0, 0), (29, 0, 0, 0, 0)] (9, 8, 7, 0, 0, []) ls st h := ai_blk_go S 130 6 ls st h
theorem k_130_7 (S : ai_S) (ls st : List Value) (h : ai_H) : ai_res S 130 7 ls st h = ai_go S 130 [(0, 0, 0, 0, 1)] (1, 9, 0, 0, 0, []) ls st h := ai_blk_go S 130 7 ls st h
theorem k_130_8 (S : ai_S) (ls st : List Value) (h : ai_H) : ai_res S 130 8 ls st h = ai_go S 130 [(0, 0, 0, 0, 0)] (0, 9, 0, 0, 0, []) ls st h := ai_blk_go S 130 8 ls st h
theorem k_130_9 (S : ai_S) (ls st : List Value) (h : ai_H) : ai_res S 130 9 ls st h = ai_go S 130 [(6, 3, 0, 0, 0), (9, 4, 0, 0, 1)] (1, 3, 0, 0, 0, []) ls st h := ai_blk_go S 130 9 ls st h
theorem k_130_10 (S : ai_S) (ls st : List Value) (h : ai_H) : ai_res S 130 10 ls st h = ai_go S 130 [(3, 1, 0, 0, 0), (3, 3, 0, 0, 0)] (2, 12, 11, 0, 0, []) ls st h := ai_blk_go S 130 10 ls st h
theorem k_130_11 (S : ai_S) (ls st : List Value) (h : ai_H) : ai_res S 130 11 ls st h = ai_go S 130 [(0, 0, 0, 0, 1), (3, 2, 0, 0, 0), (15, 0, 0, 0, 0)] (1, 13, 0, 0, 0, []) ls st h := ai_blk_go S 130 11 ls st h
theorem k_130_12 (S : ai_S) (ls st : List Value) (h : ai_H) : ai_res S 130 12 ls st h = ai_go S 130 [(0, 0, 0, 0, 0)] (0, 13, 0, 0, 0, []) ls st h := ai_blk_go S 130 12 ls st h
theorem k_130_13 (S : ai_S) (ls st : List Value) (h : ai_H) : ai_res S 130 13 ls st h = ai_go S 130 [(14, 0, 0, 0, 0), (6, 1, 0, 0, 0), (9, 2, 0, 0, 1)] (1, 1, 0, 0, 0, []) ls st h := ai_blk_go S 130 13 ls st h
theorem k_130_14 (S : ai_S) (ls st : List Value) (h : ai_H) : ai_res S 130 14 ls st h = ai_go S 130 [(3, 1, 0, 0, 0)] (23, 0, 0, 0, 0, []) ls st h := ai_blk_go S 130 14 ls st h
theorem e_130 (S : ai_S) (q0 : Nat) (h : ai_H) : ai_call S 130 [.ref q0] h = ai_res S 130 0 [.ref q0, ai_u, ai_u, ai_u, ai_u] [] h := rfl
theorem k_131_0 (S : ai_S) (ls st : List Value) (h : ai_H) : ai_res S 131 0 ls st h = ai_go S 131 [(5, 0, 0, 0, 0), (0, 0, 0, 0, 0), (24, 6, 0, 59, 0), (5, 0, 0, 0, 0)] (18, 1, 130, 1, 6, [(0, 185)]) ls st h := ai_blk_go S 131 0 ls st h
theorem k_131_1 (S : ai_S) (ls st : List Value) (h : ai_H) : ai_res S 131 1 ls st h = ai_go S 131 [] (23, 0, 0, 0, 0, []) ls st h := ai_blk_go S 131 1 ls st h
theorem e_131 (S : ai_S) (q0 : Nat) (h : ai_H) : ai_call S 131 [.ref q0] h = ai_res S 131 0 [.ref q0] [] h := rfl
theorem k_132_0 (S : ai_S) (ls st : List Value) (h : ai_H) : ai_res S 132 0 ls st h = ai_go S 132 [(5, 0, 0, 0, 0), (0, 0, 0, 0, 0), (24, 6, 0, 59, 0), (3, 1, 0, 0, 0), (0, 0, 0, 0, 1), (1, 0, 0, 0, 9)] (19, 1, 85, 3, 0, [(0, 63)]) ls st h := ai_blk_go S 132 0 ls st h
theorem k_132_1 (S : ai_S) (ls st : List Value) (h : ai_H) : ai_res S 132 1 ls st h = ai_go S 132 [] (3, 3, 2, 0, 0, []) ls st h := ai_blk_go S 132 1 ls st h
theorem k_132_2 (S : ai_S) (ls st : List Value) (h : ai_H) : ai_res S 132 2 ls st h = ai_go S 132 [(0, 0, 0, 0, (-1))] (23, 0, 0, 0, 0, []) ls st h := ai_blk_go S 132 2 ls st h
theorem k_132_3 (S : ai_S) (ls st : List Value) (h : ai_H) : ai_res S 132 3 ls st h = ai_go S 132 [(5, 0, 0, 0, 0)] (18, 4, 130, 1, 6, [(0, 185)]) ls st h := ai_blk_go S 132 3 ls st h
theorem k_132_4 (S : ai_S) (ls st : List Value) (h : ai_H) : ai_res S 132 4 ls st h = ai_go S 132 [(6, 2, 0, 0, 0), (3, 2, 0, 0, 0)] (19, 5, 87, 1, 0, [(0, 176)]) ls st h := ai_blk_go S 132 4 ls st h
theorem k_132_5 (S : ai_S) (ls st : List Value) (h : ai_H) : ai_res S 132 5 ls st h = ai_go S 132 [(6, 3, 0, 0, 0), (1, 0, 0, 0, (-9)), (7, 4, 0, 0, 0), (1, 0, 0, 0, 99), (7, 5, 0, 0, 0), (0, 0, 0, 0, 0), (7, 6, 0, 0, 0)] (0, 6, 0, 0, 0, []) ls st h := ai_blk_go S 132 5 ls st h
theorem k_132_6 (S : ai_S) (ls st : List Value) (h : ai_H) : ai_res S 132 6 ls st h = ai_go S 132 [(4, 6, 0, 0, 0), (5, 0, 0, 0, 0), (23, 6, 10, 13, 0), (0, 0, 0, 0, 0), (29, 0, 0, 0, 0)] (11, 27, 7, 0, 0, []) ls st h := ai_blk_go S 132 6 ls st h
theorem k_132_7 (S : ai_S) (ls st : List Value) (h : ai_H) : ai_res S 132 7 ls st h = ai_go S 132 [(3, 3, 0, 0, 0), (0, 0, 0, 0, 1)] (13, 27, 8, 0, 0, []) ls st h := ai_blk_go S 132 7 ls st h
theorem k_132_8 (S : ai_S) (ls st : List Value) (h : ai_H) : ai_res S 132 8 ls st h = ai_go S 132 [(0, 0, 0, 0, 0), (7, 7, 0, 0, 0), (0, 0, 0, 0, 0), (7, 8, 0, 0, 0)] (0, 9, 0, 0, 0, []) ls st h := ai_blk_go S 132 8 ls st h
theorem k_132_9 (S : ai_S) (ls st : List Value) (h : ai_H) : ai_res S 132 9 ls st h = ai_go S 132 [(4, 8, 0, 0, 0), (1, 0, 0, 0, 10)] (11, 17, 10, 0, 0, []) ls st h := ai_blk_go S 132 9 ls st h
theorem k_132_10 (S : ai_S) (ls st : List Value) (h : ai_H) : ai_res S 132 10 ls st h = ai_go S 132 [(4, 7, 0, 0, 0), (3, 2, 0, 0, 0), (4, 8, 0, 0, 0)] (19, 11, 86, 2, 0, [(0, 133)]) ls st h := ai_blk_go S 132 10 ls st h
theorem k_132_11 (S : ai_S) (ls st : List Value) (h : ai_H) : ai_res S 132 11 ls st h = ai_go S 132 [] (2, 15, 12, 0, 0, []) ls st h := ai_blk_go S 132 11 ls st h
theorem k_132_12 (S : ai_S) (ls st : List Value) (h : ai_H) : ai_res S 132 12 ls st h = ai_go S 132 [(5, 0, 0, 0, 0), (4, 6, 0, 0, 0), (3, 1, 0, 0, 0), (5, 0, 0, 0, 0), (23, 6, 10, 13, 0), (0, 0, 0, 0, 1), (29, 0, 0, 0, 0), (4, 8, 0, 0, 0)] (18, 13, 123, 5, 6, [(0, 173)]) ls st h := ai_blk_go S 132 12 ls st h
theorem k_132_13 (S : ai_S) (ls st : List Value) (h : ai_H) : ai_res S 132 13 ls st h = ai_go S 132 [(0, 0, 0, 0, 1), (13, 0, 0, 0, 0), (0, 0, 0, 0, 1)] (9, 15, 14, 0, 0, []) ls st h := ai_blk_go S 132 13 ls st h
theorem k_132_14 (S : ai_S) (ls st : List Value) (h : ai_H) : ai_res S 132 14 ls st h = ai_go S 132 [(0, 0, 0, 0, 1)] (1, 16, 0, 0, 0, []) ls st h := ai_blk_go S 132 14 ls st h
theorem k_132_15 (S : ai_S) (ls st : List Value) (h : ai_H) : ai_res S 132 15 ls st h = ai_go S 132 [(0, 0, 0, 0, 0)] (0, 16, 0, 0, 0, []) ls st h := ai_blk_go S 132 15 ls st h
theorem k_132_16 (S : ai_S) (ls st : List Value) (h : ai_H) : ai_res S 132 16 ls st h = ai_go S 132 [(10, 0, 0, 0, 0), (7, 7, 0, 0, 0), (9, 8, 0, 0, 1)] (1, 9, 0, 0, 0, []) ls st h := ai_blk_go S 132 16 ls st h
theorem k_132_17 (S : ai_S) (ls st : List Value) (h : ai_H) : ai_res S 132 17 ls st h = ai_go S 132 [(4, 7, 0, 0, 0), (3, 3, 0, 0, 0), (4, 7, 0, 0, 0), (11, 0, 0, 0, 0)] (13, 19, 18, 0, 0, []) ls st h := ai_blk_go S 132 17 ls st h
theorem k_132_18 (S : ai_S) (ls st : List Value) (h : ai_H) : ai_res S 132 18 ls st h = ai_go S 132 [(4, 7, 0, 0, 0)] (1, 20, 0, 0, 0, []) ls st h := ai_blk_go S 132 18 ls st h
theorem k_132_19 (S : ai_S) (ls st : List Value) (h : ai_H) : ai_res S 132 19 ls st h = ai_go S 132 [(3, 3, 0, 0, 0), (4, 7, 0, 0, 0), (11, 0, 0, 0, 0)] (0, 20, 0, 0, 0, []) ls st h := ai_blk_go S 132 19 ls st h
theorem k_132_20 (S : ai_S) (ls st : List Value) (h : ai_H) : ai_res S 132 20 ls st h = ai_go S 132 [(7, 8, 0, 0, 0), (4, 8, 0, 0, 0), (4, 5, 0, 0, 0)] (11, 22, 21, 0, 0, []) ls st h := ai_blk_go S 132 20 ls st h
theorem k_132_21 (S : ai_S) (ls st : List Value) (h : ai_H) : ai_res S 132 21 ls st h = ai_go S 132 [(4, 6, 0, 0, 0)] (1, 23, 0, 0, 0, []) ls st h := ai_blk_go S 132 21 ls st h
theorem k_132_22 (S : ai_S) (ls st : List Value) (h : ai_H) : ai_res S 132 22 ls st h = ai_go S 132 [(4, 4, 0, 0, 0)] (0, 23, 0, 0, 0, []) ls st h := ai_blk_go S 132 22 ls st h
theorem k_132_23 (S : ai_S) (ls st : List Value) (h : ai_H) : ai_res S 132 23 ls st h = ai_go S 132 [(7, 4, 0, 0, 0), (4, 8, 0, 0, 0), (4, 5, 0, 0, 0)] (11, 25, 24, 0, 0, []) ls st h := ai_blk_go S 132 23 ls st h
theorem k_132_24 (S : ai_S) (ls st : List Value) (h : ai_H) : ai_res S 132 24 ls st h = ai_go S 132 [(4, 8, 0, 0, 0)] (1, 26, 0, 0, 0, []) ls st h := ai_blk_go S 132 24 ls st h
theorem k_132_25 (S : ai_S) (ls st : List Value) (h : ai_H) : ai_res S 132 25 ls st h = ai_go S 132 [(4, 5, 0, 0, 0)] (0, 26, 0, 0, 0, []) ls st h := ai_blk_go S 132 25 ls st h
theorem k_132_26 (S : ai_S) (ls st : List Value) (h : ai_H) : ai_res S 132 26 ls st h = ai_go S 132 [(7, 5, 0, 0, 0), (9, 6, 0, 0, 1)] (1, 6, 0, 0, 0, []) ls st h := ai_blk_go S 132 26 ls st h
theorem k_132_27 (S : ai_S) (ls st : List Value) (h : ai_H) : ai_res S 132 27 ls st h = ai_go S 132 [(4, 4, 0, 0, 0)] (23, 0, 0, 0, 0, []) ls st h := ai_blk_go S 132 27 ls st h
theorem e_132 (S : ai_S) (q0 : Nat) (a0 : Int32) (h : ai_H) : ai_call S 132 [.ref q0, .int a0] h = ai_res S 132 0 [.ref q0, .int a0, ai_u, ai_u, ai_u, ai_u, ai_u, ai_u, ai_u] [] h := rfl
theorem k_133_0 (S : ai_S) (ls st : List Value) (h : ai_H) : ai_res S 133 0 ls st h = ai_go S 133 [(5, 0, 0, 0, 0), (0, 0, 0, 0, 0), (24, 6, 0, 59, 0), (3, 1, 0, 0, 0), (0, 0, 0, 0, 0), (0, 0, 0, 0, 5)] (19, 1, 85, 3, 0, [(0, 63)]) ls st h := ai_blk_go S 133 0 ls st h
theorem k_133_1 (S : ai_S) (ls st : List Value) (h : ai_H) : ai_res S 133 1 ls st h = ai_go S 133 [] (2, 4, 2, 0, 0, []) ls st h := ai_blk_go S 133 1 ls st h
theorem k_133_2 (S : ai_S) (ls st : List Value) (h : ai_H) : ai_res S 133 2 ls st h = ai_go S 133 [(5, 0, 0, 0, 0), (3, 2, 0, 0, 0)] (18, 3, 102, 2, 6, [(0, 127)]) ls st h := ai_blk_go S 133 2 ls st h
theorem k_133_3 (S : ai_S) (ls st : List Value) (h : ai_H) : ai_res S 133 3 ls st h = ai_go S 133 [] (3, 5, 4, 0, 0, []) ls st h := ai_blk_go S 133 3 ls st h
theorem k_133_4 (S : ai_S) (ls st : List Value) (h : ai_H) : ai_res S 133 4 ls st h = ai_go S 133 [(40, 0, 0, 188, (-1000000))] (23, 0, 0, 0, 0, []) ls st h := ai_blk_go S 133 4 ls st h
theorem k_133_5 (S : ai_S) (ls st : List Value) (h : ai_H) : ai_res S 133 5 ls st h = ai_go S 133 [(5, 0, 0, 0, 0), (23, 6, 13, 22, 0), (3, 2, 0, 0, 0), (29, 0, 0, 0, 0), (6, 3, 0, 0, 0), (3, 3, 0, 0, 0), (5, 0, 0, 0, 0), (23, 6, 15, 28, 0), (1, 0, 0, 0, 6), (3, 2, 0, 0, 0), (10, 0, 0, 0, 0), (29, 0, 0, 0, 0), (10, 0, 0, 0, 0), (7, 4, 0, 0, 0), (3, 3, 0, 0, 0), (5, 0, 0, 0, 0), (23, 6, 15, 28, 0), (0, 0, 0, 0, 0), (3, 2, 0, 0, 0), (10, 0, 0, 0, 0), (29, 0, 0, 0, 0), (11, 0, 0, 0, 0), (7, 5, 0, 0, 0), (5, 0, 0, 0, 0), (20, 0, 0, 0, 0), (23, 6, 1, 189, 0), (3, 1, 0, 0, 0)] (3, 7, 6, 0, 0, []) ls st h := ai_blk_go S 133 5 ls st h
theorem k_133_6 (S : ai_S) (ls st : List Value) (h : ai_H) : ai_res S 133 6 ls st h = ai_go S 133 [(43, 1, 0, 0, 1)] (1, 16, 0, 0, 0, []) ls st h := ai_blk_go S 133 6 ls st h
theorem k_133_7 (S : ai_S) (ls st : List Value) (h : ai_H) : ai_res S 133 7 ls st h = ai_go S 133 [(3, 1, 0, 0, 0), (0, 0, 0, 0, 1)] (9, 9, 8, 0, 0, []) ls st h := ai_blk_go S 133 7 ls st h
theorem k_133_8 (S : ai_S) (ls st : List Value) (h : ai_H) : ai_res S 133 8 ls st h = ai_go S 133 [(42, 0, 0, 193, 11)] (1, 16, 0, 0, 0, []) ls st h := ai_blk_go S 133 8 ls st h
theorem k_133_9 (S : ai_S) (ls st : List Value) (h : ai_H) : ai_res S 133 9 ls st h = ai_go S 133 [(3, 1, 0, 0, 0), (0, 0, 0, 0, 2)] (9, 11, 10, 0, 0, []) ls st h := ai_blk_go S 133 9 ls st h
theorem k_133_10 (S : ai_S) (ls st : List Value) (h : ai_H) : ai_res S 133 10 ls st h = ai_go S 133 [(42, 0, 0, 195, 101)] (1, 16, 0, 0, 0, []) ls st h := ai_blk_go S 133 10 ls st h
theorem k_133_11 (S : ai_S) (ls st : List Value) (h : ai_H) : ai_res S 133 11 ls st h = ai_go S 133 [(3, 1, 0, 0, 0), (0, 0, 0, 0, 3)] (9, 13, 12, 0, 0, []) ls st h := ai_blk_go S 133 11 ls st h
theorem k_133_12 (S : ai_S) (ls st : List Value) (h : ai_H) : ai_res S 133 12 ls st h = ai_go S 133 [(42, 0, 0, 197, 1011)] (1, 16, 0, 0, 0, []) ls st h := ai_blk_go S 133 12 ls st h
theorem k_133_13 (S : ai_S) (ls st : List Value) (h : ai_H) : ai_res S 133 13 ls st h = ai_go S 133 [(3, 1, 0, 0, 0), (0, 0, 0, 0, 4)] (9, 15, 14, 0, 0, []) ls st h := ai_blk_go S 133 13 ls st h
theorem k_133_14 (S : ai_S) (ls st : List Value) (h : ai_H) : ai_res S 133 14 ls st h = ai_go S 133 [(42, 0, 0, 199, 10101)] (1, 16, 0, 0, 0, []) ls st h := ai_blk_go S 133 14 ls st h
theorem k_133_15 (S : ai_S) (ls st : List Value) (h : ai_H) : ai_res S 133 15 ls st h = ai_go S 133 [(42, 0, 0, 201, 100001)] (0, 16, 0, 0, 0, []) ls st h := ai_blk_go S 133 15 ls st h
theorem k_133_16 (S : ai_S) (ls st : List Value) (h : ai_H) : ai_res S 133 16 ls st h = ai_go S 133 [(44, 0, 0, 0, 0), (26, 6, 1, 189, 0), (3, 1, 0, 0, 0)] (3, 18, 17, 0, 0, []) ls st h := ai_blk_go S 133 16 ls st h
theorem k_133_17 (S : ai_S) (ls st : List Value) (h : ai_H) : ai_res S 133 17 ls st h = ai_go S 133 [(3, 3, 0, 0, 0)] (1, 27, 0, 0, 0, []) ls st h := ai_blk_go S 133 17 ls st h
theorem k_133_18 (S : ai_S) (ls st : List Value) (h : ai_H) : ai_res S 133 18 ls st h = ai_go S 133 [(3, 1, 0, 0, 0), (0, 0, 0, 0, 1)] (9, 20, 19, 0, 0, []) ls st h := ai_blk_go S 133 18 ls st h
theorem k_133_19 (S : ai_S) (ls st : List Value) (h : ai_H) : ai_res S 133 19 ls st h = ai_go S 133 [(4, 4, 0, 0, 0)] (1, 27, 0, 0, 0, []) ls st h := ai_blk_go S 133 19 ls st h
theorem k_133_20 (S : ai_S) (ls st : List Value) (h : ai_H) : ai_res S 133 20 ls st h = ai_go S 133 [(3, 1, 0, 0, 0), (0, 0, 0, 0, 2)] (9, 22, 21, 0, 0, []) ls st h := ai_blk_go S 133 20 ls st h
theorem k_133_21 (S : ai_S) (ls st : List Value) (h : ai_H) : ai_res S 133 21 ls st h = ai_go S 133 [(4, 5, 0, 0, 0)] (1, 27, 0, 0, 0, []) ls st h := ai_blk_go S 133 21 ls st h
theorem k_133_22 (S : ai_S) (ls st : List Value) (h : ai_H) : ai_res S 133 22 ls st h = ai_go S 133 [(3, 1, 0, 0, 0), (0, 0, 0, 0, 3)] (9, 24, 23, 0, 0, []) ls st h := ai_blk_go S 133 22 ls st h
theorem k_133_23 (S : ai_S) (ls st : List Value) (h : ai_H) : ai_res S 133 23 ls st h = ai_go S 133 [(0, 0, 0, 0, 2), (4, 4, 0, 0, 0), (12, 0, 0, 0, 0)] (1, 27, 0, 0, 0, []) ls st h := ai_blk_go S 133 23 ls st h
theorem k_133_24 (S : ai_S) (ls st : List Value) (h : ai_H) : ai_res S 133 24 ls st h = ai_go S 133 [(3, 1, 0, 0, 0), (0, 0, 0, 0, 4)] (9, 26, 25, 0, 0, []) ls st h := ai_blk_go S 133 24 ls st h
theorem k_133_25 (S : ai_S) (ls st : List Value) (h : ai_H) : ai_res S 133 25 ls st h = ai_go S 133 [(4, 5, 0, 0, 0), (3, 2, 0, 0, 0), (10, 0, 0, 0, 0)] (1, 27, 0, 0, 0, []) ls st h := ai_blk_go S 133 25 ls st h
theorem k_133_26 (S : ai_S) (ls st : List Value) (h : ai_H) : ai_res S 133 26 ls st h = ai_go S 133 [(3, 3, 0, 0, 0), (5, 0, 0, 0, 0), (23, 6, 15, 28, 0), (1, 0, 0, 0, 15), (29, 0, 0, 0, 0), (10, 0, 0, 0, 0)] (0, 27, 0, 0, 0, []) ls st h := ai_blk_go S 133 26 ls st h
theorem k_133_27 (S : ai_S) (ls st : List Value) (h : ai_H) : ai_res S 133 27 ls st h = ai_go S 133 [] (23, 0, 0, 0, 0, []) ls st h := ai_blk_go S 133 27 ls st h
theorem e_133 (S : ai_S) (q0 : Nat) (a0 : Int32) (a1 : Int32) (h : ai_H) : ai_call S 133 [.ref q0, .int a0, .int a1] h = ai_res S 133 0 [.ref q0, .int a0, .int a1, ai_u, ai_u, ai_u] [] h := rfl
theorem k_134_0 (S : ai_S) (ls st : List Value) (h : ai_H) : ai_res S 134 0 ls st h = ai_go S 134 [(5, 0, 0, 0, 0), (0, 0, 0, 0, 0), (24, 6, 0, 59, 0), (3, 1, 0, 0, 0), (0, 0, 0, 0, 0), (0, 0, 0, 0, 1)] (19, 1, 85, 3, 0, [(0, 63)]) ls st h := ai_blk_go S 134 0 ls st h
theorem k_134_1 (S : ai_S) (ls st : List Value) (h : ai_H) : ai_res S 134 1 ls st h = ai_go S 134 [] (3, 3, 2, 0, 0, []) ls st h := ai_blk_go S 134 1 ls st h
theorem k_134_2 (S : ai_S) (ls st : List Value) (h : ai_H) : ai_res S 134 2 ls st h = ai_go S 134 [(0, 0, 0, 0, (-1))] (23, 0, 0, 0, 0, []) ls st h := ai_blk_go S 134 2 ls st h
theorem k_134_3 (S : ai_S) (ls st : List Value) (h : ai_H) : ai_res S 134 3 ls st h = ai_go S 134 [(0, 0, 0, 0, 0), (6, 2, 0, 0, 0)] (0, 4, 0, 0, 0, []) ls st h := ai_blk_go S 134 3 ls st h
theorem k_134_4 (S : ai_S) (ls st : List Value) (h : ai_H) : ai_res S 134 4 ls st h = ai_go S 134 [(3, 2, 0, 0, 0), (1, 0, 0, 0, 18)] (11, 6, 5, 0, 0, []) ls st h := ai_blk_go S 134 4 ls st h
theorem k_134_5 (S : ai_S) (ls st : List Value) (h : ai_H) : ai_res S 134 5 ls st h = ai_go S 134 [(5, 0, 0, 0, 0), (23, 6, 16, 31, 0), (1, 0, 0, 0, 18), (3, 1, 0, 0, 0), (12, 0, 0, 0, 0), (3, 2, 0, 0, 0), (10, 0, 0, 0, 0), (5, 0, 0, 0, 0), (23, 6, 15, 28, 0), (3, 2, 0, 0, 0), (29, 0, 0, 0, 0), (30, 0, 0, 0, 0), (9, 2, 0, 0, 1)] (1, 4, 0, 0, 0, []) ls st h := ai_blk_go S 134 5 ls st h
theorem k_134_6 (S : ai_S) (ls st : List Value) (h : ai_H) : ai_res S 134 6 ls st h = ai_go S 134 [(5, 0, 0, 0, 0), (23, 6, 17, 34, 0), (3, 1, 0, 0, 0), (0, 0, 0, 0, 1), (32, 0, 0, 0, 0), (5, 0, 0, 0, 0), (23, 6, 15, 28, 0), (1, 0, 0, 0, 12), (29, 0, 0, 0, 0)] (19, 7, 87, 1, 0, [(0, 176)]) ls st h := ai_blk_go S 134 6 ls st h
theorem k_134_7 (S : ai_S) (ls st : List Value) (h : ai_H) : ai_res S 134 7 ls st h = ai_go S 134 [] (23, 0, 0, 0, 0, []) ls st h := ai_blk_go S 134 7 ls st h
theorem e_134 (S : ai_S) (q0 : Nat) (a0 : Int32) (h : ai_H) : ai_call S 134 [.ref q0, .int a0] h = ai_res S 134 0 [.ref q0, .int a0, ai_u] [] h := rfl
theorem k_135_0 (S : ai_S) (ls st : List Value) (h : ai_H) : ai_res S 135 0 ls st h = ai_go S 135 [(5, 0, 0, 0, 0), (0, 0, 0, 0, 0), (24, 6, 0, 59, 0), (3, 1, 0, 0, 0), (0, 0, 0, 0, 0), (0, 0, 0, 0, 1)] (19, 1, 85, 3, 0, [(0, 63)]) ls st h := ai_blk_go S 135 0 ls st h
theorem k_135_1 (S : ai_S) (ls st : List Value) (h : ai_H) : ai_res S 135 1 ls st h = ai_go S 135 [] (3, 3, 2, 0, 0, []) ls st h := ai_blk_go S 135 1 ls st h
theorem k_135_2 (S : ai_S) (ls st : List Value) (h : ai_H) : ai_res S 135 2 ls st h = ai_go S 135 [(0, 0, 0, 0, (-1))] (23, 0, 0, 0, 0, []) ls st h := ai_blk_go S 135 2 ls st h
theorem k_135_3 (S : ai_S) (ls st : List Value) (h : ai_H) : ai_res S 135 3 ls st h = ai_go S 135 [(5, 0, 0, 0, 0), (23, 6, 17, 34, 0), (3, 1, 0, 0, 0), (31, 0, 0, 0, 0)] (3, 5, 4, 0, 0, []) ls st h := ai_blk_go S 135 3 ls st h
theorem k_135_4 (S : ai_S) (ls st : List Value) (h : ai_H) : ai_res S 135 4 ls st h = ai_go S 135 [(1, 0, 0, 0, (-2))] (23, 0, 0, 0, 0, []) ls st h := ai_blk_go S 135 4 ls st h
theorem k_135_5 (S : ai_S) (ls st : List Value) (h : ai_H) : ai_res S 135 5 ls st h = ai_go S 135 [(0, 0, 0, 0, 0), (6, 2, 0, 0, 0)] (0, 6, 0, 0, 0, []) ls st h := ai_blk_go S 135 5 ls st h
theorem k_135_6 (S : ai_S) (ls st : List Value) (h : ai_H) : ai_res S 135 6 ls st h = ai_go S 135 [(3, 2, 0, 0, 0), (1, 0, 0, 0, 18)] (11, 8, 7, 0, 0, []) ls st h := ai_blk_go S 135 6 ls st h
theorem k_135_7 (S : ai_S) (ls st : List Value) (h : ai_H) : ai_res S 135 7 ls st h = ai_go S 135 [(5, 0, 0, 0, 0), (23, 6, 15, 28, 0), (3, 2, 0, 0, 0), (5, 0, 0, 0, 0), (23, 6, 16, 31, 0), (1, 0, 0, 0, 18), (3, 1, 0, 0, 0), (12, 0, 0, 0, 0), (3, 2, 0, 0, 0), (10, 0, 0, 0, 0), (29, 0, 0, 0, 0), (30, 0, 0, 0, 0), (9, 2, 0, 0, 1)] (1, 6, 0, 0, 0, []) ls st h := ai_blk_go S 135 7 ls st h
theorem k_135_8 (S : ai_S) (ls st : List Value) (h : ai_H) : ai_res S 135 8 ls st h = ai_go S 135 [(5, 0, 0, 0, 0), (0, 0, 0, 0, 0), (24, 6, 19, 124, 0), (5, 0, 0, 0, 0), (23, 6, 15, 28, 0), (1, 0, 0, 0, 12), (29, 0, 0, 0, 0)] (19, 9, 87, 1, 0, [(0, 176)]) ls st h := ai_blk_go S 135 8 ls st h
theorem k_135_9 (S : ai_S) (ls st : List Value) (h : ai_H) : ai_res S 135 9 ls st h = ai_go S 135 [] (23, 0, 0, 0, 0, []) ls st h := ai_blk_go S 135 9 ls st h
theorem e_135 (S : ai_S) (q0 : Nat) (a0 : Int32) (h : ai_H) : ai_call S 135 [.ref q0, .int a0] h = ai_res S 135 0 [.ref q0, .int a0, ai_u] [] h := rfl
theorem k_136_0 (S : ai_S) (ls st : List Value) (h : ai_H) : ai_res S 136 0 ls st h = ai_go S 136 [(5, 0, 0, 0, 0), (0, 0, 0, 0, 0), (24, 6, 0, 59, 0), (3, 1, 0, 0, 0), (0, 0, 0, 0, 0), (0, 0, 0, 0, 3)] (19, 1, 85, 3, 0, [(0, 63)]) ls st h := ai_blk_go S 136 0 ls st h
theorem k_136_1 (S : ai_S) (ls st : List Value) (h : ai_H) : ai_res S 136 1 ls st h = ai_go S 136 [] (2, 3, 2, 0, 0, []) ls st h := ai_blk_go S 136 1 ls st h
theorem k_136_2 (S : ai_S) (ls st : List Value) (h : ai_H) : ai_res S 136 2 ls st h = ai_go S 136 [(5, 0, 0, 0, 0), (23, 6, 10, 13, 0), (3, 1, 0, 0, 0), (29, 0, 0, 0, 0)] (1, 8, 0, 0, 0, []) ls st h := ai_blk_go S 136 2 ls st h
theorem k_136_3 (S : ai_S) (ls st : List Value) (h : ai_H) : ai_res S 136 3 ls st h = ai_go S 136 [(3, 1, 0, 0, 0), (0, 0, 0, 0, 4)] (9, 5, 4, 0, 0, []) ls st h := ai_blk_go S 136 3 ls st h
theorem k_136_4 (S : ai_S) (ls st : List Value) (h : ai_H) : ai_res S 136 4 ls st h = ai_go S 136 [(5, 0, 0, 0, 0), (23, 6, 23, 121, 0)] (1, 8, 0, 0, 0, []) ls st h := ai_blk_go S 136 4 ls st h
theorem k_136_5 (S : ai_S) (ls st : List Value) (h : ai_H) : ai_res S 136 5 ls st h = ai_go S 136 [(3, 1, 0, 0, 0), (0, 0, 0, 0, 5)] (9, 7, 6, 0, 0, []) ls st h := ai_blk_go S 136 5 ls st h
theorem k_136_6 (S : ai_S) (ls st : List Value) (h : ai_H) : ai_res S 136 6 ls st h = ai_go S 136 [(5, 0, 0, 0, 0), (23, 6, 3, 67, 0)] (1, 8, 0, 0, 0, []) ls st h := ai_blk_go S 136 6 ls st h
theorem k_136_7 (S : ai_S) (ls st : List Value) (h : ai_H) : ai_res S 136 7 ls st h = ai_go S 136 [(0, 0, 0, 0, (-1))] (0, 8, 0, 0, 0, []) ls st h := ai_blk_go S 136 7 ls st h
theorem k_136_8 (S : ai_S) (ls st : List Value) (h : ai_H) : ai_res S 136 8 ls st h = ai_go S 136 [] (23, 0, 0, 0, 0, []) ls st h := ai_blk_go S 136 8 ls st h
theorem e_136 (S : ai_S) (q0 : Nat) (a0 : Int32) (h : ai_H) : ai_call S 136 [.ref q0, .int a0] h = ai_res S 136 0 [.ref q0, .int a0] [] h := rfl
theorem k_137_0 (S : ai_S) (ls st : List Value) (h : ai_H) : ai_res S 137 0 ls st h = ai_go S 137 [(5, 0, 0, 0, 0), (0, 0, 0, 0, 0), (24, 6, 0, 59, 0), (5, 0, 0, 0, 0), (23, 6, 1, 189, 0)] (25, 0, 0, 0, 0, []) ls st h := ai_blk_go S 137 0 ls st h
theorem e_137 (S : ai_S) (q0 : Nat) (h : ai_H) : ai_call S 137 [.ref q0] h = ai_res S 137 0 [.ref q0] [] h := rfl
theorem k_138_0 (S : ai_S) (ls st : List Value) (h : ai_H) : ai_res S 138 0 ls st h = ai_go S 138 [(3, 0, 0, 0, 0), (3, 0, 0, 0, 0), (0, 0, 0, 0, 1), (17, 0, 0, 0, 0), (41, 0, 0, 265, 1431655765), (13, 0, 0, 0, 0), (11, 0, 0, 0, 0), (6, 0, 0, 0, 0), (3, 0, 0, 0, 0), (41, 0, 0, 266, 858993459), (13, 0, 0, 0, 0), (3, 0, 0, 0, 0), (0, 0, 0, 0, 2), (17, 0, 0, 0, 0), (41, 0, 0, 266, 858993459), (13, 0, 0, 0, 0), (10, 0, 0, 0, 0), (6, 0, 0, 0, 0), (3, 0, 0, 0, 0), (3, 0, 0, 0, 0), (0, 0, 0, 0, 4), (17, 0, 0, 0, 0), (10, 0, 0, 0, 0), (41, 0, 0, 267, 252645135), (13, 0, 0, 0, 0), (6, 0, 0, 0, 0), (3, 0, 0, 0, 0), (3, 0, 0, 0, 0), (1, 0, 0, 0, 8), (17, 0, 0, 0, 0), (10, 0, 0, 0, 0), (6, 0, 0, 0, 0), (3, 0, 0, 0, 0), (3, 0, 0, 0, 0), (1, 0, 0, 0, 16), (17, 0, 0, 0, 0), (10, 0, 0, 0, 0), (6, 0, 0, 0, 0), (3, 0, 0, 0, 0), (1, 0, 0, 0, 63), (13, 0, 0, 0, 0)] (23, 0, 0, 0, 0, []) ls st h := ai_blk_go S 138 0 ls st h
theorem e_138 (S : ai_S) (a0 : Int32) (h : ai_H) : ai_call S 138 [.int a0] h = ai_res S 138 0 [.int a0] [] h := rfl
theorem k_139_0 (S : ai_S) (ls st : List Value) (h : ai_H) : ai_res S 139 0 ls st h = ai_go S 139 [(39, 5, 0, 7, 0), (20, 0, 0, 0, 0)] (20, 1, 24, 1, 0, [(0, 9)]) ls st h := ai_blk_go S 139 0 ls st h
theorem k_139_1 (S : ai_S) (ls st : List Value) (h : ai_H) : ai_res S 139 1 ls st h = ai_go S 139 [(8, 1, 0, 0, 0), (39, 6, 0, 10, 0), (20, 0, 0, 0, 0)] (20, 2, 84, 1, 0, [(0, 12)]) ls st h := ai_blk_go S 139 1 ls st h
theorem k_139_2 (S : ai_S) (ls st : List Value) (h : ai_H) : ai_res S 139 2 ls st h = ai_go S 139 [(8, 2, 0, 0, 0), (0, 0, 0, 0, 0), (6, 3, 0, 0, 0)] (0, 3, 0, 0, 0, []) ls st h := ai_blk_go S 139 2 ls st h
theorem k_139_3 (S : ai_S) (ls st : List Value) (h : ai_H) : ai_res S 139 3 ls st h = ai_go S 139 [(3, 3, 0, 0, 0), (5, 0, 0, 0, 0), (35, 0, 0, 0, 0), (0, 0, 0, 0, 4), (11, 0, 0, 0, 0)] (12, 102, 4, 0, 0, []) ls st h := ai_blk_go S 139 3 ls st h
theorem k_139_4 (S : ai_S) (ls st : List Value) (h : ai_H) : ai_res S 139 4 ls st h = ai_go S 139 [(5, 0, 0, 0, 0), (3, 3, 0, 0, 0), (29, 0, 0, 0, 0), (1, 0, 0, 0, 31), (13, 0, 0, 0, 0)] (16, 101, 0, 112, 0, [(0, 5), (1, 9), (2, 13), (3, 17), (4, 21), (5, 25), (6, 29), (7, 33), (8, 37), (9, 41), (10, 45), (11, 49), (12, 53), (13, 57), (14, 61), (15, 65), (16, 69), (17, 73), (18, 77), (19, 81), (20, 85), (21, 89), (22, 93), (23, 97)]) ls st h := ai_blk_go S 139 4 ls st h
theorem k_139_5 (S : ai_S) (ls st : List Value) (h : ai_H) : ai_res S 139 5 ls st h = ai_go S 139 [(5, 1, 0, 0, 0), (5, 0, 0, 0, 0), (3, 3, 0, 0, 0), (0, 0, 0, 0, 1), (10, 0, 0, 0, 0), (29, 0, 0, 0, 0)] (18, 6, 25, 2, 5, [(0, 13)]) ls st h := ai_blk_go S 139 5 ls st h
theorem k_139_6 (S : ai_S) (ls st : List Value) (h : ai_H) : ai_res S 139 6 ls st h = ai_go S 139 [(5, 2, 0, 0, 0), (5, 0, 0, 0, 0), (3, 3, 0, 0, 0), (0, 0, 0, 0, 1), (10, 0, 0, 0, 0), (29, 0, 0, 0, 0)] (18, 7, 88, 2, 6, [(0, 17)]) ls st h := ai_blk_go S 139 6 ls st h
theorem k_139_7 (S : ai_S) (ls st : List Value) (h : ai_H) : ai_res S 139 7 ls st h = ai_go S 139 [] (8, 101, 8, 0, 0, []) ls st h := ai_blk_go S 139 7 ls st h
theorem k_139_8 (S : ai_S) (ls st : List Value) (h : ai_H) : ai_res S 139 8 ls st h = ai_go S 139 [(0, 0, 0, 0, 0)] (24, 0, 0, 0, 0, []) ls st h := ai_blk_go S 139 8 ls st h
theorem k_139_9 (S : ai_S) (ls st : List Value) (h : ai_H) : ai_res S 139 9 ls st h = ai_go S 139 [(5, 1, 0, 0, 0)] (18, 10, 26, 1, 5, [(0, 18)]) ls st h := ai_blk_go S 139 9 ls st h
theorem k_139_10 (S : ai_S) (ls st : List Value) (h : ai_H) : ai_res S 139 10 ls st h = ai_go S 139 [(5, 2, 0, 0, 0)] (18, 11, 89, 1, 6, [(0, 22)]) ls st h := ai_blk_go S 139 10 ls st h
theorem k_139_11 (S : ai_S) (ls st : List Value) (h : ai_H) : ai_res S 139 11 ls st h = ai_go S 139 [] (8, 101, 12, 0, 0, []) ls st h := ai_blk_go S 139 11 ls st h
theorem k_139_12 (S : ai_S) (ls st : List Value) (h : ai_H) : ai_res S 139 12 ls st h = ai_go S 139 [(0, 0, 0, 0, 0)] (24, 0, 0, 0, 0, []) ls st h := ai_blk_go S 139 12 ls st h
theorem k_139_13 (S : ai_S) (ls st : List Value) (h : ai_H) : ai_res S 139 13 ls st h = ai_go S 139 [(5, 1, 0, 0, 0)] (18, 14, 27, 1, 5, [(0, 23)]) ls st h := ai_blk_go S 139 13 ls st h
theorem k_139_14 (S : ai_S) (ls st : List Value) (h : ai_H) : ai_res S 139 14 ls st h = ai_go S 139 [(5, 2, 0, 0, 0)] (18, 15, 100, 1, 6, [(0, 26)]) ls st h := ai_blk_go S 139 14 ls st h
theorem k_139_15 (S : ai_S) (ls st : List Value) (h : ai_H) : ai_res S 139 15 ls st h = ai_go S 139 [] (8, 101, 16, 0, 0, []) ls st h := ai_blk_go S 139 15 ls st h
theorem k_139_16 (S : ai_S) (ls st : List Value) (h : ai_H) : ai_res S 139 16 ls st h = ai_go S 139 [(0, 0, 0, 0, 0)] (24, 0, 0, 0, 0, []) ls st h := ai_blk_go S 139 16 ls st h
theorem k_139_17 (S : ai_S) (ls st : List Value) (h : ai_H) : ai_res S 139 17 ls st h = ai_go S 139 [(5, 1, 0, 0, 0), (5, 0, 0, 0, 0), (3, 3, 0, 0, 0), (0, 0, 0, 0, 1), (10, 0, 0, 0, 0), (29, 0, 0, 0, 0), (5, 0, 0, 0, 0), (3, 3, 0, 0, 0), (0, 0, 0, 0, 2), (10, 0, 0, 0, 0), (29, 0, 0, 0, 0)] (18, 18, 28, 3, 5, [(0, 27)]) ls st h := ai_blk_go S 139 17 ls st h
theorem k_139_18 (S : ai_S) (ls st : List Value) (h : ai_H) : ai_res S 139 18 ls st h = ai_go S 139 [(5, 2, 0, 0, 0), (5, 0, 0, 0, 0), (3, 3, 0, 0, 0), (0, 0, 0, 0, 1), (10, 0, 0, 0, 0), (29, 0, 0, 0, 0), (5, 0, 0, 0, 0), (3, 3, 0, 0, 0), (0, 0, 0, 0, 2), (10, 0, 0, 0, 0), (29, 0, 0, 0, 0)] (18, 19, 104, 3, 6, [(0, 31)]) ls st h := ai_blk_go S 139 18 ls st h
theorem k_139_19 (S : ai_S) (ls st : List Value) (h : ai_H) : ai_res S 139 19 ls st h = ai_go S 139 [] (8, 101, 20, 0, 0, []) ls st h := ai_blk_go S 139 19 ls st h
theorem k_139_20 (S : ai_S) (ls st : List Value) (h : ai_H) : ai_res S 139 20 ls st h = ai_go S 139 [(0, 0, 0, 0, 0)] (24, 0, 0, 0, 0, []) ls st h := ai_blk_go S 139 20 ls st h
theorem k_139_21 (S : ai_S) (ls st : List Value) (h : ai_H) : ai_res S 139 21 ls st h = ai_go S 139 [(5, 1, 0, 0, 0), (5, 0, 0, 0, 0), (3, 3, 0, 0, 0), (0, 0, 0, 0, 1), (10, 0, 0, 0, 0), (29, 0, 0, 0, 0)] (18, 22, 29, 2, 5, [(0, 32)]) ls st h := ai_blk_go S 139 21 ls st h
theorem k_139_22 (S : ai_S) (ls st : List Value) (h : ai_H) : ai_res S 139 22 ls st h = ai_go S 139 [(5, 2, 0, 0, 0), (5, 0, 0, 0, 0), (3, 3, 0, 0, 0), (0, 0, 0, 0, 1), (10, 0, 0, 0, 0), (29, 0, 0, 0, 0)] (18, 23, 107, 2, 6, [(0, 35)]) ls st h := ai_blk_go S 139 22 ls st h
theorem k_139_23 (S : ai_S) (ls st : List Value) (h : ai_H) : ai_res S 139 23 ls st h = ai_go S 139 [] (8, 101, 24, 0, 0, []) ls st h := ai_blk_go S 139 23 ls st h
theorem k_139_24 (S : ai_S) (ls st : List Value) (h : ai_H) : ai_res S 139 24 ls st h = ai_go S 139 [(0, 0, 0, 0, 0)] (24, 0, 0, 0, 0, []) ls st h := ai_blk_go S 139 24 ls st h
theorem k_139_25 (S : ai_S) (ls st : List Value) (h : ai_H) : ai_res S 139 25 ls st h = ai_go S 139 [(5, 1, 0, 0, 0), (5, 0, 0, 0, 0), (3, 3, 0, 0, 0), (0, 0, 0, 0, 1), (10, 0, 0, 0, 0), (29, 0, 0, 0, 0), (5, 0, 0, 0, 0), (3, 3, 0, 0, 0), (0, 0, 0, 0, 2), (10, 0, 0, 0, 0), (29, 0, 0, 0, 0)] (18, 26, 34, 3, 5, [(0, 36)]) ls st h := ai_blk_go S 139 25 ls st h
theorem k_139_26 (S : ai_S) (ls st : List Value) (h : ai_H) : ai_res S 139 26 ls st h = ai_go S 139 [(5, 2, 0, 0, 0), (5, 0, 0, 0, 0), (3, 3, 0, 0, 0), (0, 0, 0, 0, 1), (10, 0, 0, 0, 0), (29, 0, 0, 0, 0), (5, 0, 0, 0, 0), (3, 3, 0, 0, 0), (0, 0, 0, 0, 2), (10, 0, 0, 0, 0), (29, 0, 0, 0, 0)] (18, 27, 111, 3, 6, [(0, 39)]) ls st h := ai_blk_go S 139 26 ls st h
theorem k_139_27 (S : ai_S) (ls st : List Value) (h : ai_H) : ai_res S 139 27 ls st h = ai_go S 139 [] (8, 101, 28, 0, 0, []) ls st h := ai_blk_go S 139 27 ls st h
theorem k_139_28 (S : ai_S) (ls st : List Value) (h : ai_H) : ai_res S 139 28 ls st h = ai_go S 139 [(0, 0, 0, 0, 0)] (24, 0, 0, 0, 0, []) ls st h := ai_blk_go S 139 28 ls st h
theorem k_139_29 (S : ai_S) (ls st : List Value) (h : ai_H) : ai_res S 139 29 ls st h = ai_go S 139 [(5, 1, 0, 0, 0)] (18, 30, 35, 1, 5, [(0, 40)]) ls st h := ai_blk_go S 139 29 ls st h
theorem k_139_30 (S : ai_S) (ls st : List Value) (h : ai_H) : ai_res S 139 30 ls st h = ai_go S 139 [(5, 2, 0, 0, 0)] (18, 31, 112, 1, 6, [(0, 43)]) ls st h := ai_blk_go S 139 30 ls st h
theorem k_139_31 (S : ai_S) (ls st : List Value) (h : ai_H) : ai_res S 139 31 ls st h = ai_go S 139 [] (8, 101, 32, 0, 0, []) ls st h := ai_blk_go S 139 31 ls st h
theorem k_139_32 (S : ai_S) (ls st : List Value) (h : ai_H) : ai_res S 139 32 ls st h = ai_go S 139 [(0, 0, 0, 0, 0)] (24, 0, 0, 0, 0, []) ls st h := ai_blk_go S 139 32 ls st h
theorem k_139_33 (S : ai_S) (ls st : List Value) (h : ai_H) : ai_res S 139 33 ls st h = ai_go S 139 [(5, 1, 0, 0, 0), (5, 0, 0, 0, 0), (3, 3, 0, 0, 0), (0, 0, 0, 0, 1), (10, 0, 0, 0, 0), (29, 0, 0, 0, 0)] (18, 34, 36, 2, 5, [(0, 44)]) ls st h := ai_blk_go S 139 33 ls st h
theorem k_139_34 (S : ai_S) (ls st : List Value) (h : ai_H) : ai_res S 139 34 ls st h = ai_go S 139 [(5, 2, 0, 0, 0), (5, 0, 0, 0, 0), (3, 3, 0, 0, 0), (0, 0, 0, 0, 1), (10, 0, 0, 0, 0), (29, 0, 0, 0, 0)] (18, 35, 113, 2, 6, [(0, 47)]) ls st h := ai_blk_go S 139 34 ls st h
theorem k_139_35 (S : ai_S) (ls st : List Value) (h : ai_H) : ai_res S 139 35 ls st h = ai_go S 139 [] (8, 101, 36, 0, 0, []) ls st h := ai_blk_go S 139 35 ls st h
theorem k_139_36 (S : ai_S) (ls st : List Value) (h : ai_H) : ai_res S 139 36 ls st h = ai_go S 139 [(0, 0, 0, 0, 0)] (24, 0, 0, 0, 0, []) ls st h := ai_blk_go S 139 36 ls st h
theorem k_139_37 (S : ai_S) (ls st : List Value) (h : ai_H) : ai_res S 139 37 ls st h = ai_go S 139 [(5, 1, 0, 0, 0)] (18, 38, 37, 1, 5, [(0, 48)]) ls st h := ai_blk_go S 139 37 ls st h
theorem k_139_38 (S : ai_S) (ls st : List Value) (h : ai_H) : ai_res S 139 38 ls st h = ai_go S 139 [(5, 2, 0, 0, 0)] (18, 39, 114, 1, 6, [(0, 51)]) ls st h := ai_blk_go S 139 38 ls st h
theorem k_139_39 (S : ai_S) (ls st : List Value) (h : ai_H) : ai_res S 139 39 ls st h = ai_go S 139 [] (8, 101, 40, 0, 0, []) ls st h := ai_blk_go S 139 39 ls st h
theorem k_139_40 (S : ai_S) (ls st : List Value) (h : ai_H) : ai_res S 139 40 ls st h = ai_go S 139 [(0, 0, 0, 0, 0)] (24, 0, 0, 0, 0, []) ls st h := ai_blk_go S 139 40 ls st h
theorem k_139_41 (S : ai_S) (ls st : List Value) (h : ai_H) : ai_res S 139 41 ls st h = ai_go S 139 [(5, 1, 0, 0, 0), (5, 0, 0, 0, 0), (3, 3, 0, 0, 0), (0, 0, 0, 0, 1), (10, 0, 0, 0, 0), (29, 0, 0, 0, 0)] (18, 42, 38, 2, 5, [(0, 52)]) ls st h := ai_blk_go S 139 41 ls st h
theorem k_139_42 (S : ai_S) (ls st : List Value) (h : ai_H) : ai_res S 139 42 ls st h = ai_go S 139 [(5, 2, 0, 0, 0), (5, 0, 0, 0, 0), (3, 3, 0, 0, 0), (0, 0, 0, 0, 1), (10, 0, 0, 0, 0), (29, 0, 0, 0, 0)] (18, 43, 115, 2, 6, [(0, 55)]) ls st h := ai_blk_go S 139 42 ls st h
theorem k_139_43 (S : ai_S) (ls st : List Value) (h : ai_H) : ai_res S 139 43 ls st h = ai_go S 139 [] (8, 101, 44, 0, 0, []) ls st h := ai_blk_go S 139 43 ls st h
theorem k_139_44 (S : ai_S) (ls st : List Value) (h : ai_H) : ai_res S 139 44 ls st h = ai_go S 139 [(0, 0, 0, 0, 0)] (24, 0, 0, 0, 0, []) ls st h := ai_blk_go S 139 44 ls st h
theorem k_139_45 (S : ai_S) (ls st : List Value) (h : ai_H) : ai_res S 139 45 ls st h = ai_go S 139 [(5, 1, 0, 0, 0)] (18, 46, 39, 1, 5, [(0, 56)]) ls st h := ai_blk_go S 139 45 ls st h
theorem k_139_46 (S : ai_S) (ls st : List Value) (h : ai_H) : ai_res S 139 46 ls st h = ai_go S 139 [(5, 2, 0, 0, 0)] (18, 47, 116, 1, 6, [(0, 59)]) ls st h := ai_blk_go S 139 46 ls st h
theorem k_139_47 (S : ai_S) (ls st : List Value) (h : ai_H) : ai_res S 139 47 ls st h = ai_go S 139 [] (8, 101, 48, 0, 0, []) ls st h := ai_blk_go S 139 47 ls st h
theorem k_139_48 (S : ai_S) (ls st : List Value) (h : ai_H) : ai_res S 139 48 ls st h = ai_go S 139 [(0, 0, 0, 0, 0)] (24, 0, 0, 0, 0, []) ls st h := ai_blk_go S 139 48 ls st h
theorem k_139_49 (S : ai_S) (ls st : List Value) (h : ai_H) : ai_res S 139 49 ls st h = ai_go S 139 [(5, 1, 0, 0, 0), (5, 0, 0, 0, 0), (3, 3, 0, 0, 0), (0, 0, 0, 0, 1), (10, 0, 0, 0, 0), (29, 0, 0, 0, 0), (5, 0, 0, 0, 0), (3, 3, 0, 0, 0), (0, 0, 0, 0, 2), (10, 0, 0, 0, 0), (29, 0, 0, 0, 0)] (18, 50, 46, 3, 5, [(0, 60)]) ls st h := ai_blk_go S 139 49 ls st h
theorem k_139_50 (S : ai_S) (ls st : List Value) (h : ai_H) : ai_res S 139 50 ls st h = ai_go S 139 [(5, 2, 0, 0, 0), (5, 0, 0, 0, 0), (3, 3, 0, 0, 0), (0, 0, 0, 0, 1), (10, 0, 0, 0, 0), (29, 0, 0, 0, 0), (5, 0, 0, 0, 0), (3, 3, 0, 0, 0), (0, 0, 0, 0, 2), (10, 0, 0, 0, 0), (29, 0, 0, 0, 0)] (18, 51, 120, 3, 6, [(0, 63)]) ls st h := ai_blk_go S 139 50 ls st h
theorem k_139_51 (S : ai_S) (ls st : List Value) (h : ai_H) : ai_res S 139 51 ls st h = ai_go S 139 [] (8, 101, 52, 0, 0, []) ls st h := ai_blk_go S 139 51 ls st h
theorem k_139_52 (S : ai_S) (ls st : List Value) (h : ai_H) : ai_res S 139 52 ls st h = ai_go S 139 [(0, 0, 0, 0, 0)] (24, 0, 0, 0, 0, []) ls st h := ai_blk_go S 139 52 ls st h
theorem k_139_53 (S : ai_S) (ls st : List Value) (h : ai_H) : ai_res S 139 53 ls st h = ai_go S 139 [(5, 1, 0, 0, 0), (5, 0, 0, 0, 0), (3, 3, 0, 0, 0), (0, 0, 0, 0, 1), (10, 0, 0, 0, 0), (29, 0, 0, 0, 0), (5, 0, 0, 0, 0), (3, 3, 0, 0, 0), (0, 0, 0, 0, 2), (10, 0, 0, 0, 0), (29, 0, 0, 0, 0)] (18, 54, 47, 3, 5, [(0, 64)]) ls st h := ai_blk_go S 139 53 ls st h
theorem k_139_54 (S : ai_S) (ls st : List Value) (h : ai_H) : ai_res S 139 54 ls st h = ai_go S 139 [(5, 2, 0, 0, 0), (5, 0, 0, 0, 0), (3, 3, 0, 0, 0), (0, 0, 0, 0, 1), (10, 0, 0, 0, 0), (29, 0, 0, 0, 0), (5, 0, 0, 0, 0), (3, 3, 0, 0, 0), (0, 0, 0, 0, 2), (10, 0, 0, 0, 0), (29, 0, 0, 0, 0)] (18, 55, 122, 3, 6, [(0, 67)]) ls st h := ai_blk_go S 139 54 ls st h
theorem k_139_55 (S : ai_S) (ls st : List Value) (h : ai_H) : ai_res S 139 55 ls st h = ai_go S 139 [] (8, 101, 56, 0, 0, []) ls st h := ai_blk_go S 139 55 ls st h
theorem k_139_56 (S : ai_S) (ls st : List Value) (h : ai_H) : ai_res S 139 56 ls st h = ai_go S 139 [(0, 0, 0, 0, 0)] (24, 0, 0, 0, 0, []) ls st h := ai_blk_go S 139 56 ls st h
theorem k_139_57 (S : ai_S) (ls st : List Value) (h : ai_H) : ai_res S 139 57 ls st h = ai_go S 139 [(5, 1, 0, 0, 0), (5, 0, 0, 0, 0), (3, 3, 0, 0, 0), (0, 0, 0, 0, 1), (10, 0, 0, 0, 0), (29, 0, 0, 0, 0), (5, 0, 0, 0, 0), (3, 3, 0, 0, 0), (0, 0, 0, 0, 2), (10, 0, 0, 0, 0), (29, 0, 0, 0, 0)] (18, 58, 48, 3, 5, [(0, 68)]) ls st h := ai_blk_go S 139 57 ls st h
theorem k_139_58 (S : ai_S) (ls st : List Value) (h : ai_H) : ai_res S 139 58 ls st h = ai_go S 139 [(5, 2, 0, 0, 0), (5, 0, 0, 0, 0), (3, 3, 0, 0, 0), (0, 0, 0, 0, 1), (10, 0, 0, 0, 0), (29, 0, 0, 0, 0), (5, 0, 0, 0, 0), (3, 3, 0, 0, 0), (0, 0, 0, 0, 2), (10, 0, 0, 0, 0), (29, 0, 0, 0, 0)] (18, 59, 124, 3, 6, [(0, 71)]) ls st h := ai_blk_go S 139 58 ls st h
theorem k_139_59 (S : ai_S) (ls st : List Value) (h : ai_H) : ai_res S 139 59 ls st h = ai_go S 139 [] (8, 101, 60, 0, 0, []) ls st h := ai_blk_go S 139 59 ls st h
theorem k_139_60 (S : ai_S) (ls st : List Value) (h : ai_H) : ai_res S 139 60 ls st h = ai_go S 139 [(0, 0, 0, 0, 0)] (24, 0, 0, 0, 0, []) ls st h := ai_blk_go S 139 60 ls st h
theorem k_139_61 (S : ai_S) (ls st : List Value) (h : ai_H) : ai_res S 139 61 ls st h = ai_go S 139 [(5, 1, 0, 0, 0), (5, 0, 0, 0, 0), (3, 3, 0, 0, 0), (0, 0, 0, 0, 1), (10, 0, 0, 0, 0), (29, 0, 0, 0, 0), (5, 0, 0, 0, 0), (3, 3, 0, 0, 0), (0, 0, 0, 0, 2), (10, 0, 0, 0, 0), (29, 0, 0, 0, 0), (5, 0, 0, 0, 0), (3, 3, 0, 0, 0), (0, 0, 0, 0, 3), (10, 0, 0, 0, 0), (29, 0, 0, 0, 0)] (18, 62, 49, 4, 5, [(0, 72)]) ls st h := ai_blk_go S 139 61 ls st h
theorem k_139_62 (S : ai_S) (ls st : List Value) (h : ai_H) : ai_res S 139 62 ls st h = ai_go S 139 [(5, 2, 0, 0, 0), (5, 0, 0, 0, 0), (3, 3, 0, 0, 0), (0, 0, 0, 0, 1), (10, 0, 0, 0, 0), (29, 0, 0, 0, 0), (5, 0, 0, 0, 0), (3, 3, 0, 0, 0), (0, 0, 0, 0, 2), (10, 0, 0, 0, 0), (29, 0, 0, 0, 0), (5, 0, 0, 0, 0), (3, 3, 0, 0, 0), (0, 0, 0, 0, 3), (10, 0, 0, 0, 0), (29, 0, 0, 0, 0)] (18, 63, 127, 4, 6, [(0, 76)]) ls st h := ai_blk_go S 139 62 ls st h
theorem k_139_63 (S : ai_S) (ls st : List Value) (h : ai_H) : ai_res S 139 63 ls st h = ai_go S 139 [] (8, 101, 64, 0, 0, []) ls st h := ai_blk_go S 139 63 ls st h
theorem k_139_64 (S : ai_S) (ls st : List Value) (h : ai_H) : ai_res S 139 64 ls st h = ai_go S 139 [(0, 0, 0, 0, 0)] (24, 0, 0, 0, 0, []) ls st h := ai_blk_go S 139 64 ls st h
theorem k_139_65 (S : ai_S) (ls st : List Value) (h : ai_H) : ai_res S 139 65 ls st h = ai_go S 139 [(5, 1, 0, 0, 0), (5, 0, 0, 0, 0), (3, 3, 0, 0, 0), (0, 0, 0, 0, 1), (10, 0, 0, 0, 0), (29, 0, 0, 0, 0), (5, 0, 0, 0, 0), (3, 3, 0, 0, 0), (0, 0, 0, 0, 2), (10, 0, 0, 0, 0), (29, 0, 0, 0, 0), (5, 0, 0, 0, 0), (3, 3, 0, 0, 0), (0, 0, 0, 0, 3), (10, 0, 0, 0, 0), (29, 0, 0, 0, 0)] (18, 66, 63, 4, 5, [(0, 77)]) ls st h := ai_blk_go S 139 65 ls st h
theorem k_139_66 (S : ai_S) (ls st : List Value) (h : ai_H) : ai_res S 139 66 ls st h = ai_go S 139 [(5, 2, 0, 0, 0), (5, 0, 0, 0, 0), (3, 3, 0, 0, 0), (0, 0, 0, 0, 1), (10, 0, 0, 0, 0), (29, 0, 0, 0, 0), (5, 0, 0, 0, 0), (3, 3, 0, 0, 0), (0, 0, 0, 0, 2), (10, 0, 0, 0, 0), (29, 0, 0, 0, 0), (5, 0, 0, 0, 0), (3, 3, 0, 0, 0), (0, 0, 0, 0, 3), (10, 0, 0, 0, 0), (29, 0, 0, 0, 0)] (18, 67, 128, 4, 6, [(0, 80)]) ls st h := ai_blk_go S 139 66 ls st h
theorem k_139_67 (S : ai_S) (ls st : List Value) (h : ai_H) : ai_res S 139 67 ls st h = ai_go S 139 [] (8, 101, 68, 0, 0, []) ls st h := ai_blk_go S 139 67 ls st h
theorem k_139_68 (S : ai_S) (ls st : List Value) (h : ai_H) : ai_res S 139 68 ls st h = ai_go S 139 [(0, 0, 0, 0, 0)] (24, 0, 0, 0, 0, []) ls st h := ai_blk_go S 139 68 ls st h
theorem k_139_69 (S : ai_S) (ls st : List Value) (h : ai_H) : ai_res S 139 69 ls st h = ai_go S 139 [(5, 1, 0, 0, 0)] (18, 70, 64, 1, 5, [(0, 81)]) ls st h := ai_blk_go S 139 69 ls st h
theorem k_139_70 (S : ai_S) (ls st : List Value) (h : ai_H) : ai_res S 139 70 ls st h = ai_go S 139 [(5, 2, 0, 0, 0)] (18, 71, 129, 1, 6, [(0, 84)]) ls st h := ai_blk_go S 139 70 ls st h
theorem k_139_71 (S : ai_S) (ls st : List Value) (h : ai_H) : ai_res S 139 71 ls st h = ai_go S 139 [] (8, 101, 72, 0, 0, []) ls st h := ai_blk_go S 139 71 ls st h
theorem k_139_72 (S : ai_S) (ls st : List Value) (h : ai_H) : ai_res S 139 72 ls st h = ai_go S 139 [(0, 0, 0, 0, 0)] (24, 0, 0, 0, 0, []) ls st h := ai_blk_go S 139 72 ls st h
theorem k_139_73 (S : ai_S) (ls st : List Value) (h : ai_H) : ai_res S 139 73 ls st h = ai_go S 139 [(5, 1, 0, 0, 0)] (18, 74, 65, 1, 5, [(0, 85)]) ls st h := ai_blk_go S 139 73 ls st h
theorem k_139_74 (S : ai_S) (ls st : List Value) (h : ai_H) : ai_res S 139 74 ls st h = ai_go S 139 [(5, 2, 0, 0, 0)] (18, 75, 131, 1, 6, [(0, 88)]) ls st h := ai_blk_go S 139 74 ls st h
theorem k_139_75 (S : ai_S) (ls st : List Value) (h : ai_H) : ai_res S 139 75 ls st h = ai_go S 139 [] (8, 101, 76, 0, 0, []) ls st h := ai_blk_go S 139 75 ls st h
theorem k_139_76 (S : ai_S) (ls st : List Value) (h : ai_H) : ai_res S 139 76 ls st h = ai_go S 139 [(0, 0, 0, 0, 0)] (24, 0, 0, 0, 0, []) ls st h := ai_blk_go S 139 76 ls st h
theorem k_139_77 (S : ai_S) (ls st : List Value) (h : ai_H) : ai_res S 139 77 ls st h = ai_go S 139 [(5, 1, 0, 0, 0), (5, 0, 0, 0, 0), (3, 3, 0, 0, 0), (0, 0, 0, 0, 1), (10, 0, 0, 0, 0), (29, 0, 0, 0, 0)] (18, 78, 66, 2, 5, [(0, 89)]) ls st h := ai_blk_go S 139 77 ls st h
theorem k_139_78 (S : ai_S) (ls st : List Value) (h : ai_H) : ai_res S 139 78 ls st h = ai_go S 139 [(5, 2, 0, 0, 0), (5, 0, 0, 0, 0), (3, 3, 0, 0, 0), (0, 0, 0, 0, 1), (10, 0, 0, 0, 0), (29, 0, 0, 0, 0)] (18, 79, 132, 2, 6, [(0, 92)]) ls st h := ai_blk_go S 139 78 ls st h
theorem k_139_79 (S : ai_S) (ls st : List Value) (h : ai_H) : ai_res S 139 79 ls st h = ai_go S 139 [] (8, 101, 80, 0, 0, []) ls st h := ai_blk_go S 139 79 ls st h
theorem k_139_80 (S : ai_S) (ls st : List Value) (h : ai_H) : ai_res S 139 80 ls st h = ai_go S 139 [(0, 0, 0, 0, 0)] (24, 0, 0, 0, 0, []) ls st h := ai_blk_go S 139 80 ls st h
theorem k_139_81 (S : ai_S) (ls st : List Value) (h : ai_H) : ai_res S 139 81 ls st h = ai_go S 139 [(5, 1, 0, 0, 0), (5, 0, 0, 0, 0), (3, 3, 0, 0, 0), (0, 0, 0, 0, 1), (10, 0, 0, 0, 0), (29, 0, 0, 0, 0), (5, 0, 0, 0, 0), (3, 3, 0, 0, 0), (0, 0, 0, 0, 2), (10, 0, 0, 0, 0), (29, 0, 0, 0, 0)] (18, 82, 68, 3, 5, [(0, 93)]) ls st h := ai_blk_go S 139 81 ls st h
theorem k_139_82 (S : ai_S) (ls st : List Value) (h : ai_H) : ai_res S 139 82 ls st h = ai_go S 139 [(5, 2, 0, 0, 0), (5, 0, 0, 0, 0), (3, 3, 0, 0, 0), (0, 0, 0, 0, 1), (10, 0, 0, 0, 0), (29, 0, 0, 0, 0), (5, 0, 0, 0, 0), (3, 3, 0, 0, 0), (0, 0, 0, 0, 2), (10, 0, 0, 0, 0), (29, 0, 0, 0, 0)] (18, 83, 133, 3, 6, [(0, 96)]) ls st h := ai_blk_go S 139 82 ls st h
theorem k_139_83 (S : ai_S) (ls st : List Value) (h : ai_H) : ai_res S 139 83 ls st h = ai_go S 139 [] (8, 101, 84, 0, 0, []) ls st h := ai_blk_go S 139 83 ls st h
theorem k_139_84 (S : ai_S) (ls st : List Value) (h : ai_H) : ai_res S 139 84 ls st h = ai_go S 139 [(0, 0, 0, 0, 0)] (24, 0, 0, 0, 0, []) ls st h := ai_blk_go S 139 84 ls st h
theorem k_139_85 (S : ai_S) (ls st : List Value) (h : ai_H) : ai_res S 139 85 ls st h = ai_go S 139 [(5, 1, 0, 0, 0), (5, 0, 0, 0, 0), (3, 3, 0, 0, 0), (0, 0, 0, 0, 1), (10, 0, 0, 0, 0), (29, 0, 0, 0, 0)] (18, 86, 69, 2, 5, [(0, 97)]) ls st h := ai_blk_go S 139 85 ls st h
theorem k_139_86 (S : ai_S) (ls st : List Value) (h : ai_H) : ai_res S 139 86 ls st h = ai_go S 139 [(5, 2, 0, 0, 0), (5, 0, 0, 0, 0), (3, 3, 0, 0, 0), (0, 0, 0, 0, 1), (10, 0, 0, 0, 0), (29, 0, 0, 0, 0)] (18, 87, 134, 2, 6, [(0, 100)]) ls st h := ai_blk_go S 139 86 ls st h
theorem k_139_87 (S : ai_S) (ls st : List Value) (h : ai_H) : ai_res S 139 87 ls st h = ai_go S 139 [] (8, 101, 88, 0, 0, []) ls st h := ai_blk_go S 139 87 ls st h
theorem k_139_88 (S : ai_S) (ls st : List Value) (h : ai_H) : ai_res S 139 88 ls st h = ai_go S 139 [(0, 0, 0, 0, 0)] (24, 0, 0, 0, 0, []) ls st h := ai_blk_go S 139 88 ls st h
theorem k_139_89 (S : ai_S) (ls st : List Value) (h : ai_H) : ai_res S 139 89 ls st h = ai_go S 139 [(5, 1, 0, 0, 0), (5, 0, 0, 0, 0), (3, 3, 0, 0, 0), (0, 0, 0, 0, 1), (10, 0, 0, 0, 0), (29, 0, 0, 0, 0)] (18, 90, 70, 2, 5, [(0, 101)]) ls st h := ai_blk_go S 139 89 ls st h
theorem k_139_90 (S : ai_S) (ls st : List Value) (h : ai_H) : ai_res S 139 90 ls st h = ai_go S 139 [(5, 2, 0, 0, 0), (5, 0, 0, 0, 0), (3, 3, 0, 0, 0), (0, 0, 0, 0, 1), (10, 0, 0, 0, 0), (29, 0, 0, 0, 0)] (18, 91, 135, 2, 6, [(0, 104)]) ls st h := ai_blk_go S 139 90 ls st h
theorem k_139_91 (S : ai_S) (ls st : List Value) (h : ai_H) : ai_res S 139 91 ls st h = ai_go S 139 [] (8, 101, 92, 0, 0, []) ls st h := ai_blk_go S 139 91 ls st h
theorem k_139_92 (S : ai_S) (ls st : List Value) (h : ai_H) : ai_res S 139 92 ls st h = ai_go S 139 [(0, 0, 0, 0, 0)] (24, 0, 0, 0, 0, []) ls st h := ai_blk_go S 139 92 ls st h
theorem k_139_93 (S : ai_S) (ls st : List Value) (h : ai_H) : ai_res S 139 93 ls st h = ai_go S 139 [(5, 1, 0, 0, 0), (5, 0, 0, 0, 0), (3, 3, 0, 0, 0), (0, 0, 0, 0, 1), (10, 0, 0, 0, 0), (29, 0, 0, 0, 0)] (18, 94, 71, 2, 5, [(0, 105)]) ls st h := ai_blk_go S 139 93 ls st h
theorem k_139_94 (S : ai_S) (ls st : List Value) (h : ai_H) : ai_res S 139 94 ls st h = ai_go S 139 [(5, 2, 0, 0, 0), (5, 0, 0, 0, 0), (3, 3, 0, 0, 0), (0, 0, 0, 0, 1), (10, 0, 0, 0, 0), (29, 0, 0, 0, 0)] (18, 95, 136, 2, 6, [(0, 108)]) ls st h := ai_blk_go S 139 94 ls st h
theorem k_139_95 (S : ai_S) (ls st : List Value) (h : ai_H) : ai_res S 139 95 ls st h = ai_go S 139 [] (8, 101, 96, 0, 0, []) ls st h := ai_blk_go S 139 95 ls st h
theorem k_139_96 (S : ai_S) (ls st : List Value) (h : ai_H) : ai_res S 139 96 ls st h = ai_go S 139 [(0, 0, 0, 0, 0)] (24, 0, 0, 0, 0, []) ls st h := ai_blk_go S 139 96 ls st h
theorem k_139_97 (S : ai_S) (ls st : List Value) (h : ai_H) : ai_res S 139 97 ls st h = ai_go S 139 [(5, 1, 0, 0, 0)] (18, 98, 72, 1, 5, [(0, 109)]) ls st h := ai_blk_go S 139 97 ls st h
theorem k_139_98 (S : ai_S) (ls st : List Value) (h : ai_H) : ai_res S 139 98 ls st h = ai_go S 139 [(5, 2, 0, 0, 0)] (18, 99, 137, 1, 6, [(0, 113)]) ls st h := ai_blk_go S 139 98 ls st h
theorem k_139_99 (S : ai_S) (ls st : List Value) (h : ai_H) : ai_res S 139 99 ls st h = ai_go S 139 [(45, 0, 0, 0, 0)] (2, 101, 100, 0, 0, []) ls st h := ai_blk_go S 139 99 ls st h
theorem k_139_100 (S : ai_S) (ls st : List Value) (h : ai_H) : ai_res S 139 100 ls st h = ai_go S 139 [(0, 0, 0, 0, 0)] (24, 0, 0, 0, 0, []) ls st h := ai_blk_go S 139 100 ls st h
theorem k_139_101 (S : ai_S) (ls st : List Value) (h : ai_H) : ai_res S 139 101 ls st h = ai_go S 139 [(9, 3, 0, 0, 4)] (1, 3, 0, 0, 0, []) ls st h := ai_blk_go S 139 101 ls st h
theorem k_139_102 (S : ai_S) (ls st : List Value) (h : ai_H) : ai_res S 139 102 ls st h = ai_go S 139 [(0, 0, 0, 0, 1)] (24, 0, 0, 0, 0, []) ls st h := ai_blk_go S 139 102 ls st h
theorem e_139 (S : ai_S) (q1 : Nat) (h : ai_H) : ai_call S 139 [.ref q1] h = ai_res S 139 0 [.ref q1, ai_u, ai_u, ai_u] [] h := rfl
end
section
/-! rows to walk by: a step, the end of a block (for simp only) -/
def ai_gl (ls : List Value) (a : Nat) : Option Value := ls[a]?
def ai_sl (ls : List Value) (a : Nat) (v : Value) : List Value := ls.set a v
def ai_vi (v : Value) (f : Int32 → ai_A) : ai_A := match v with
  | .int x => f x
  | _ => none
def ai_va (v : Value) (f : Value → ai_A) : ai_A := match v with
  | .ref q => f (.ref q)
  | .null => f .null
  | _ => none
def ai_lt (ls : List Value) (a : Nat) (f : ai_A) : ai_A := if a < ls.length then f else none
def ai_rg (i : Int32) (n : Nat) (f : ai_A) : ai_A := if i < 0 ∨ n ≤ i.toNatClampNeg then none else f
theorem gl_0 (v0 : Value) (l : List Value) : ai_gl (v0::l) 0 = some v0 := rfl
theorem sl_0 (v0 : Value) (l : List Value) (w : Value) : ai_sl (v0::l) 0 w = w::l := rfl
theorem ll_0 (v0 : Value) (l : List Value) (f : ai_A) : ai_lt (v0::l) 0 f = f := if_pos (by simp)
theorem gl_1 (v0 v1 : Value) (l : List Value) : ai_gl (v0::v1::l) 1 = some v1 := rfl
theorem sl_1 (v0 v1 : Value) (l : List Value) (w : Value) : ai_sl (v0::v1::l) 1 w = v0::w::l := rfl
theorem ll_1 (v0 v1 : Value) (l : List Value) (f : ai_A) : ai_lt (v0::v1::l) 1 f = f := if_pos (by simp)
theorem gl_2 (v0 v1 v2 : Value) (l : List Value) : ai_gl (v0::v1::v2::l) 2 = some v2 := rfl
theorem sl_2 (v0 v1 v2 : Value) (l : List Value) (w : Value) : ai_sl (v0::v1::v2::l) 2 w = v0::v1::w::l := rfl
theorem ll_2 (v0 v1 v2 : Value) (l : List Value) (f : ai_A) : ai_lt (v0::v1::v2::l) 2 f = f := if_pos (by simp)
theorem gl_3 (v0 v1 v2 v3 : Value) (l : List Value) : ai_gl (v0::v1::v2::v3::l) 3 = some v3 := rfl
theorem sl_3 (v0 v1 v2 v3 : Value) (l : List Value) (w : Value) : ai_sl (v0::v1::v2::v3::l) 3 w = v0::v1::v2::w::l := rfl
theorem ll_3 (v0 v1 v2 v3 : Value) (l : List Value) (f : ai_A) : ai_lt (v0::v1::v2::v3::l) 3 f = f := if_pos (by simp)
theorem gl_4 (v0 v1 v2 v3 v4 : Value) (l : List Value) : ai_gl (v0::v1::v2::v3::v4::l) 4 = some v4 := rfl
theorem sl_4 (v0 v1 v2 v3 v4 : Value) (l : List Value) (w : Value) : ai_sl (v0::v1::v2::v3::v4::l) 4 w = v0::v1::v2::v3::w::l := rfl
theorem ll_4 (v0 v1 v2 v3 v4 : Value) (l : List Value) (f : ai_A) : ai_lt (v0::v1::v2::v3::v4::l) 4 f = f := if_pos (by simp)
theorem gl_5 (v0 v1 v2 v3 v4 v5 : Value) (l : List Value) : ai_gl (v0::v1::v2::v3::v4::v5::l) 5 = some v5 := rfl
theorem sl_5 (v0 v1 v2 v3 v4 v5 : Value) (l : List Value) (w : Value) : ai_sl (v0::v1::v2::v3::v4::v5::l) 5 w = v0::v1::v2::v3::v4::w::l := rfl
theorem ll_5 (v0 v1 v2 v3 v4 v5 : Value) (l : List Value) (f : ai_A) : ai_lt (v0::v1::v2::v3::v4::v5::l) 5 f = f := if_pos (by simp)
theorem gl_6 (v0 v1 v2 v3 v4 v5 v6 : Value) (l : List Value) : ai_gl (v0::v1::v2::v3::v4::v5::v6::l) 6 = some v6 := rfl
theorem sl_6 (v0 v1 v2 v3 v4 v5 v6 : Value) (l : List Value) (w : Value) : ai_sl (v0::v1::v2::v3::v4::v5::v6::l) 6 w = v0::v1::v2::v3::v4::v5::w::l := rfl
theorem ll_6 (v0 v1 v2 v3 v4 v5 v6 : Value) (l : List Value) (f : ai_A) : ai_lt (v0::v1::v2::v3::v4::v5::v6::l) 6 f = f := if_pos (by simp)
theorem gl_7 (v0 v1 v2 v3 v4 v5 v6 v7 : Value) (l : List Value) : ai_gl (v0::v1::v2::v3::v4::v5::v6::v7::l) 7 = some v7 := rfl
theorem sl_7 (v0 v1 v2 v3 v4 v5 v6 v7 : Value) (l : List Value) (w : Value) : ai_sl (v0::v1::v2::v3::v4::v5::v6::v7::l) 7 w = v0::v1::v2::v3::v4::v5::v6::w::l := rfl
theorem ll_7 (v0 v1 v2 v3 v4 v5 v6 v7 : Value) (l : List Value) (f : ai_A) : ai_lt (v0::v1::v2::v3::v4::v5::v6::v7::l) 7 f = f := if_pos (by simp)
theorem gl_8 (v0 v1 v2 v3 v4 v5 v6 v7 v8 : Value) (l : List Value) : ai_gl (v0::v1::v2::v3::v4::v5::v6::v7::v8::l) 8 = some v8 := rfl
theorem sl_8 (v0 v1 v2 v3 v4 v5 v6 v7 v8 : Value) (l : List Value) (w : Value) : ai_sl (v0::v1::v2::v3::v4::v5::v6::v7::v8::l) 8 w = v0::v1::v2::v3::v4::v5::v6::v7::w::l := rfl
theorem ll_8 (v0 v1 v2 v3 v4 v5 v6 v7 v8 : Value) (l : List Value) (f : ai_A) : ai_lt (v0::v1::v2::v3::v4::v5::v6::v7::v8::l) 8 f = f := if_pos (by simp)
theorem gl_9 (v0 v1 v2 v3 v4 v5 v6 v7 v8 v9 : Value) (l : List Value) : ai_gl (v0::v1::v2::v3::v4::v5::v6::v7::v8::v9::l) 9 = some v9 := rfl
theorem sl_9 (v0 v1 v2 v3 v4 v5 v6 v7 v8 v9 : Value) (l : List Value) (w : Value) : ai_sl (v0::v1::v2::v3::v4::v5::v6::v7::v8::v9::l) 9 w = v0::v1::v2::v3::v4::v5::v6::v7::v8::w::l := rfl
theorem ll_9 (v0 v1 v2 v3 v4 v5 v6 v7 v8 v9 : Value) (l : List Value) (f : ai_A) : ai_lt (v0::v1::v2::v3::v4::v5::v6::v7::v8::v9::l) 9 f = f := if_pos (by simp)
theorem vi_i (x : Int32) (f : Int32 → ai_A) : ai_vi (.int x) f = f x := rfl
theorem va_r (q : Nat) (f : Value → ai_A) : ai_va (.ref q) f = f (.ref q) := rfl
theorem va_n (f : Value → ai_A) : ai_va .null f = f .null := rfl
section Wk
variable (S : ai_S) (m : Nat) (is : List ai_I) (t : ai_T) (ls st : List Value) (h : ai_H) (a b c : Nat) (z : Int32)
theorem w_c0  : ai_go S m ((0, a, b, c, z) :: is) t ls (st) h = ai_go S m is t ls (.int z :: st) h := by
  rw [ai_go_cons]
  rfl
theorem w_c1  : ai_go S m ((1, a, b, c, z) :: is) t ls (st) h = ai_go S m is t ls (.int z :: st) h := by
  rw [ai_go_cons]
  rfl
theorem w_c2  : ai_go S m ((2, a, b, c, z) :: is) t ls (st) h = ai_go S m is t ls (.int z :: st) h := by
  rw [ai_go_cons]
  rfl
theorem w_c40  : ai_go S m ((40, a, b, c, z) :: is) t ls (st) h = ai_go S m is t ls (.int z :: st) h := by
  rw [ai_go_cons]
  rfl
theorem w_c41  : ai_go S m ((41, a, b, c, z) :: is) t ls (st) h = ai_go S m is t ls (.int z :: st) h := by
  rw [ai_go_cons]
  rfl
theorem w_l3  : ai_go S m ((3, a, b, c, z) :: is) t ls (st) h = (ai_gl ls a).bind fun v => ai_vi v fun x => ai_go S m is t ls (.int x :: st) h := by
  rw [ai_go_cons]
  show (match ai_iload S a b c z ls st h with | some (ls', st', h') => ai_go S m is t ls' st' h' | none => none) = _
  unfold ai_iload ai_gl ai_vi
  cases ls[a]? with
  | none => rfl
  | some v => cases v <;> rfl
theorem w_l4  : ai_go S m ((4, a, b, c, z) :: is) t ls (st) h = (ai_gl ls a).bind fun v => ai_vi v fun x => ai_go S m is t ls (.int x :: st) h := by
  rw [ai_go_cons]
  show (match ai_iload S a b c z ls st h with | some (ls', st', h') => ai_go S m is t ls' st' h' | none => none) = _
  unfold ai_iload ai_gl ai_vi
  cases ls[a]? with
  | none => rfl
  | some v => cases v <;> rfl
theorem w_l5  : ai_go S m ((5, a, b, c, z) :: is) t ls (st) h = (ai_gl ls a).bind fun v => ai_va v fun x => ai_go S m is t ls (x :: st) h := by
  rw [ai_go_cons]
  show (match ai_aload S a b c z ls st h with | some (ls', st', h') => ai_go S m is t ls' st' h' | none => none) = _
  unfold ai_aload ai_gl ai_va
  cases ls[a]? with
  | none => rfl
  | some v => cases v <;> rfl
theorem w_s6 (x : Int32) : ai_go S m ((6, a, b, c, z) :: is) t ls (.int x :: st) h = ai_lt ls a (ai_go S m is t (ai_sl ls a (.int x)) st h) := by
  rw [ai_go_cons]
  show (match (if a < ls.length then some (ls.set a (.int x), st, h) else none) with | some (ls', st', h') => ai_go S m is t ls' st' h' | none => none) = _
  unfold ai_lt
  by_cases hq : a < ls.length
  · rw [if_pos hq, if_pos hq]; rfl
  · rw [if_neg hq, if_neg hq]
theorem w_s7 (x : Int32) : ai_go S m ((7, a, b, c, z) :: is) t ls (.int x :: st) h = ai_lt ls a (ai_go S m is t (ai_sl ls a (.int x)) st h) := by
  rw [ai_go_cons]
  show (match (if a < ls.length then some (ls.set a (.int x), st, h) else none) with | some (ls', st', h') => ai_go S m is t ls' st' h' | none => none) = _
  unfold ai_lt
  by_cases hq : a < ls.length
  · rw [if_pos hq, if_pos hq]; rfl
  · rw [if_neg hq, if_neg hq]
theorem w_s8r (q : Nat) : ai_go S m ((8, a, b, c, z) :: is) t ls (.ref q :: st) h = ai_lt ls a (ai_go S m is t (ai_sl ls a (.ref q)) st h) := by
  rw [ai_go_cons]
  show (match (if a < ls.length then some (ls.set a (.ref q), st, h) else none) with | some (ls', st', h') => ai_go S m is t ls' st' h' | none => none) = _
  unfold ai_lt
  by_cases hq : a < ls.length
  · rw [if_pos hq, if_pos hq]; rfl
  · rw [if_neg hq, if_neg hq]
theorem w_s8n  : ai_go S m ((8, a, b, c, z) :: is) t ls (.null :: st) h = ai_lt ls a (ai_go S m is t (ai_sl ls a (.null)) st h) := by
  rw [ai_go_cons]
  show (match (if a < ls.length then some (ls.set a (.null), st, h) else none) with | some (ls', st', h') => ai_go S m is t ls' st' h' | none => none) = _
  unfold ai_lt
  by_cases hq : a < ls.length
  · rw [if_pos hq, if_pos hq]; rfl
  · rw [if_neg hq, if_neg hq]
theorem w_inc  : ai_go S m ((9, a, b, c, z) :: is) t ls (st) h = (ai_gl ls a).bind fun v => ai_vi v fun x => ai_go S m is t (ai_sl ls a (.int (x + z))) st h := by
  rw [ai_go_cons]
  show (match ai_iinc S a b c z ls st h with | some (ls', st', h') => ai_go S m is t ls' st' h' | none => none) = _
  unfold ai_iinc ai_gl ai_vi
  cases ls[a]? with
  | none => rfl
  | some v => cases v <;> rfl
theorem w_b10 (x y : Int32) : ai_go S m ((10, a, b, c, z) :: is) t ls (.int y :: .int x :: st) h = ai_go S m is t ls (.int (x + y) :: st) h := by
  rw [ai_go_cons]
  rfl
theorem w_b11 (x y : Int32) : ai_go S m ((11, a, b, c, z) :: is) t ls (.int y :: .int x :: st) h = ai_go S m is t ls (.int (x - y) :: st) h := by
  rw [ai_go_cons]
  rfl
theorem w_b12 (x y : Int32) : ai_go S m ((12, a, b, c, z) :: is) t ls (.int y :: .int x :: st) h = ai_go S m is t ls (.int (x * y) :: st) h := by
  rw [ai_go_cons]
  rfl
theorem w_b13 (x y : Int32) : ai_go S m ((13, a, b, c, z) :: is) t ls (.int y :: .int x :: st) h = ai_go S m is t ls (.int (x &&& y) :: st) h := by
  rw [ai_go_cons]
  rfl
theorem w_b14 (x y : Int32) : ai_go S m ((14, a, b, c, z) :: is) t ls (.int y :: .int x :: st) h = ai_go S m is t ls (.int (x ||| y) :: st) h := by
  rw [ai_go_cons]
  rfl
theorem w_b15 (x y : Int32) : ai_go S m ((15, a, b, c, z) :: is) t ls (.int y :: .int x :: st) h = ai_go S m is t ls (.int (x <<< (y &&& 31)) :: st) h := by
  rw [ai_go_cons]
  rfl
theorem w_b16 (x y : Int32) : ai_go S m ((16, a, b, c, z) :: is) t ls (.int y :: .int x :: st) h = ai_go S m is t ls (.int (x >>> (y &&& 31)) :: st) h := by
  rw [ai_go_cons]
  rfl
theorem w_b17 (x y : Int32) : ai_go S m ((17, a, b, c, z) :: is) t ls (.int y :: .int x :: st) h = ai_go S m is t ls (.int ((x.toUInt32 >>> (y.toUInt32 &&& Int32.toUInt32 31)).toInt32) :: st) h := by
  rw [ai_go_cons]
  rfl
theorem w_b18 (x y : Int32) : ai_go S m ((18, a, b, c, z) :: is) t ls (.int y :: .int x :: st) h = if y = 0 then none else ai_go S m is t ls (.int (x / y) :: st) h := by
  rw [ai_go_cons]
  show (match (if y = 0 then none else some (ls, .int (x / y) :: st, h)) with | some (ls', st', h') => ai_go S m is t ls' st' h' | none => none) = _
  by_cases hq : y = 0
  · rw [if_pos hq, if_pos hq]
  · rw [if_neg hq, if_neg hq]
theorem w_b19 (x y : Int32) : ai_go S m ((19, a, b, c, z) :: is) t ls (.int y :: .int x :: st) h = if y = 0 then none else ai_go S m is t ls (.int (x - x / y * y) :: st) h := by
  rw [ai_go_cons]
  show (match (if y = 0 then none else some (ls, .int (x - x / y * y) :: st, h)) with | some (ls', st', h') => ai_go S m is t ls' st' h' | none => none) = _
  by_cases hq : y = 0
  · rw [if_pos hq, if_pos hq]
  · rw [if_neg hq, if_neg hq]
theorem w_dupi (x : Int32) : ai_go S m ((20, a, b, c, z) :: is) t ls (.int x :: st) h = ai_go S m is t ls (.int x :: .int x :: st) h := by
  rw [ai_go_cons]
  rfl
theorem w_popi (x : Int32) : ai_go S m ((22, a, b, c, z) :: is) t ls (.int x :: st) h = ai_go S m is t ls (st) h := by
  rw [ai_go_cons]
  rfl
theorem w_dupr (x : Nat) : ai_go S m ((20, a, b, c, z) :: is) t ls (.ref x :: st) h = ai_go S m is t ls (.ref x :: .ref x :: st) h := by
  rw [ai_go_cons]
  rfl
theorem w_popr (x : Nat) : ai_go S m ((22, a, b, c, z) :: is) t ls (.ref x :: st) h = ai_go S m is t ls (st) h := by
  rw [ai_go_cons]
  rfl
theorem w_popn  : ai_go S m ((22, a, b, c, z) :: is) t ls (.null :: st) h = ai_go S m is t ls (st) h := by
  rw [ai_go_cons]
  rfl
theorem w_dup2 (x : Nat) (y : Int32) : ai_go S m ((21, a, b, c, z) :: is) t ls (.int y :: .ref x :: st) h = ai_go S m is t ls (.int y :: .ref x :: .int y :: .ref x :: st) h := by
  rw [ai_go_cons]
  rfl
theorem w_get (q : Nat) : ai_go S m ((23, a, b, c, z) :: is) t ls (.ref q :: st) h = (ai_gf h q a b).bind fun x => ai_go S m is t ls (x :: st) h := by
  rw [ai_go_cons]
  show (match (match ai_gf h q a b with | some v => some (ls, v :: st, h) | none => none) with | some (ls', st', h') => ai_go S m is t ls' st' h' | none => none) = _
  cases ai_gf h q a b <;> rfl
theorem w_putI (y : Int32) (q : Nat) : ai_go S m ((24, a, b, c, z) :: is) t ls (.int y :: .ref q :: st) h = (ai_pf h q a b (.int y)).bind fun x => ai_go S m is t ls st x := by
  rw [ai_go_cons]
  show (match (match ai_pf h q a b (.int y) with | some v => some (ls, st, v) | none => none) with | some (ls', st', h') => ai_go S m is t ls' st' h' | none => none) = _
  cases ai_pf h q a b (.int y) <;> rfl
theorem w_putJ (y : Int64) (q : Nat) : ai_go S m ((26, a, b, c, z) :: is) t ls (.long y :: .ref q :: st) h = (ai_pf h q a b (.long y)).bind fun x => ai_go S m is t ls st x := by
  rw [ai_go_cons]
  show (match (match ai_pf h q a b (.long y) with | some v => some (ls, st, v) | none => none) with | some (ls', st', h') => ai_go S m is t ls' st' h' | none => none) = _
  cases ai_pf h q a b (.long y) <;> rfl
theorem w_putR (y : Nat) (q : Nat) : ai_go S m ((27, a, b, c, z) :: is) t ls (.ref y :: .ref q :: st) h = (ai_pf h q a b (.ref y)).bind fun x => ai_go S m is t ls st x := by
  rw [ai_go_cons]
  show (match (match ai_pf h q a b (.ref y) with | some v => some (ls, st, v) | none => none) with | some (ls', st', h') => ai_go S m is t ls' st' h' | none => none) = _
  cases ai_pf h q a b (.ref y) <;> rfl
theorem w_putF (y : Nat) (q : Nat) : ai_go S m ((28, a, b, c, z) :: is) t ls (.ref y :: .ref q :: st) h = (ai_pf h q a b (.ref y)).bind fun x => ai_go S m is t ls st x := by
  rw [ai_go_cons]
  show (match (match ai_pf h q a b (.ref y) with | some v => some (ls, st, v) | none => none) with | some (ls', st', h') => ai_go S m is t ls' st' h' | none => none) = _
  cases ai_pf h q a b (.ref y) <;> rfl
theorem w_putZ0 (q : Nat) : ai_go S m ((25, a, b, c, z) :: is) t ls (.int 0 :: .ref q :: st) h = (ai_pf h q a b (.int 0)).bind fun x => ai_go S m is t ls st x := by
  rw [ai_go_cons]
  show (match (match ai_pf h q a b (.int 0) with | some v => some (ls, st, v) | none => none) with | some (ls', st', h') => ai_go S m is t ls' st' h' | none => none) = _
  cases ai_pf h q a b (.int 0) <;> rfl
theorem w_putZ1 (q : Nat) : ai_go S m ((25, a, b, c, z) :: is) t ls (.int 1 :: .ref q :: st) h = (ai_pf h q a b (.int 1)).bind fun x => ai_go S m is t ls st x := by
  rw [ai_go_cons]
  show (match (match ai_pf h q a b (.int 1) with | some v => some (ls, st, v) | none => none) with | some (ls', st', h') => ai_go S m is t ls' st' h' | none => none) = _
  cases ai_pf h q a b (.int 1) <;> rfl
theorem w_ald0 (i : Int32) : ai_go S m ((29, a, b, c, z) :: is) t ls (.int i :: .ref 0 :: st) h = ai_rg i S.1 (ai_go S m is t ls (.int (S.2 i.toNatClampNeg) :: st) h) := by
  rw [ai_go_cons]
  show (match (if i < 0 ∨ S.1 ≤ i.toNatClampNeg then none else some (ls, .int (S.2 i.toNatClampNeg) :: st, h)) with | some (ls', st', h') => ai_go S m is t ls' st' h' | none => none) = _
  unfold ai_rg
  by_cases hz : i < 0 ∨ S.1 ≤ i.toNatClampNeg
  · rw [if_pos hz, if_pos hz]
  · rw [if_neg hz, if_neg hz]
theorem w_ald (i : Int32) (q : Nat) (hq : q ≠ 0) : ai_go S m ((29, a, b, c, z) :: is) t ls (.int i :: .ref q :: st) h = (ai_ia h q 0).bind fun x => ai_rg i x.1 (ai_go S m is t ls (.int (x.2 i.toNatClampNeg) :: st) h) := by
  rw [ai_go_cons]
  cases q with
  | zero => exact absurd rfl hq
  | succ q =>
    show (match (match ai_ia h (q + 1) 0 with | some (n, f) => if i < 0 ∨ n ≤ i.toNatClampNeg then none else some (ls, .int (f i.toNatClampNeg) :: st, h) | none => none) with | some (ls', st', h') => ai_go S m is t ls' st' h' | none => none) = _
    cases ai_ia h (q + 1) 0 with
    | none => rfl
    | some x =>
      unfold ai_rg
      dsimp only [Option.bind_some]
      by_cases hz : i < 0 ∨ x.1 ≤ i.toNatClampNeg
      · rw [if_pos hz, if_pos hz]
      · rw [if_neg hz, if_neg hz]
theorem w_ast (x i : Int32) (q : Nat) : ai_go S m ((30, a, b, c, z) :: is) t ls (.int x :: .int i :: .ref q :: st) h = (ai_ia h q 0).bind fun y => ai_rg i y.1 ((ai_pa h q 0 (upd y.2 i.toNatClampNeg x)).bind fun h' => ai_go S m is t ls st h') := by
  rw [ai_go_cons]
  show (match (match ai_ia h q 0 with | some (n, f) => if i < 0 ∨ n ≤ i.toNatClampNeg then none else (match ai_pa h q 0 (upd f i.toNatClampNeg x) with | some h' => some (ls, st, h') | none => none) | none => none) with | some (ls', st', h') => ai_go S m is t ls' st' h' | none => none) = _
  cases ai_ia h q 0 with
  | none => rfl
  | some y =>
    unfold ai_rg
    dsimp only [Option.bind_some]
    by_cases hz : i < 0 ∨ y.1 ≤ i.toNatClampNeg
    · rw [if_pos hz, if_pos hz]
    · rw [if_neg hz, if_neg hz]
      cases ai_pa h q 0 (upd y.2 i.toNatClampNeg x) <;> rfl
theorem w_bld (i : Int32) (q : Nat) : ai_go S m ((31, a, b, c, z) :: is) t ls (.int i :: .ref q :: st) h = (ai_ia h q 1).bind fun x => ai_rg i x.1 (ai_go S m is t ls (.int (x.2 i.toNatClampNeg) :: st) h) := by
  rw [ai_go_cons]
  show (match (match ai_ia h q 1 with | some (n, f) => if i < 0 ∨ n ≤ i.toNatClampNeg then none else some (ls, .int (f i.toNatClampNeg) :: st, h) | none => none) with | some (ls', st', h') => ai_go S m is t ls' st' h' | none => none) = _
  cases ai_ia h q 1 with
  | none => rfl
  | some x =>
    unfold ai_rg
    dsimp only [Option.bind_some]
    by_cases hz : i < 0 ∨ x.1 ≤ i.toNatClampNeg
    · rw [if_pos hz, if_pos hz]
    · rw [if_neg hz, if_neg hz]
theorem w_bst (x i : Int32) (q : Nat) : ai_go S m ((32, a, b, c, z) :: is) t ls (.int x :: .int i :: .ref q :: st) h = (ai_ia h q 1).bind fun y => ai_rg i y.1 ((ai_pa h q 1 (upd y.2 i.toNatClampNeg (vp_nar .boolean x))).bind fun h' => ai_go S m is t ls st h') := by
  rw [ai_go_cons]
  show (match (match ai_ia h q 1 with | some (n, f) => if i < 0 ∨ n ≤ i.toNatClampNeg then none else (match ai_pa h q 1 (upd f i.toNatClampNeg (vp_nar .boolean x)) with | some h' => some (ls, st, h') | none => none) | none => none) with | some (ls', st', h') => ai_go S m is t ls' st' h' | none => none) = _
  cases ai_ia h q 1 with
  | none => rfl
  | some y =>
    unfold ai_rg
    dsimp only [Option.bind_some]
    by_cases hz : i < 0 ∨ y.1 ≤ i.toNatClampNeg
    · rw [if_pos hz, if_pos hz]
    · rw [if_neg hz, if_neg hz]
      cases ai_pa h q 1 (upd y.2 i.toNatClampNeg (vp_nar .boolean x)) <;> rfl
theorem w_aald (i : Int32) (q : Nat) : ai_go S m ((33, a, b, c, z) :: is) t ls (.int i :: .ref q :: st) h = (ai_ra h q).bind fun x => ai_rg i x.1 (ai_go S m is t ls (va_rf (x.2 i.toNatClampNeg) :: st) h) := by
  rw [ai_go_cons]
  show (match (match ai_ra h q with | some (n, f) => if i < 0 ∨ n ≤ i.toNatClampNeg then none else some (ls, va_rf (f i.toNatClampNeg) :: st, h) | none => none) with | some (ls', st', h') => ai_go S m is t ls' st' h' | none => none) = _
  cases ai_ra h q with
  | none => rfl
  | some x =>
    unfold ai_rg
    dsimp only [Option.bind_some]
    by_cases hz : i < 0 ∨ x.1 ≤ i.toNatClampNeg
    · rw [if_pos hz, if_pos hz]
    · rw [if_neg hz, if_neg hz]
theorem w_len0 : ai_go S m ((35, a, b, c, z) :: is) t ls (.ref 0 :: st) h = ai_go S m is t ls (.int (Int32.ofNat S.1) :: st) h := by
  rw [ai_go_cons]
  rfl
theorem w_len (q : Nat) (hq : q ≠ 0) {n : Nat} {f : Nat → Int32} (hf : ai_ia h q 0 = some (n, f)) : ai_go S m ((35, a, b, c, z) :: is) t ls (.ref q :: st) h = ai_go S m is t ls (.int (Int32.ofNat n) :: st) h := by
  rw [ai_go_cons]
  obtain ⟨j, rfl, h1⟩ := ai_ia_of hf
  show (match (match ai_cell h (j + 1) with | some (.inl (t, n, _)) => if t < 3 then some (ls, .int (Int32.ofNat n) :: st, h) else none | _ => none) with | some (ls', st', h') => ai_go S m is t ls' st' h' | none => none) = _
  rw [show ai_cell h (j + 1) = some (.inl (0, n, .inl f)) from h1]
  rfl
theorem w_lenr (q : Nat) (hq : q ≠ 0) {n : Nat} {f : Nat → Option Nat} (hf : ai_ra h q = some (n, f)) : ai_go S m ((35, a, b, c, z) :: is) t ls (.ref q :: st) h = ai_go S m is t ls (.int (Int32.ofNat n) :: st) h := by
  rw [ai_go_cons]
  obtain ⟨j, rfl, h1⟩ := ai_ra_of hf
  show (match (match ai_cell h (j + 1) with | some (.inl (t, n, _)) => if t < 3 then some (ls, .int (Int32.ofNat n) :: st, h) else none | _ => none) with | some (ls', st', h') => ai_go S m is t ls' st' h' | none => none) = _
  rw [show ai_cell h (j + 1) = some (.inl (2, n, .inr (.inr (.inr (.inr f))))) from h1]
  rfl
theorem w_c42  : ai_go S m ((42, a, b, c, z) :: is) t ls (st) h = ai_go S m is t ls (.long z.toInt64 :: st) h := by
  rw [ai_go_cons]
  rfl
theorem w_c43  : ai_go S m ((43, a, b, c, z) :: is) t ls (st) h = ai_go S m is t ls (.long z.toInt64 :: st) h := by
  rw [ai_go_cons]
  rfl
theorem w_ladd (x y : Int64) : ai_go S m ((44, a, b, c, z) :: is) t ls (.long y :: .long x :: st) h = ai_go S m is t ls (.long (x + y) :: st) h := by
  rw [ai_go_cons]
  rfl
theorem w_lcmp (x y : Int64) : ai_go S m ((45, a, b, c, z) :: is) t ls (.long y :: .long x :: st) h = ai_go S m is t ls (.int (lg_cmp x y) :: st) h := by
  rw [ai_go_cons]
  rfl
theorem w_null  : ai_go S m ((46, a, b, c, z) :: is) t ls (st) h = ai_go S m is t ls (.null :: st) h := by
  rw [ai_go_cons]
  rfl
theorem w_min (x y : Int32) : ai_go S m ((48, a, b, c, z) :: is) t ls (.int y :: .int x :: st) h = if (st.map fun v => v.category).sum ≤ 7 then ai_go S m is t ls (.int (if y < x then y else x) :: st) h else none := by
  rw [ai_go_cons]
  show (match (if (st.map fun v => v.category).sum ≤ 7 then some (ls, .int (if y < x then y else x) :: st, h) else none) with | some (ls', st', h') => ai_go S m is t ls' st' h' | none => none) = _
  by_cases hq : (st.map fun v => v.category).sum ≤ 7
  · rw [if_pos hq, if_pos hq]
  · rw [if_neg hq, if_neg hq]
theorem w_max (x y : Int32) : ai_go S m ((49, a, b, c, z) :: is) t ls (.int y :: .int x :: st) h = if (st.map fun v => v.category).sum ≤ 7 then ai_go S m is t ls (.int (if x < y then y else x) :: st) h else none := by
  rw [ai_go_cons]
  show (match (if (st.map fun v => v.category).sum ≤ 7 then some (ls, .int (if x < y then y else x) :: st, h) else none) with | some (ls', st', h') => ai_go S m is t ls' st' h' | none => none) = _
  by_cases hq : (st.map fun v => v.category).sum ≤ 7
  · rw [if_pos hq, if_pos hq]
  · rw [if_neg hq, if_neg hq]
variable (b1 b2 x y : Nat) (tb : List (Int32 × Nat))
theorem t_0  : ai_go S m [] (0, b1, b2, x, y, tb) ls (st) h = ai_res S m b1 ls st h := rfl
theorem t_1  : ai_go S m [] (1, b1, b2, x, y, tb) ls (st) h = ai_res S m b1 ls st h := rfl
theorem t_2 (u : Int32) : ai_go S m [] (2, b1, b2, x, y, tb) ls (.int u :: st) h = if u = 0 then ai_res S m b1 ls st h else ai_res S m b2 ls st h := rfl
theorem t_8 (u w : Int32) : ai_go S m [] (8, b1, b2, x, y, tb) ls (.int w :: .int u :: st) h = if u = w then ai_res S m b1 ls st h else ai_res S m b2 ls st h := rfl
theorem t_3 (u : Int32) : ai_go S m [] (3, b1, b2, x, y, tb) ls (.int u :: st) h = if ¬ u = 0 then ai_res S m b1 ls st h else ai_res S m b2 ls st h := rfl
theorem t_9 (u w : Int32) : ai_go S m [] (9, b1, b2, x, y, tb) ls (.int w :: .int u :: st) h = if ¬ u = w then ai_res S m b1 ls st h else ai_res S m b2 ls st h := rfl
theorem t_4 (u : Int32) : ai_go S m [] (4, b1, b2, x, y, tb) ls (.int u :: st) h = if u < 0 then ai_res S m b1 ls st h else ai_res S m b2 ls st h := rfl
theorem t_10 (u w : Int32) : ai_go S m [] (10, b1, b2, x, y, tb) ls (.int w :: .int u :: st) h = if u < w then ai_res S m b1 ls st h else ai_res S m b2 ls st h := rfl
theorem t_5 (u : Int32) : ai_go S m [] (5, b1, b2, x, y, tb) ls (.int u :: st) h = if 0 ≤ u then ai_res S m b1 ls st h else ai_res S m b2 ls st h := rfl
theorem t_11 (u w : Int32) : ai_go S m [] (11, b1, b2, x, y, tb) ls (.int w :: .int u :: st) h = if w ≤ u then ai_res S m b1 ls st h else ai_res S m b2 ls st h := rfl
theorem t_6 (u : Int32) : ai_go S m [] (6, b1, b2, x, y, tb) ls (.int u :: st) h = if 0 < u then ai_res S m b1 ls st h else ai_res S m b2 ls st h := rfl
theorem t_12 (u w : Int32) : ai_go S m [] (12, b1, b2, x, y, tb) ls (.int w :: .int u :: st) h = if w < u then ai_res S m b1 ls st h else ai_res S m b2 ls st h := rfl
theorem t_7 (u : Int32) : ai_go S m [] (7, b1, b2, x, y, tb) ls (.int u :: st) h = if u ≤ 0 then ai_res S m b1 ls st h else ai_res S m b2 ls st h := rfl
theorem t_13 (u w : Int32) : ai_go S m [] (13, b1, b2, x, y, tb) ls (.int w :: .int u :: st) h = if u ≤ w then ai_res S m b1 ls st h else ai_res S m b2 ls st h := rfl
theorem t_14n  : ai_go S m [] (14, b1, b2, x, y, tb) ls (.null :: st) h = ai_res S m b1 ls st h := rfl
theorem t_14r (q : Nat) : ai_go S m [] (14, b1, b2, x, y, tb) ls (.ref q :: st) h = ai_res S m b2 ls st h := rfl
theorem t_15n  : ai_go S m [] (15, b1, b2, x, y, tb) ls (.null :: st) h = ai_res S m b2 ls st h := rfl
theorem t_15r (q : Nat) : ai_go S m [] (15, b1, b2, x, y, tb) ls (.ref q :: st) h = ai_res S m b1 ls st h := rfl
theorem t_16 (u : Int32) : ai_go S m [] (16, b1, b2, x, y, tb) ls (.int u :: st) h = ai_sw (ai_res S) m b1 ls st h u tb := rfl
theorem t_17 (u : Int32) : ai_go S m [] (17, b1, b2, x, y, tb) ls (.int u :: st) h = ai_sw (ai_res S) m b1 ls st h u tb := rfl
theorem sw_n (u : Int32) : ai_sw (ai_res S) m b1 ls st h u [] = ai_res S m b1 ls st h := rfl
theorem sw_c (u k : Int32) (b : Nat) : ai_sw (ai_res S) m b1 ls st h u ((k, b) :: tb) = if u = k then ai_res S m b ls st h else ai_sw (ai_res S) m b1 ls st h u tb := rfl
theorem t_18_1 (v0 : Value) : ai_go S m [] (18, b1, b2, 1, y, tb) ls (v0 :: st) h = if ai_recv 0 y [v0] h = true ∧ st.length ≤ 4 then (ai_call S b2 [v0] h).bind (fun q => ai_res S m b1 ls (q.1.toList ++ st) q.2) else none := by
  show (if ai_recv 0 y [v0] h = true ∧ st.length ≤ 4 then (match ai_call S b2 [v0] h with | some (v, h') => ai_res S m b1 ls (v.toList ++ st) h' | none => none) else none) = _
  cases ai_call S b2 [v0] h <;> rfl
theorem t_18_2 (v0 v1 : Value) : ai_go S m [] (18, b1, b2, 2, y, tb) ls (v1 :: v0 :: st) h = if ai_recv 0 y [v0, v1] h = true ∧ st.length ≤ 4 then (ai_call S b2 [v0, v1] h).bind (fun q => ai_res S m b1 ls (q.1.toList ++ st) q.2) else none := by
  show (if ai_recv 0 y [v0, v1] h = true ∧ st.length ≤ 4 then (match ai_call S b2 [v0, v1] h with | some (v, h') => ai_res S m b1 ls (v.toList ++ st) h' | none => none) else none) = _
  cases ai_call S b2 [v0, v1] h <;> rfl
theorem t_18_3 (v0 v1 v2 : Value) : ai_go S m [] (18, b1, b2, 3, y, tb) ls (v2 :: v1 :: v0 :: st) h = if ai_recv 0 y [v0, v1, v2] h = true ∧ st.length ≤ 4 then (ai_call S b2 [v0, v1, v2] h).bind (fun q => ai_res S m b1 ls (q.1.toList ++ st) q.2) else none := by
  show (if ai_recv 0 y [v0, v1, v2] h = true ∧ st.length ≤ 4 then (match ai_call S b2 [v0, v1, v2] h with | some (v, h') => ai_res S m b1 ls (v.toList ++ st) h' | none => none) else none) = _
  cases ai_call S b2 [v0, v1, v2] h <;> rfl
theorem t_18_4 (v0 v1 v2 v3 : Value) : ai_go S m [] (18, b1, b2, 4, y, tb) ls (v3 :: v2 :: v1 :: v0 :: st) h = if ai_recv 0 y [v0, v1, v2, v3] h = true ∧ st.length ≤ 4 then (ai_call S b2 [v0, v1, v2, v3] h).bind (fun q => ai_res S m b1 ls (q.1.toList ++ st) q.2) else none := by
  show (if ai_recv 0 y [v0, v1, v2, v3] h = true ∧ st.length ≤ 4 then (match ai_call S b2 [v0, v1, v2, v3] h with | some (v, h') => ai_res S m b1 ls (v.toList ++ st) h' | none => none) else none) = _
  cases ai_call S b2 [v0, v1, v2, v3] h <;> rfl
theorem t_18_5 (v0 v1 v2 v3 v4 : Value) : ai_go S m [] (18, b1, b2, 5, y, tb) ls (v4 :: v3 :: v2 :: v1 :: v0 :: st) h = if ai_recv 0 y [v0, v1, v2, v3, v4] h = true ∧ st.length ≤ 4 then (ai_call S b2 [v0, v1, v2, v3, v4] h).bind (fun q => ai_res S m b1 ls (q.1.toList ++ st) q.2) else none := by
  show (if ai_recv 0 y [v0, v1, v2, v3, v4] h = true ∧ st.length ≤ 4 then (match ai_call S b2 [v0, v1, v2, v3, v4] h with | some (v, h') => ai_res S m b1 ls (v.toList ++ st) h' | none => none) else none) = _
  cases ai_call S b2 [v0, v1, v2, v3, v4] h <;> rfl
theorem t_19_1 (v0 : Value) : ai_go S m [] (19, b1, b2, 1, y, tb) ls (v0 :: st) h = if ai_recv 1 0 [v0] h = true ∧ st.length ≤ 4 then (ai_call S b2 [v0] h).bind (fun q => ai_res S m b1 ls (q.1.toList ++ st) q.2) else none := by
  show (if ai_recv 1 0 [v0] h = true ∧ st.length ≤ 4 then (match ai_call S b2 [v0] h with | some (v, h') => ai_res S m b1 ls (v.toList ++ st) h' | none => none) else none) = _
  cases ai_call S b2 [v0] h <;> rfl
theorem t_19_2 (v0 v1 : Value) : ai_go S m [] (19, b1, b2, 2, y, tb) ls (v1 :: v0 :: st) h = if ai_recv 1 0 [v0, v1] h = true ∧ st.length ≤ 4 then (ai_call S b2 [v0, v1] h).bind (fun q => ai_res S m b1 ls (q.1.toList ++ st) q.2) else none := by
  show (if ai_recv 1 0 [v0, v1] h = true ∧ st.length ≤ 4 then (match ai_call S b2 [v0, v1] h with | some (v, h') => ai_res S m b1 ls (v.toList ++ st) h' | none => none) else none) = _
  cases ai_call S b2 [v0, v1] h <;> rfl
theorem t_19_3 (v0 v1 v2 : Value) : ai_go S m [] (19, b1, b2, 3, y, tb) ls (v2 :: v1 :: v0 :: st) h = if ai_recv 1 0 [v0, v1, v2] h = true ∧ st.length ≤ 4 then (ai_call S b2 [v0, v1, v2] h).bind (fun q => ai_res S m b1 ls (q.1.toList ++ st) q.2) else none := by
  show (if ai_recv 1 0 [v0, v1, v2] h = true ∧ st.length ≤ 4 then (match ai_call S b2 [v0, v1, v2] h with | some (v, h') => ai_res S m b1 ls (v.toList ++ st) h' | none => none) else none) = _
  cases ai_call S b2 [v0, v1, v2] h <;> rfl
theorem t_19_4 (v0 v1 v2 v3 : Value) : ai_go S m [] (19, b1, b2, 4, y, tb) ls (v3 :: v2 :: v1 :: v0 :: st) h = if ai_recv 1 0 [v0, v1, v2, v3] h = true ∧ st.length ≤ 4 then (ai_call S b2 [v0, v1, v2, v3] h).bind (fun q => ai_res S m b1 ls (q.1.toList ++ st) q.2) else none := by
  show (if ai_recv 1 0 [v0, v1, v2, v3] h = true ∧ st.length ≤ 4 then (match ai_call S b2 [v0, v1, v2, v3] h with | some (v, h') => ai_res S m b1 ls (v.toList ++ st) h' | none => none) else none) = _
  cases ai_call S b2 [v0, v1, v2, v3] h <;> rfl
theorem t_19_5 (v0 v1 v2 v3 v4 : Value) : ai_go S m [] (19, b1, b2, 5, y, tb) ls (v4 :: v3 :: v2 :: v1 :: v0 :: st) h = if ai_recv 1 0 [v0, v1, v2, v3, v4] h = true ∧ st.length ≤ 4 then (ai_call S b2 [v0, v1, v2, v3, v4] h).bind (fun q => ai_res S m b1 ls (q.1.toList ++ st) q.2) else none := by
  show (if ai_recv 1 0 [v0, v1, v2, v3, v4] h = true ∧ st.length ≤ 4 then (match ai_call S b2 [v0, v1, v2, v3, v4] h with | some (v, h') => ai_res S m b1 ls (v.toList ++ st) h' | none => none) else none) = _
  cases ai_call S b2 [v0, v1, v2, v3, v4] h <;> rfl
theorem t_20_1 (v0 : Value) : ai_go S m [] (20, b1, b2, 1, y, tb) ls (v0 :: st) h = if ai_recv 2 0 [v0] h = true ∧ st.length ≤ 4 then (ai_call S b2 [v0] h).bind (fun q => ai_res S m b1 ls (q.1.toList ++ st) q.2) else none := by
  show (if ai_recv 2 0 [v0] h = true ∧ st.length ≤ 4 then (match ai_call S b2 [v0] h with | some (v, h') => ai_res S m b1 ls (v.toList ++ st) h' | none => none) else none) = _
  cases ai_call S b2 [v0] h <;> rfl
theorem t_20_2 (v0 v1 : Value) : ai_go S m [] (20, b1, b2, 2, y, tb) ls (v1 :: v0 :: st) h = if ai_recv 2 0 [v0, v1] h = true ∧ st.length ≤ 4 then (ai_call S b2 [v0, v1] h).bind (fun q => ai_res S m b1 ls (q.1.toList ++ st) q.2) else none := by
  show (if ai_recv 2 0 [v0, v1] h = true ∧ st.length ≤ 4 then (match ai_call S b2 [v0, v1] h with | some (v, h') => ai_res S m b1 ls (v.toList ++ st) h' | none => none) else none) = _
  cases ai_call S b2 [v0, v1] h <;> rfl
theorem t_20_3 (v0 v1 v2 : Value) : ai_go S m [] (20, b1, b2, 3, y, tb) ls (v2 :: v1 :: v0 :: st) h = if ai_recv 2 0 [v0, v1, v2] h = true ∧ st.length ≤ 4 then (ai_call S b2 [v0, v1, v2] h).bind (fun q => ai_res S m b1 ls (q.1.toList ++ st) q.2) else none := by
  show (if ai_recv 2 0 [v0, v1, v2] h = true ∧ st.length ≤ 4 then (match ai_call S b2 [v0, v1, v2] h with | some (v, h') => ai_res S m b1 ls (v.toList ++ st) h' | none => none) else none) = _
  cases ai_call S b2 [v0, v1, v2] h <;> rfl
theorem t_20_4 (v0 v1 v2 v3 : Value) : ai_go S m [] (20, b1, b2, 4, y, tb) ls (v3 :: v2 :: v1 :: v0 :: st) h = if ai_recv 2 0 [v0, v1, v2, v3] h = true ∧ st.length ≤ 4 then (ai_call S b2 [v0, v1, v2, v3] h).bind (fun q => ai_res S m b1 ls (q.1.toList ++ st) q.2) else none := by
  show (if ai_recv 2 0 [v0, v1, v2, v3] h = true ∧ st.length ≤ 4 then (match ai_call S b2 [v0, v1, v2, v3] h with | some (v, h') => ai_res S m b1 ls (v.toList ++ st) h' | none => none) else none) = _
  cases ai_call S b2 [v0, v1, v2, v3] h <;> rfl
theorem t_20_5 (v0 v1 v2 v3 v4 : Value) : ai_go S m [] (20, b1, b2, 5, y, tb) ls (v4 :: v3 :: v2 :: v1 :: v0 :: st) h = if ai_recv 2 0 [v0, v1, v2, v3, v4] h = true ∧ st.length ≤ 4 then (ai_call S b2 [v0, v1, v2, v3, v4] h).bind (fun q => ai_res S m b1 ls (q.1.toList ++ st) q.2) else none := by
  show (if ai_recv 2 0 [v0, v1, v2, v3, v4] h = true ∧ st.length ≤ 4 then (match ai_call S b2 [v0, v1, v2, v3, v4] h with | some (v, h') => ai_res S m b1 ls (v.toList ++ st) h' | none => none) else none) = _
  cases ai_call S b2 [v0, v1, v2, v3, v4] h <;> rfl
theorem t_21_1 (v0 : Value) : ai_go S m [] (21, b1, b2, 1, y, tb) ls (v0 :: st) h = if ai_recv 4 0 [v0] h = true ∧ st.length ≤ 4 then (ai_call S b2 [v0] h).bind (fun q => ai_res S m b1 ls (q.1.toList ++ st) q.2) else none := by
  show (if ai_recv 4 0 [v0] h = true ∧ st.length ≤ 4 then (match ai_call S b2 [v0] h with | some (v, h') => ai_res S m b1 ls (v.toList ++ st) h' | none => none) else none) = _
  cases ai_call S b2 [v0] h <;> rfl
theorem t_21_2 (v0 v1 : Value) : ai_go S m [] (21, b1, b2, 2, y, tb) ls (v1 :: v0 :: st) h = if ai_recv 4 0 [v0, v1] h = true ∧ st.length ≤ 4 then (ai_call S b2 [v0, v1] h).bind (fun q => ai_res S m b1 ls (q.1.toList ++ st) q.2) else none := by
  show (if ai_recv 4 0 [v0, v1] h = true ∧ st.length ≤ 4 then (match ai_call S b2 [v0, v1] h with | some (v, h') => ai_res S m b1 ls (v.toList ++ st) h' | none => none) else none) = _
  cases ai_call S b2 [v0, v1] h <;> rfl
theorem t_21_3 (v0 v1 v2 : Value) : ai_go S m [] (21, b1, b2, 3, y, tb) ls (v2 :: v1 :: v0 :: st) h = if ai_recv 4 0 [v0, v1, v2] h = true ∧ st.length ≤ 4 then (ai_call S b2 [v0, v1, v2] h).bind (fun q => ai_res S m b1 ls (q.1.toList ++ st) q.2) else none := by
  show (if ai_recv 4 0 [v0, v1, v2] h = true ∧ st.length ≤ 4 then (match ai_call S b2 [v0, v1, v2] h with | some (v, h') => ai_res S m b1 ls (v.toList ++ st) h' | none => none) else none) = _
  cases ai_call S b2 [v0, v1, v2] h <;> rfl
theorem t_21_4 (v0 v1 v2 v3 : Value) : ai_go S m [] (21, b1, b2, 4, y, tb) ls (v3 :: v2 :: v1 :: v0 :: st) h = if ai_recv 4 0 [v0, v1, v2, v3] h = true ∧ st.length ≤ 4 then (ai_call S b2 [v0, v1, v2, v3] h).bind (fun q => ai_res S m b1 ls (q.1.toList ++ st) q.2) else none := by
  show (if ai_recv 4 0 [v0, v1, v2, v3] h = true ∧ st.length ≤ 4 then (match ai_call S b2 [v0, v1, v2, v3] h with | some (v, h') => ai_res S m b1 ls (v.toList ++ st) h' | none => none) else none) = _
  cases ai_call S b2 [v0, v1, v2, v3] h <;> rfl
theorem t_21_5 (v0 v1 v2 v3 v4 : Value) : ai_go S m [] (21, b1, b2, 5, y, tb) ls (v4 :: v3 :: v2 :: v1 :: v0 :: st) h = if ai_recv 4 0 [v0, v1, v2, v3, v4] h = true ∧ st.length ≤ 4 then (ai_call S b2 [v0, v1, v2, v3, v4] h).bind (fun q => ai_res S m b1 ls (q.1.toList ++ st) q.2) else none := by
  show (if ai_recv 4 0 [v0, v1, v2, v3, v4] h = true ∧ st.length ≤ 4 then (match ai_call S b2 [v0, v1, v2, v3, v4] h with | some (v, h') => ai_res S m b1 ls (v.toList ++ st) h' | none => none) else none) = _
  cases ai_call S b2 [v0, v1, v2, v3, v4] h <;> rfl
theorem t_22_1 (v0 : Value) : ai_go S m [] (22, b1, b2, 1, y, tb) ls (v0 :: st) h = if ai_recv 5 0 [v0] h = true ∧ st.length ≤ 4 then (ai_call S b2 [v0] h).bind (fun q => ai_res S m b1 ls (q.1.toList ++ st) q.2) else none := by
  show (if ai_recv 5 0 [v0] h = true ∧ st.length ≤ 4 then (match ai_call S b2 [v0] h with | some (v, h') => ai_res S m b1 ls (v.toList ++ st) h' | none => none) else none) = _
  cases ai_call S b2 [v0] h <;> rfl
theorem t_22_2 (v0 v1 : Value) : ai_go S m [] (22, b1, b2, 2, y, tb) ls (v1 :: v0 :: st) h = if ai_recv 5 0 [v0, v1] h = true ∧ st.length ≤ 4 then (ai_call S b2 [v0, v1] h).bind (fun q => ai_res S m b1 ls (q.1.toList ++ st) q.2) else none := by
  show (if ai_recv 5 0 [v0, v1] h = true ∧ st.length ≤ 4 then (match ai_call S b2 [v0, v1] h with | some (v, h') => ai_res S m b1 ls (v.toList ++ st) h' | none => none) else none) = _
  cases ai_call S b2 [v0, v1] h <;> rfl
theorem t_22_3 (v0 v1 v2 : Value) : ai_go S m [] (22, b1, b2, 3, y, tb) ls (v2 :: v1 :: v0 :: st) h = if ai_recv 5 0 [v0, v1, v2] h = true ∧ st.length ≤ 4 then (ai_call S b2 [v0, v1, v2] h).bind (fun q => ai_res S m b1 ls (q.1.toList ++ st) q.2) else none := by
  show (if ai_recv 5 0 [v0, v1, v2] h = true ∧ st.length ≤ 4 then (match ai_call S b2 [v0, v1, v2] h with | some (v, h') => ai_res S m b1 ls (v.toList ++ st) h' | none => none) else none) = _
  cases ai_call S b2 [v0, v1, v2] h <;> rfl
theorem t_22_4 (v0 v1 v2 v3 : Value) : ai_go S m [] (22, b1, b2, 4, y, tb) ls (v3 :: v2 :: v1 :: v0 :: st) h = if ai_recv 5 0 [v0, v1, v2, v3] h = true ∧ st.length ≤ 4 then (ai_call S b2 [v0, v1, v2, v3] h).bind (fun q => ai_res S m b1 ls (q.1.toList ++ st) q.2) else none := by
  show (if ai_recv 5 0 [v0, v1, v2, v3] h = true ∧ st.length ≤ 4 then (match ai_call S b2 [v0, v1, v2, v3] h with | some (v, h') => ai_res S m b1 ls (v.toList ++ st) h' | none => none) else none) = _
  cases ai_call S b2 [v0, v1, v2, v3] h <;> rfl
theorem t_22_5 (v0 v1 v2 v3 v4 : Value) : ai_go S m [] (22, b1, b2, 5, y, tb) ls (v4 :: v3 :: v2 :: v1 :: v0 :: st) h = if ai_recv 5 0 [v0, v1, v2, v3, v4] h = true ∧ st.length ≤ 4 then (ai_call S b2 [v0, v1, v2, v3, v4] h).bind (fun q => ai_res S m b1 ls (q.1.toList ++ st) q.2) else none := by
  show (if ai_recv 5 0 [v0, v1, v2, v3, v4] h = true ∧ st.length ≤ 4 then (match ai_call S b2 [v0, v1, v2, v3, v4] h with | some (v, h') => ai_res S m b1 ls (v.toList ++ st) h' | none => none) else none) = _
  cases ai_call S b2 [v0, v1, v2, v3, v4] h <;> rfl
theorem rc_0 (q ci : Nat) (as : List Value) : ai_recv 0 ci (.ref q :: as) h = ai_io h q ci := rfl
theorem rc_1 (ci : Nat) (as : List Value) : ai_recv 1 ci as h = true := rfl
theorem rc_2 (q ci : Nat) (as : List Value) : ai_recv 2 ci (.ref q :: as) h = true := rfl
theorem rc_4 (ci : Nat) (as : List Value) : ai_recv 4 ci as h = true := rfl
theorem rc_5 (q ci : Nat) (as : List Value) : ai_recv 5 ci (.ref q :: as) h = true := rfl
theorem t_23 (u : Int32) : ai_go S m [] (23, b1, b2, x, y, tb) ls [.int u] h = some (some (.int u), h) := rfl
theorem t_24_0  : ai_go S m [] (24, b1, b2, x, y, tb) ls ([.int 0]) h = some (some (.int 0), h) := rfl
theorem t_24_1  : ai_go S m [] (24, b1, b2, x, y, tb) ls ([.int 1]) h = some (some (.int 1), h) := rfl
theorem t_25 (u : Int64) : ai_go S m [] (25, b1, b2, x, y, tb) ls ([.long u]) h = some (some (.long u), h) := rfl
theorem t_26r (u : Nat) : ai_go S m [] (26, b1, b2, x, y, tb) ls ([.ref u]) h = some (some (.ref u), h) := rfl
theorem t_26n  : ai_go S m [] (26, b1, b2, x, y, tb) ls ([.null]) h = some (some .null, h) := rfl
theorem t_27  : ai_go S m [] (27, b1, b2, x, y, tb) ls ([]) h = some (none, h) := rfl
end Wk
theorem rg_ok {i : Int32} {n : Nat} (h : ¬ (i < 0 ∨ n ≤ i.toNatClampNeg)) (f : ai_A) : ai_rg i n f = f := if_neg h
theorem rg_n {k n : Nat} (h : k < n) (hn : n < 2 ^ 31) (f : ai_A) : ai_rg (nI k) n f = f := if_neg (by
  have h1 := nI_pos (n := k) (by omega)
  have h2 := nI_clamp (n := k) (by omega)
  intro z
  rcases z with z | z
  · exact h1 z
  · omega)
/-- two ways to one block, with another number on the stack -/
theorem ite_res (c : Prop) [Decidable c] (S : ai_S) (m b : Nat) (ls st : List Value) (h : ai_H) (x y : Int32) : (if c then ai_res S m b ls (.int x :: st) h else ai_res S m b ls (.int y :: st) h) = ai_res S m b ls (.int (if c then x else y) :: st) h := by
  split <;> rfl
end
section
/-! the heap: V what the class holds, D what the reference holds -/
/-- a Moment: bruised, warm, yielded, left, shaken, hurt, velvet, shutOn -/
abbrev sv_M : Type := (Nat → Int32) × (Nat → Int32) × Int32 × Int32 × Int32 × Int32 × Int32 × Int32
/-- a Setting: grip, velvet, spring, callers, pride, heart, land, wants -/
abbrev sv_G : Type := Int32 × Int32 × Int32 × Int32 × (Nat → Int32) × (Nat → Int32) × (Nat → Int32) × (Nat → Int32)
/-- the Text: letters, length, place, token, tokenPlace, number, item, numbers, gripTold, velvetTold, springTold -/
abbrev sv_T : Type := (Nat → Int32) × Int32 × Int32 × Int32 × Int32 × Int32 × Int32 × Int32 × Int32 × Int32 × Int32
/-- the Past: rows, next, known -/
abbrev sv_P : Type := (Nat → sv_M) × Int32 × Int32
/-- the Hearsay: who, times, yielded, size -/
abbrev sv_H : Type := (Nat → Int32) × (Nat → Int32) × (Nat → Int32) × Int32
/-- the class: setting, spare, which of the two cells is the setting, text, moment, past, images, kept, hearsay, wayLengths, fewest, asked -/
abbrev sv_V : Type := sv_G × sv_G × Bool × sv_T × sv_M × sv_P × (Nat → sv_M) × Int32 × sv_H × (Nat → Int32) × (Nat → Int32) × Int64
/-- the reference's numbers: thrown, trace, typed, next, token, place, value, fault, told, undoMany, tellings, hard, warm -/
abbrev sv_N : Type := Int32 × Int64 × Int32 × Int32 × Int32 × Int32 × Int32 × Int32 × Int32 × Int32 × Int32 × Int32 × Int32
/-- its rows: text, many, pride, heart, land, wants, s, kept, isKept, undos, toldOf, toldTimes, toldYield, wayOf -/
abbrev sv_R : Type := (Nat → Int32) × (Nat → Int32) × (Nat → Int32) × (Nat → Int32) × (Nat → Int32) × (Nat → Int32) × (Nat → Int32) × (Nat → Int32) × (Nat → Int32) × (Nat → Int32) × (Nat → Int32) × (Nat → Int32) × (Nat → Int32) × (Nat → Int32)
abbrev sv_D : Type := sv_N × sv_R
def hx_rows : Nat → Option Nat := va_up (va_up (va_up (va_up (va_up (va_up (va_up (va_up (va_up (va_up (fun _ => none) 0 (some 19)) 1 (some 22)) 2 (some 25)) 3 (some 28)) 4 (some 31)) 5 (some 34)) 6 (some 37)) 7 (some 40)) 8 (some 43)) 9 (some 46)
def hx_imgs : Nat → Option Nat := va_up (va_up (fun _ => none) 0 (some 50)) 1 (some 53)
/-- the setting's cell -/
def sq (sw : Bool) : Nat := if sw then 7 else 2
/-- the first of the two settings' cells, the second -/
def hx_a (V : sv_V) : sv_G := if V.2.2.1 then V.2.1 else V.1
def hx_b (V : sv_V) : sv_G := if V.2.2.1 then V.1 else V.2.1
def HP (V : sv_V) (D : sv_D) : ai_H := [.inr (5, [.ref (sq V.2.2.1), .ref (sq (!V.2.2.1)), .ref 12, .ref 14, .ref 17, .ref 49, .int V.2.2.2.2.2.2.2.1, .ref 56, .ref 60, .ref 61, .long V.2.2.2.2.2.2.2.2.2.2.2]),
  .inr (3, [.int (hx_a V).1, .int (hx_a V).2.1, .int (hx_a V).2.2.1, .int (hx_a V).2.2.2.1, .ref 3, .ref 4, .ref 5, .ref 6]),
  .inl (0, 6, .inl (hx_a V).2.2.2.2.1),
  .inl (0, 6, .inl (hx_a V).2.2.2.2.2.1),
  .inl (0, 6, .inl (hx_a V).2.2.2.2.2.2.1),
  .inl (0, 6, .inl (hx_a V).2.2.2.2.2.2.2),
  .inr (3, [.int (hx_b V).1, .int (hx_b V).2.1, .int (hx_b V).2.2.1, .int (hx_b V).2.2.2.1, .ref 8, .ref 9, .ref 10, .ref 11]),
  .inl (0, 6, .inl (hx_b V).2.2.2.2.1),
  .inl (0, 6, .inl (hx_b V).2.2.2.2.2.1),
  .inl (0, 6, .inl (hx_b V).2.2.2.2.2.2.1),
  .inl (0, 6, .inl (hx_b V).2.2.2.2.2.2.2),
  .inr (4, [.ref 13, .int V.2.2.2.1.2.1, .int V.2.2.2.1.2.2.1, .int V.2.2.2.1.2.2.2.1, .int V.2.2.2.1.2.2.2.2.1, .int V.2.2.2.1.2.2.2.2.2.1, .int V.2.2.2.1.2.2.2.2.2.2.1, .int V.2.2.2.1.2.2.2.2.2.2.2.1, .int V.2.2.2.1.2.2.2.2.2.2.2.2.1, .int V.2.2.2.1.2.2.2.2.2.2.2.2.2.1, .int V.2.2.2.1.2.2.2.2.2.2.2.2.2.2]),
  .inl (0, 120, .inl V.2.2.2.1.1),
  .inr (1, [.ref 15, .ref 16, .int V.2.2.2.2.1.2.2.1, .int V.2.2.2.2.1.2.2.2.1, .int V.2.2.2.2.1.2.2.2.2.1, .int V.2.2.2.2.1.2.2.2.2.2.1, .int V.2.2.2.2.1.2.2.2.2.2.2.1, .int V.2.2.2.2.1.2.2.2.2.2.2.2]),
  .inl (0, 6, .inl V.2.2.2.2.1.1),
  .inl (0, 6, .inl V.2.2.2.2.1.2.1),
  .inr (2, [.ref 18, .int V.2.2.2.2.2.1.2.1, .int V.2.2.2.2.2.1.2.2]),
  .inl (2, 10, .inr (.inr (.inr (.inr hx_rows)))),
  .inr (1, [.ref 20, .ref 21, .int (V.2.2.2.2.2.1.1 0).2.2.1, .int (V.2.2.2.2.2.1.1 0).2.2.2.1, .int (V.2.2.2.2.2.1.1 0).2.2.2.2.1, .int (V.2.2.2.2.2.1.1 0).2.2.2.2.2.1, .int (V.2.2.2.2.2.1.1 0).2.2.2.2.2.2.1, .int (V.2.2.2.2.2.1.1 0).2.2.2.2.2.2.2]),
  .inl (0, 6, .inl (V.2.2.2.2.2.1.1 0).1),
  .inl (0, 6, .inl (V.2.2.2.2.2.1.1 0).2.1),
  .inr (1, [.ref 23, .ref 24, .int (V.2.2.2.2.2.1.1 1).2.2.1, .int (V.2.2.2.2.2.1.1 1).2.2.2.1, .int (V.2.2.2.2.2.1.1 1).2.2.2.2.1, .int (V.2.2.2.2.2.1.1 1).2.2.2.2.2.1, .int (V.2.2.2.2.2.1.1 1).2.2.2.2.2.2.1, .int (V.2.2.2.2.2.1.1 1).2.2.2.2.2.2.2]),
  .inl (0, 6, .inl (V.2.2.2.2.2.1.1 1).1),
  .inl (0, 6, .inl (V.2.2.2.2.2.1.1 1).2.1),
  .inr (1, [.ref 26, .ref 27, .int (V.2.2.2.2.2.1.1 2).2.2.1, .int (V.2.2.2.2.2.1.1 2).2.2.2.1, .int (V.2.2.2.2.2.1.1 2).2.2.2.2.1, .int (V.2.2.2.2.2.1.1 2).2.2.2.2.2.1, .int (V.2.2.2.2.2.1.1 2).2.2.2.2.2.2.1, .int (V.2.2.2.2.2.1.1 2).2.2.2.2.2.2.2]),
  .inl (0, 6, .inl (V.2.2.2.2.2.1.1 2).1),
  .inl (0, 6, .inl (V.2.2.2.2.2.1.1 2).2.1),
  .inr (1, [.ref 29, .ref 30, .int (V.2.2.2.2.2.1.1 3).2.2.1, .int (V.2.2.2.2.2.1.1 3).2.2.2.1, .int (V.2.2.2.2.2.1.1 3).2.2.2.2.1, .int (V.2.2.2.2.2.1.1 3).2.2.2.2.2.1, .int (V.2.2.2.2.2.1.1 3).2.2.2.2.2.2.1, .int (V.2.2.2.2.2.1.1 3).2.2.2.2.2.2.2]),
  .inl (0, 6, .inl (V.2.2.2.2.2.1.1 3).1),
  .inl (0, 6, .inl (V.2.2.2.2.2.1.1 3).2.1),
  .inr (1, [.ref 32, .ref 33, .int (V.2.2.2.2.2.1.1 4).2.2.1, .int (V.2.2.2.2.2.1.1 4).2.2.2.1, .int (V.2.2.2.2.2.1.1 4).2.2.2.2.1, .int (V.2.2.2.2.2.1.1 4).2.2.2.2.2.1, .int (V.2.2.2.2.2.1.1 4).2.2.2.2.2.2.1, .int (V.2.2.2.2.2.1.1 4).2.2.2.2.2.2.2]),
  .inl (0, 6, .inl (V.2.2.2.2.2.1.1 4).1),
  .inl (0, 6, .inl (V.2.2.2.2.2.1.1 4).2.1),
  .inr (1, [.ref 35, .ref 36, .int (V.2.2.2.2.2.1.1 5).2.2.1, .int (V.2.2.2.2.2.1.1 5).2.2.2.1, .int (V.2.2.2.2.2.1.1 5).2.2.2.2.1, .int (V.2.2.2.2.2.1.1 5).2.2.2.2.2.1, .int (V.2.2.2.2.2.1.1 5).2.2.2.2.2.2.1, .int (V.2.2.2.2.2.1.1 5).2.2.2.2.2.2.2]),
  .inl (0, 6, .inl (V.2.2.2.2.2.1.1 5).1),
  .inl (0, 6, .inl (V.2.2.2.2.2.1.1 5).2.1),
  .inr (1, [.ref 38, .ref 39, .int (V.2.2.2.2.2.1.1 6).2.2.1, .int (V.2.2.2.2.2.1.1 6).2.2.2.1, .int (V.2.2.2.2.2.1.1 6).2.2.2.2.1, .int (V.2.2.2.2.2.1.1 6).2.2.2.2.2.1, .int (V.2.2.2.2.2.1.1 6).2.2.2.2.2.2.1, .int (V.2.2.2.2.2.1.1 6).2.2.2.2.2.2.2]),
  .inl (0, 6, .inl (V.2.2.2.2.2.1.1 6).1),
  .inl (0, 6, .inl (V.2.2.2.2.2.1.1 6).2.1),
  .inr (1, [.ref 41, .ref 42, .int (V.2.2.2.2.2.1.1 7).2.2.1, .int (V.2.2.2.2.2.1.1 7).2.2.2.1, .int (V.2.2.2.2.2.1.1 7).2.2.2.2.1, .int (V.2.2.2.2.2.1.1 7).2.2.2.2.2.1, .int (V.2.2.2.2.2.1.1 7).2.2.2.2.2.2.1, .int (V.2.2.2.2.2.1.1 7).2.2.2.2.2.2.2]),
  .inl (0, 6, .inl (V.2.2.2.2.2.1.1 7).1),
  .inl (0, 6, .inl (V.2.2.2.2.2.1.1 7).2.1),
  .inr (1, [.ref 44, .ref 45, .int (V.2.2.2.2.2.1.1 8).2.2.1, .int (V.2.2.2.2.2.1.1 8).2.2.2.1, .int (V.2.2.2.2.2.1.1 8).2.2.2.2.1, .int (V.2.2.2.2.2.1.1 8).2.2.2.2.2.1, .int (V.2.2.2.2.2.1.1 8).2.2.2.2.2.2.1, .int (V.2.2.2.2.2.1.1 8).2.2.2.2.2.2.2]),
  .inl (0, 6, .inl (V.2.2.2.2.2.1.1 8).1),
  .inl (0, 6, .inl (V.2.2.2.2.2.1.1 8).2.1),
  .inr (1, [.ref 47, .ref 48, .int (V.2.2.2.2.2.1.1 9).2.2.1, .int (V.2.2.2.2.2.1.1 9).2.2.2.1, .int (V.2.2.2.2.2.1.1 9).2.2.2.2.1, .int (V.2.2.2.2.2.1.1 9).2.2.2.2.2.1, .int (V.2.2.2.2.2.1.1 9).2.2.2.2.2.2.1, .int (V.2.2.2.2.2.1.1 9).2.2.2.2.2.2.2]),
  .inl (0, 6, .inl (V.2.2.2.2.2.1.1 9).1),
  .inl (0, 6, .inl (V.2.2.2.2.2.1.1 9).2.1),
  .inl (2, 2, .inr (.inr (.inr (.inr hx_imgs)))),
  .inr (1, [.ref 51, .ref 52, .int (V.2.2.2.2.2.2.1 0).2.2.1, .int (V.2.2.2.2.2.2.1 0).2.2.2.1, .int (V.2.2.2.2.2.2.1 0).2.2.2.2.1, .int (V.2.2.2.2.2.2.1 0).2.2.2.2.2.1, .int (V.2.2.2.2.2.2.1 0).2.2.2.2.2.2.1, .int (V.2.2.2.2.2.2.1 0).2.2.2.2.2.2.2]),
  .inl (0, 6, .inl (V.2.2.2.2.2.2.1 0).1),
  .inl (0, 6, .inl (V.2.2.2.2.2.2.1 0).2.1),
  .inr (1, [.ref 54, .ref 55, .int (V.2.2.2.2.2.2.1 1).2.2.1, .int (V.2.2.2.2.2.2.1 1).2.2.2.1, .int (V.2.2.2.2.2.2.1 1).2.2.2.2.1, .int (V.2.2.2.2.2.2.1 1).2.2.2.2.2.1, .int (V.2.2.2.2.2.2.1 1).2.2.2.2.2.2.1, .int (V.2.2.2.2.2.2.1 1).2.2.2.2.2.2.2]),
  .inl (0, 6, .inl (V.2.2.2.2.2.2.1 1).1),
  .inl (0, 6, .inl (V.2.2.2.2.2.2.1 1).2.1),
  .inr (0, [.ref 57, .ref 58, .ref 59, .int V.2.2.2.2.2.2.2.2.1.2.2.2]),
  .inl (0, 6, .inl V.2.2.2.2.2.2.2.2.1.1),
  .inl (0, 6, .inl V.2.2.2.2.2.2.2.2.1.2.1),
  .inl (0, 6, .inl V.2.2.2.2.2.2.2.2.1.2.2.1),
  .inl (0, 6, .inl V.2.2.2.2.2.2.2.2.2.1),
  .inl (0, 121, .inl V.2.2.2.2.2.2.2.2.2.2.1),
  .inr (6, [.int D.1.1, .long D.1.2.1, .ref 63, .int D.1.2.2.1, .int D.1.2.2.2.1, .int D.1.2.2.2.2.1, .int D.1.2.2.2.2.2.1, .int D.1.2.2.2.2.2.2.1, .int D.1.2.2.2.2.2.2.2.1, .int D.1.2.2.2.2.2.2.2.2.1, .ref 64, .ref 65, .ref 66, .ref 67, .ref 68, .ref 69, .ref 70, .ref 71, .ref 72, .int D.1.2.2.2.2.2.2.2.2.2.1, .ref 73, .ref 74, .ref 75, .int D.1.2.2.2.2.2.2.2.2.2.2.1, .int D.1.2.2.2.2.2.2.2.2.2.2.2.1, .int D.1.2.2.2.2.2.2.2.2.2.2.2.2, .ref 76]),
  .inl (0, 120, .inl D.2.1),
  .inl (0, 8, .inl D.2.2.1),
  .inl (0, 12, .inl D.2.2.2.1),
  .inl (0, 12, .inl D.2.2.2.2.1),
  .inl (0, 12, .inl D.2.2.2.2.2.1),
  .inl (0, 12, .inl D.2.2.2.2.2.2.1),
  .inl (0, 18, .inl D.2.2.2.2.2.2.2.1),
  .inl (0, 36, .inl D.2.2.2.2.2.2.2.2.1),
  .inl (1, 2, .inl D.2.2.2.2.2.2.2.2.2.1),
  .inl (0, 180, .inl D.2.2.2.2.2.2.2.2.2.2.1),
  .inl (0, 6, .inl D.2.2.2.2.2.2.2.2.2.2.2.1),
  .inl (0, 6, .inl D.2.2.2.2.2.2.2.2.2.2.2.2.1),
  .inl (0, 6, .inl D.2.2.2.2.2.2.2.2.2.2.2.2.2.1),
  .inl (0, 6, .inl D.2.2.2.2.2.2.2.2.2.2.2.2.2.2)]
theorem gf_x0 (g : sv_G) (p : sv_G) (sw : Bool) (t : sv_T) (m : sv_M) (pa : sv_P) (im : Nat → sv_M) (kp : Int32) (he : sv_H) (wl : Nat → Int32) (fe : Nat → Int32) (as : Int64) (D : sv_D) : ai_gf (HP (g, p, sw, t, m, pa, im, kp, he, wl, fe, as) D) 1 5 0 = some (.ref (sq sw)) := Eq.trans (Eq.refl _) (Eq.refl _)
theorem gf_x1 (g : sv_G) (p : sv_G) (sw : Bool) (t : sv_T) (m : sv_M) (pa : sv_P) (im : Nat → sv_M) (kp : Int32) (he : sv_H) (wl : Nat → Int32) (fe : Nat → Int32) (as : Int64) (D : sv_D) : ai_gf (HP (g, p, sw, t, m, pa, im, kp, he, wl, fe, as) D) 1 5 1 = some (.ref (sq (!sw))) := Eq.trans (Eq.refl _) (Eq.refl _)
theorem gf_x2 (g : sv_G) (p : sv_G) (sw : Bool) (t : sv_T) (m : sv_M) (pa : sv_P) (im : Nat → sv_M) (kp : Int32) (he : sv_H) (wl : Nat → Int32) (fe : Nat → Int32) (as : Int64) (D : sv_D) : ai_gf (HP (g, p, sw, t, m, pa, im, kp, he, wl, fe, as) D) 1 5 2 = some (.ref 12) := Eq.trans (Eq.refl _) (Eq.refl _)
theorem gf_x3 (g : sv_G) (p : sv_G) (sw : Bool) (t : sv_T) (m : sv_M) (pa : sv_P) (im : Nat → sv_M) (kp : Int32) (he : sv_H) (wl : Nat → Int32) (fe : Nat → Int32) (as : Int64) (D : sv_D) : ai_gf (HP (g, p, sw, t, m, pa, im, kp, he, wl, fe, as) D) 1 5 3 = some (.ref 14) := Eq.trans (Eq.refl _) (Eq.refl _)
theorem gf_x4 (g : sv_G) (p : sv_G) (sw : Bool) (t : sv_T) (m : sv_M) (pa : sv_P) (im : Nat → sv_M) (kp : Int32) (he : sv_H) (wl : Nat → Int32) (fe : Nat → Int32) (as : Int64) (D : sv_D) : ai_gf (HP (g, p, sw, t, m, pa, im, kp, he, wl, fe, as) D) 1 5 4 = some (.ref 17) := Eq.trans (Eq.refl _) (Eq.refl _)
theorem gf_x5 (g : sv_G) (p : sv_G) (sw : Bool) (t : sv_T) (m : sv_M) (pa : sv_P) (im : Nat → sv_M) (kp : Int32) (he : sv_H) (wl : Nat → Int32) (fe : Nat → Int32) (as : Int64) (D : sv_D) : ai_gf (HP (g, p, sw, t, m, pa, im, kp, he, wl, fe, as) D) 1 5 5 = some (.ref 49) := Eq.trans (Eq.refl _) (Eq.refl _)
theorem gf_x7 (g : sv_G) (p : sv_G) (sw : Bool) (t : sv_T) (m : sv_M) (pa : sv_P) (im : Nat → sv_M) (kp : Int32) (he : sv_H) (wl : Nat → Int32) (fe : Nat → Int32) (as : Int64) (D : sv_D) : ai_gf (HP (g, p, sw, t, m, pa, im, kp, he, wl, fe, as) D) 1 5 7 = some (.ref 56) := Eq.trans (Eq.refl _) (Eq.refl _)
theorem gf_x8 (g : sv_G) (p : sv_G) (sw : Bool) (t : sv_T) (m : sv_M) (pa : sv_P) (im : Nat → sv_M) (kp : Int32) (he : sv_H) (wl : Nat → Int32) (fe : Nat → Int32) (as : Int64) (D : sv_D) : ai_gf (HP (g, p, sw, t, m, pa, im, kp, he, wl, fe, as) D) 1 5 8 = some (.ref 60) := Eq.trans (Eq.refl _) (Eq.refl _)
theorem gf_x9 (g : sv_G) (p : sv_G) (sw : Bool) (t : sv_T) (m : sv_M) (pa : sv_P) (im : Nat → sv_M) (kp : Int32) (he : sv_H) (wl : Nat → Int32) (fe : Nat → Int32) (as : Int64) (D : sv_D) : ai_gf (HP (g, p, sw, t, m, pa, im, kp, he, wl, fe, as) D) 1 5 9 = some (.ref 61) := Eq.trans (Eq.refl _) (Eq.refl _)
theorem gf_x6 (g : sv_G) (p : sv_G) (sw : Bool) (t : sv_T) (m : sv_M) (pa : sv_P) (im : Nat → sv_M) (kp : Int32) (he : sv_H) (wl : Nat → Int32) (fe : Nat → Int32) (as : Int64) (D : sv_D) : ai_gf (HP (g, p, sw, t, m, pa, im, kp, he, wl, fe, as) D) 1 5 6 = some (.int kp) := Eq.trans (Eq.refl _) (Eq.refl _)
theorem gf_x10 (g : sv_G) (p : sv_G) (sw : Bool) (t : sv_T) (m : sv_M) (pa : sv_P) (im : Nat → sv_M) (kp : Int32) (he : sv_H) (wl : Nat → Int32) (fe : Nat → Int32) (as : Int64) (D : sv_D) : ai_gf (HP (g, p, sw, t, m, pa, im, kp, he, wl, fe, as) D) 1 5 10 = some (.long as) := Eq.trans (Eq.refl _) (Eq.refl _)
theorem pf_x6 (g : sv_G) (p : sv_G) (sw : Bool) (t : sv_T) (m : sv_M) (pa : sv_P) (im : Nat → sv_M) (kp : Int32) (he : sv_H) (wl : Nat → Int32) (fe : Nat → Int32) (as : Int64) (D : sv_D) (z : Int32) : ai_pf (HP (g, p, sw, t, m, pa, im, kp, he, wl, fe, as) D) 1 5 6 (.int z) = some (HP (g, p, sw, t, m, pa, im, z, he, wl, fe, as) D) := Eq.trans (Eq.refl _) (Eq.refl _)
theorem pf_x10 (g : sv_G) (p : sv_G) (sw : Bool) (t : sv_T) (m : sv_M) (pa : sv_P) (im : Nat → sv_M) (kp : Int32) (he : sv_H) (wl : Nat → Int32) (fe : Nat → Int32) (as : Int64) (D : sv_D) (z : Int64) : ai_pf (HP (g, p, sw, t, m, pa, im, kp, he, wl, fe, as) D) 1 5 10 (.long z) = some (HP (g, p, sw, t, m, pa, im, kp, he, wl, fe, z) D) := Eq.trans (Eq.refl _) (Eq.refl _)
theorem gf_g0 (gr : Int32) (vl : Int32) (sg : Int32) (cs : Int32) (pr : Nat → Int32) (ha : Nat → Int32) (la : Nat → Int32) (wa : Nat → Int32) (p : sv_G) (sw : Bool) (t : sv_T) (m : sv_M) (pa : sv_P) (im : Nat → sv_M) (kp : Int32) (he : sv_H) (wl : Nat → Int32) (fe : Nat → Int32) (as : Int64) (D : sv_D) : ai_gf (HP ((gr, vl, sg, cs, pr, ha, la, wa), p, sw, t, m, pa, im, kp, he, wl, fe, as) D) (sq sw) 3 0 = some (.int gr) := by cases sw <;> rfl
theorem pf_g0 (gr : Int32) (vl : Int32) (sg : Int32) (cs : Int32) (pr : Nat → Int32) (ha : Nat → Int32) (la : Nat → Int32) (wa : Nat → Int32) (p : sv_G) (sw : Bool) (t : sv_T) (m : sv_M) (pa : sv_P) (im : Nat → sv_M) (kp : Int32) (he : sv_H) (wl : Nat → Int32) (fe : Nat → Int32) (as : Int64) (D : sv_D) (z : Int32) : ai_pf (HP ((gr, vl, sg, cs, pr, ha, la, wa), p, sw, t, m, pa, im, kp, he, wl, fe, as) D) (sq sw) 3 0 (.int z) = some (HP ((z, vl, sg, cs, pr, ha, la, wa), p, sw, t, m, pa, im, kp, he, wl, fe, as) D) := by cases sw <;> rfl
theorem gf_g1 (gr : Int32) (vl : Int32) (sg : Int32) (cs : Int32) (pr : Nat → Int32) (ha : Nat → Int32) (la : Nat → Int32) (wa : Nat → Int32) (p : sv_G) (sw : Bool) (t : sv_T) (m : sv_M) (pa : sv_P) (im : Nat → sv_M) (kp : Int32) (he : sv_H) (wl : Nat → Int32) (fe : Nat → Int32) (as : Int64) (D : sv_D) : ai_gf (HP ((gr, vl, sg, cs, pr, ha, la, wa), p, sw, t, m, pa, im, kp, he, wl, fe, as) D) (sq sw) 3 1 = some (.int vl) := by cases sw <;> rfl
theorem pf_g1 (gr : Int32) (vl : Int32) (sg : Int32) (cs : Int32) (pr : Nat → Int32) (ha : Nat → Int32) (la : Nat → Int32) (wa : Nat → Int32) (p : sv_G) (sw : Bool) (t : sv_T) (m : sv_M) (pa : sv_P) (im : Nat → sv_M) (kp : Int32) (he : sv_H) (wl : Nat → Int32) (fe : Nat → Int32) (as : Int64) (D : sv_D) (z : Int32) : ai_pf (HP ((gr, vl, sg, cs, pr, ha, la, wa), p, sw, t, m, pa, im, kp, he, wl, fe, as) D) (sq sw) 3 1 (.int z) = some (HP ((gr, z, sg, cs, pr, ha, la, wa), p, sw, t, m, pa, im, kp, he, wl, fe, as) D) := by cases sw <;> rfl
theorem gf_g2 (gr : Int32) (vl : Int32) (sg : Int32) (cs : Int32) (pr : Nat → Int32) (ha : Nat → Int32) (la : Nat → Int32) (wa : Nat → Int32) (p : sv_G) (sw : Bool) (t : sv_T) (m : sv_M) (pa : sv_P) (im : Nat → sv_M) (kp : Int32) (he : sv_H) (wl : Nat → Int32) (fe : Nat → Int32) (as : Int64) (D : sv_D) : ai_gf (HP ((gr, vl, sg, cs, pr, ha, la, wa), p, sw, t, m, pa, im, kp, he, wl, fe, as) D) (sq sw) 3 2 = some (.int sg) := by cases sw <;> rfl
theorem pf_g2 (gr : Int32) (vl : Int32) (sg : Int32) (cs : Int32) (pr : Nat → Int32) (ha : Nat → Int32) (la : Nat → Int32) (wa : Nat → Int32) (p : sv_G) (sw : Bool) (t : sv_T) (m : sv_M) (pa : sv_P) (im : Nat → sv_M) (kp : Int32) (he : sv_H) (wl : Nat → Int32) (fe : Nat → Int32) (as : Int64) (D : sv_D) (z : Int32) : ai_pf (HP ((gr, vl, sg, cs, pr, ha, la, wa), p, sw, t, m, pa, im, kp, he, wl, fe, as) D) (sq sw) 3 2 (.int z) = some (HP ((gr, vl, z, cs, pr, ha, la, wa), p, sw, t, m, pa, im, kp, he, wl, fe, as) D) := by cases sw <;> rfl
theorem gf_g3 (gr : Int32) (vl : Int32) (sg : Int32) (cs : Int32) (pr : Nat → Int32) (ha : Nat → Int32) (la : Nat → Int32) (wa : Nat → Int32) (p : sv_G) (sw : Bool) (t : sv_T) (m : sv_M) (pa : sv_P) (im : Nat → sv_M) (kp : Int32) (he : sv_H) (wl : Nat → Int32) (fe : Nat → Int32) (as : Int64) (D : sv_D) : ai_gf (HP ((gr, vl, sg, cs, pr, ha, la, wa), p, sw, t, m, pa, im, kp, he, wl, fe, as) D) (sq sw) 3 3 = some (.int cs) := by cases sw <;> rfl
theorem pf_g3 (gr : Int32) (vl : Int32) (sg : Int32) (cs : Int32) (pr : Nat → Int32) (ha : Nat → Int32) (la : Nat → Int32) (wa : Nat → Int32) (p : sv_G) (sw : Bool) (t : sv_T) (m : sv_M) (pa : sv_P) (im : Nat → sv_M) (kp : Int32) (he : sv_H) (wl : Nat → Int32) (fe : Nat → Int32) (as : Int64) (D : sv_D) (z : Int32) : ai_pf (HP ((gr, vl, sg, cs, pr, ha, la, wa), p, sw, t, m, pa, im, kp, he, wl, fe, as) D) (sq sw) 3 3 (.int z) = some (HP ((gr, vl, sg, z, pr, ha, la, wa), p, sw, t, m, pa, im, kp, he, wl, fe, as) D) := by cases sw <;> rfl
theorem gf_g4 (gr : Int32) (vl : Int32) (sg : Int32) (cs : Int32) (pr : Nat → Int32) (ha : Nat → Int32) (la : Nat → Int32) (wa : Nat → Int32) (p : sv_G) (sw : Bool) (t : sv_T) (m : sv_M) (pa : sv_P) (im : Nat → sv_M) (kp : Int32) (he : sv_H) (wl : Nat → Int32) (fe : Nat → Int32) (as : Int64) (D : sv_D) : ai_gf (HP ((gr, vl, sg, cs, pr, ha, la, wa), p, sw, t, m, pa, im, kp, he, wl, fe, as) D) (sq sw) 3 4 = some (.ref ((sq sw) + 1)) := by cases sw <;> rfl
theorem ia_g4 (gr : Int32) (vl : Int32) (sg : Int32) (cs : Int32) (pr : Nat → Int32) (ha : Nat → Int32) (la : Nat → Int32) (wa : Nat → Int32) (p : sv_G) (sw : Bool) (t : sv_T) (m : sv_M) (pa : sv_P) (im : Nat → sv_M) (kp : Int32) (he : sv_H) (wl : Nat → Int32) (fe : Nat → Int32) (as : Int64) (D : sv_D) : ai_ia (HP ((gr, vl, sg, cs, pr, ha, la, wa), p, sw, t, m, pa, im, kp, he, wl, fe, as) D) ((sq sw) + 1) 0 = some (6, pr) := by cases sw <;> rfl
theorem pz_g4 (gr : Int32) (vl : Int32) (sg : Int32) (cs : Int32) (pr : Nat → Int32) (ha : Nat → Int32) (la : Nat → Int32) (wa : Nat → Int32) (p : sv_G) (sw : Bool) (t : sv_T) (m : sv_M) (pa : sv_P) (im : Nat → sv_M) (kp : Int32) (he : sv_H) (wl : Nat → Int32) (fe : Nat → Int32) (as : Int64) (D : sv_D) (z : Nat → Int32) : ai_pa (HP ((gr, vl, sg, cs, pr, ha, la, wa), p, sw, t, m, pa, im, kp, he, wl, fe, as) D) ((sq sw) + 1) 0 z = some (HP ((gr, vl, sg, cs, z, ha, la, wa), p, sw, t, m, pa, im, kp, he, wl, fe, as) D) := by cases sw <;> rfl
theorem gf_g5 (gr : Int32) (vl : Int32) (sg : Int32) (cs : Int32) (pr : Nat → Int32) (ha : Nat → Int32) (la : Nat → Int32) (wa : Nat → Int32) (p : sv_G) (sw : Bool) (t : sv_T) (m : sv_M) (pa : sv_P) (im : Nat → sv_M) (kp : Int32) (he : sv_H) (wl : Nat → Int32) (fe : Nat → Int32) (as : Int64) (D : sv_D) : ai_gf (HP ((gr, vl, sg, cs, pr, ha, la, wa), p, sw, t, m, pa, im, kp, he, wl, fe, as) D) (sq sw) 3 5 = some (.ref ((sq sw) + 2)) := by cases sw <;> rfl
theorem ia_g5 (gr : Int32) (vl : Int32) (sg : Int32) (cs : Int32) (pr : Nat → Int32) (ha : Nat → Int32) (la : Nat → Int32) (wa : Nat → Int32) (p : sv_G) (sw : Bool) (t : sv_T) (m : sv_M) (pa : sv_P) (im : Nat → sv_M) (kp : Int32) (he : sv_H) (wl : Nat → Int32) (fe : Nat → Int32) (as : Int64) (D : sv_D) : ai_ia (HP ((gr, vl, sg, cs, pr, ha, la, wa), p, sw, t, m, pa, im, kp, he, wl, fe, as) D) ((sq sw) + 2) 0 = some (6, ha) := by cases sw <;> rfl
theorem pz_g5 (gr : Int32) (vl : Int32) (sg : Int32) (cs : Int32) (pr : Nat → Int32) (ha : Nat → Int32) (la : Nat → Int32) (wa : Nat → Int32) (p : sv_G) (sw : Bool) (t : sv_T) (m : sv_M) (pa : sv_P) (im : Nat → sv_M) (kp : Int32) (he : sv_H) (wl : Nat → Int32) (fe : Nat → Int32) (as : Int64) (D : sv_D) (z : Nat → Int32) : ai_pa (HP ((gr, vl, sg, cs, pr, ha, la, wa), p, sw, t, m, pa, im, kp, he, wl, fe, as) D) ((sq sw) + 2) 0 z = some (HP ((gr, vl, sg, cs, pr, z, la, wa), p, sw, t, m, pa, im, kp, he, wl, fe, as) D) := by cases sw <;> rfl
theorem gf_g6 (gr : Int32) (vl : Int32) (sg : Int32) (cs : Int32) (pr : Nat → Int32) (ha : Nat → Int32) (la : Nat → Int32) (wa : Nat → Int32) (p : sv_G) (sw : Bool) (t : sv_T) (m : sv_M) (pa : sv_P) (im : Nat → sv_M) (kp : Int32) (he : sv_H) (wl : Nat → Int32) (fe : Nat → Int32) (as : Int64) (D : sv_D) : ai_gf (HP ((gr, vl, sg, cs, pr, ha, la, wa), p, sw, t, m, pa, im, kp, he, wl, fe, as) D) (sq sw) 3 6 = some (.ref ((sq sw) + 3)) := by cases sw <;> rfl
theorem ia_g6 (gr : Int32) (vl : Int32) (sg : Int32) (cs : Int32) (pr : Nat → Int32) (ha : Nat → Int32) (la : Nat → Int32) (wa : Nat → Int32) (p : sv_G) (sw : Bool) (t : sv_T) (m : sv_M) (pa : sv_P) (im : Nat → sv_M) (kp : Int32) (he : sv_H) (wl : Nat → Int32) (fe : Nat → Int32) (as : Int64) (D : sv_D) : ai_ia (HP ((gr, vl, sg, cs, pr, ha, la, wa), p, sw, t, m, pa, im, kp, he, wl, fe, as) D) ((sq sw) + 3) 0 = some (6, la) := by cases sw <;> rfl
theorem pz_g6 (gr : Int32) (vl : Int32) (sg : Int32) (cs : Int32) (pr : Nat → Int32) (ha : Nat → Int32) (la : Nat → Int32) (wa : Nat → Int32) (p : sv_G) (sw : Bool) (t : sv_T) (m : sv_M) (pa : sv_P) (im : Nat → sv_M) (kp : Int32) (he : sv_H) (wl : Nat → Int32) (fe : Nat → Int32) (as : Int64) (D : sv_D) (z : Nat → Int32) : ai_pa (HP ((gr, vl, sg, cs, pr, ha, la, wa), p, sw, t, m, pa, im, kp, he, wl, fe, as) D) ((sq sw) + 3) 0 z = some (HP ((gr, vl, sg, cs, pr, ha, z, wa), p, sw, t, m, pa, im, kp, he, wl, fe, as) D) := by cases sw <;> rfl
theorem gf_g7 (gr : Int32) (vl : Int32) (sg : Int32) (cs : Int32) (pr : Nat → Int32) (ha : Nat → Int32) (la : Nat → Int32) (wa : Nat → Int32) (p : sv_G) (sw : Bool) (t : sv_T) (m : sv_M) (pa : sv_P) (im : Nat → sv_M) (kp : Int32) (he : sv_H) (wl : Nat → Int32) (fe : Nat → Int32) (as : Int64) (D : sv_D) : ai_gf (HP ((gr, vl, sg, cs, pr, ha, la, wa), p, sw, t, m, pa, im, kp, he, wl, fe, as) D) (sq sw) 3 7 = some (.ref ((sq sw) + 4)) := by cases sw <;> rfl
theorem ia_g7 (gr : Int32) (vl : Int32) (sg : Int32) (cs : Int32) (pr : Nat → Int32) (ha : Nat → Int32) (la : Nat → Int32) (wa : Nat → Int32) (p : sv_G) (sw : Bool) (t : sv_T) (m : sv_M) (pa : sv_P) (im : Nat → sv_M) (kp : Int32) (he : sv_H) (wl : Nat → Int32) (fe : Nat → Int32) (as : Int64) (D : sv_D) : ai_ia (HP ((gr, vl, sg, cs, pr, ha, la, wa), p, sw, t, m, pa, im, kp, he, wl, fe, as) D) ((sq sw) + 4) 0 = some (6, wa) := by cases sw <;> rfl
theorem pz_g7 (gr : Int32) (vl : Int32) (sg : Int32) (cs : Int32) (pr : Nat → Int32) (ha : Nat → Int32) (la : Nat → Int32) (wa : Nat → Int32) (p : sv_G) (sw : Bool) (t : sv_T) (m : sv_M) (pa : sv_P) (im : Nat → sv_M) (kp : Int32) (he : sv_H) (wl : Nat → Int32) (fe : Nat → Int32) (as : Int64) (D : sv_D) (z : Nat → Int32) : ai_pa (HP ((gr, vl, sg, cs, pr, ha, la, wa), p, sw, t, m, pa, im, kp, he, wl, fe, as) D) ((sq sw) + 4) 0 z = some (HP ((gr, vl, sg, cs, pr, ha, la, z), p, sw, t, m, pa, im, kp, he, wl, fe, as) D) := by cases sw <;> rfl
theorem gf_p0 (g : sv_G) (gr : Int32) (vl : Int32) (sg : Int32) (cs : Int32) (pr : Nat → Int32) (ha : Nat → Int32) (la : Nat → Int32) (wa : Nat → Int32) (sw : Bool) (t : sv_T) (m : sv_M) (pa : sv_P) (im : Nat → sv_M) (kp : Int32) (he : sv_H) (wl : Nat → Int32) (fe : Nat → Int32) (as : Int64) (D : sv_D) : ai_gf (HP (g, (gr, vl, sg, cs, pr, ha, la, wa), sw, t, m, pa, im, kp, he, wl, fe, as) D) (sq (!sw)) 3 0 = some (.int gr) := by cases sw <;> rfl
theorem pf_p0 (g : sv_G) (gr : Int32) (vl : Int32) (sg : Int32) (cs : Int32) (pr : Nat → Int32) (ha : Nat → Int32) (la : Nat → Int32) (wa : Nat → Int32) (sw : Bool) (t : sv_T) (m : sv_M) (pa : sv_P) (im : Nat → sv_M) (kp : Int32) (he : sv_H) (wl : Nat → Int32) (fe : Nat → Int32) (as : Int64) (D : sv_D) (z : Int32) : ai_pf (HP (g, (gr, vl, sg, cs, pr, ha, la, wa), sw, t, m, pa, im, kp, he, wl, fe, as) D) (sq (!sw)) 3 0 (.int z) = some (HP (g, (z, vl, sg, cs, pr, ha, la, wa), sw, t, m, pa, im, kp, he, wl, fe, as) D) := by cases sw <;> rfl
theorem gf_p1 (g : sv_G) (gr : Int32) (vl : Int32) (sg : Int32) (cs : Int32) (pr : Nat → Int32) (ha : Nat → Int32) (la : Nat → Int32) (wa : Nat → Int32) (sw : Bool) (t : sv_T) (m : sv_M) (pa : sv_P) (im : Nat → sv_M) (kp : Int32) (he : sv_H) (wl : Nat → Int32) (fe : Nat → Int32) (as : Int64) (D : sv_D) : ai_gf (HP (g, (gr, vl, sg, cs, pr, ha, la, wa), sw, t, m, pa, im, kp, he, wl, fe, as) D) (sq (!sw)) 3 1 = some (.int vl) := by cases sw <;> rfl
theorem pf_p1 (g : sv_G) (gr : Int32) (vl : Int32) (sg : Int32) (cs : Int32) (pr : Nat → Int32) (ha : Nat → Int32) (la : Nat → Int32) (wa : Nat → Int32) (sw : Bool) (t : sv_T) (m : sv_M) (pa : sv_P) (im : Nat → sv_M) (kp : Int32) (he : sv_H) (wl : Nat → Int32) (fe : Nat → Int32) (as : Int64) (D : sv_D) (z : Int32) : ai_pf (HP (g, (gr, vl, sg, cs, pr, ha, la, wa), sw, t, m, pa, im, kp, he, wl, fe, as) D) (sq (!sw)) 3 1 (.int z) = some (HP (g, (gr, z, sg, cs, pr, ha, la, wa), sw, t, m, pa, im, kp, he, wl, fe, as) D) := by cases sw <;> rfl
theorem gf_p2 (g : sv_G) (gr : Int32) (vl : Int32) (sg : Int32) (cs : Int32) (pr : Nat → Int32) (ha : Nat → Int32) (la : Nat → Int32) (wa : Nat → Int32) (sw : Bool) (t : sv_T) (m : sv_M) (pa : sv_P) (im : Nat → sv_M) (kp : Int32) (he : sv_H) (wl : Nat → Int32) (fe : Nat → Int32) (as : Int64) (D : sv_D) : ai_gf (HP (g, (gr, vl, sg, cs, pr, ha, la, wa), sw, t, m, pa, im, kp, he, wl, fe, as) D) (sq (!sw)) 3 2 = some (.int sg) := by cases sw <;> rfl
theorem pf_p2 (g : sv_G) (gr : Int32) (vl : Int32) (sg : Int32) (cs : Int32) (pr : Nat → Int32) (ha : Nat → Int32) (la : Nat → Int32) (wa : Nat → Int32) (sw : Bool) (t : sv_T) (m : sv_M) (pa : sv_P) (im : Nat → sv_M) (kp : Int32) (he : sv_H) (wl : Nat → Int32) (fe : Nat → Int32) (as : Int64) (D : sv_D) (z : Int32) : ai_pf (HP (g, (gr, vl, sg, cs, pr, ha, la, wa), sw, t, m, pa, im, kp, he, wl, fe, as) D) (sq (!sw)) 3 2 (.int z) = some (HP (g, (gr, vl, z, cs, pr, ha, la, wa), sw, t, m, pa, im, kp, he, wl, fe, as) D) := by cases sw <;> rfl
theorem gf_p3 (g : sv_G) (gr : Int32) (vl : Int32) (sg : Int32) (cs : Int32) (pr : Nat → Int32) (ha : Nat → Int32) (la : Nat → Int32) (wa : Nat → Int32) (sw : Bool) (t : sv_T) (m : sv_M) (pa : sv_P) (im : Nat → sv_M) (kp : Int32) (he : sv_H) (wl : Nat → Int32) (fe : Nat → Int32) (as : Int64) (D : sv_D) : ai_gf (HP (g, (gr, vl, sg, cs, pr, ha, la, wa), sw, t, m, pa, im, kp, he, wl, fe, as) D) (sq (!sw)) 3 3 = some (.int cs) := by cases sw <;> rfl
theorem pf_p3 (g : sv_G) (gr : Int32) (vl : Int32) (sg : Int32) (cs : Int32) (pr : Nat → Int32) (ha : Nat → Int32) (la : Nat → Int32) (wa : Nat → Int32) (sw : Bool) (t : sv_T) (m : sv_M) (pa : sv_P) (im : Nat → sv_M) (kp : Int32) (he : sv_H) (wl : Nat → Int32) (fe : Nat → Int32) (as : Int64) (D : sv_D) (z : Int32) : ai_pf (HP (g, (gr, vl, sg, cs, pr, ha, la, wa), sw, t, m, pa, im, kp, he, wl, fe, as) D) (sq (!sw)) 3 3 (.int z) = some (HP (g, (gr, vl, sg, z, pr, ha, la, wa), sw, t, m, pa, im, kp, he, wl, fe, as) D) := by cases sw <;> rfl
theorem gf_p4 (g : sv_G) (gr : Int32) (vl : Int32) (sg : Int32) (cs : Int32) (pr : Nat → Int32) (ha : Nat → Int32) (la : Nat → Int32) (wa : Nat → Int32) (sw : Bool) (t : sv_T) (m : sv_M) (pa : sv_P) (im : Nat → sv_M) (kp : Int32) (he : sv_H) (wl : Nat → Int32) (fe : Nat → Int32) (as : Int64) (D : sv_D) : ai_gf (HP (g, (gr, vl, sg, cs, pr, ha, la, wa), sw, t, m, pa, im, kp, he, wl, fe, as) D) (sq (!sw)) 3 4 = some (.ref ((sq (!sw)) + 1)) := by cases sw <;> rfl
theorem ia_p4 (g : sv_G) (gr : Int32) (vl : Int32) (sg : Int32) (cs : Int32) (pr : Nat → Int32) (ha : Nat → Int32) (la : Nat → Int32) (wa : Nat → Int32) (sw : Bool) (t : sv_T) (m : sv_M) (pa : sv_P) (im : Nat → sv_M) (kp : Int32) (he : sv_H) (wl : Nat → Int32) (fe : Nat → Int32) (as : Int64) (D : sv_D) : ai_ia (HP (g, (gr, vl, sg, cs, pr, ha, la, wa), sw, t, m, pa, im, kp, he, wl, fe, as) D) ((sq (!sw)) + 1) 0 = some (6, pr) := by cases sw <;> rfl
theorem pz_p4 (g : sv_G) (gr : Int32) (vl : Int32) (sg : Int32) (cs : Int32) (pr : Nat → Int32) (ha : Nat → Int32) (la : Nat → Int32) (wa : Nat → Int32) (sw : Bool) (t : sv_T) (m : sv_M) (pa : sv_P) (im : Nat → sv_M) (kp : Int32) (he : sv_H) (wl : Nat → Int32) (fe : Nat → Int32) (as : Int64) (D : sv_D) (z : Nat → Int32) : ai_pa (HP (g, (gr, vl, sg, cs, pr, ha, la, wa), sw, t, m, pa, im, kp, he, wl, fe, as) D) ((sq (!sw)) + 1) 0 z = some (HP (g, (gr, vl, sg, cs, z, ha, la, wa), sw, t, m, pa, im, kp, he, wl, fe, as) D) := by cases sw <;> rfl
theorem gf_p5 (g : sv_G) (gr : Int32) (vl : Int32) (sg : Int32) (cs : Int32) (pr : Nat → Int32) (ha : Nat → Int32) (la : Nat → Int32) (wa : Nat → Int32) (sw : Bool) (t : sv_T) (m : sv_M) (pa : sv_P) (im : Nat → sv_M) (kp : Int32) (he : sv_H) (wl : Nat → Int32) (fe : Nat → Int32) (as : Int64) (D : sv_D) : ai_gf (HP (g, (gr, vl, sg, cs, pr, ha, la, wa), sw, t, m, pa, im, kp, he, wl, fe, as) D) (sq (!sw)) 3 5 = some (.ref ((sq (!sw)) + 2)) := by cases sw <;> rfl
theorem ia_p5 (g : sv_G) (gr : Int32) (vl : Int32) (sg : Int32) (cs : Int32) (pr : Nat → Int32) (ha : Nat → Int32) (la : Nat → Int32) (wa : Nat → Int32) (sw : Bool) (t : sv_T) (m : sv_M) (pa : sv_P) (im : Nat → sv_M) (kp : Int32) (he : sv_H) (wl : Nat → Int32) (fe : Nat → Int32) (as : Int64) (D : sv_D) : ai_ia (HP (g, (gr, vl, sg, cs, pr, ha, la, wa), sw, t, m, pa, im, kp, he, wl, fe, as) D) ((sq (!sw)) + 2) 0 = some (6, ha) := by cases sw <;> rfl
theorem pz_p5 (g : sv_G) (gr : Int32) (vl : Int32) (sg : Int32) (cs : Int32) (pr : Nat → Int32) (ha : Nat → Int32) (la : Nat → Int32) (wa : Nat → Int32) (sw : Bool) (t : sv_T) (m : sv_M) (pa : sv_P) (im : Nat → sv_M) (kp : Int32) (he : sv_H) (wl : Nat → Int32) (fe : Nat → Int32) (as : Int64) (D : sv_D) (z : Nat → Int32) : ai_pa (HP (g, (gr, vl, sg, cs, pr, ha, la, wa), sw, t, m, pa, im, kp, he, wl, fe, as) D) ((sq (!sw)) + 2) 0 z = some (HP (g, (gr, vl, sg, cs, pr, z, la, wa), sw, t, m, pa, im, kp, he, wl, fe, as) D) := by cases sw <;> rfl
theorem gf_p6 (g : sv_G) (gr : Int32) (vl : Int32) (sg : Int32) (cs : Int32) (pr : Nat → Int32) (ha : Nat → Int32) (la : Nat → Int32) (wa : Nat → Int32) (sw : Bool) (t : sv_T) (m : sv_M) (pa : sv_P) (im : Nat → sv_M) (kp : Int32) (he : sv_H) (wl : Nat → Int32) (fe : Nat → Int32) (as : Int64) (D : sv_D) : ai_gf (HP (g, (gr, vl, sg, cs, pr, ha, la, wa), sw, t, m, pa, im, kp, he, wl, fe, as) D) (sq (!sw)) 3 6 = some (.ref ((sq (!sw)) + 3)) := by cases sw <;> rfl
theorem ia_p6 (g : sv_G) (gr : Int32) (vl : Int32) (sg : Int32) (cs : Int32) (pr : Nat → Int32) (ha : Nat → Int32) (la : Nat → Int32) (wa : Nat → Int32) (sw : Bool) (t : sv_T) (m : sv_M) (pa : sv_P) (im : Nat → sv_M) (kp : Int32) (he : sv_H) (wl : Nat → Int32) (fe : Nat → Int32) (as : Int64) (D : sv_D) : ai_ia (HP (g, (gr, vl, sg, cs, pr, ha, la, wa), sw, t, m, pa, im, kp, he, wl, fe, as) D) ((sq (!sw)) + 3) 0 = some (6, la) := by cases sw <;> rfl
theorem pz_p6 (g : sv_G) (gr : Int32) (vl : Int32) (sg : Int32) (cs : Int32) (pr : Nat → Int32) (ha : Nat → Int32) (la : Nat → Int32) (wa : Nat → Int32) (sw : Bool) (t : sv_T) (m : sv_M) (pa : sv_P) (im : Nat → sv_M) (kp : Int32) (he : sv_H) (wl : Nat → Int32) (fe : Nat → Int32) (as : Int64) (D : sv_D) (z : Nat → Int32) : ai_pa (HP (g, (gr, vl, sg, cs, pr, ha, la, wa), sw, t, m, pa, im, kp, he, wl, fe, as) D) ((sq (!sw)) + 3) 0 z = some (HP (g, (gr, vl, sg, cs, pr, ha, z, wa), sw, t, m, pa, im, kp, he, wl, fe, as) D) := by cases sw <;> rfl
theorem gf_p7 (g : sv_G) (gr : Int32) (vl : Int32) (sg : Int32) (cs : Int32) (pr : Nat → Int32) (ha : Nat → Int32) (la : Nat → Int32) (wa : Nat → Int32) (sw : Bool) (t : sv_T) (m : sv_M) (pa : sv_P) (im : Nat → sv_M) (kp : Int32) (he : sv_H) (wl : Nat → Int32) (fe : Nat → Int32) (as : Int64) (D : sv_D) : ai_gf (HP (g, (gr, vl, sg, cs, pr, ha, la, wa), sw, t, m, pa, im, kp, he, wl, fe, as) D) (sq (!sw)) 3 7 = some (.ref ((sq (!sw)) + 4)) := by cases sw <;> rfl
theorem ia_p7 (g : sv_G) (gr : Int32) (vl : Int32) (sg : Int32) (cs : Int32) (pr : Nat → Int32) (ha : Nat → Int32) (la : Nat → Int32) (wa : Nat → Int32) (sw : Bool) (t : sv_T) (m : sv_M) (pa : sv_P) (im : Nat → sv_M) (kp : Int32) (he : sv_H) (wl : Nat → Int32) (fe : Nat → Int32) (as : Int64) (D : sv_D) : ai_ia (HP (g, (gr, vl, sg, cs, pr, ha, la, wa), sw, t, m, pa, im, kp, he, wl, fe, as) D) ((sq (!sw)) + 4) 0 = some (6, wa) := by cases sw <;> rfl
theorem pz_p7 (g : sv_G) (gr : Int32) (vl : Int32) (sg : Int32) (cs : Int32) (pr : Nat → Int32) (ha : Nat → Int32) (la : Nat → Int32) (wa : Nat → Int32) (sw : Bool) (t : sv_T) (m : sv_M) (pa : sv_P) (im : Nat → sv_M) (kp : Int32) (he : sv_H) (wl : Nat → Int32) (fe : Nat → Int32) (as : Int64) (D : sv_D) (z : Nat → Int32) : ai_pa (HP (g, (gr, vl, sg, cs, pr, ha, la, wa), sw, t, m, pa, im, kp, he, wl, fe, as) D) ((sq (!sw)) + 4) 0 z = some (HP (g, (gr, vl, sg, cs, pr, ha, la, z), sw, t, m, pa, im, kp, he, wl, fe, as) D) := by cases sw <;> rfl
theorem gf_t0 (g : sv_G) (p : sv_G) (sw : Bool) (le : Nat → Int32) (ln : Int32) (pc : Int32) (tk : Int32) (tp : Int32) (nu : Int32) (it : Int32) (ns : Int32) (gt : Int32) (vt : Int32) (st : Int32) (m : sv_M) (pa : sv_P) (im : Nat → sv_M) (kp : Int32) (he : sv_H) (wl : Nat → Int32) (fe : Nat → Int32) (as : Int64) (D : sv_D) : ai_gf (HP (g, p, sw, (le, ln, pc, tk, tp, nu, it, ns, gt, vt, st), m, pa, im, kp, he, wl, fe, as) D) 12 4 0 = some (.ref 13) := Eq.trans (Eq.refl _) (Eq.refl _)
theorem ia_t (g : sv_G) (p : sv_G) (sw : Bool) (le : Nat → Int32) (ln : Int32) (pc : Int32) (tk : Int32) (tp : Int32) (nu : Int32) (it : Int32) (ns : Int32) (gt : Int32) (vt : Int32) (st : Int32) (m : sv_M) (pa : sv_P) (im : Nat → sv_M) (kp : Int32) (he : sv_H) (wl : Nat → Int32) (fe : Nat → Int32) (as : Int64) (D : sv_D) : ai_ia (HP (g, p, sw, (le, ln, pc, tk, tp, nu, it, ns, gt, vt, st), m, pa, im, kp, he, wl, fe, as) D) 13 0 = some (120, le) := Eq.trans (Eq.refl _) (Eq.refl _)
theorem pz_t (g : sv_G) (p : sv_G) (sw : Bool) (le : Nat → Int32) (ln : Int32) (pc : Int32) (tk : Int32) (tp : Int32) (nu : Int32) (it : Int32) (ns : Int32) (gt : Int32) (vt : Int32) (st : Int32) (m : sv_M) (pa : sv_P) (im : Nat → sv_M) (kp : Int32) (he : sv_H) (wl : Nat → Int32) (fe : Nat → Int32) (as : Int64) (D : sv_D) (z : Nat → Int32) : ai_pa (HP (g, p, sw, (le, ln, pc, tk, tp, nu, it, ns, gt, vt, st), m, pa, im, kp, he, wl, fe, as) D) 13 0 z = some (HP (g, p, sw, (z, ln, pc, tk, tp, nu, it, ns, gt, vt, st), m, pa, im, kp, he, wl, fe, as) D) := Eq.trans (Eq.refl _) (Eq.refl _)
theorem gf_t1 (g : sv_G) (p : sv_G) (sw : Bool) (le : Nat → Int32) (ln : Int32) (pc : Int32) (tk : Int32) (tp : Int32) (nu : Int32) (it : Int32) (ns : Int32) (gt : Int32) (vt : Int32) (st : Int32) (m : sv_M) (pa : sv_P) (im : Nat → sv_M) (kp : Int32) (he : sv_H) (wl : Nat → Int32) (fe : Nat → Int32) (as : Int64) (D : sv_D) : ai_gf (HP (g, p, sw, (le, ln, pc, tk, tp, nu, it, ns, gt, vt, st), m, pa, im, kp, he, wl, fe, as) D) 12 4 1 = some (.int ln) := Eq.trans (Eq.refl _) (Eq.refl _)
theorem pf_t1 (g : sv_G) (p : sv_G) (sw : Bool) (le : Nat → Int32) (ln : Int32) (pc : Int32) (tk : Int32) (tp : Int32) (nu : Int32) (it : Int32) (ns : Int32) (gt : Int32) (vt : Int32) (st : Int32) (m : sv_M) (pa : sv_P) (im : Nat → sv_M) (kp : Int32) (he : sv_H) (wl : Nat → Int32) (fe : Nat → Int32) (as : Int64) (D : sv_D) (z : Int32) : ai_pf (HP (g, p, sw, (le, ln, pc, tk, tp, nu, it, ns, gt, vt, st), m, pa, im, kp, he, wl, fe, as) D) 12 4 1 (.int z) = some (HP (g, p, sw, (le, z, pc, tk, tp, nu, it, ns, gt, vt, st), m, pa, im, kp, he, wl, fe, as) D) := Eq.trans (Eq.refl _) (Eq.refl _)
theorem gf_t2 (g : sv_G) (p : sv_G) (sw : Bool) (le : Nat → Int32) (ln : Int32) (pc : Int32) (tk : Int32) (tp : Int32) (nu : Int32) (it : Int32) (ns : Int32) (gt : Int32) (vt : Int32) (st : Int32) (m : sv_M) (pa : sv_P) (im : Nat → sv_M) (kp : Int32) (he : sv_H) (wl : Nat → Int32) (fe : Nat → Int32) (as : Int64) (D : sv_D) : ai_gf (HP (g, p, sw, (le, ln, pc, tk, tp, nu, it, ns, gt, vt, st), m, pa, im, kp, he, wl, fe, as) D) 12 4 2 = some (.int pc) := Eq.trans (Eq.refl _) (Eq.refl _)
theorem pf_t2 (g : sv_G) (p : sv_G) (sw : Bool) (le : Nat → Int32) (ln : Int32) (pc : Int32) (tk : Int32) (tp : Int32) (nu : Int32) (it : Int32) (ns : Int32) (gt : Int32) (vt : Int32) (st : Int32) (m : sv_M) (pa : sv_P) (im : Nat → sv_M) (kp : Int32) (he : sv_H) (wl : Nat → Int32) (fe : Nat → Int32) (as : Int64) (D : sv_D) (z : Int32) : ai_pf (HP (g, p, sw, (le, ln, pc, tk, tp, nu, it, ns, gt, vt, st), m, pa, im, kp, he, wl, fe, as) D) 12 4 2 (.int z) = some (HP (g, p, sw, (le, ln, z, tk, tp, nu, it, ns, gt, vt, st), m, pa, im, kp, he, wl, fe, as) D) := Eq.trans (Eq.refl _) (Eq.refl _)
theorem gf_t3 (g : sv_G) (p : sv_G) (sw : Bool) (le : Nat → Int32) (ln : Int32) (pc : Int32) (tk : Int32) (tp : Int32) (nu : Int32) (it : Int32) (ns : Int32) (gt : Int32) (vt : Int32) (st : Int32) (m : sv_M) (pa : sv_P) (im : Nat → sv_M) (kp : Int32) (he : sv_H) (wl : Nat → Int32) (fe : Nat → Int32) (as : Int64) (D : sv_D) : ai_gf (HP (g, p, sw, (le, ln, pc, tk, tp, nu, it, ns, gt, vt, st), m, pa, im, kp, he, wl, fe, as) D) 12 4 3 = some (.int tk) := Eq.trans (Eq.refl _) (Eq.refl _)
theorem pf_t3 (g : sv_G) (p : sv_G) (sw : Bool) (le : Nat → Int32) (ln : Int32) (pc : Int32) (tk : Int32) (tp : Int32) (nu : Int32) (it : Int32) (ns : Int32) (gt : Int32) (vt : Int32) (st : Int32) (m : sv_M) (pa : sv_P) (im : Nat → sv_M) (kp : Int32) (he : sv_H) (wl : Nat → Int32) (fe : Nat → Int32) (as : Int64) (D : sv_D) (z : Int32) : ai_pf (HP (g, p, sw, (le, ln, pc, tk, tp, nu, it, ns, gt, vt, st), m, pa, im, kp, he, wl, fe, as) D) 12 4 3 (.int z) = some (HP (g, p, sw, (le, ln, pc, z, tp, nu, it, ns, gt, vt, st), m, pa, im, kp, he, wl, fe, as) D) := Eq.trans (Eq.refl _) (Eq.refl _)
theorem gf_t4 (g : sv_G) (p : sv_G) (sw : Bool) (le : Nat → Int32) (ln : Int32) (pc : Int32) (tk : Int32) (tp : Int32) (nu : Int32) (it : Int32) (ns : Int32) (gt : Int32) (vt : Int32) (st : Int32) (m : sv_M) (pa : sv_P) (im : Nat → sv_M) (kp : Int32) (he : sv_H) (wl : Nat → Int32) (fe : Nat → Int32) (as : Int64) (D : sv_D) : ai_gf (HP (g, p, sw, (le, ln, pc, tk, tp, nu, it, ns, gt, vt, st), m, pa, im, kp, he, wl, fe, as) D) 12 4 4 = some (.int tp) := Eq.trans (Eq.refl _) (Eq.refl _)
theorem pf_t4 (g : sv_G) (p : sv_G) (sw : Bool) (le : Nat → Int32) (ln : Int32) (pc : Int32) (tk : Int32) (tp : Int32) (nu : Int32) (it : Int32) (ns : Int32) (gt : Int32) (vt : Int32) (st : Int32) (m : sv_M) (pa : sv_P) (im : Nat → sv_M) (kp : Int32) (he : sv_H) (wl : Nat → Int32) (fe : Nat → Int32) (as : Int64) (D : sv_D) (z : Int32) : ai_pf (HP (g, p, sw, (le, ln, pc, tk, tp, nu, it, ns, gt, vt, st), m, pa, im, kp, he, wl, fe, as) D) 12 4 4 (.int z) = some (HP (g, p, sw, (le, ln, pc, tk, z, nu, it, ns, gt, vt, st), m, pa, im, kp, he, wl, fe, as) D) := Eq.trans (Eq.refl _) (Eq.refl _)
theorem gf_t5 (g : sv_G) (p : sv_G) (sw : Bool) (le : Nat → Int32) (ln : Int32) (pc : Int32) (tk : Int32) (tp : Int32) (nu : Int32) (it : Int32) (ns : Int32) (gt : Int32) (vt : Int32) (st : Int32) (m : sv_M) (pa : sv_P) (im : Nat → sv_M) (kp : Int32) (he : sv_H) (wl : Nat → Int32) (fe : Nat → Int32) (as : Int64) (D : sv_D) : ai_gf (HP (g, p, sw, (le, ln, pc, tk, tp, nu, it, ns, gt, vt, st), m, pa, im, kp, he, wl, fe, as) D) 12 4 5 = some (.int nu) := Eq.trans (Eq.refl _) (Eq.refl _)
theorem pf_t5 (g : sv_G) (p : sv_G) (sw : Bool) (le : Nat → Int32) (ln : Int32) (pc : Int32) (tk : Int32) (tp : Int32) (nu : Int32) (it : Int32) (ns : Int32) (gt : Int32) (vt : Int32) (st : Int32) (m : sv_M) (pa : sv_P) (im : Nat → sv_M) (kp : Int32) (he : sv_H) (wl : Nat → Int32) (fe : Nat → Int32) (as : Int64) (D : sv_D) (z : Int32) : ai_pf (HP (g, p, sw, (le, ln, pc, tk, tp, nu, it, ns, gt, vt, st), m, pa, im, kp, he, wl, fe, as) D) 12 4 5 (.int z) = some (HP (g, p, sw, (le, ln, pc, tk, tp, z, it, ns, gt, vt, st), m, pa, im, kp, he, wl, fe, as) D) := Eq.trans (Eq.refl _) (Eq.refl _)
theorem gf_t6 (g : sv_G) (p : sv_G) (sw : Bool) (le : Nat → Int32) (ln : Int32) (pc : Int32) (tk : Int32) (tp : Int32) (nu : Int32) (it : Int32) (ns : Int32) (gt : Int32) (vt : Int32) (st : Int32) (m : sv_M) (pa : sv_P) (im : Nat → sv_M) (kp : Int32) (he : sv_H) (wl : Nat → Int32) (fe : Nat → Int32) (as : Int64) (D : sv_D) : ai_gf (HP (g, p, sw, (le, ln, pc, tk, tp, nu, it, ns, gt, vt, st), m, pa, im, kp, he, wl, fe, as) D) 12 4 6 = some (.int it) := Eq.trans (Eq.refl _) (Eq.refl _)
theorem pf_t6 (g : sv_G) (p : sv_G) (sw : Bool) (le : Nat → Int32) (ln : Int32) (pc : Int32) (tk : Int32) (tp : Int32) (nu : Int32) (it : Int32) (ns : Int32) (gt : Int32) (vt : Int32) (st : Int32) (m : sv_M) (pa : sv_P) (im : Nat → sv_M) (kp : Int32) (he : sv_H) (wl : Nat → Int32) (fe : Nat → Int32) (as : Int64) (D : sv_D) (z : Int32) : ai_pf (HP (g, p, sw, (le, ln, pc, tk, tp, nu, it, ns, gt, vt, st), m, pa, im, kp, he, wl, fe, as) D) 12 4 6 (.int z) = some (HP (g, p, sw, (le, ln, pc, tk, tp, nu, z, ns, gt, vt, st), m, pa, im, kp, he, wl, fe, as) D) := Eq.trans (Eq.refl _) (Eq.refl _)
theorem gf_t7 (g : sv_G) (p : sv_G) (sw : Bool) (le : Nat → Int32) (ln : Int32) (pc : Int32) (tk : Int32) (tp : Int32) (nu : Int32) (it : Int32) (ns : Int32) (gt : Int32) (vt : Int32) (st : Int32) (m : sv_M) (pa : sv_P) (im : Nat → sv_M) (kp : Int32) (he : sv_H) (wl : Nat → Int32) (fe : Nat → Int32) (as : Int64) (D : sv_D) : ai_gf (HP (g, p, sw, (le, ln, pc, tk, tp, nu, it, ns, gt, vt, st), m, pa, im, kp, he, wl, fe, as) D) 12 4 7 = some (.int ns) := Eq.trans (Eq.refl _) (Eq.refl _)
theorem pf_t7 (g : sv_G) (p : sv_G) (sw : Bool) (le : Nat → Int32) (ln : Int32) (pc : Int32) (tk : Int32) (tp : Int32) (nu : Int32) (it : Int32) (ns : Int32) (gt : Int32) (vt : Int32) (st : Int32) (m : sv_M) (pa : sv_P) (im : Nat → sv_M) (kp : Int32) (he : sv_H) (wl : Nat → Int32) (fe : Nat → Int32) (as : Int64) (D : sv_D) (z : Int32) : ai_pf (HP (g, p, sw, (le, ln, pc, tk, tp, nu, it, ns, gt, vt, st), m, pa, im, kp, he, wl, fe, as) D) 12 4 7 (.int z) = some (HP (g, p, sw, (le, ln, pc, tk, tp, nu, it, z, gt, vt, st), m, pa, im, kp, he, wl, fe, as) D) := Eq.trans (Eq.refl _) (Eq.refl _)
theorem gf_t8 (g : sv_G) (p : sv_G) (sw : Bool) (le : Nat → Int32) (ln : Int32) (pc : Int32) (tk : Int32) (tp : Int32) (nu : Int32) (it : Int32) (ns : Int32) (gt : Int32) (vt : Int32) (st : Int32) (m : sv_M) (pa : sv_P) (im : Nat → sv_M) (kp : Int32) (he : sv_H) (wl : Nat → Int32) (fe : Nat → Int32) (as : Int64) (D : sv_D) : ai_gf (HP (g, p, sw, (le, ln, pc, tk, tp, nu, it, ns, gt, vt, st), m, pa, im, kp, he, wl, fe, as) D) 12 4 8 = some (.int gt) := Eq.trans (Eq.refl _) (Eq.refl _)
theorem pf_t8 (g : sv_G) (p : sv_G) (sw : Bool) (le : Nat → Int32) (ln : Int32) (pc : Int32) (tk : Int32) (tp : Int32) (nu : Int32) (it : Int32) (ns : Int32) (gt : Int32) (vt : Int32) (st : Int32) (m : sv_M) (pa : sv_P) (im : Nat → sv_M) (kp : Int32) (he : sv_H) (wl : Nat → Int32) (fe : Nat → Int32) (as : Int64) (D : sv_D) (z : Int32) : ai_pf (HP (g, p, sw, (le, ln, pc, tk, tp, nu, it, ns, gt, vt, st), m, pa, im, kp, he, wl, fe, as) D) 12 4 8 (.int z) = some (HP (g, p, sw, (le, ln, pc, tk, tp, nu, it, ns, z, vt, st), m, pa, im, kp, he, wl, fe, as) D) := Eq.trans (Eq.refl _) (Eq.refl _)
theorem gf_t9 (g : sv_G) (p : sv_G) (sw : Bool) (le : Nat → Int32) (ln : Int32) (pc : Int32) (tk : Int32) (tp : Int32) (nu : Int32) (it : Int32) (ns : Int32) (gt : Int32) (vt : Int32) (st : Int32) (m : sv_M) (pa : sv_P) (im : Nat → sv_M) (kp : Int32) (he : sv_H) (wl : Nat → Int32) (fe : Nat → Int32) (as : Int64) (D : sv_D) : ai_gf (HP (g, p, sw, (le, ln, pc, tk, tp, nu, it, ns, gt, vt, st), m, pa, im, kp, he, wl, fe, as) D) 12 4 9 = some (.int vt) := Eq.trans (Eq.refl _) (Eq.refl _)
theorem pf_t9 (g : sv_G) (p : sv_G) (sw : Bool) (le : Nat → Int32) (ln : Int32) (pc : Int32) (tk : Int32) (tp : Int32) (nu : Int32) (it : Int32) (ns : Int32) (gt : Int32) (vt : Int32) (st : Int32) (m : sv_M) (pa : sv_P) (im : Nat → sv_M) (kp : Int32) (he : sv_H) (wl : Nat → Int32) (fe : Nat → Int32) (as : Int64) (D : sv_D) (z : Int32) : ai_pf (HP (g, p, sw, (le, ln, pc, tk, tp, nu, it, ns, gt, vt, st), m, pa, im, kp, he, wl, fe, as) D) 12 4 9 (.int z) = some (HP (g, p, sw, (le, ln, pc, tk, tp, nu, it, ns, gt, z, st), m, pa, im, kp, he, wl, fe, as) D) := Eq.trans (Eq.refl _) (Eq.refl _)
theorem gf_t10 (g : sv_G) (p : sv_G) (sw : Bool) (le : Nat → Int32) (ln : Int32) (pc : Int32) (tk : Int32) (tp : Int32) (nu : Int32) (it : Int32) (ns : Int32) (gt : Int32) (vt : Int32) (st : Int32) (m : sv_M) (pa : sv_P) (im : Nat → sv_M) (kp : Int32) (he : sv_H) (wl : Nat → Int32) (fe : Nat → Int32) (as : Int64) (D : sv_D) : ai_gf (HP (g, p, sw, (le, ln, pc, tk, tp, nu, it, ns, gt, vt, st), m, pa, im, kp, he, wl, fe, as) D) 12 4 10 = some (.int st) := Eq.trans (Eq.refl _) (Eq.refl _)
theorem pf_t10 (g : sv_G) (p : sv_G) (sw : Bool) (le : Nat → Int32) (ln : Int32) (pc : Int32) (tk : Int32) (tp : Int32) (nu : Int32) (it : Int32) (ns : Int32) (gt : Int32) (vt : Int32) (st : Int32) (m : sv_M) (pa : sv_P) (im : Nat → sv_M) (kp : Int32) (he : sv_H) (wl : Nat → Int32) (fe : Nat → Int32) (as : Int64) (D : sv_D) (z : Int32) : ai_pf (HP (g, p, sw, (le, ln, pc, tk, tp, nu, it, ns, gt, vt, st), m, pa, im, kp, he, wl, fe, as) D) 12 4 10 (.int z) = some (HP (g, p, sw, (le, ln, pc, tk, tp, nu, it, ns, gt, vt, z), m, pa, im, kp, he, wl, fe, as) D) := Eq.trans (Eq.refl _) (Eq.refl _)
theorem gf_m0 (g : sv_G) (p : sv_G) (sw : Bool) (t : sv_T) (br : Nat → Int32) (wm : Nat → Int32) (yi : Int32) (lf : Int32) (sh : Int32) (hu : Int32) (ve : Int32) (so : Int32) (pa : sv_P) (im : Nat → sv_M) (kp : Int32) (he : sv_H) (wl : Nat → Int32) (fe : Nat → Int32) (as : Int64) (D : sv_D) : ai_gf (HP (g, p, sw, t, (br, wm, yi, lf, sh, hu, ve, so), pa, im, kp, he, wl, fe, as) D) 14 1 0 = some (.ref 15) := Eq.trans (Eq.refl _) (Eq.refl _)
theorem gf_m1 (g : sv_G) (p : sv_G) (sw : Bool) (t : sv_T) (br : Nat → Int32) (wm : Nat → Int32) (yi : Int32) (lf : Int32) (sh : Int32) (hu : Int32) (ve : Int32) (so : Int32) (pa : sv_P) (im : Nat → sv_M) (kp : Int32) (he : sv_H) (wl : Nat → Int32) (fe : Nat → Int32) (as : Int64) (D : sv_D) : ai_gf (HP (g, p, sw, t, (br, wm, yi, lf, sh, hu, ve, so), pa, im, kp, he, wl, fe, as) D) 14 1 1 = some (.ref 16) := Eq.trans (Eq.refl _) (Eq.refl _)
theorem ia_m0 (g : sv_G) (p : sv_G) (sw : Bool) (t : sv_T) (br : Nat → Int32) (wm : Nat → Int32) (yi : Int32) (lf : Int32) (sh : Int32) (hu : Int32) (ve : Int32) (so : Int32) (pa : sv_P) (im : Nat → sv_M) (kp : Int32) (he : sv_H) (wl : Nat → Int32) (fe : Nat → Int32) (as : Int64) (D : sv_D) : ai_ia (HP (g, p, sw, t, (br, wm, yi, lf, sh, hu, ve, so), pa, im, kp, he, wl, fe, as) D) 15 0 = some (6, br) := Eq.trans (Eq.refl _) (Eq.refl _)
theorem pz_m0 (g : sv_G) (p : sv_G) (sw : Bool) (t : sv_T) (br : Nat → Int32) (wm : Nat → Int32) (yi : Int32) (lf : Int32) (sh : Int32) (hu : Int32) (ve : Int32) (so : Int32) (pa : sv_P) (im : Nat → sv_M) (kp : Int32) (he : sv_H) (wl : Nat → Int32) (fe : Nat → Int32) (as : Int64) (D : sv_D) (z : Nat → Int32) : ai_pa (HP (g, p, sw, t, (br, wm, yi, lf, sh, hu, ve, so), pa, im, kp, he, wl, fe, as) D) 15 0 z = some (HP (g, p, sw, t, (z, wm, yi, lf, sh, hu, ve, so), pa, im, kp, he, wl, fe, as) D) := Eq.trans (Eq.refl _) (Eq.refl _)
theorem ia_m1 (g : sv_G) (p : sv_G) (sw : Bool) (t : sv_T) (br : Nat → Int32) (wm : Nat → Int32) (yi : Int32) (lf : Int32) (sh : Int32) (hu : Int32) (ve : Int32) (so : Int32) (pa : sv_P) (im : Nat → sv_M) (kp : Int32) (he : sv_H) (wl : Nat → Int32) (fe : Nat → Int32) (as : Int64) (D : sv_D) : ai_ia (HP (g, p, sw, t, (br, wm, yi, lf, sh, hu, ve, so), pa, im, kp, he, wl, fe, as) D) 16 0 = some (6, wm) := Eq.trans (Eq.refl _) (Eq.refl _)
theorem pz_m1 (g : sv_G) (p : sv_G) (sw : Bool) (t : sv_T) (br : Nat → Int32) (wm : Nat → Int32) (yi : Int32) (lf : Int32) (sh : Int32) (hu : Int32) (ve : Int32) (so : Int32) (pa : sv_P) (im : Nat → sv_M) (kp : Int32) (he : sv_H) (wl : Nat → Int32) (fe : Nat → Int32) (as : Int64) (D : sv_D) (z : Nat → Int32) : ai_pa (HP (g, p, sw, t, (br, wm, yi, lf, sh, hu, ve, so), pa, im, kp, he, wl, fe, as) D) 16 0 z = some (HP (g, p, sw, t, (br, z, yi, lf, sh, hu, ve, so), pa, im, kp, he, wl, fe, as) D) := Eq.trans (Eq.refl _) (Eq.refl _)
theorem gf_m2 (g : sv_G) (p : sv_G) (sw : Bool) (t : sv_T) (br : Nat → Int32) (wm : Nat → Int32) (yi : Int32) (lf : Int32) (sh : Int32) (hu : Int32) (ve : Int32) (so : Int32) (pa : sv_P) (im : Nat → sv_M) (kp : Int32) (he : sv_H) (wl : Nat → Int32) (fe : Nat → Int32) (as : Int64) (D : sv_D) : ai_gf (HP (g, p, sw, t, (br, wm, yi, lf, sh, hu, ve, so), pa, im, kp, he, wl, fe, as) D) 14 1 2 = some (.int yi) := Eq.trans (Eq.refl _) (Eq.refl _)
theorem pf_m2 (g : sv_G) (p : sv_G) (sw : Bool) (t : sv_T) (br : Nat → Int32) (wm : Nat → Int32) (yi : Int32) (lf : Int32) (sh : Int32) (hu : Int32) (ve : Int32) (so : Int32) (pa : sv_P) (im : Nat → sv_M) (kp : Int32) (he : sv_H) (wl : Nat → Int32) (fe : Nat → Int32) (as : Int64) (D : sv_D) (z : Int32) : ai_pf (HP (g, p, sw, t, (br, wm, yi, lf, sh, hu, ve, so), pa, im, kp, he, wl, fe, as) D) 14 1 2 (.int z) = some (HP (g, p, sw, t, (br, wm, z, lf, sh, hu, ve, so), pa, im, kp, he, wl, fe, as) D) := Eq.trans (Eq.refl _) (Eq.refl _)
theorem gf_m3 (g : sv_G) (p : sv_G) (sw : Bool) (t : sv_T) (br : Nat → Int32) (wm : Nat → Int32) (yi : Int32) (lf : Int32) (sh : Int32) (hu : Int32) (ve : Int32) (so : Int32) (pa : sv_P) (im : Nat → sv_M) (kp : Int32) (he : sv_H) (wl : Nat → Int32) (fe : Nat → Int32) (as : Int64) (D : sv_D) : ai_gf (HP (g, p, sw, t, (br, wm, yi, lf, sh, hu, ve, so), pa, im, kp, he, wl, fe, as) D) 14 1 3 = some (.int lf) := Eq.trans (Eq.refl _) (Eq.refl _)
theorem pf_m3 (g : sv_G) (p : sv_G) (sw : Bool) (t : sv_T) (br : Nat → Int32) (wm : Nat → Int32) (yi : Int32) (lf : Int32) (sh : Int32) (hu : Int32) (ve : Int32) (so : Int32) (pa : sv_P) (im : Nat → sv_M) (kp : Int32) (he : sv_H) (wl : Nat → Int32) (fe : Nat → Int32) (as : Int64) (D : sv_D) (z : Int32) : ai_pf (HP (g, p, sw, t, (br, wm, yi, lf, sh, hu, ve, so), pa, im, kp, he, wl, fe, as) D) 14 1 3 (.int z) = some (HP (g, p, sw, t, (br, wm, yi, z, sh, hu, ve, so), pa, im, kp, he, wl, fe, as) D) := Eq.trans (Eq.refl _) (Eq.refl _)
theorem gf_m4 (g : sv_G) (p : sv_G) (sw : Bool) (t : sv_T) (br : Nat → Int32) (wm : Nat → Int32) (yi : Int32) (lf : Int32) (sh : Int32) (hu : Int32) (ve : Int32) (so : Int32) (pa : sv_P) (im : Nat → sv_M) (kp : Int32) (he : sv_H) (wl : Nat → Int32) (fe : Nat → Int32) (as : Int64) (D : sv_D) : ai_gf (HP (g, p, sw, t, (br, wm, yi, lf, sh, hu, ve, so), pa, im, kp, he, wl, fe, as) D) 14 1 4 = some (.int sh) := Eq.trans (Eq.refl _) (Eq.refl _)
theorem pf_m4 (g : sv_G) (p : sv_G) (sw : Bool) (t : sv_T) (br : Nat → Int32) (wm : Nat → Int32) (yi : Int32) (lf : Int32) (sh : Int32) (hu : Int32) (ve : Int32) (so : Int32) (pa : sv_P) (im : Nat → sv_M) (kp : Int32) (he : sv_H) (wl : Nat → Int32) (fe : Nat → Int32) (as : Int64) (D : sv_D) (z : Int32) : ai_pf (HP (g, p, sw, t, (br, wm, yi, lf, sh, hu, ve, so), pa, im, kp, he, wl, fe, as) D) 14 1 4 (.int z) = some (HP (g, p, sw, t, (br, wm, yi, lf, z, hu, ve, so), pa, im, kp, he, wl, fe, as) D) := Eq.trans (Eq.refl _) (Eq.refl _)
theorem gf_m5 (g : sv_G) (p : sv_G) (sw : Bool) (t : sv_T) (br : Nat → Int32) (wm : Nat → Int32) (yi : Int32) (lf : Int32) (sh : Int32) (hu : Int32) (ve : Int32) (so : Int32) (pa : sv_P) (im : Nat → sv_M) (kp : Int32) (he : sv_H) (wl : Nat → Int32) (fe : Nat → Int32) (as : Int64) (D : sv_D) : ai_gf (HP (g, p, sw, t, (br, wm, yi, lf, sh, hu, ve, so), pa, im, kp, he, wl, fe, as) D) 14 1 5 = some (.int hu) := Eq.trans (Eq.refl _) (Eq.refl _)
theorem pf_m5 (g : sv_G) (p : sv_G) (sw : Bool) (t : sv_T) (br : Nat → Int32) (wm : Nat → Int32) (yi : Int32) (lf : Int32) (sh : Int32) (hu : Int32) (ve : Int32) (so : Int32) (pa : sv_P) (im : Nat → sv_M) (kp : Int32) (he : sv_H) (wl : Nat → Int32) (fe : Nat → Int32) (as : Int64) (D : sv_D) (z : Int32) : ai_pf (HP (g, p, sw, t, (br, wm, yi, lf, sh, hu, ve, so), pa, im, kp, he, wl, fe, as) D) 14 1 5 (.int z) = some (HP (g, p, sw, t, (br, wm, yi, lf, sh, z, ve, so), pa, im, kp, he, wl, fe, as) D) := Eq.trans (Eq.refl _) (Eq.refl _)
theorem gf_m6 (g : sv_G) (p : sv_G) (sw : Bool) (t : sv_T) (br : Nat → Int32) (wm : Nat → Int32) (yi : Int32) (lf : Int32) (sh : Int32) (hu : Int32) (ve : Int32) (so : Int32) (pa : sv_P) (im : Nat → sv_M) (kp : Int32) (he : sv_H) (wl : Nat → Int32) (fe : Nat → Int32) (as : Int64) (D : sv_D) : ai_gf (HP (g, p, sw, t, (br, wm, yi, lf, sh, hu, ve, so), pa, im, kp, he, wl, fe, as) D) 14 1 6 = some (.int ve) := Eq.trans (Eq.refl _) (Eq.refl _)
theorem pf_m6 (g : sv_G) (p : sv_G) (sw : Bool) (t : sv_T) (br : Nat → Int32) (wm : Nat → Int32) (yi : Int32) (lf : Int32) (sh : Int32) (hu : Int32) (ve : Int32) (so : Int32) (pa : sv_P) (im : Nat → sv_M) (kp : Int32) (he : sv_H) (wl : Nat → Int32) (fe : Nat → Int32) (as : Int64) (D : sv_D) (z : Int32) : ai_pf (HP (g, p, sw, t, (br, wm, yi, lf, sh, hu, ve, so), pa, im, kp, he, wl, fe, as) D) 14 1 6 (.int z) = some (HP (g, p, sw, t, (br, wm, yi, lf, sh, hu, z, so), pa, im, kp, he, wl, fe, as) D) := Eq.trans (Eq.refl _) (Eq.refl _)
theorem gf_m7 (g : sv_G) (p : sv_G) (sw : Bool) (t : sv_T) (br : Nat → Int32) (wm : Nat → Int32) (yi : Int32) (lf : Int32) (sh : Int32) (hu : Int32) (ve : Int32) (so : Int32) (pa : sv_P) (im : Nat → sv_M) (kp : Int32) (he : sv_H) (wl : Nat → Int32) (fe : Nat → Int32) (as : Int64) (D : sv_D) : ai_gf (HP (g, p, sw, t, (br, wm, yi, lf, sh, hu, ve, so), pa, im, kp, he, wl, fe, as) D) 14 1 7 = some (.int so) := Eq.trans (Eq.refl _) (Eq.refl _)
theorem pf_m7 (g : sv_G) (p : sv_G) (sw : Bool) (t : sv_T) (br : Nat → Int32) (wm : Nat → Int32) (yi : Int32) (lf : Int32) (sh : Int32) (hu : Int32) (ve : Int32) (so : Int32) (pa : sv_P) (im : Nat → sv_M) (kp : Int32) (he : sv_H) (wl : Nat → Int32) (fe : Nat → Int32) (as : Int64) (D : sv_D) (z : Int32) : ai_pf (HP (g, p, sw, t, (br, wm, yi, lf, sh, hu, ve, so), pa, im, kp, he, wl, fe, as) D) 14 1 7 (.int z) = some (HP (g, p, sw, t, (br, wm, yi, lf, sh, hu, ve, z), pa, im, kp, he, wl, fe, as) D) := Eq.trans (Eq.refl _) (Eq.refl _)
theorem gf_pa0 (g : sv_G) (p : sv_G) (sw : Bool) (t : sv_T) (m : sv_M) (rw : Nat → sv_M) (nx : Int32) (kn : Int32) (im : Nat → sv_M) (kp : Int32) (he : sv_H) (wl : Nat → Int32) (fe : Nat → Int32) (as : Int64) (D : sv_D) : ai_gf (HP (g, p, sw, t, m, (rw, nx, kn), im, kp, he, wl, fe, as) D) 17 2 0 = some (.ref 18) := Eq.trans (Eq.refl _) (Eq.refl _)
theorem gf_pa1 (g : sv_G) (p : sv_G) (sw : Bool) (t : sv_T) (m : sv_M) (rw : Nat → sv_M) (nx : Int32) (kn : Int32) (im : Nat → sv_M) (kp : Int32) (he : sv_H) (wl : Nat → Int32) (fe : Nat → Int32) (as : Int64) (D : sv_D) : ai_gf (HP (g, p, sw, t, m, (rw, nx, kn), im, kp, he, wl, fe, as) D) 17 2 1 = some (.int nx) := Eq.trans (Eq.refl _) (Eq.refl _)
theorem pf_pa1 (g : sv_G) (p : sv_G) (sw : Bool) (t : sv_T) (m : sv_M) (rw : Nat → sv_M) (nx : Int32) (kn : Int32) (im : Nat → sv_M) (kp : Int32) (he : sv_H) (wl : Nat → Int32) (fe : Nat → Int32) (as : Int64) (D : sv_D) (z : Int32) : ai_pf (HP (g, p, sw, t, m, (rw, nx, kn), im, kp, he, wl, fe, as) D) 17 2 1 (.int z) = some (HP (g, p, sw, t, m, (rw, z, kn), im, kp, he, wl, fe, as) D) := Eq.trans (Eq.refl _) (Eq.refl _)
theorem gf_pa2 (g : sv_G) (p : sv_G) (sw : Bool) (t : sv_T) (m : sv_M) (rw : Nat → sv_M) (nx : Int32) (kn : Int32) (im : Nat → sv_M) (kp : Int32) (he : sv_H) (wl : Nat → Int32) (fe : Nat → Int32) (as : Int64) (D : sv_D) : ai_gf (HP (g, p, sw, t, m, (rw, nx, kn), im, kp, he, wl, fe, as) D) 17 2 2 = some (.int kn) := Eq.trans (Eq.refl _) (Eq.refl _)
theorem pf_pa2 (g : sv_G) (p : sv_G) (sw : Bool) (t : sv_T) (m : sv_M) (rw : Nat → sv_M) (nx : Int32) (kn : Int32) (im : Nat → sv_M) (kp : Int32) (he : sv_H) (wl : Nat → Int32) (fe : Nat → Int32) (as : Int64) (D : sv_D) (z : Int32) : ai_pf (HP (g, p, sw, t, m, (rw, nx, kn), im, kp, he, wl, fe, as) D) 17 2 2 (.int z) = some (HP (g, p, sw, t, m, (rw, nx, z), im, kp, he, wl, fe, as) D) := Eq.trans (Eq.refl _) (Eq.refl _)
theorem gf_he3 (g : sv_G) (p : sv_G) (sw : Bool) (t : sv_T) (m : sv_M) (pa : sv_P) (im : Nat → sv_M) (kp : Int32) (wh : Nat → Int32) (ti : Nat → Int32) (yd : Nat → Int32) (sz : Int32) (wl : Nat → Int32) (fe : Nat → Int32) (as : Int64) (D : sv_D) : ai_gf (HP (g, p, sw, t, m, pa, im, kp, (wh, ti, yd, sz), wl, fe, as) D) 56 0 3 = some (.int sz) := Eq.trans (Eq.refl _) (Eq.refl _)
theorem pf_he3 (g : sv_G) (p : sv_G) (sw : Bool) (t : sv_T) (m : sv_M) (pa : sv_P) (im : Nat → sv_M) (kp : Int32) (wh : Nat → Int32) (ti : Nat → Int32) (yd : Nat → Int32) (sz : Int32) (wl : Nat → Int32) (fe : Nat → Int32) (as : Int64) (D : sv_D) (z : Int32) : ai_pf (HP (g, p, sw, t, m, pa, im, kp, (wh, ti, yd, sz), wl, fe, as) D) 56 0 3 (.int z) = some (HP (g, p, sw, t, m, pa, im, kp, (wh, ti, yd, z), wl, fe, as) D) := Eq.trans (Eq.refl _) (Eq.refl _)
theorem gf_he0 (g : sv_G) (p : sv_G) (sw : Bool) (t : sv_T) (m : sv_M) (pa : sv_P) (im : Nat → sv_M) (kp : Int32) (wh : Nat → Int32) (ti : Nat → Int32) (yd : Nat → Int32) (sz : Int32) (wl : Nat → Int32) (fe : Nat → Int32) (as : Int64) (D : sv_D) : ai_gf (HP (g, p, sw, t, m, pa, im, kp, (wh, ti, yd, sz), wl, fe, as) D) 56 0 0 = some (.ref 57) := Eq.trans (Eq.refl _) (Eq.refl _)
theorem ia_he0 (g : sv_G) (p : sv_G) (sw : Bool) (t : sv_T) (m : sv_M) (pa : sv_P) (im : Nat → sv_M) (kp : Int32) (wh : Nat → Int32) (ti : Nat → Int32) (yd : Nat → Int32) (sz : Int32) (wl : Nat → Int32) (fe : Nat → Int32) (as : Int64) (D : sv_D) : ai_ia (HP (g, p, sw, t, m, pa, im, kp, (wh, ti, yd, sz), wl, fe, as) D) 57 0 = some (6, wh) := Eq.trans (Eq.refl _) (Eq.refl _)
theorem pz_he0 (g : sv_G) (p : sv_G) (sw : Bool) (t : sv_T) (m : sv_M) (pa : sv_P) (im : Nat → sv_M) (kp : Int32) (wh : Nat → Int32) (ti : Nat → Int32) (yd : Nat → Int32) (sz : Int32) (wl : Nat → Int32) (fe : Nat → Int32) (as : Int64) (D : sv_D) (z : Nat → Int32) : ai_pa (HP (g, p, sw, t, m, pa, im, kp, (wh, ti, yd, sz), wl, fe, as) D) 57 0 z = some (HP (g, p, sw, t, m, pa, im, kp, (z, ti, yd, sz), wl, fe, as) D) := Eq.trans (Eq.refl _) (Eq.refl _)
theorem gf_he1 (g : sv_G) (p : sv_G) (sw : Bool) (t : sv_T) (m : sv_M) (pa : sv_P) (im : Nat → sv_M) (kp : Int32) (wh : Nat → Int32) (ti : Nat → Int32) (yd : Nat → Int32) (sz : Int32) (wl : Nat → Int32) (fe : Nat → Int32) (as : Int64) (D : sv_D) : ai_gf (HP (g, p, sw, t, m, pa, im, kp, (wh, ti, yd, sz), wl, fe, as) D) 56 0 1 = some (.ref 58) := Eq.trans (Eq.refl _) (Eq.refl _)
theorem ia_he1 (g : sv_G) (p : sv_G) (sw : Bool) (t : sv_T) (m : sv_M) (pa : sv_P) (im : Nat → sv_M) (kp : Int32) (wh : Nat → Int32) (ti : Nat → Int32) (yd : Nat → Int32) (sz : Int32) (wl : Nat → Int32) (fe : Nat → Int32) (as : Int64) (D : sv_D) : ai_ia (HP (g, p, sw, t, m, pa, im, kp, (wh, ti, yd, sz), wl, fe, as) D) 58 0 = some (6, ti) := Eq.trans (Eq.refl _) (Eq.refl _)
theorem pz_he1 (g : sv_G) (p : sv_G) (sw : Bool) (t : sv_T) (m : sv_M) (pa : sv_P) (im : Nat → sv_M) (kp : Int32) (wh : Nat → Int32) (ti : Nat → Int32) (yd : Nat → Int32) (sz : Int32) (wl : Nat → Int32) (fe : Nat → Int32) (as : Int64) (D : sv_D) (z : Nat → Int32) : ai_pa (HP (g, p, sw, t, m, pa, im, kp, (wh, ti, yd, sz), wl, fe, as) D) 58 0 z = some (HP (g, p, sw, t, m, pa, im, kp, (wh, z, yd, sz), wl, fe, as) D) := Eq.trans (Eq.refl _) (Eq.refl _)
theorem gf_he2 (g : sv_G) (p : sv_G) (sw : Bool) (t : sv_T) (m : sv_M) (pa : sv_P) (im : Nat → sv_M) (kp : Int32) (wh : Nat → Int32) (ti : Nat → Int32) (yd : Nat → Int32) (sz : Int32) (wl : Nat → Int32) (fe : Nat → Int32) (as : Int64) (D : sv_D) : ai_gf (HP (g, p, sw, t, m, pa, im, kp, (wh, ti, yd, sz), wl, fe, as) D) 56 0 2 = some (.ref 59) := Eq.trans (Eq.refl _) (Eq.refl _)
theorem ia_he2 (g : sv_G) (p : sv_G) (sw : Bool) (t : sv_T) (m : sv_M) (pa : sv_P) (im : Nat → sv_M) (kp : Int32) (wh : Nat → Int32) (ti : Nat → Int32) (yd : Nat → Int32) (sz : Int32) (wl : Nat → Int32) (fe : Nat → Int32) (as : Int64) (D : sv_D) : ai_ia (HP (g, p, sw, t, m, pa, im, kp, (wh, ti, yd, sz), wl, fe, as) D) 59 0 = some (6, yd) := Eq.trans (Eq.refl _) (Eq.refl _)
theorem pz_he2 (g : sv_G) (p : sv_G) (sw : Bool) (t : sv_T) (m : sv_M) (pa : sv_P) (im : Nat → sv_M) (kp : Int32) (wh : Nat → Int32) (ti : Nat → Int32) (yd : Nat → Int32) (sz : Int32) (wl : Nat → Int32) (fe : Nat → Int32) (as : Int64) (D : sv_D) (z : Nat → Int32) : ai_pa (HP (g, p, sw, t, m, pa, im, kp, (wh, ti, yd, sz), wl, fe, as) D) 59 0 z = some (HP (g, p, sw, t, m, pa, im, kp, (wh, ti, z, sz), wl, fe, as) D) := Eq.trans (Eq.refl _) (Eq.refl _)
theorem ia_wl (g : sv_G) (p : sv_G) (sw : Bool) (t : sv_T) (m : sv_M) (pa : sv_P) (im : Nat → sv_M) (kp : Int32) (he : sv_H) (wl : Nat → Int32) (fe : Nat → Int32) (as : Int64) (D : sv_D) : ai_ia (HP (g, p, sw, t, m, pa, im, kp, he, wl, fe, as) D) 60 0 = some (6, wl) := Eq.trans (Eq.refl _) (Eq.refl _)
theorem pz_wl (g : sv_G) (p : sv_G) (sw : Bool) (t : sv_T) (m : sv_M) (pa : sv_P) (im : Nat → sv_M) (kp : Int32) (he : sv_H) (wl : Nat → Int32) (fe : Nat → Int32) (as : Int64) (D : sv_D) (z : Nat → Int32) : ai_pa (HP (g, p, sw, t, m, pa, im, kp, he, wl, fe, as) D) 60 0 z = some (HP (g, p, sw, t, m, pa, im, kp, he, z, fe, as) D) := Eq.trans (Eq.refl _) (Eq.refl _)
theorem ia_fe (g : sv_G) (p : sv_G) (sw : Bool) (t : sv_T) (m : sv_M) (pa : sv_P) (im : Nat → sv_M) (kp : Int32) (he : sv_H) (wl : Nat → Int32) (fe : Nat → Int32) (as : Int64) (D : sv_D) : ai_ia (HP (g, p, sw, t, m, pa, im, kp, he, wl, fe, as) D) 61 0 = some (121, fe) := Eq.trans (Eq.refl _) (Eq.refl _)
theorem pz_fe (g : sv_G) (p : sv_G) (sw : Bool) (t : sv_T) (m : sv_M) (pa : sv_P) (im : Nat → sv_M) (kp : Int32) (he : sv_H) (wl : Nat → Int32) (fe : Nat → Int32) (as : Int64) (D : sv_D) (z : Nat → Int32) : ai_pa (HP (g, p, sw, t, m, pa, im, kp, he, wl, fe, as) D) 61 0 z = some (HP (g, p, sw, t, m, pa, im, kp, he, wl, z, as) D) := Eq.trans (Eq.refl _) (Eq.refl _)
theorem ra_rows (V : sv_V) (D : sv_D) : ai_ra (HP V D) 18 = some (10, hx_rows) := Eq.trans (Eq.refl _) (Eq.refl _)
theorem ra_imgs (V : sv_V) (D : sv_D) : ai_ra (HP V D) 49 = some (2, hx_imgs) := Eq.trans (Eq.refl _) (Eq.refl _)
theorem hx_rows_at {k : Nat} (h : k < 10) : hx_rows k = some (19 + 3 * k) := by
  match k, h with
  | 0, _ => rfl
  | 1, _ => rfl
  | 2, _ => rfl
  | 3, _ => rfl
  | 4, _ => rfl
  | 5, _ => rfl
  | 6, _ => rfl
  | 7, _ => rfl
  | 8, _ => rfl
  | 9, _ => rfl
theorem hx_imgs_at {k : Nat} (h : k < 2) : hx_imgs k = some (50 + 3 * k) := by
  match k, h with
  | 0, _ => rfl
  | 1, _ => rfl
theorem io_x (V : sv_V) (D : sv_D) : ai_io (HP V D) 1 5 = true := Eq.trans (Eq.refl _) (Eq.refl _)
theorem io_t (V : sv_V) (D : sv_D) : ai_io (HP V D) 12 4 = true := Eq.trans (Eq.refl _) (Eq.refl _)
theorem io_m (V : sv_V) (D : sv_D) : ai_io (HP V D) 14 1 = true := Eq.trans (Eq.refl _) (Eq.refl _)
theorem io_pa (V : sv_V) (D : sv_D) : ai_io (HP V D) 17 2 = true := Eq.trans (Eq.refl _) (Eq.refl _)
theorem io_he (V : sv_V) (D : sv_D) : ai_io (HP V D) 56 0 = true := Eq.trans (Eq.refl _) (Eq.refl _)
theorem io_d (V : sv_V) (D : sv_D) : ai_io (HP V D) 62 6 = true := Eq.trans (Eq.refl _) (Eq.refl _)
theorem io_g (V : sv_V) (D : sv_D) (sw : Bool) : ai_io (HP V D) (sq sw) 3 = true := by cases sw <;> rfl
theorem io_row (V : sv_V) (D : sv_D) {k : Nat} (h : k < 10) : ai_io (HP V D) (19 + 3 * k) 1 = true := by
  match k, h with
  | 0, _ => rfl
  | 1, _ => rfl
  | 2, _ => rfl
  | 3, _ => rfl
  | 4, _ => rfl
  | 5, _ => rfl
  | 6, _ => rfl
  | 7, _ => rfl
  | 8, _ => rfl
  | 9, _ => rfl
theorem io_img (V : sv_V) (D : sv_D) {k : Nat} (h : k < 2) : ai_io (HP V D) (50 + 3 * k) 1 = true := by
  match k, h with
  | 0, _ => rfl
  | 1, _ => rfl
theorem gd_0 (V : sv_V) (th : Int32) (tr : Int64) (ty : Int32) (nx : Int32) (tk : Int32) (pl : Int32) (va : Int32) (fa : Int32) (to : Int32) (um : Int32) (te : Int32) (hd : Int32) (wr : Int32) (a0 : Nat → Int32) (a1 : Nat → Int32) (a2 : Nat → Int32) (a3 : Nat → Int32) (a4 : Nat → Int32) (a5 : Nat → Int32) (a6 : Nat → Int32) (a7 : Nat → Int32) (a8 : Nat → Int32) (a9 : Nat → Int32) (a10 : Nat → Int32) (a11 : Nat → Int32) (a12 : Nat → Int32) (a13 : Nat → Int32) : ai_gf (HP V ((th, tr, ty, nx, tk, pl, va, fa, to, um, te, hd, wr), (a0, a1, a2, a3, a4, a5, a6, a7, a8, a9, a10, a11, a12, a13))) 62 6 0 = some (.int th) := Eq.trans (Eq.refl _) (Eq.refl _)
theorem pd_0 (V : sv_V) (th : Int32) (tr : Int64) (ty : Int32) (nx : Int32) (tk : Int32) (pl : Int32) (va : Int32) (fa : Int32) (to : Int32) (um : Int32) (te : Int32) (hd : Int32) (wr : Int32) (a0 : Nat → Int32) (a1 : Nat → Int32) (a2 : Nat → Int32) (a3 : Nat → Int32) (a4 : Nat → Int32) (a5 : Nat → Int32) (a6 : Nat → Int32) (a7 : Nat → Int32) (a8 : Nat → Int32) (a9 : Nat → Int32) (a10 : Nat → Int32) (a11 : Nat → Int32) (a12 : Nat → Int32) (a13 : Nat → Int32) (z : Int32) : ai_pf (HP V ((th, tr, ty, nx, tk, pl, va, fa, to, um, te, hd, wr), (a0, a1, a2, a3, a4, a5, a6, a7, a8, a9, a10, a11, a12, a13))) 62 6 0 (.int z) = some (HP V ((z, tr, ty, nx, tk, pl, va, fa, to, um, te, hd, wr), (a0, a1, a2, a3, a4, a5, a6, a7, a8, a9, a10, a11, a12, a13))) := Eq.trans (Eq.refl _) (Eq.refl _)
theorem gd_1 (V : sv_V) (th : Int32) (tr : Int64) (ty : Int32) (nx : Int32) (tk : Int32) (pl : Int32) (va : Int32) (fa : Int32) (to : Int32) (um : Int32) (te : Int32) (hd : Int32) (wr : Int32) (a0 : Nat → Int32) (a1 : Nat → Int32) (a2 : Nat → Int32) (a3 : Nat → Int32) (a4 : Nat → Int32) (a5 : Nat → Int32) (a6 : Nat → Int32) (a7 : Nat → Int32) (a8 : Nat → Int32) (a9 : Nat → Int32) (a10 : Nat → Int32) (a11 : Nat → Int32) (a12 : Nat → Int32) (a13 : Nat → Int32) : ai_gf (HP V ((th, tr, ty, nx, tk, pl, va, fa, to, um, te, hd, wr), (a0, a1, a2, a3, a4, a5, a6, a7, a8, a9, a10, a11, a12, a13))) 62 6 1 = some (.long tr) := Eq.trans (Eq.refl _) (Eq.refl _)
theorem pd_1 (V : sv_V) (th : Int32) (tr : Int64) (ty : Int32) (nx : Int32) (tk : Int32) (pl : Int32) (va : Int32) (fa : Int32) (to : Int32) (um : Int32) (te : Int32) (hd : Int32) (wr : Int32) (a0 : Nat → Int32) (a1 : Nat → Int32) (a2 : Nat → Int32) (a3 : Nat → Int32) (a4 : Nat → Int32) (a5 : Nat → Int32) (a6 : Nat → Int32) (a7 : Nat → Int32) (a8 : Nat → Int32) (a9 : Nat → Int32) (a10 : Nat → Int32) (a11 : Nat → Int32) (a12 : Nat → Int32) (a13 : Nat → Int32) (z : Int64) : ai_pf (HP V ((th, tr, ty, nx, tk, pl, va, fa, to, um, te, hd, wr), (a0, a1, a2, a3, a4, a5, a6, a7, a8, a9, a10, a11, a12, a13))) 62 6 1 (.long z) = some (HP V ((th, z, ty, nx, tk, pl, va, fa, to, um, te, hd, wr), (a0, a1, a2, a3, a4, a5, a6, a7, a8, a9, a10, a11, a12, a13))) := Eq.trans (Eq.refl _) (Eq.refl _)
theorem gd_2 (V : sv_V) (th : Int32) (tr : Int64) (ty : Int32) (nx : Int32) (tk : Int32) (pl : Int32) (va : Int32) (fa : Int32) (to : Int32) (um : Int32) (te : Int32) (hd : Int32) (wr : Int32) (a0 : Nat → Int32) (a1 : Nat → Int32) (a2 : Nat → Int32) (a3 : Nat → Int32) (a4 : Nat → Int32) (a5 : Nat → Int32) (a6 : Nat → Int32) (a7 : Nat → Int32) (a8 : Nat → Int32) (a9 : Nat → Int32) (a10 : Nat → Int32) (a11 : Nat → Int32) (a12 : Nat → Int32) (a13 : Nat → Int32) : ai_gf (HP V ((th, tr, ty, nx, tk, pl, va, fa, to, um, te, hd, wr), (a0, a1, a2, a3, a4, a5, a6, a7, a8, a9, a10, a11, a12, a13))) 62 6 2 = some (.ref 63) := Eq.trans (Eq.refl _) (Eq.refl _)
theorem id_0 (V : sv_V) (th : Int32) (tr : Int64) (ty : Int32) (nx : Int32) (tk : Int32) (pl : Int32) (va : Int32) (fa : Int32) (to : Int32) (um : Int32) (te : Int32) (hd : Int32) (wr : Int32) (a0 : Nat → Int32) (a1 : Nat → Int32) (a2 : Nat → Int32) (a3 : Nat → Int32) (a4 : Nat → Int32) (a5 : Nat → Int32) (a6 : Nat → Int32) (a7 : Nat → Int32) (a8 : Nat → Int32) (a9 : Nat → Int32) (a10 : Nat → Int32) (a11 : Nat → Int32) (a12 : Nat → Int32) (a13 : Nat → Int32) : ai_ia (HP V ((th, tr, ty, nx, tk, pl, va, fa, to, um, te, hd, wr), (a0, a1, a2, a3, a4, a5, a6, a7, a8, a9, a10, a11, a12, a13))) 63 0 = some (120, a0) := Eq.trans (Eq.refl _) (Eq.refl _)
theorem zd_0 (V : sv_V) (th : Int32) (tr : Int64) (ty : Int32) (nx : Int32) (tk : Int32) (pl : Int32) (va : Int32) (fa : Int32) (to : Int32) (um : Int32) (te : Int32) (hd : Int32) (wr : Int32) (a0 : Nat → Int32) (a1 : Nat → Int32) (a2 : Nat → Int32) (a3 : Nat → Int32) (a4 : Nat → Int32) (a5 : Nat → Int32) (a6 : Nat → Int32) (a7 : Nat → Int32) (a8 : Nat → Int32) (a9 : Nat → Int32) (a10 : Nat → Int32) (a11 : Nat → Int32) (a12 : Nat → Int32) (a13 : Nat → Int32) (z : Nat → Int32) : ai_pa (HP V ((th, tr, ty, nx, tk, pl, va, fa, to, um, te, hd, wr), (a0, a1, a2, a3, a4, a5, a6, a7, a8, a9, a10, a11, a12, a13))) 63 0 z = some (HP V ((th, tr, ty, nx, tk, pl, va, fa, to, um, te, hd, wr), (z, a1, a2, a3, a4, a5, a6, a7, a8, a9, a10, a11, a12, a13))) := Eq.trans (Eq.refl _) (Eq.refl _)
theorem gd_3 (V : sv_V) (th : Int32) (tr : Int64) (ty : Int32) (nx : Int32) (tk : Int32) (pl : Int32) (va : Int32) (fa : Int32) (to : Int32) (um : Int32) (te : Int32) (hd : Int32) (wr : Int32) (a0 : Nat → Int32) (a1 : Nat → Int32) (a2 : Nat → Int32) (a3 : Nat → Int32) (a4 : Nat → Int32) (a5 : Nat → Int32) (a6 : Nat → Int32) (a7 : Nat → Int32) (a8 : Nat → Int32) (a9 : Nat → Int32) (a10 : Nat → Int32) (a11 : Nat → Int32) (a12 : Nat → Int32) (a13 : Nat → Int32) : ai_gf (HP V ((th, tr, ty, nx, tk, pl, va, fa, to, um, te, hd, wr), (a0, a1, a2, a3, a4, a5, a6, a7, a8, a9, a10, a11, a12, a13))) 62 6 3 = some (.int ty) := Eq.trans (Eq.refl _) (Eq.refl _)
theorem pd_3 (V : sv_V) (th : Int32) (tr : Int64) (ty : Int32) (nx : Int32) (tk : Int32) (pl : Int32) (va : Int32) (fa : Int32) (to : Int32) (um : Int32) (te : Int32) (hd : Int32) (wr : Int32) (a0 : Nat → Int32) (a1 : Nat → Int32) (a2 : Nat → Int32) (a3 : Nat → Int32) (a4 : Nat → Int32) (a5 : Nat → Int32) (a6 : Nat → Int32) (a7 : Nat → Int32) (a8 : Nat → Int32) (a9 : Nat → Int32) (a10 : Nat → Int32) (a11 : Nat → Int32) (a12 : Nat → Int32) (a13 : Nat → Int32) (z : Int32) : ai_pf (HP V ((th, tr, ty, nx, tk, pl, va, fa, to, um, te, hd, wr), (a0, a1, a2, a3, a4, a5, a6, a7, a8, a9, a10, a11, a12, a13))) 62 6 3 (.int z) = some (HP V ((th, tr, z, nx, tk, pl, va, fa, to, um, te, hd, wr), (a0, a1, a2, a3, a4, a5, a6, a7, a8, a9, a10, a11, a12, a13))) := Eq.trans (Eq.refl _) (Eq.refl _)
theorem gd_4 (V : sv_V) (th : Int32) (tr : Int64) (ty : Int32) (nx : Int32) (tk : Int32) (pl : Int32) (va : Int32) (fa : Int32) (to : Int32) (um : Int32) (te : Int32) (hd : Int32) (wr : Int32) (a0 : Nat → Int32) (a1 : Nat → Int32) (a2 : Nat → Int32) (a3 : Nat → Int32) (a4 : Nat → Int32) (a5 : Nat → Int32) (a6 : Nat → Int32) (a7 : Nat → Int32) (a8 : Nat → Int32) (a9 : Nat → Int32) (a10 : Nat → Int32) (a11 : Nat → Int32) (a12 : Nat → Int32) (a13 : Nat → Int32) : ai_gf (HP V ((th, tr, ty, nx, tk, pl, va, fa, to, um, te, hd, wr), (a0, a1, a2, a3, a4, a5, a6, a7, a8, a9, a10, a11, a12, a13))) 62 6 4 = some (.int nx) := Eq.trans (Eq.refl _) (Eq.refl _)
theorem pd_4 (V : sv_V) (th : Int32) (tr : Int64) (ty : Int32) (nx : Int32) (tk : Int32) (pl : Int32) (va : Int32) (fa : Int32) (to : Int32) (um : Int32) (te : Int32) (hd : Int32) (wr : Int32) (a0 : Nat → Int32) (a1 : Nat → Int32) (a2 : Nat → Int32) (a3 : Nat → Int32) (a4 : Nat → Int32) (a5 : Nat → Int32) (a6 : Nat → Int32) (a7 : Nat → Int32) (a8 : Nat → Int32) (a9 : Nat → Int32) (a10 : Nat → Int32) (a11 : Nat → Int32) (a12 : Nat → Int32) (a13 : Nat → Int32) (z : Int32) : ai_pf (HP V ((th, tr, ty, nx, tk, pl, va, fa, to, um, te, hd, wr), (a0, a1, a2, a3, a4, a5, a6, a7, a8, a9, a10, a11, a12, a13))) 62 6 4 (.int z) = some (HP V ((th, tr, ty, z, tk, pl, va, fa, to, um, te, hd, wr), (a0, a1, a2, a3, a4, a5, a6, a7, a8, a9, a10, a11, a12, a13))) := Eq.trans (Eq.refl _) (Eq.refl _)
theorem gd_5 (V : sv_V) (th : Int32) (tr : Int64) (ty : Int32) (nx : Int32) (tk : Int32) (pl : Int32) (va : Int32) (fa : Int32) (to : Int32) (um : Int32) (te : Int32) (hd : Int32) (wr : Int32) (a0 : Nat → Int32) (a1 : Nat → Int32) (a2 : Nat → Int32) (a3 : Nat → Int32) (a4 : Nat → Int32) (a5 : Nat → Int32) (a6 : Nat → Int32) (a7 : Nat → Int32) (a8 : Nat → Int32) (a9 : Nat → Int32) (a10 : Nat → Int32) (a11 : Nat → Int32) (a12 : Nat → Int32) (a13 : Nat → Int32) : ai_gf (HP V ((th, tr, ty, nx, tk, pl, va, fa, to, um, te, hd, wr), (a0, a1, a2, a3, a4, a5, a6, a7, a8, a9, a10, a11, a12, a13))) 62 6 5 = some (.int tk) := Eq.trans (Eq.refl _) (Eq.refl _)
theorem pd_5 (V : sv_V) (th : Int32) (tr : Int64) (ty : Int32) (nx : Int32) (tk : Int32) (pl : Int32) (va : Int32) (fa : Int32) (to : Int32) (um : Int32) (te : Int32) (hd : Int32) (wr : Int32) (a0 : Nat → Int32) (a1 : Nat → Int32) (a2 : Nat → Int32) (a3 : Nat → Int32) (a4 : Nat → Int32) (a5 : Nat → Int32) (a6 : Nat → Int32) (a7 : Nat → Int32) (a8 : Nat → Int32) (a9 : Nat → Int32) (a10 : Nat → Int32) (a11 : Nat → Int32) (a12 : Nat → Int32) (a13 : Nat → Int32) (z : Int32) : ai_pf (HP V ((th, tr, ty, nx, tk, pl, va, fa, to, um, te, hd, wr), (a0, a1, a2, a3, a4, a5, a6, a7, a8, a9, a10, a11, a12, a13))) 62 6 5 (.int z) = some (HP V ((th, tr, ty, nx, z, pl, va, fa, to, um, te, hd, wr), (a0, a1, a2, a3, a4, a5, a6, a7, a8, a9, a10, a11, a12, a13))) := Eq.trans (Eq.refl _) (Eq.refl _)
theorem gd_6 (V : sv_V) (th : Int32) (tr : Int64) (ty : Int32) (nx : Int32) (tk : Int32) (pl : Int32) (va : Int32) (fa : Int32) (to : Int32) (um : Int32) (te : Int32) (hd : Int32) (wr : Int32) (a0 : Nat → Int32) (a1 : Nat → Int32) (a2 : Nat → Int32) (a3 : Nat → Int32) (a4 : Nat → Int32) (a5 : Nat → Int32) (a6 : Nat → Int32) (a7 : Nat → Int32) (a8 : Nat → Int32) (a9 : Nat → Int32) (a10 : Nat → Int32) (a11 : Nat → Int32) (a12 : Nat → Int32) (a13 : Nat → Int32) : ai_gf (HP V ((th, tr, ty, nx, tk, pl, va, fa, to, um, te, hd, wr), (a0, a1, a2, a3, a4, a5, a6, a7, a8, a9, a10, a11, a12, a13))) 62 6 6 = some (.int pl) := Eq.trans (Eq.refl _) (Eq.refl _)
theorem pd_6 (V : sv_V) (th : Int32) (tr : Int64) (ty : Int32) (nx : Int32) (tk : Int32) (pl : Int32) (va : Int32) (fa : Int32) (to : Int32) (um : Int32) (te : Int32) (hd : Int32) (wr : Int32) (a0 : Nat → Int32) (a1 : Nat → Int32) (a2 : Nat → Int32) (a3 : Nat → Int32) (a4 : Nat → Int32) (a5 : Nat → Int32) (a6 : Nat → Int32) (a7 : Nat → Int32) (a8 : Nat → Int32) (a9 : Nat → Int32) (a10 : Nat → Int32) (a11 : Nat → Int32) (a12 : Nat → Int32) (a13 : Nat → Int32) (z : Int32) : ai_pf (HP V ((th, tr, ty, nx, tk, pl, va, fa, to, um, te, hd, wr), (a0, a1, a2, a3, a4, a5, a6, a7, a8, a9, a10, a11, a12, a13))) 62 6 6 (.int z) = some (HP V ((th, tr, ty, nx, tk, z, va, fa, to, um, te, hd, wr), (a0, a1, a2, a3, a4, a5, a6, a7, a8, a9, a10, a11, a12, a13))) := Eq.trans (Eq.refl _) (Eq.refl _)
theorem gd_7 (V : sv_V) (th : Int32) (tr : Int64) (ty : Int32) (nx : Int32) (tk : Int32) (pl : Int32) (va : Int32) (fa : Int32) (to : Int32) (um : Int32) (te : Int32) (hd : Int32) (wr : Int32) (a0 : Nat → Int32) (a1 : Nat → Int32) (a2 : Nat → Int32) (a3 : Nat → Int32) (a4 : Nat → Int32) (a5 : Nat → Int32) (a6 : Nat → Int32) (a7 : Nat → Int32) (a8 : Nat → Int32) (a9 : Nat → Int32) (a10 : Nat → Int32) (a11 : Nat → Int32) (a12 : Nat → Int32) (a13 : Nat → Int32) : ai_gf (HP V ((th, tr, ty, nx, tk, pl, va, fa, to, um, te, hd, wr), (a0, a1, a2, a3, a4, a5, a6, a7, a8, a9, a10, a11, a12, a13))) 62 6 7 = some (.int va) := Eq.trans (Eq.refl _) (Eq.refl _)
theorem pd_7 (V : sv_V) (th : Int32) (tr : Int64) (ty : Int32) (nx : Int32) (tk : Int32) (pl : Int32) (va : Int32) (fa : Int32) (to : Int32) (um : Int32) (te : Int32) (hd : Int32) (wr : Int32) (a0 : Nat → Int32) (a1 : Nat → Int32) (a2 : Nat → Int32) (a3 : Nat → Int32) (a4 : Nat → Int32) (a5 : Nat → Int32) (a6 : Nat → Int32) (a7 : Nat → Int32) (a8 : Nat → Int32) (a9 : Nat → Int32) (a10 : Nat → Int32) (a11 : Nat → Int32) (a12 : Nat → Int32) (a13 : Nat → Int32) (z : Int32) : ai_pf (HP V ((th, tr, ty, nx, tk, pl, va, fa, to, um, te, hd, wr), (a0, a1, a2, a3, a4, a5, a6, a7, a8, a9, a10, a11, a12, a13))) 62 6 7 (.int z) = some (HP V ((th, tr, ty, nx, tk, pl, z, fa, to, um, te, hd, wr), (a0, a1, a2, a3, a4, a5, a6, a7, a8, a9, a10, a11, a12, a13))) := Eq.trans (Eq.refl _) (Eq.refl _)
theorem gd_8 (V : sv_V) (th : Int32) (tr : Int64) (ty : Int32) (nx : Int32) (tk : Int32) (pl : Int32) (va : Int32) (fa : Int32) (to : Int32) (um : Int32) (te : Int32) (hd : Int32) (wr : Int32) (a0 : Nat → Int32) (a1 : Nat → Int32) (a2 : Nat → Int32) (a3 : Nat → Int32) (a4 : Nat → Int32) (a5 : Nat → Int32) (a6 : Nat → Int32) (a7 : Nat → Int32) (a8 : Nat → Int32) (a9 : Nat → Int32) (a10 : Nat → Int32) (a11 : Nat → Int32) (a12 : Nat → Int32) (a13 : Nat → Int32) : ai_gf (HP V ((th, tr, ty, nx, tk, pl, va, fa, to, um, te, hd, wr), (a0, a1, a2, a3, a4, a5, a6, a7, a8, a9, a10, a11, a12, a13))) 62 6 8 = some (.int fa) := Eq.trans (Eq.refl _) (Eq.refl _)
theorem pd_8 (V : sv_V) (th : Int32) (tr : Int64) (ty : Int32) (nx : Int32) (tk : Int32) (pl : Int32) (va : Int32) (fa : Int32) (to : Int32) (um : Int32) (te : Int32) (hd : Int32) (wr : Int32) (a0 : Nat → Int32) (a1 : Nat → Int32) (a2 : Nat → Int32) (a3 : Nat → Int32) (a4 : Nat → Int32) (a5 : Nat → Int32) (a6 : Nat → Int32) (a7 : Nat → Int32) (a8 : Nat → Int32) (a9 : Nat → Int32) (a10 : Nat → Int32) (a11 : Nat → Int32) (a12 : Nat → Int32) (a13 : Nat → Int32) (z : Int32) : ai_pf (HP V ((th, tr, ty, nx, tk, pl, va, fa, to, um, te, hd, wr), (a0, a1, a2, a3, a4, a5, a6, a7, a8, a9, a10, a11, a12, a13))) 62 6 8 (.int z) = some (HP V ((th, tr, ty, nx, tk, pl, va, z, to, um, te, hd, wr), (a0, a1, a2, a3, a4, a5, a6, a7, a8, a9, a10, a11, a12, a13))) := Eq.trans (Eq.refl _) (Eq.refl _)
theorem gd_9 (V : sv_V) (th : Int32) (tr : Int64) (ty : Int32) (nx : Int32) (tk : Int32) (pl : Int32) (va : Int32) (fa : Int32) (to : Int32) (um : Int32) (te : Int32) (hd : Int32) (wr : Int32) (a0 : Nat → Int32) (a1 : Nat → Int32) (a2 : Nat → Int32) (a3 : Nat → Int32) (a4 : Nat → Int32) (a5 : Nat → Int32) (a6 : Nat → Int32) (a7 : Nat → Int32) (a8 : Nat → Int32) (a9 : Nat → Int32) (a10 : Nat → Int32) (a11 : Nat → Int32) (a12 : Nat → Int32) (a13 : Nat → Int32) : ai_gf (HP V ((th, tr, ty, nx, tk, pl, va, fa, to, um, te, hd, wr), (a0, a1, a2, a3, a4, a5, a6, a7, a8, a9, a10, a11, a12, a13))) 62 6 9 = some (.int to) := Eq.trans (Eq.refl _) (Eq.refl _)
theorem pd_9 (V : sv_V) (th : Int32) (tr : Int64) (ty : Int32) (nx : Int32) (tk : Int32) (pl : Int32) (va : Int32) (fa : Int32) (to : Int32) (um : Int32) (te : Int32) (hd : Int32) (wr : Int32) (a0 : Nat → Int32) (a1 : Nat → Int32) (a2 : Nat → Int32) (a3 : Nat → Int32) (a4 : Nat → Int32) (a5 : Nat → Int32) (a6 : Nat → Int32) (a7 : Nat → Int32) (a8 : Nat → Int32) (a9 : Nat → Int32) (a10 : Nat → Int32) (a11 : Nat → Int32) (a12 : Nat → Int32) (a13 : Nat → Int32) (z : Int32) : ai_pf (HP V ((th, tr, ty, nx, tk, pl, va, fa, to, um, te, hd, wr), (a0, a1, a2, a3, a4, a5, a6, a7, a8, a9, a10, a11, a12, a13))) 62 6 9 (.int z) = some (HP V ((th, tr, ty, nx, tk, pl, va, fa, z, um, te, hd, wr), (a0, a1, a2, a3, a4, a5, a6, a7, a8, a9, a10, a11, a12, a13))) := Eq.trans (Eq.refl _) (Eq.refl _)
theorem gd_10 (V : sv_V) (th : Int32) (tr : Int64) (ty : Int32) (nx : Int32) (tk : Int32) (pl : Int32) (va : Int32) (fa : Int32) (to : Int32) (um : Int32) (te : Int32) (hd : Int32) (wr : Int32) (a0 : Nat → Int32) (a1 : Nat → Int32) (a2 : Nat → Int32) (a3 : Nat → Int32) (a4 : Nat → Int32) (a5 : Nat → Int32) (a6 : Nat → Int32) (a7 : Nat → Int32) (a8 : Nat → Int32) (a9 : Nat → Int32) (a10 : Nat → Int32) (a11 : Nat → Int32) (a12 : Nat → Int32) (a13 : Nat → Int32) : ai_gf (HP V ((th, tr, ty, nx, tk, pl, va, fa, to, um, te, hd, wr), (a0, a1, a2, a3, a4, a5, a6, a7, a8, a9, a10, a11, a12, a13))) 62 6 10 = some (.ref 64) := Eq.trans (Eq.refl _) (Eq.refl _)
theorem id_1 (V : sv_V) (th : Int32) (tr : Int64) (ty : Int32) (nx : Int32) (tk : Int32) (pl : Int32) (va : Int32) (fa : Int32) (to : Int32) (um : Int32) (te : Int32) (hd : Int32) (wr : Int32) (a0 : Nat → Int32) (a1 : Nat → Int32) (a2 : Nat → Int32) (a3 : Nat → Int32) (a4 : Nat → Int32) (a5 : Nat → Int32) (a6 : Nat → Int32) (a7 : Nat → Int32) (a8 : Nat → Int32) (a9 : Nat → Int32) (a10 : Nat → Int32) (a11 : Nat → Int32) (a12 : Nat → Int32) (a13 : Nat → Int32) : ai_ia (HP V ((th, tr, ty, nx, tk, pl, va, fa, to, um, te, hd, wr), (a0, a1, a2, a3, a4, a5, a6, a7, a8, a9, a10, a11, a12, a13))) 64 0 = some (8, a1) := Eq.trans (Eq.refl _) (Eq.refl _)
theorem zd_1 (V : sv_V) (th : Int32) (tr : Int64) (ty : Int32) (nx : Int32) (tk : Int32) (pl : Int32) (va : Int32) (fa : Int32) (to : Int32) (um : Int32) (te : Int32) (hd : Int32) (wr : Int32) (a0 : Nat → Int32) (a1 : Nat → Int32) (a2 : Nat → Int32) (a3 : Nat → Int32) (a4 : Nat → Int32) (a5 : Nat → Int32) (a6 : Nat → Int32) (a7 : Nat → Int32) (a8 : Nat → Int32) (a9 : Nat → Int32) (a10 : Nat → Int32) (a11 : Nat → Int32) (a12 : Nat → Int32) (a13 : Nat → Int32) (z : Nat → Int32) : ai_pa (HP V ((th, tr, ty, nx, tk, pl, va, fa, to, um, te, hd, wr), (a0, a1, a2, a3, a4, a5, a6, a7, a8, a9, a10, a11, a12, a13))) 64 0 z = some (HP V ((th, tr, ty, nx, tk, pl, va, fa, to, um, te, hd, wr), (a0, z, a2, a3, a4, a5, a6, a7, a8, a9, a10, a11, a12, a13))) := Eq.trans (Eq.refl _) (Eq.refl _)
theorem gd_11 (V : sv_V) (th : Int32) (tr : Int64) (ty : Int32) (nx : Int32) (tk : Int32) (pl : Int32) (va : Int32) (fa : Int32) (to : Int32) (um : Int32) (te : Int32) (hd : Int32) (wr : Int32) (a0 : Nat → Int32) (a1 : Nat → Int32) (a2 : Nat → Int32) (a3 : Nat → Int32) (a4 : Nat → Int32) (a5 : Nat → Int32) (a6 : Nat → Int32) (a7 : Nat → Int32) (a8 : Nat → Int32) (a9 : Nat → Int32) (a10 : Nat → Int32) (a11 : Nat → Int32) (a12 : Nat → Int32) (a13 : Nat → Int32) : ai_gf (HP V ((th, tr, ty, nx, tk, pl, va, fa, to, um, te, hd, wr), (a0, a1, a2, a3, a4, a5, a6, a7, a8, a9, a10, a11, a12, a13))) 62 6 11 = some (.ref 65) := Eq.trans (Eq.refl _) (Eq.refl _)
theorem id_2 (V : sv_V) (th : Int32) (tr : Int64) (ty : Int32) (nx : Int32) (tk : Int32) (pl : Int32) (va : Int32) (fa : Int32) (to : Int32) (um : Int32) (te : Int32) (hd : Int32) (wr : Int32) (a0 : Nat → Int32) (a1 : Nat → Int32) (a2 : Nat → Int32) (a3 : Nat → Int32) (a4 : Nat → Int32) (a5 : Nat → Int32) (a6 : Nat → Int32) (a7 : Nat → Int32) (a8 : Nat → Int32) (a9 : Nat → Int32) (a10 : Nat → Int32) (a11 : Nat → Int32) (a12 : Nat → Int32) (a13 : Nat → Int32) : ai_ia (HP V ((th, tr, ty, nx, tk, pl, va, fa, to, um, te, hd, wr), (a0, a1, a2, a3, a4, a5, a6, a7, a8, a9, a10, a11, a12, a13))) 65 0 = some (12, a2) := Eq.trans (Eq.refl _) (Eq.refl _)
theorem zd_2 (V : sv_V) (th : Int32) (tr : Int64) (ty : Int32) (nx : Int32) (tk : Int32) (pl : Int32) (va : Int32) (fa : Int32) (to : Int32) (um : Int32) (te : Int32) (hd : Int32) (wr : Int32) (a0 : Nat → Int32) (a1 : Nat → Int32) (a2 : Nat → Int32) (a3 : Nat → Int32) (a4 : Nat → Int32) (a5 : Nat → Int32) (a6 : Nat → Int32) (a7 : Nat → Int32) (a8 : Nat → Int32) (a9 : Nat → Int32) (a10 : Nat → Int32) (a11 : Nat → Int32) (a12 : Nat → Int32) (a13 : Nat → Int32) (z : Nat → Int32) : ai_pa (HP V ((th, tr, ty, nx, tk, pl, va, fa, to, um, te, hd, wr), (a0, a1, a2, a3, a4, a5, a6, a7, a8, a9, a10, a11, a12, a13))) 65 0 z = some (HP V ((th, tr, ty, nx, tk, pl, va, fa, to, um, te, hd, wr), (a0, a1, z, a3, a4, a5, a6, a7, a8, a9, a10, a11, a12, a13))) := Eq.trans (Eq.refl _) (Eq.refl _)
theorem gd_12 (V : sv_V) (th : Int32) (tr : Int64) (ty : Int32) (nx : Int32) (tk : Int32) (pl : Int32) (va : Int32) (fa : Int32) (to : Int32) (um : Int32) (te : Int32) (hd : Int32) (wr : Int32) (a0 : Nat → Int32) (a1 : Nat → Int32) (a2 : Nat → Int32) (a3 : Nat → Int32) (a4 : Nat → Int32) (a5 : Nat → Int32) (a6 : Nat → Int32) (a7 : Nat → Int32) (a8 : Nat → Int32) (a9 : Nat → Int32) (a10 : Nat → Int32) (a11 : Nat → Int32) (a12 : Nat → Int32) (a13 : Nat → Int32) : ai_gf (HP V ((th, tr, ty, nx, tk, pl, va, fa, to, um, te, hd, wr), (a0, a1, a2, a3, a4, a5, a6, a7, a8, a9, a10, a11, a12, a13))) 62 6 12 = some (.ref 66) := Eq.trans (Eq.refl _) (Eq.refl _)
theorem id_3 (V : sv_V) (th : Int32) (tr : Int64) (ty : Int32) (nx : Int32) (tk : Int32) (pl : Int32) (va : Int32) (fa : Int32) (to : Int32) (um : Int32) (te : Int32) (hd : Int32) (wr : Int32) (a0 : Nat → Int32) (a1 : Nat → Int32) (a2 : Nat → Int32) (a3 : Nat → Int32) (a4 : Nat → Int32) (a5 : Nat → Int32) (a6 : Nat → Int32) (a7 : Nat → Int32) (a8 : Nat → Int32) (a9 : Nat → Int32) (a10 : Nat → Int32) (a11 : Nat → Int32) (a12 : Nat → Int32) (a13 : Nat → Int32) : ai_ia (HP V ((th, tr, ty, nx, tk, pl, va, fa, to, um, te, hd, wr), (a0, a1, a2, a3, a4, a5, a6, a7, a8, a9, a10, a11, a12, a13))) 66 0 = some (12, a3) := Eq.trans (Eq.refl _) (Eq.refl _)
theorem zd_3 (V : sv_V) (th : Int32) (tr : Int64) (ty : Int32) (nx : Int32) (tk : Int32) (pl : Int32) (va : Int32) (fa : Int32) (to : Int32) (um : Int32) (te : Int32) (hd : Int32) (wr : Int32) (a0 : Nat → Int32) (a1 : Nat → Int32) (a2 : Nat → Int32) (a3 : Nat → Int32) (a4 : Nat → Int32) (a5 : Nat → Int32) (a6 : Nat → Int32) (a7 : Nat → Int32) (a8 : Nat → Int32) (a9 : Nat → Int32) (a10 : Nat → Int32) (a11 : Nat → Int32) (a12 : Nat → Int32) (a13 : Nat → Int32) (z : Nat → Int32) : ai_pa (HP V ((th, tr, ty, nx, tk, pl, va, fa, to, um, te, hd, wr), (a0, a1, a2, a3, a4, a5, a6, a7, a8, a9, a10, a11, a12, a13))) 66 0 z = some (HP V ((th, tr, ty, nx, tk, pl, va, fa, to, um, te, hd, wr), (a0, a1, a2, z, a4, a5, a6, a7, a8, a9, a10, a11, a12, a13))) := Eq.trans (Eq.refl _) (Eq.refl _)
theorem gd_13 (V : sv_V) (th : Int32) (tr : Int64) (ty : Int32) (nx : Int32) (tk : Int32) (pl : Int32) (va : Int32) (fa : Int32) (to : Int32) (um : Int32) (te : Int32) (hd : Int32) (wr : Int32) (a0 : Nat → Int32) (a1 : Nat → Int32) (a2 : Nat → Int32) (a3 : Nat → Int32) (a4 : Nat → Int32) (a5 : Nat → Int32) (a6 : Nat → Int32) (a7 : Nat → Int32) (a8 : Nat → Int32) (a9 : Nat → Int32) (a10 : Nat → Int32) (a11 : Nat → Int32) (a12 : Nat → Int32) (a13 : Nat → Int32) : ai_gf (HP V ((th, tr, ty, nx, tk, pl, va, fa, to, um, te, hd, wr), (a0, a1, a2, a3, a4, a5, a6, a7, a8, a9, a10, a11, a12, a13))) 62 6 13 = some (.ref 67) := Eq.trans (Eq.refl _) (Eq.refl _)
theorem id_4 (V : sv_V) (th : Int32) (tr : Int64) (ty : Int32) (nx : Int32) (tk : Int32) (pl : Int32) (va : Int32) (fa : Int32) (to : Int32) (um : Int32) (te : Int32) (hd : Int32) (wr : Int32) (a0 : Nat → Int32) (a1 : Nat → Int32) (a2 : Nat → Int32) (a3 : Nat → Int32) (a4 : Nat → Int32) (a5 : Nat → Int32) (a6 : Nat → Int32) (a7 : Nat → Int32) (a8 : Nat → Int32) (a9 : Nat → Int32) (a10 : Nat → Int32) (a11 : Nat → Int32) (a12 : Nat → Int32) (a13 : Nat → Int32) : ai_ia (HP V ((th, tr, ty, nx, tk, pl, va, fa, to, um, te, hd, wr), (a0, a1, a2, a3, a4, a5, a6, a7, a8, a9, a10, a11, a12, a13))) 67 0 = some (12, a4) := Eq.trans (Eq.refl _) (Eq.refl _)
theorem zd_4 (V : sv_V) (th : Int32) (tr : Int64) (ty : Int32) (nx : Int32) (tk : Int32) (pl : Int32) (va : Int32) (fa : Int32) (to : Int32) (um : Int32) (te : Int32) (hd : Int32) (wr : Int32) (a0 : Nat → Int32) (a1 : Nat → Int32) (a2 : Nat → Int32) (a3 : Nat → Int32) (a4 : Nat → Int32) (a5 : Nat → Int32) (a6 : Nat → Int32) (a7 : Nat → Int32) (a8 : Nat → Int32) (a9 : Nat → Int32) (a10 : Nat → Int32) (a11 : Nat → Int32) (a12 : Nat → Int32) (a13 : Nat → Int32) (z : Nat → Int32) : ai_pa (HP V ((th, tr, ty, nx, tk, pl, va, fa, to, um, te, hd, wr), (a0, a1, a2, a3, a4, a5, a6, a7, a8, a9, a10, a11, a12, a13))) 67 0 z = some (HP V ((th, tr, ty, nx, tk, pl, va, fa, to, um, te, hd, wr), (a0, a1, a2, a3, z, a5, a6, a7, a8, a9, a10, a11, a12, a13))) := Eq.trans (Eq.refl _) (Eq.refl _)
theorem gd_14 (V : sv_V) (th : Int32) (tr : Int64) (ty : Int32) (nx : Int32) (tk : Int32) (pl : Int32) (va : Int32) (fa : Int32) (to : Int32) (um : Int32) (te : Int32) (hd : Int32) (wr : Int32) (a0 : Nat → Int32) (a1 : Nat → Int32) (a2 : Nat → Int32) (a3 : Nat → Int32) (a4 : Nat → Int32) (a5 : Nat → Int32) (a6 : Nat → Int32) (a7 : Nat → Int32) (a8 : Nat → Int32) (a9 : Nat → Int32) (a10 : Nat → Int32) (a11 : Nat → Int32) (a12 : Nat → Int32) (a13 : Nat → Int32) : ai_gf (HP V ((th, tr, ty, nx, tk, pl, va, fa, to, um, te, hd, wr), (a0, a1, a2, a3, a4, a5, a6, a7, a8, a9, a10, a11, a12, a13))) 62 6 14 = some (.ref 68) := Eq.trans (Eq.refl _) (Eq.refl _)
theorem id_5 (V : sv_V) (th : Int32) (tr : Int64) (ty : Int32) (nx : Int32) (tk : Int32) (pl : Int32) (va : Int32) (fa : Int32) (to : Int32) (um : Int32) (te : Int32) (hd : Int32) (wr : Int32) (a0 : Nat → Int32) (a1 : Nat → Int32) (a2 : Nat → Int32) (a3 : Nat → Int32) (a4 : Nat → Int32) (a5 : Nat → Int32) (a6 : Nat → Int32) (a7 : Nat → Int32) (a8 : Nat → Int32) (a9 : Nat → Int32) (a10 : Nat → Int32) (a11 : Nat → Int32) (a12 : Nat → Int32) (a13 : Nat → Int32) : ai_ia (HP V ((th, tr, ty, nx, tk, pl, va, fa, to, um, te, hd, wr), (a0, a1, a2, a3, a4, a5, a6, a7, a8, a9, a10, a11, a12, a13))) 68 0 = some (12, a5) := Eq.trans (Eq.refl _) (Eq.refl _)
theorem zd_5 (V : sv_V) (th : Int32) (tr : Int64) (ty : Int32) (nx : Int32) (tk : Int32) (pl : Int32) (va : Int32) (fa : Int32) (to : Int32) (um : Int32) (te : Int32) (hd : Int32) (wr : Int32) (a0 : Nat → Int32) (a1 : Nat → Int32) (a2 : Nat → Int32) (a3 : Nat → Int32) (a4 : Nat → Int32) (a5 : Nat → Int32) (a6 : Nat → Int32) (a7 : Nat → Int32) (a8 : Nat → Int32) (a9 : Nat → Int32) (a10 : Nat → Int32) (a11 : Nat → Int32) (a12 : Nat → Int32) (a13 : Nat → Int32) (z : Nat → Int32) : ai_pa (HP V ((th, tr, ty, nx, tk, pl, va, fa, to, um, te, hd, wr), (a0, a1, a2, a3, a4, a5, a6, a7, a8, a9, a10, a11, a12, a13))) 68 0 z = some (HP V ((th, tr, ty, nx, tk, pl, va, fa, to, um, te, hd, wr), (a0, a1, a2, a3, a4, z, a6, a7, a8, a9, a10, a11, a12, a13))) := Eq.trans (Eq.refl _) (Eq.refl _)
theorem gd_15 (V : sv_V) (th : Int32) (tr : Int64) (ty : Int32) (nx : Int32) (tk : Int32) (pl : Int32) (va : Int32) (fa : Int32) (to : Int32) (um : Int32) (te : Int32) (hd : Int32) (wr : Int32) (a0 : Nat → Int32) (a1 : Nat → Int32) (a2 : Nat → Int32) (a3 : Nat → Int32) (a4 : Nat → Int32) (a5 : Nat → Int32) (a6 : Nat → Int32) (a7 : Nat → Int32) (a8 : Nat → Int32) (a9 : Nat → Int32) (a10 : Nat → Int32) (a11 : Nat → Int32) (a12 : Nat → Int32) (a13 : Nat → Int32) : ai_gf (HP V ((th, tr, ty, nx, tk, pl, va, fa, to, um, te, hd, wr), (a0, a1, a2, a3, a4, a5, a6, a7, a8, a9, a10, a11, a12, a13))) 62 6 15 = some (.ref 69) := Eq.trans (Eq.refl _) (Eq.refl _)
theorem id_6 (V : sv_V) (th : Int32) (tr : Int64) (ty : Int32) (nx : Int32) (tk : Int32) (pl : Int32) (va : Int32) (fa : Int32) (to : Int32) (um : Int32) (te : Int32) (hd : Int32) (wr : Int32) (a0 : Nat → Int32) (a1 : Nat → Int32) (a2 : Nat → Int32) (a3 : Nat → Int32) (a4 : Nat → Int32) (a5 : Nat → Int32) (a6 : Nat → Int32) (a7 : Nat → Int32) (a8 : Nat → Int32) (a9 : Nat → Int32) (a10 : Nat → Int32) (a11 : Nat → Int32) (a12 : Nat → Int32) (a13 : Nat → Int32) : ai_ia (HP V ((th, tr, ty, nx, tk, pl, va, fa, to, um, te, hd, wr), (a0, a1, a2, a3, a4, a5, a6, a7, a8, a9, a10, a11, a12, a13))) 69 0 = some (18, a6) := Eq.trans (Eq.refl _) (Eq.refl _)
theorem zd_6 (V : sv_V) (th : Int32) (tr : Int64) (ty : Int32) (nx : Int32) (tk : Int32) (pl : Int32) (va : Int32) (fa : Int32) (to : Int32) (um : Int32) (te : Int32) (hd : Int32) (wr : Int32) (a0 : Nat → Int32) (a1 : Nat → Int32) (a2 : Nat → Int32) (a3 : Nat → Int32) (a4 : Nat → Int32) (a5 : Nat → Int32) (a6 : Nat → Int32) (a7 : Nat → Int32) (a8 : Nat → Int32) (a9 : Nat → Int32) (a10 : Nat → Int32) (a11 : Nat → Int32) (a12 : Nat → Int32) (a13 : Nat → Int32) (z : Nat → Int32) : ai_pa (HP V ((th, tr, ty, nx, tk, pl, va, fa, to, um, te, hd, wr), (a0, a1, a2, a3, a4, a5, a6, a7, a8, a9, a10, a11, a12, a13))) 69 0 z = some (HP V ((th, tr, ty, nx, tk, pl, va, fa, to, um, te, hd, wr), (a0, a1, a2, a3, a4, a5, z, a7, a8, a9, a10, a11, a12, a13))) := Eq.trans (Eq.refl _) (Eq.refl _)
theorem gd_16 (V : sv_V) (th : Int32) (tr : Int64) (ty : Int32) (nx : Int32) (tk : Int32) (pl : Int32) (va : Int32) (fa : Int32) (to : Int32) (um : Int32) (te : Int32) (hd : Int32) (wr : Int32) (a0 : Nat → Int32) (a1 : Nat → Int32) (a2 : Nat → Int32) (a3 : Nat → Int32) (a4 : Nat → Int32) (a5 : Nat → Int32) (a6 : Nat → Int32) (a7 : Nat → Int32) (a8 : Nat → Int32) (a9 : Nat → Int32) (a10 : Nat → Int32) (a11 : Nat → Int32) (a12 : Nat → Int32) (a13 : Nat → Int32) : ai_gf (HP V ((th, tr, ty, nx, tk, pl, va, fa, to, um, te, hd, wr), (a0, a1, a2, a3, a4, a5, a6, a7, a8, a9, a10, a11, a12, a13))) 62 6 16 = some (.ref 70) := Eq.trans (Eq.refl _) (Eq.refl _)
theorem id_7 (V : sv_V) (th : Int32) (tr : Int64) (ty : Int32) (nx : Int32) (tk : Int32) (pl : Int32) (va : Int32) (fa : Int32) (to : Int32) (um : Int32) (te : Int32) (hd : Int32) (wr : Int32) (a0 : Nat → Int32) (a1 : Nat → Int32) (a2 : Nat → Int32) (a3 : Nat → Int32) (a4 : Nat → Int32) (a5 : Nat → Int32) (a6 : Nat → Int32) (a7 : Nat → Int32) (a8 : Nat → Int32) (a9 : Nat → Int32) (a10 : Nat → Int32) (a11 : Nat → Int32) (a12 : Nat → Int32) (a13 : Nat → Int32) : ai_ia (HP V ((th, tr, ty, nx, tk, pl, va, fa, to, um, te, hd, wr), (a0, a1, a2, a3, a4, a5, a6, a7, a8, a9, a10, a11, a12, a13))) 70 0 = some (36, a7) := Eq.trans (Eq.refl _) (Eq.refl _)
theorem zd_7 (V : sv_V) (th : Int32) (tr : Int64) (ty : Int32) (nx : Int32) (tk : Int32) (pl : Int32) (va : Int32) (fa : Int32) (to : Int32) (um : Int32) (te : Int32) (hd : Int32) (wr : Int32) (a0 : Nat → Int32) (a1 : Nat → Int32) (a2 : Nat → Int32) (a3 : Nat → Int32) (a4 : Nat → Int32) (a5 : Nat → Int32) (a6 : Nat → Int32) (a7 : Nat → Int32) (a8 : Nat → Int32) (a9 : Nat → Int32) (a10 : Nat → Int32) (a11 : Nat → Int32) (a12 : Nat → Int32) (a13 : Nat → Int32) (z : Nat → Int32) : ai_pa (HP V ((th, tr, ty, nx, tk, pl, va, fa, to, um, te, hd, wr), (a0, a1, a2, a3, a4, a5, a6, a7, a8, a9, a10, a11, a12, a13))) 70 0 z = some (HP V ((th, tr, ty, nx, tk, pl, va, fa, to, um, te, hd, wr), (a0, a1, a2, a3, a4, a5, a6, z, a8, a9, a10, a11, a12, a13))) := Eq.trans (Eq.refl _) (Eq.refl _)
theorem gd_17 (V : sv_V) (th : Int32) (tr : Int64) (ty : Int32) (nx : Int32) (tk : Int32) (pl : Int32) (va : Int32) (fa : Int32) (to : Int32) (um : Int32) (te : Int32) (hd : Int32) (wr : Int32) (a0 : Nat → Int32) (a1 : Nat → Int32) (a2 : Nat → Int32) (a3 : Nat → Int32) (a4 : Nat → Int32) (a5 : Nat → Int32) (a6 : Nat → Int32) (a7 : Nat → Int32) (a8 : Nat → Int32) (a9 : Nat → Int32) (a10 : Nat → Int32) (a11 : Nat → Int32) (a12 : Nat → Int32) (a13 : Nat → Int32) : ai_gf (HP V ((th, tr, ty, nx, tk, pl, va, fa, to, um, te, hd, wr), (a0, a1, a2, a3, a4, a5, a6, a7, a8, a9, a10, a11, a12, a13))) 62 6 17 = some (.ref 71) := Eq.trans (Eq.refl _) (Eq.refl _)
theorem id_8 (V : sv_V) (th : Int32) (tr : Int64) (ty : Int32) (nx : Int32) (tk : Int32) (pl : Int32) (va : Int32) (fa : Int32) (to : Int32) (um : Int32) (te : Int32) (hd : Int32) (wr : Int32) (a0 : Nat → Int32) (a1 : Nat → Int32) (a2 : Nat → Int32) (a3 : Nat → Int32) (a4 : Nat → Int32) (a5 : Nat → Int32) (a6 : Nat → Int32) (a7 : Nat → Int32) (a8 : Nat → Int32) (a9 : Nat → Int32) (a10 : Nat → Int32) (a11 : Nat → Int32) (a12 : Nat → Int32) (a13 : Nat → Int32) : ai_ia (HP V ((th, tr, ty, nx, tk, pl, va, fa, to, um, te, hd, wr), (a0, a1, a2, a3, a4, a5, a6, a7, a8, a9, a10, a11, a12, a13))) 71 1 = some (2, a8) := Eq.trans (Eq.refl _) (Eq.refl _)
theorem zd_8 (V : sv_V) (th : Int32) (tr : Int64) (ty : Int32) (nx : Int32) (tk : Int32) (pl : Int32) (va : Int32) (fa : Int32) (to : Int32) (um : Int32) (te : Int32) (hd : Int32) (wr : Int32) (a0 : Nat → Int32) (a1 : Nat → Int32) (a2 : Nat → Int32) (a3 : Nat → Int32) (a4 : Nat → Int32) (a5 : Nat → Int32) (a6 : Nat → Int32) (a7 : Nat → Int32) (a8 : Nat → Int32) (a9 : Nat → Int32) (a10 : Nat → Int32) (a11 : Nat → Int32) (a12 : Nat → Int32) (a13 : Nat → Int32) (z : Nat → Int32) : ai_pa (HP V ((th, tr, ty, nx, tk, pl, va, fa, to, um, te, hd, wr), (a0, a1, a2, a3, a4, a5, a6, a7, a8, a9, a10, a11, a12, a13))) 71 1 z = some (HP V ((th, tr, ty, nx, tk, pl, va, fa, to, um, te, hd, wr), (a0, a1, a2, a3, a4, a5, a6, a7, z, a9, a10, a11, a12, a13))) := Eq.trans (Eq.refl _) (Eq.refl _)
theorem gd_18 (V : sv_V) (th : Int32) (tr : Int64) (ty : Int32) (nx : Int32) (tk : Int32) (pl : Int32) (va : Int32) (fa : Int32) (to : Int32) (um : Int32) (te : Int32) (hd : Int32) (wr : Int32) (a0 : Nat → Int32) (a1 : Nat → Int32) (a2 : Nat → Int32) (a3 : Nat → Int32) (a4 : Nat → Int32) (a5 : Nat → Int32) (a6 : Nat → Int32) (a7 : Nat → Int32) (a8 : Nat → Int32) (a9 : Nat → Int32) (a10 : Nat → Int32) (a11 : Nat → Int32) (a12 : Nat → Int32) (a13 : Nat → Int32) : ai_gf (HP V ((th, tr, ty, nx, tk, pl, va, fa, to, um, te, hd, wr), (a0, a1, a2, a3, a4, a5, a6, a7, a8, a9, a10, a11, a12, a13))) 62 6 18 = some (.ref 72) := Eq.trans (Eq.refl _) (Eq.refl _)
theorem id_9 (V : sv_V) (th : Int32) (tr : Int64) (ty : Int32) (nx : Int32) (tk : Int32) (pl : Int32) (va : Int32) (fa : Int32) (to : Int32) (um : Int32) (te : Int32) (hd : Int32) (wr : Int32) (a0 : Nat → Int32) (a1 : Nat → Int32) (a2 : Nat → Int32) (a3 : Nat → Int32) (a4 : Nat → Int32) (a5 : Nat → Int32) (a6 : Nat → Int32) (a7 : Nat → Int32) (a8 : Nat → Int32) (a9 : Nat → Int32) (a10 : Nat → Int32) (a11 : Nat → Int32) (a12 : Nat → Int32) (a13 : Nat → Int32) : ai_ia (HP V ((th, tr, ty, nx, tk, pl, va, fa, to, um, te, hd, wr), (a0, a1, a2, a3, a4, a5, a6, a7, a8, a9, a10, a11, a12, a13))) 72 0 = some (180, a9) := Eq.trans (Eq.refl _) (Eq.refl _)
theorem zd_9 (V : sv_V) (th : Int32) (tr : Int64) (ty : Int32) (nx : Int32) (tk : Int32) (pl : Int32) (va : Int32) (fa : Int32) (to : Int32) (um : Int32) (te : Int32) (hd : Int32) (wr : Int32) (a0 : Nat → Int32) (a1 : Nat → Int32) (a2 : Nat → Int32) (a3 : Nat → Int32) (a4 : Nat → Int32) (a5 : Nat → Int32) (a6 : Nat → Int32) (a7 : Nat → Int32) (a8 : Nat → Int32) (a9 : Nat → Int32) (a10 : Nat → Int32) (a11 : Nat → Int32) (a12 : Nat → Int32) (a13 : Nat → Int32) (z : Nat → Int32) : ai_pa (HP V ((th, tr, ty, nx, tk, pl, va, fa, to, um, te, hd, wr), (a0, a1, a2, a3, a4, a5, a6, a7, a8, a9, a10, a11, a12, a13))) 72 0 z = some (HP V ((th, tr, ty, nx, tk, pl, va, fa, to, um, te, hd, wr), (a0, a1, a2, a3, a4, a5, a6, a7, a8, z, a10, a11, a12, a13))) := Eq.trans (Eq.refl _) (Eq.refl _)
theorem gd_19 (V : sv_V) (th : Int32) (tr : Int64) (ty : Int32) (nx : Int32) (tk : Int32) (pl : Int32) (va : Int32) (fa : Int32) (to : Int32) (um : Int32) (te : Int32) (hd : Int32) (wr : Int32) (a0 : Nat → Int32) (a1 : Nat → Int32) (a2 : Nat → Int32) (a3 : Nat → Int32) (a4 : Nat → Int32) (a5 : Nat → Int32) (a6 : Nat → Int32) (a7 : Nat → Int32) (a8 : Nat → Int32) (a9 : Nat → Int32) (a10 : Nat → Int32) (a11 : Nat → Int32) (a12 : Nat → Int32) (a13 : Nat → Int32) : ai_gf (HP V ((th, tr, ty, nx, tk, pl, va, fa, to, um, te, hd, wr), (a0, a1, a2, a3, a4, a5, a6, a7, a8, a9, a10, a11, a12, a13))) 62 6 19 = some (.int um) := Eq.trans (Eq.refl _) (Eq.refl _)
theorem pd_19 (V : sv_V) (th : Int32) (tr : Int64) (ty : Int32) (nx : Int32) (tk : Int32) (pl : Int32) (va : Int32) (fa : Int32) (to : Int32) (um : Int32) (te : Int32) (hd : Int32) (wr : Int32) (a0 : Nat → Int32) (a1 : Nat → Int32) (a2 : Nat → Int32) (a3 : Nat → Int32) (a4 : Nat → Int32) (a5 : Nat → Int32) (a6 : Nat → Int32) (a7 : Nat → Int32) (a8 : Nat → Int32) (a9 : Nat → Int32) (a10 : Nat → Int32) (a11 : Nat → Int32) (a12 : Nat → Int32) (a13 : Nat → Int32) (z : Int32) : ai_pf (HP V ((th, tr, ty, nx, tk, pl, va, fa, to, um, te, hd, wr), (a0, a1, a2, a3, a4, a5, a6, a7, a8, a9, a10, a11, a12, a13))) 62 6 19 (.int z) = some (HP V ((th, tr, ty, nx, tk, pl, va, fa, to, z, te, hd, wr), (a0, a1, a2, a3, a4, a5, a6, a7, a8, a9, a10, a11, a12, a13))) := Eq.trans (Eq.refl _) (Eq.refl _)
theorem gd_20 (V : sv_V) (th : Int32) (tr : Int64) (ty : Int32) (nx : Int32) (tk : Int32) (pl : Int32) (va : Int32) (fa : Int32) (to : Int32) (um : Int32) (te : Int32) (hd : Int32) (wr : Int32) (a0 : Nat → Int32) (a1 : Nat → Int32) (a2 : Nat → Int32) (a3 : Nat → Int32) (a4 : Nat → Int32) (a5 : Nat → Int32) (a6 : Nat → Int32) (a7 : Nat → Int32) (a8 : Nat → Int32) (a9 : Nat → Int32) (a10 : Nat → Int32) (a11 : Nat → Int32) (a12 : Nat → Int32) (a13 : Nat → Int32) : ai_gf (HP V ((th, tr, ty, nx, tk, pl, va, fa, to, um, te, hd, wr), (a0, a1, a2, a3, a4, a5, a6, a7, a8, a9, a10, a11, a12, a13))) 62 6 20 = some (.ref 73) := Eq.trans (Eq.refl _) (Eq.refl _)
theorem id_10 (V : sv_V) (th : Int32) (tr : Int64) (ty : Int32) (nx : Int32) (tk : Int32) (pl : Int32) (va : Int32) (fa : Int32) (to : Int32) (um : Int32) (te : Int32) (hd : Int32) (wr : Int32) (a0 : Nat → Int32) (a1 : Nat → Int32) (a2 : Nat → Int32) (a3 : Nat → Int32) (a4 : Nat → Int32) (a5 : Nat → Int32) (a6 : Nat → Int32) (a7 : Nat → Int32) (a8 : Nat → Int32) (a9 : Nat → Int32) (a10 : Nat → Int32) (a11 : Nat → Int32) (a12 : Nat → Int32) (a13 : Nat → Int32) : ai_ia (HP V ((th, tr, ty, nx, tk, pl, va, fa, to, um, te, hd, wr), (a0, a1, a2, a3, a4, a5, a6, a7, a8, a9, a10, a11, a12, a13))) 73 0 = some (6, a10) := Eq.trans (Eq.refl _) (Eq.refl _)
theorem zd_10 (V : sv_V) (th : Int32) (tr : Int64) (ty : Int32) (nx : Int32) (tk : Int32) (pl : Int32) (va : Int32) (fa : Int32) (to : Int32) (um : Int32) (te : Int32) (hd : Int32) (wr : Int32) (a0 : Nat → Int32) (a1 : Nat → Int32) (a2 : Nat → Int32) (a3 : Nat → Int32) (a4 : Nat → Int32) (a5 : Nat → Int32) (a6 : Nat → Int32) (a7 : Nat → Int32) (a8 : Nat → Int32) (a9 : Nat → Int32) (a10 : Nat → Int32) (a11 : Nat → Int32) (a12 : Nat → Int32) (a13 : Nat → Int32) (z : Nat → Int32) : ai_pa (HP V ((th, tr, ty, nx, tk, pl, va, fa, to, um, te, hd, wr), (a0, a1, a2, a3, a4, a5, a6, a7, a8, a9, a10, a11, a12, a13))) 73 0 z = some (HP V ((th, tr, ty, nx, tk, pl, va, fa, to, um, te, hd, wr), (a0, a1, a2, a3, a4, a5, a6, a7, a8, a9, z, a11, a12, a13))) := Eq.trans (Eq.refl _) (Eq.refl _)
theorem gd_21 (V : sv_V) (th : Int32) (tr : Int64) (ty : Int32) (nx : Int32) (tk : Int32) (pl : Int32) (va : Int32) (fa : Int32) (to : Int32) (um : Int32) (te : Int32) (hd : Int32) (wr : Int32) (a0 : Nat → Int32) (a1 : Nat → Int32) (a2 : Nat → Int32) (a3 : Nat → Int32) (a4 : Nat → Int32) (a5 : Nat → Int32) (a6 : Nat → Int32) (a7 : Nat → Int32) (a8 : Nat → Int32) (a9 : Nat → Int32) (a10 : Nat → Int32) (a11 : Nat → Int32) (a12 : Nat → Int32) (a13 : Nat → Int32) : ai_gf (HP V ((th, tr, ty, nx, tk, pl, va, fa, to, um, te, hd, wr), (a0, a1, a2, a3, a4, a5, a6, a7, a8, a9, a10, a11, a12, a13))) 62 6 21 = some (.ref 74) := Eq.trans (Eq.refl _) (Eq.refl _)
theorem id_11 (V : sv_V) (th : Int32) (tr : Int64) (ty : Int32) (nx : Int32) (tk : Int32) (pl : Int32) (va : Int32) (fa : Int32) (to : Int32) (um : Int32) (te : Int32) (hd : Int32) (wr : Int32) (a0 : Nat → Int32) (a1 : Nat → Int32) (a2 : Nat → Int32) (a3 : Nat → Int32) (a4 : Nat → Int32) (a5 : Nat → Int32) (a6 : Nat → Int32) (a7 : Nat → Int32) (a8 : Nat → Int32) (a9 : Nat → Int32) (a10 : Nat → Int32) (a11 : Nat → Int32) (a12 : Nat → Int32) (a13 : Nat → Int32) : ai_ia (HP V ((th, tr, ty, nx, tk, pl, va, fa, to, um, te, hd, wr), (a0, a1, a2, a3, a4, a5, a6, a7, a8, a9, a10, a11, a12, a13))) 74 0 = some (6, a11) := Eq.trans (Eq.refl _) (Eq.refl _)
theorem zd_11 (V : sv_V) (th : Int32) (tr : Int64) (ty : Int32) (nx : Int32) (tk : Int32) (pl : Int32) (va : Int32) (fa : Int32) (to : Int32) (um : Int32) (te : Int32) (hd : Int32) (wr : Int32) (a0 : Nat → Int32) (a1 : Nat → Int32) (a2 : Nat → Int32) (a3 : Nat → Int32) (a4 : Nat → Int32) (a5 : Nat → Int32) (a6 : Nat → Int32) (a7 : Nat → Int32) (a8 : Nat → Int32) (a9 : Nat → Int32) (a10 : Nat → Int32) (a11 : Nat → Int32) (a12 : Nat → Int32) (a13 : Nat → Int32) (z : Nat → Int32) : ai_pa (HP V ((th, tr, ty, nx, tk, pl, va, fa, to, um, te, hd, wr), (a0, a1, a2, a3, a4, a5, a6, a7, a8, a9, a10, a11, a12, a13))) 74 0 z = some (HP V ((th, tr, ty, nx, tk, pl, va, fa, to, um, te, hd, wr), (a0, a1, a2, a3, a4, a5, a6, a7, a8, a9, a10, z, a12, a13))) := Eq.trans (Eq.refl _) (Eq.refl _)
theorem gd_22 (V : sv_V) (th : Int32) (tr : Int64) (ty : Int32) (nx : Int32) (tk : Int32) (pl : Int32) (va : Int32) (fa : Int32) (to : Int32) (um : Int32) (te : Int32) (hd : Int32) (wr : Int32) (a0 : Nat → Int32) (a1 : Nat → Int32) (a2 : Nat → Int32) (a3 : Nat → Int32) (a4 : Nat → Int32) (a5 : Nat → Int32) (a6 : Nat → Int32) (a7 : Nat → Int32) (a8 : Nat → Int32) (a9 : Nat → Int32) (a10 : Nat → Int32) (a11 : Nat → Int32) (a12 : Nat → Int32) (a13 : Nat → Int32) : ai_gf (HP V ((th, tr, ty, nx, tk, pl, va, fa, to, um, te, hd, wr), (a0, a1, a2, a3, a4, a5, a6, a7, a8, a9, a10, a11, a12, a13))) 62 6 22 = some (.ref 75) := Eq.trans (Eq.refl _) (Eq.refl _)
theorem id_12 (V : sv_V) (th : Int32) (tr : Int64) (ty : Int32) (nx : Int32) (tk : Int32) (pl : Int32) (va : Int32) (fa : Int32) (to : Int32) (um : Int32) (te : Int32) (hd : Int32) (wr : Int32) (a0 : Nat → Int32) (a1 : Nat → Int32) (a2 : Nat → Int32) (a3 : Nat → Int32) (a4 : Nat → Int32) (a5 : Nat → Int32) (a6 : Nat → Int32) (a7 : Nat → Int32) (a8 : Nat → Int32) (a9 : Nat → Int32) (a10 : Nat → Int32) (a11 : Nat → Int32) (a12 : Nat → Int32) (a13 : Nat → Int32) : ai_ia (HP V ((th, tr, ty, nx, tk, pl, va, fa, to, um, te, hd, wr), (a0, a1, a2, a3, a4, a5, a6, a7, a8, a9, a10, a11, a12, a13))) 75 0 = some (6, a12) := Eq.trans (Eq.refl _) (Eq.refl _)
theorem zd_12 (V : sv_V) (th : Int32) (tr : Int64) (ty : Int32) (nx : Int32) (tk : Int32) (pl : Int32) (va : Int32) (fa : Int32) (to : Int32) (um : Int32) (te : Int32) (hd : Int32) (wr : Int32) (a0 : Nat → Int32) (a1 : Nat → Int32) (a2 : Nat → Int32) (a3 : Nat → Int32) (a4 : Nat → Int32) (a5 : Nat → Int32) (a6 : Nat → Int32) (a7 : Nat → Int32) (a8 : Nat → Int32) (a9 : Nat → Int32) (a10 : Nat → Int32) (a11 : Nat → Int32) (a12 : Nat → Int32) (a13 : Nat → Int32) (z : Nat → Int32) : ai_pa (HP V ((th, tr, ty, nx, tk, pl, va, fa, to, um, te, hd, wr), (a0, a1, a2, a3, a4, a5, a6, a7, a8, a9, a10, a11, a12, a13))) 75 0 z = some (HP V ((th, tr, ty, nx, tk, pl, va, fa, to, um, te, hd, wr), (a0, a1, a2, a3, a4, a5, a6, a7, a8, a9, a10, a11, z, a13))) := Eq.trans (Eq.refl _) (Eq.refl _)
theorem gd_23 (V : sv_V) (th : Int32) (tr : Int64) (ty : Int32) (nx : Int32) (tk : Int32) (pl : Int32) (va : Int32) (fa : Int32) (to : Int32) (um : Int32) (te : Int32) (hd : Int32) (wr : Int32) (a0 : Nat → Int32) (a1 : Nat → Int32) (a2 : Nat → Int32) (a3 : Nat → Int32) (a4 : Nat → Int32) (a5 : Nat → Int32) (a6 : Nat → Int32) (a7 : Nat → Int32) (a8 : Nat → Int32) (a9 : Nat → Int32) (a10 : Nat → Int32) (a11 : Nat → Int32) (a12 : Nat → Int32) (a13 : Nat → Int32) : ai_gf (HP V ((th, tr, ty, nx, tk, pl, va, fa, to, um, te, hd, wr), (a0, a1, a2, a3, a4, a5, a6, a7, a8, a9, a10, a11, a12, a13))) 62 6 23 = some (.int te) := Eq.trans (Eq.refl _) (Eq.refl _)
theorem pd_23 (V : sv_V) (th : Int32) (tr : Int64) (ty : Int32) (nx : Int32) (tk : Int32) (pl : Int32) (va : Int32) (fa : Int32) (to : Int32) (um : Int32) (te : Int32) (hd : Int32) (wr : Int32) (a0 : Nat → Int32) (a1 : Nat → Int32) (a2 : Nat → Int32) (a3 : Nat → Int32) (a4 : Nat → Int32) (a5 : Nat → Int32) (a6 : Nat → Int32) (a7 : Nat → Int32) (a8 : Nat → Int32) (a9 : Nat → Int32) (a10 : Nat → Int32) (a11 : Nat → Int32) (a12 : Nat → Int32) (a13 : Nat → Int32) (z : Int32) : ai_pf (HP V ((th, tr, ty, nx, tk, pl, va, fa, to, um, te, hd, wr), (a0, a1, a2, a3, a4, a5, a6, a7, a8, a9, a10, a11, a12, a13))) 62 6 23 (.int z) = some (HP V ((th, tr, ty, nx, tk, pl, va, fa, to, um, z, hd, wr), (a0, a1, a2, a3, a4, a5, a6, a7, a8, a9, a10, a11, a12, a13))) := Eq.trans (Eq.refl _) (Eq.refl _)
theorem gd_24 (V : sv_V) (th : Int32) (tr : Int64) (ty : Int32) (nx : Int32) (tk : Int32) (pl : Int32) (va : Int32) (fa : Int32) (to : Int32) (um : Int32) (te : Int32) (hd : Int32) (wr : Int32) (a0 : Nat → Int32) (a1 : Nat → Int32) (a2 : Nat → Int32) (a3 : Nat → Int32) (a4 : Nat → Int32) (a5 : Nat → Int32) (a6 : Nat → Int32) (a7 : Nat → Int32) (a8 : Nat → Int32) (a9 : Nat → Int32) (a10 : Nat → Int32) (a11 : Nat → Int32) (a12 : Nat → Int32) (a13 : Nat → Int32) : ai_gf (HP V ((th, tr, ty, nx, tk, pl, va, fa, to, um, te, hd, wr), (a0, a1, a2, a3, a4, a5, a6, a7, a8, a9, a10, a11, a12, a13))) 62 6 24 = some (.int hd) := Eq.trans (Eq.refl _) (Eq.refl _)
theorem pd_24 (V : sv_V) (th : Int32) (tr : Int64) (ty : Int32) (nx : Int32) (tk : Int32) (pl : Int32) (va : Int32) (fa : Int32) (to : Int32) (um : Int32) (te : Int32) (hd : Int32) (wr : Int32) (a0 : Nat → Int32) (a1 : Nat → Int32) (a2 : Nat → Int32) (a3 : Nat → Int32) (a4 : Nat → Int32) (a5 : Nat → Int32) (a6 : Nat → Int32) (a7 : Nat → Int32) (a8 : Nat → Int32) (a9 : Nat → Int32) (a10 : Nat → Int32) (a11 : Nat → Int32) (a12 : Nat → Int32) (a13 : Nat → Int32) (z : Int32) : ai_pf (HP V ((th, tr, ty, nx, tk, pl, va, fa, to, um, te, hd, wr), (a0, a1, a2, a3, a4, a5, a6, a7, a8, a9, a10, a11, a12, a13))) 62 6 24 (.int z) = some (HP V ((th, tr, ty, nx, tk, pl, va, fa, to, um, te, z, wr), (a0, a1, a2, a3, a4, a5, a6, a7, a8, a9, a10, a11, a12, a13))) := Eq.trans (Eq.refl _) (Eq.refl _)
theorem gd_25 (V : sv_V) (th : Int32) (tr : Int64) (ty : Int32) (nx : Int32) (tk : Int32) (pl : Int32) (va : Int32) (fa : Int32) (to : Int32) (um : Int32) (te : Int32) (hd : Int32) (wr : Int32) (a0 : Nat → Int32) (a1 : Nat → Int32) (a2 : Nat → Int32) (a3 : Nat → Int32) (a4 : Nat → Int32) (a5 : Nat → Int32) (a6 : Nat → Int32) (a7 : Nat → Int32) (a8 : Nat → Int32) (a9 : Nat → Int32) (a10 : Nat → Int32) (a11 : Nat → Int32) (a12 : Nat → Int32) (a13 : Nat → Int32) : ai_gf (HP V ((th, tr, ty, nx, tk, pl, va, fa, to, um, te, hd, wr), (a0, a1, a2, a3, a4, a5, a6, a7, a8, a9, a10, a11, a12, a13))) 62 6 25 = some (.int wr) := Eq.trans (Eq.refl _) (Eq.refl _)
theorem pd_25 (V : sv_V) (th : Int32) (tr : Int64) (ty : Int32) (nx : Int32) (tk : Int32) (pl : Int32) (va : Int32) (fa : Int32) (to : Int32) (um : Int32) (te : Int32) (hd : Int32) (wr : Int32) (a0 : Nat → Int32) (a1 : Nat → Int32) (a2 : Nat → Int32) (a3 : Nat → Int32) (a4 : Nat → Int32) (a5 : Nat → Int32) (a6 : Nat → Int32) (a7 : Nat → Int32) (a8 : Nat → Int32) (a9 : Nat → Int32) (a10 : Nat → Int32) (a11 : Nat → Int32) (a12 : Nat → Int32) (a13 : Nat → Int32) (z : Int32) : ai_pf (HP V ((th, tr, ty, nx, tk, pl, va, fa, to, um, te, hd, wr), (a0, a1, a2, a3, a4, a5, a6, a7, a8, a9, a10, a11, a12, a13))) 62 6 25 (.int z) = some (HP V ((th, tr, ty, nx, tk, pl, va, fa, to, um, te, hd, z), (a0, a1, a2, a3, a4, a5, a6, a7, a8, a9, a10, a11, a12, a13))) := Eq.trans (Eq.refl _) (Eq.refl _)
theorem gd_26 (V : sv_V) (th : Int32) (tr : Int64) (ty : Int32) (nx : Int32) (tk : Int32) (pl : Int32) (va : Int32) (fa : Int32) (to : Int32) (um : Int32) (te : Int32) (hd : Int32) (wr : Int32) (a0 : Nat → Int32) (a1 : Nat → Int32) (a2 : Nat → Int32) (a3 : Nat → Int32) (a4 : Nat → Int32) (a5 : Nat → Int32) (a6 : Nat → Int32) (a7 : Nat → Int32) (a8 : Nat → Int32) (a9 : Nat → Int32) (a10 : Nat → Int32) (a11 : Nat → Int32) (a12 : Nat → Int32) (a13 : Nat → Int32) : ai_gf (HP V ((th, tr, ty, nx, tk, pl, va, fa, to, um, te, hd, wr), (a0, a1, a2, a3, a4, a5, a6, a7, a8, a9, a10, a11, a12, a13))) 62 6 26 = some (.ref 76) := Eq.trans (Eq.refl _) (Eq.refl _)
theorem id_13 (V : sv_V) (th : Int32) (tr : Int64) (ty : Int32) (nx : Int32) (tk : Int32) (pl : Int32) (va : Int32) (fa : Int32) (to : Int32) (um : Int32) (te : Int32) (hd : Int32) (wr : Int32) (a0 : Nat → Int32) (a1 : Nat → Int32) (a2 : Nat → Int32) (a3 : Nat → Int32) (a4 : Nat → Int32) (a5 : Nat → Int32) (a6 : Nat → Int32) (a7 : Nat → Int32) (a8 : Nat → Int32) (a9 : Nat → Int32) (a10 : Nat → Int32) (a11 : Nat → Int32) (a12 : Nat → Int32) (a13 : Nat → Int32) : ai_ia (HP V ((th, tr, ty, nx, tk, pl, va, fa, to, um, te, hd, wr), (a0, a1, a2, a3, a4, a5, a6, a7, a8, a9, a10, a11, a12, a13))) 76 0 = some (6, a13) := Eq.trans (Eq.refl _) (Eq.refl _)
theorem zd_13 (V : sv_V) (th : Int32) (tr : Int64) (ty : Int32) (nx : Int32) (tk : Int32) (pl : Int32) (va : Int32) (fa : Int32) (to : Int32) (um : Int32) (te : Int32) (hd : Int32) (wr : Int32) (a0 : Nat → Int32) (a1 : Nat → Int32) (a2 : Nat → Int32) (a3 : Nat → Int32) (a4 : Nat → Int32) (a5 : Nat → Int32) (a6 : Nat → Int32) (a7 : Nat → Int32) (a8 : Nat → Int32) (a9 : Nat → Int32) (a10 : Nat → Int32) (a11 : Nat → Int32) (a12 : Nat → Int32) (a13 : Nat → Int32) (z : Nat → Int32) : ai_pa (HP V ((th, tr, ty, nx, tk, pl, va, fa, to, um, te, hd, wr), (a0, a1, a2, a3, a4, a5, a6, a7, a8, a9, a10, a11, a12, a13))) 76 0 z = some (HP V ((th, tr, ty, nx, tk, pl, va, fa, to, um, te, hd, wr), (a0, a1, a2, a3, a4, a5, a6, a7, a8, a9, a10, a11, a12, z))) := Eq.trans (Eq.refl _) (Eq.refl _)
end
section
/-! small methods of the class: rows, bits -/
noncomputable def ai_cal2 (S : ai_S) : ai_Cal := ai_call S
def ai_ob {α : Type} (o : Option α) (d : ai_A) (f : α → ai_A) : ai_A := match o with
  | some x => f x
  | none => d
def z_b (c : Prop) [Decidable c] : Int32 := if c then 1 else 0
theorem z10 : ((1 : Int32) = 0) = False := eq_false (by decide)
theorem z01 : ((0 : Int32) = 1) = False := eq_false (by decide)
theorem z_bT [Decidable True] : z_b True = 1 := if_pos trivial
theorem z_bF [Decidable False] : z_b False = 0 := if_neg (fun h => h)
theorem ob_s {α : Type} (x : α) (d : ai_A) (f : α → ai_A) : ai_ob (some x) d f = f x := rfl
theorem z_b_t {c : Prop} [Decidable c] (h : c) : z_b c = 1 := if_pos h
theorem z_b_f {c : Prop} [Decidable c] (h : ¬ c) : z_b c = 0 := if_neg h
/-- at(row, i), i in range -/
theorem x_at (S : ai_S) (q k : Nat) (h : ai_H) (hq : q ≠ 0) : ai_call S 79 [.ref q, .int (nI k)] h = ai_ob (ai_ia h q 0) (ai_cal2 S 79 [.ref q, .int (nI k)] h) fun x => if x.1 ≤ 200 ∧ k < x.1 then some (some (.int (x.2 k)), h) else ai_cal2 S 79 [.ref q, .int (nI k)] h := by
  cases hi : ai_ia h q 0 with
  | none => rfl
  | some x =>
    obtain ⟨n, f⟩ := x
    rw [ob_s]
    by_cases hc : n ≤ 200 ∧ k < n
    · rw [if_pos hc, e_79]
      have h1 : ¬ nI k < 0 := nI_pos (by omega)
      have h2 : ¬ Int32.ofNat n ≤ nI k := nI_ge hc.2 (by omega)
      have h3 := nI_clamp (n := k) (by omega)
      simp only [k_79_0, k_79_1, k_79_2, k_79_3, k_79_4, w_l3, gl_1, vi_i, t_4, w_l5, gl_0, va_r, va_n, t_11, w_ald, t_1, w_c0, t_0, t_23, z10, z01, z_bT, z_bF, true_or, or_true, false_or, or_false, Option.bind_some, Option.toList_some, Option.toList_none, List.cons_append, List.nil_append, List.length_cons, List.length_nil, Nat.zero_add, Nat.reduceAdd, Nat.reduceLeDiff, and_self, and_true, true_and, if_true, if_false, reduceCtorEq, ne_eq, not_false_eq_true, not_true_eq_false, ↓reduceIte, Nat.reduceEqDiff, Bool.not_not, w_len S _ _ _ _ _ _ _ _ _ _ q hq hi, hi, h1, h2, rg_n hc.2 (by omega), h3, hq]
    · rw [if_neg hc]; rfl
/-- put(row, i, v), i in range -/
theorem x_put (S : ai_S) (q k : Nat) (v : Int32) (h : ai_H) (hq : q ≠ 0) : ai_call S 80 [.ref q, .int (nI k), .int v] h = ai_ob (ai_ia h q 0) (ai_cal2 S 80 [.ref q, .int (nI k), .int v] h) fun x => if x.1 ≤ 200 ∧ k < x.1 then (ai_pa h q 0 (upd x.2 k v)).bind (fun h' => some (none, h')) else ai_cal2 S 80 [.ref q, .int (nI k), .int v] h := by
  cases hi : ai_ia h q 0 with
  | none => rfl
  | some x =>
    obtain ⟨n, f⟩ := x
    rw [ob_s]
    by_cases hc : n ≤ 200 ∧ k < n
    · rw [if_pos hc, e_80]
      have h1 : ¬ nI k < 0 := nI_pos (by omega)
      have h2 : ¬ Int32.ofNat n ≤ nI k := nI_ge hc.2 (by omega)
      have h3 := nI_clamp (n := k) (by omega)
      simp only [k_80_0, k_80_1, k_80_2, k_80_3, w_l3, gl_1, vi_i, t_4, w_l5, gl_0, va_r, va_n, t_11, gl_2, w_ast, t_0, t_27, z10, z01, z_bT, z_bF, true_or, or_true, false_or, or_false, Option.bind_some, Option.toList_some, Option.toList_none, List.cons_append, List.nil_append, List.length_cons, List.length_nil, Nat.zero_add, Nat.reduceAdd, Nat.reduceLeDiff, and_self, and_true, true_and, if_true, if_false, reduceCtorEq, ne_eq, not_false_eq_true, not_true_eq_false, ↓reduceIte, Nat.reduceEqDiff, Bool.not_not, w_len S _ _ _ _ _ _ _ _ _ _ q hq hi, hi, h1, h2, rg_n hc.2 (by omega), h3, hq]
    · rw [if_neg hc]; rfl
theorem x_isIn (S : ai_S) (a k : Int32) (h : ai_H) : ai_call S 82 [.int a, .int k] h = some (some (.int (z_b ((a >>> (k &&& 31)) &&& 1 = 1))), h) := by
  rw [e_82]
  by_cases hc : (a >>> (k &&& 31)) &&& 1 = 1
  · simp only [k_82_0, k_82_1, k_82_2, k_82_3, w_l3, gl_0, vi_i, gl_1, w_b16, w_c0, w_b13, t_9, t_1, t_0, t_24_0, t_24_1, z10, z01, z_bT, z_bF, true_or, or_true, false_or, or_false, Option.bind_some, Option.toList_some, Option.toList_none, List.cons_append, List.nil_append, List.length_cons, List.length_nil, Nat.zero_add, Nat.reduceAdd, Nat.reduceLeDiff, and_self, and_true, true_and, if_true, if_false, reduceCtorEq, ne_eq, not_false_eq_true, not_true_eq_false, ↓reduceIte, Nat.reduceEqDiff, Bool.not_not, hc, z_b_t]
  · simp only [k_82_0, k_82_1, k_82_2, k_82_3, w_l3, gl_0, vi_i, gl_1, w_b16, w_c0, w_b13, t_9, t_1, t_0, t_24_0, t_24_1, z10, z01, z_bT, z_bF, true_or, or_true, false_or, or_false, Option.bind_some, Option.toList_some, Option.toList_none, List.cons_append, List.nil_append, List.length_cons, List.length_nil, Nat.zero_add, Nat.reduceAdd, Nat.reduceLeDiff, and_self, and_true, true_and, if_true, if_false, reduceCtorEq, ne_eq, not_false_eq_true, not_true_eq_false, ↓reduceIte, Nat.reduceEqDiff, Bool.not_not, hc, z_b_f]
theorem x_oz (S : ai_S) (a : Int32) (h : ai_H) : ai_call S 83 [.int a] h = some (some (.int (z_b (a = 0 ∨ a = 1))), h) := by
  rw [e_83]
  by_cases hc : a = 0
  · simp only [k_83_0, k_83_1, k_83_2, k_83_3, k_83_4, w_l3, gl_0, vi_i, t_2, w_c0, t_9, t_1, t_0, t_24_0, t_24_1, z10, z01, z_bT, z_bF, true_or, or_true, false_or, or_false, Option.bind_some, Option.toList_some, Option.toList_none, List.cons_append, List.nil_append, List.length_cons, List.length_nil, Nat.zero_add, Nat.reduceAdd, Nat.reduceLeDiff, and_self, and_true, true_and, if_true, if_false, reduceCtorEq, ne_eq, not_false_eq_true, not_true_eq_false, ↓reduceIte, Nat.reduceEqDiff, Bool.not_not, hc, true_or, z_b_t]
  · by_cases hd : a = 1
    · subst hd
      simp only [k_83_0, k_83_1, k_83_2, k_83_3, k_83_4, w_l3, gl_0, vi_i, t_2, w_c0, t_9, t_1, t_0, t_24_0, t_24_1, z10, z01, z_bT, z_bF, true_or, or_true, false_or, or_false, Option.bind_some, Option.toList_some, Option.toList_none, List.cons_append, List.nil_append, List.length_cons, List.length_nil, Nat.zero_add, Nat.reduceAdd, Nat.reduceLeDiff, and_self, and_true, true_and, if_true, if_false, reduceCtorEq, ne_eq, not_false_eq_true, not_true_eq_false, ↓reduceIte, Nat.reduceEqDiff, Bool.not_not, hc, or_true, z_b_t]
    · simp only [k_83_0, k_83_1, k_83_2, k_83_3, k_83_4, w_l3, gl_0, vi_i, t_2, w_c0, t_9, t_1, t_0, t_24_0, t_24_1, z10, z01, z_bT, z_bF, true_or, or_true, false_or, or_false, Option.bind_some, Option.toList_some, Option.toList_none, List.cons_append, List.nil_append, List.length_cons, List.length_nil, Nat.zero_add, Nat.reduceAdd, Nat.reduceLeDiff, and_self, and_true, true_and, if_true, if_false, reduceCtorEq, ne_eq, not_false_eq_true, not_true_eq_false, ↓reduceIte, Nat.reduceEqDiff, Bool.not_not, hc, hd, or_self, z_b_f]
theorem x_isCaller (S : ai_S) (gr : Int32) (vl : Int32) (sg : Int32) (cs : Int32) (pr : Nat → Int32) (ha : Nat → Int32) (la : Nat → Int32) (wa : Nat → Int32) (p : sv_G) (sw : Bool) (t : sv_T) (m : sv_M) (pa : sv_P) (im : Nat → sv_M) (kp : Int32) (he : sv_H) (wl : Nat → Int32) (fe : Nat → Int32) (as : Int64) (D : sv_D) (c : Int32) : ai_call S 30 [.ref 1, .int c] (HP ((gr, vl, sg, cs, pr, ha, la, wa), p, sw, t, m, pa, im, kp, he, wl, fe, as) D) = some (some (.int (z_b (0 ≤ c ∧ c < cs))), HP ((gr, vl, sg, cs, pr, ha, la, wa), p, sw, t, m, pa, im, kp, he, wl, fe, as) D) := by
  rw [e_30]
  by_cases hc : c < 0
  · have h2 : ¬ (0 ≤ c ∧ c < cs) := fun z => Int32.not_le.mpr hc z.1
    simp only [k_30_0, k_30_1, k_30_2, k_30_3, k_30_4, w_l3, gl_1, vi_i, t_4, w_l5, gl_0, va_r, va_n, w_get, gf_x0, gf_g3, gf_p3, t_11, w_c0, t_1, t_0, t_24_0, t_24_1, z10, z01, z_bT, z_bF, true_or, or_true, false_or, or_false, Option.bind_some, Option.toList_some, Option.toList_none, List.cons_append, List.nil_append, List.length_cons, List.length_nil, Nat.zero_add, Nat.reduceAdd, Nat.reduceLeDiff, and_self, and_true, true_and, if_true, if_false, reduceCtorEq, ne_eq, not_false_eq_true, not_true_eq_false, ↓reduceIte, Nat.reduceEqDiff, Bool.not_not, hc, z_b_f h2]
  · have h1 := Int32.not_lt.mp hc
    by_cases hd : cs ≤ c
    · have h2 : ¬ (0 ≤ c ∧ c < cs) := fun z => Int32.not_le.mpr z.2 hd
      simp only [k_30_0, k_30_1, k_30_2, k_30_3, k_30_4, w_l3, gl_1, vi_i, t_4, w_l5, gl_0, va_r, va_n, w_get, gf_x0, gf_g3, gf_p3, t_11, w_c0, t_1, t_0, t_24_0, t_24_1, z10, z01, z_bT, z_bF, true_or, or_true, false_or, or_false, Option.bind_some, Option.toList_some, Option.toList_none, List.cons_append, List.nil_append, List.length_cons, List.length_nil, Nat.zero_add, Nat.reduceAdd, Nat.reduceLeDiff, and_self, and_true, true_and, if_true, if_false, reduceCtorEq, ne_eq, not_false_eq_true, not_true_eq_false, ↓reduceIte, Nat.reduceEqDiff, Bool.not_not, hc, hd, z_b_f h2]
    · have h2 : (0 ≤ c ∧ c < cs) := ⟨h1, Int32.not_le.mp hd⟩
      simp only [k_30_0, k_30_1, k_30_2, k_30_3, k_30_4, w_l3, gl_1, vi_i, t_4, w_l5, gl_0, va_r, va_n, w_get, gf_x0, gf_g3, gf_p3, t_11, w_c0, t_1, t_0, t_24_0, t_24_1, z10, z01, z_bT, z_bF, true_or, or_true, false_or, or_false, Option.bind_some, Option.toList_some, Option.toList_none, List.cons_append, List.nil_append, List.length_cons, List.length_nil, Nat.zero_add, Nat.reduceAdd, Nat.reduceLeDiff, and_self, and_true, true_and, if_true, if_false, reduceCtorEq, ne_eq, not_false_eq_true, not_true_eq_false, ↓reduceIte, Nat.reduceEqDiff, Bool.not_not, hc, hd, z_b_t h2]
theorem x_bruise (S : ai_S) (gr : Int32) (vl : Int32) (sg : Int32) (cs : Int32) (pr : Nat → Int32) (ha : Nat → Int32) (la : Nat → Int32) (wa : Nat → Int32) (p : sv_G) (sw : Bool) (t : sv_T) (m : sv_M) (pa : sv_P) (im : Nat → sv_M) (kp : Int32) (he : sv_H) (wl : Nat → Int32) (fe : Nat → Int32) (as : Int64) (D : sv_D) (t1 : Int32) : ai_call S 40 [.ref 1, .int t1] (HP ((gr, vl, sg, cs, pr, ha, la, wa), p, sw, t, m, pa, im, kp, he, wl, fe, as) D) = some (some (.int (if t1 = 1 then 0 else gr)), HP ((gr, vl, sg, cs, pr, ha, la, wa), p, sw, t, m, pa, im, kp, he, wl, fe, as) D) := by
  rw [e_40]
  by_cases hc : t1 = 1
  · simp only [k_40_0, k_40_1, k_40_2, k_40_3, w_l3, gl_1, vi_i, w_c0, t_9, t_1, w_l5, gl_0, va_r, va_n, w_get, gf_x0, gf_g0, gf_p0, t_0, t_23, z10, z01, z_bT, z_bF, true_or, or_true, false_or, or_false, Option.bind_some, Option.toList_some, Option.toList_none, List.cons_append, List.nil_append, List.length_cons, List.length_nil, Nat.zero_add, Nat.reduceAdd, Nat.reduceLeDiff, and_self, and_true, true_and, if_true, if_false, reduceCtorEq, ne_eq, not_false_eq_true, not_true_eq_false, ↓reduceIte, Nat.reduceEqDiff, Bool.not_not, hc]
  · simp only [k_40_0, k_40_1, k_40_2, k_40_3, w_l3, gl_1, vi_i, w_c0, t_9, t_1, w_l5, gl_0, va_r, va_n, w_get, gf_x0, gf_g0, gf_p0, t_0, t_23, z10, z01, z_bT, z_bF, true_or, or_true, false_or, or_false, Option.bind_some, Option.toList_some, Option.toList_none, List.cons_append, List.nil_append, List.length_cons, List.length_nil, Nat.zero_add, Nat.reduceAdd, Nat.reduceLeDiff, and_self, and_true, true_and, if_true, if_false, reduceCtorEq, ne_eq, not_false_eq_true, not_true_eq_false, ↓reduceIte, Nat.reduceEqDiff, Bool.not_not, hc]
theorem x_warmth (S : ai_S) (g : sv_G) (p : sv_G) (sw : Bool) (t : sv_T) (br : Nat → Int32) (wm : Nat → Int32) (yi : Int32) (lf : Int32) (sh : Int32) (hu : Int32) (ve : Int32) (so : Int32) (pa : sv_P) (im : Nat → sv_M) (kp : Int32) (he : sv_H) (wl : Nat → Int32) (fe : Nat → Int32) (as : Int64) (D : sv_D) (t1 : Int32) : ai_call S 41 [.ref 1, .int t1] (HP (g, p, sw, t, (br, wm, yi, lf, sh, hu, ve, so), pa, im, kp, he, wl, fe, as) D) = some (some (.int (if t1 = 1 then 2 * ve else ve)), HP (g, p, sw, t, (br, wm, yi, lf, sh, hu, ve, so), pa, im, kp, he, wl, fe, as) D) := by
  rw [e_41]
  by_cases hc : t1 = 1
  · simp only [k_41_0, k_41_1, k_41_2, k_41_3, w_l3, gl_1, vi_i, w_c0, t_9, w_l5, gl_0, va_r, va_n, w_get, gf_x3, gf_m6, w_b12, t_1, t_0, t_23, z10, z01, z_bT, z_bF, true_or, or_true, false_or, or_false, Option.bind_some, Option.toList_some, Option.toList_none, List.cons_append, List.nil_append, List.length_cons, List.length_nil, Nat.zero_add, Nat.reduceAdd, Nat.reduceLeDiff, and_self, and_true, true_and, if_true, if_false, reduceCtorEq, ne_eq, not_false_eq_true, not_true_eq_false, ↓reduceIte, Nat.reduceEqDiff, Bool.not_not, hc]
  · simp only [k_41_0, k_41_1, k_41_2, k_41_3, w_l3, gl_1, vi_i, w_c0, t_9, w_l5, gl_0, va_r, va_n, w_get, gf_x3, gf_m6, w_b12, t_1, t_0, t_23, z10, z01, z_bT, z_bF, true_or, or_true, false_or, or_false, Option.bind_some, Option.toList_some, Option.toList_none, List.cons_append, List.nil_append, List.length_cons, List.length_nil, Nat.zero_add, Nat.reduceAdd, Nat.reduceLeDiff, and_self, and_true, true_and, if_true, if_false, reduceCtorEq, ne_eq, not_false_eq_true, not_true_eq_false, ↓reduceIte, Nat.reduceEqDiff, Bool.not_not, hc]
theorem x_countShake (S : ai_S) (gr : Int32) (vl : Int32) (sg : Int32) (cs : Int32) (pr : Nat → Int32) (ha : Nat → Int32) (la : Nat → Int32) (wa : Nat → Int32) (p : sv_G) (sw : Bool) (t : sv_T) (br : Nat → Int32) (wm : Nat → Int32) (yi : Int32) (lf : Int32) (sh : Int32) (hu : Int32) (ve : Int32) (so : Int32) (pa : sv_P) (im : Nat → sv_M) (kp : Int32) (he : sv_H) (wl : Nat → Int32) (fe : Nat → Int32) (as : Int64) (D : sv_D) (c : Int32) : ai_call S 43 [.ref 1, .int c] (HP ((gr, vl, sg, cs, pr, ha, la, wa), p, sw, t, (br, wm, yi, lf, sh, hu, ve, so), pa, im, kp, he, wl, fe, as) D) = some (none, HP ((gr, vl, sg, cs, pr, ha, la, wa), p, sw, t, (br, wm, yi, lf, (if sh + 1 = sg then 0 else sh + 1), hu, ve, (if sh + 1 = sg then c else so)), pa, im, kp, he, wl, fe, as) D) := by
  rw [e_43]
  by_cases hc : sh + 1 = sg
  · simp only [k_43_0, k_43_1, k_43_2, w_l5, gl_0, va_r, va_n, w_get, gf_x3, w_dupi, w_dupr, gf_m4, w_c0, w_b10, w_putI, pf_m4, gf_x0, gf_g2, gf_p2, t_9, w_l3, gl_1, vi_i, pf_m7, t_0, t_27, z10, z01, z_bT, z_bF, true_or, or_true, false_or, or_false, Option.bind_some, Option.toList_some, Option.toList_none, List.cons_append, List.nil_append, List.length_cons, List.length_nil, Nat.zero_add, Nat.reduceAdd, Nat.reduceLeDiff, and_self, and_true, true_and, if_true, if_false, reduceCtorEq, ne_eq, not_false_eq_true, not_true_eq_false, ↓reduceIte, Nat.reduceEqDiff, Bool.not_not, hc]
  · simp only [k_43_0, k_43_1, k_43_2, w_l5, gl_0, va_r, va_n, w_get, gf_x3, w_dupi, w_dupr, gf_m4, w_c0, w_b10, w_putI, pf_m4, gf_x0, gf_g2, gf_p2, t_9, w_l3, gl_1, vi_i, pf_m7, t_0, t_27, z10, z01, z_bT, z_bF, true_or, or_true, false_or, or_false, Option.bind_some, Option.toList_some, Option.toList_none, List.cons_append, List.nil_append, List.length_cons, List.length_nil, Nat.zero_add, Nat.reduceAdd, Nat.reduceLeDiff, and_self, and_true, true_and, if_true, if_false, reduceCtorEq, ne_eq, not_false_eq_true, not_true_eq_false, ↓reduceIte, Nat.reduceEqDiff, Bool.not_not, hc]
/-- he would yield -/
def z_y (ha pr : Nat → Int32) (k : Nat) (b w : Int32) : Prop := ha k ≤ w ∧ pr k ≤ b
theorem x_wouldYield (S : ai_S) (gr : Int32) (vl : Int32) (sg : Int32) (cs : Int32) (pr : Nat → Int32) (ha : Nat → Int32) (la : Nat → Int32) (wa : Nat → Int32) (p : sv_G) (sw : Bool) (t : sv_T) (m : sv_M) (pa : sv_P) (im : Nat → sv_M) (kp : Int32) (he : sv_H) (wl : Nat → Int32) (fe : Nat → Int32) (as : Int64) (D : sv_D) (k : Nat) (b w : Int32) (hk : k < 6) : ai_call S 44 [.ref 1, .int (nI k), .int b, .int w] (HP ((gr, vl, sg, cs, pr, ha, la, wa), p, sw, t, m, pa, im, kp, he, wl, fe, as) D) = some (some (.int (z_b (ha k ≤ w ∧ pr k ≤ b))), HP ((gr, vl, sg, cs, pr, ha, la, wa), p, sw, t, m, pa, im, kp, he, wl, fe, as) D) := by
  rw [e_44]
  have h0 : sq sw + 1 ≠ 0 := Nat.succ_ne_zero _
  have h00 : sq sw + 2 ≠ 0 := Nat.succ_ne_zero _
  by_cases hc : w < ha k
  · have h2 : ¬ (ha k ≤ w ∧ pr k ≤ b) := fun z => Int32.not_le.mpr hc z.1
    simp only [k_44_0, k_44_1, k_44_2, k_44_3, k_44_4, k_44_5, k_44_6, w_l3, gl_3, vi_i, w_l5, gl_0, va_r, va_n, w_get, gf_x0, gf_g5, gf_p5, ia_g5, ia_p5, pz_g5, pz_p5, gl_1, t_19_2, rc_1, t_10, gl_2, gf_g4, gf_p4, ia_g4, ia_p4, pz_g4, pz_p4, w_c0, t_1, t_0, t_24_0, t_24_1, z10, z01, z_bT, z_bF, true_or, or_true, false_or, or_false, Option.bind_some, Option.toList_some, Option.toList_none, List.cons_append, List.nil_append, List.length_cons, List.length_nil, Nat.zero_add, Nat.reduceAdd, Nat.reduceLeDiff, and_self, and_true, true_and, if_true, if_false, reduceCtorEq, ne_eq, not_false_eq_true, not_true_eq_false, ↓reduceIte, Nat.reduceEqDiff, Bool.not_not, x_at, ob_s, hk, h0, h00, hc, z_b_f h2]
  · by_cases hd : b < pr k
    · have h2 : ¬ (ha k ≤ w ∧ pr k ≤ b) := fun z => Int32.not_le.mpr hd z.2
      simp only [k_44_0, k_44_1, k_44_2, k_44_3, k_44_4, k_44_5, k_44_6, w_l3, gl_3, vi_i, w_l5, gl_0, va_r, va_n, w_get, gf_x0, gf_g5, gf_p5, ia_g5, ia_p5, pz_g5, pz_p5, gl_1, t_19_2, rc_1, t_10, gl_2, gf_g4, gf_p4, ia_g4, ia_p4, pz_g4, pz_p4, w_c0, t_1, t_0, t_24_0, t_24_1, z10, z01, z_bT, z_bF, true_or, or_true, false_or, or_false, Option.bind_some, Option.toList_some, Option.toList_none, List.cons_append, List.nil_append, List.length_cons, List.length_nil, Nat.zero_add, Nat.reduceAdd, Nat.reduceLeDiff, and_self, and_true, true_and, if_true, if_false, reduceCtorEq, ne_eq, not_false_eq_true, not_true_eq_false, ↓reduceIte, Nat.reduceEqDiff, Bool.not_not, x_at, ob_s, hk, h0, h00, hc, hd, z_b_f h2]
    · have h2 : (ha k ≤ w ∧ pr k ≤ b) := ⟨Int32.not_lt.mp hc, Int32.not_lt.mp hd⟩
      simp only [k_44_0, k_44_1, k_44_2, k_44_3, k_44_4, k_44_5, k_44_6, w_l3, gl_3, vi_i, w_l5, gl_0, va_r, va_n, w_get, gf_x0, gf_g5, gf_p5, ia_g5, ia_p5, pz_g5, pz_p5, gl_1, t_19_2, rc_1, t_10, gl_2, gf_g4, gf_p4, ia_g4, ia_p4, pz_g4, pz_p4, w_c0, t_1, t_0, t_24_0, t_24_1, z10, z01, z_bT, z_bF, true_or, or_true, false_or, or_false, Option.bind_some, Option.toList_some, Option.toList_none, List.cons_append, List.nil_append, List.length_cons, List.length_nil, Nat.zero_add, Nat.reduceAdd, Nat.reduceLeDiff, and_self, and_true, true_and, if_true, if_false, reduceCtorEq, ne_eq, not_false_eq_true, not_true_eq_false, ↓reduceIte, Nat.reduceEqDiff, Bool.not_not, x_at, ob_s, hk, h0, h00, hc, hd, z_b_t h2]
theorem x_wouldLeave (S : ai_S) (gr : Int32) (vl : Int32) (sg : Int32) (cs : Int32) (pr : Nat → Int32) (ha : Nat → Int32) (la : Nat → Int32) (wa : Nat → Int32) (p : sv_G) (sw : Bool) (t : sv_T) (m : sv_M) (pa : sv_P) (im : Nat → sv_M) (kp : Int32) (he : sv_H) (wl : Nat → Int32) (fe : Nat → Int32) (as : Int64) (D : sv_D) (k : Nat) (b : Int32) (hk : k < 6) : ai_call S 45 [.ref 1, .int (nI k), .int b] (HP ((gr, vl, sg, cs, pr, ha, la, wa), p, sw, t, m, pa, im, kp, he, wl, fe, as) D) = some (some (.int (z_b (pr k + 10 < b))), HP ((gr, vl, sg, cs, pr, ha, la, wa), p, sw, t, m, pa, im, kp, he, wl, fe, as) D) := by
  rw [e_45]
  have h0 : sq sw + 1 ≠ 0 := Nat.succ_ne_zero _
  by_cases hc : b ≤ pr k + 10
  · have h2 : ¬ (pr k + 10 < b) := Int32.not_lt.mpr hc
    simp only [k_45_0, k_45_1, k_45_2, k_45_3, k_45_4, w_l3, gl_2, vi_i, w_l5, gl_0, va_r, va_n, w_get, gf_x0, gf_g4, gf_p4, ia_g4, ia_p4, pz_g4, pz_p4, gl_1, t_19_2, rc_1, w_c1, w_b10, t_13, w_c0, t_1, t_0, t_24_0, t_24_1, z10, z01, z_bT, z_bF, true_or, or_true, false_or, or_false, Option.bind_some, Option.toList_some, Option.toList_none, List.cons_append, List.nil_append, List.length_cons, List.length_nil, Nat.zero_add, Nat.reduceAdd, Nat.reduceLeDiff, and_self, and_true, true_and, if_true, if_false, reduceCtorEq, ne_eq, not_false_eq_true, not_true_eq_false, ↓reduceIte, Nat.reduceEqDiff, Bool.not_not, x_at, ob_s, hk, h0, hc, z_b_f h2]
  · have h2 : (pr k + 10 < b) := Int32.not_le.mp hc
    simp only [k_45_0, k_45_1, k_45_2, k_45_3, k_45_4, w_l3, gl_2, vi_i, w_l5, gl_0, va_r, va_n, w_get, gf_x0, gf_g4, gf_p4, ia_g4, ia_p4, pz_g4, pz_p4, gl_1, t_19_2, rc_1, w_c1, w_b10, t_13, w_c0, t_1, t_0, t_24_0, t_24_1, z10, z01, z_bT, z_bF, true_or, or_true, false_or, or_false, Option.bind_some, Option.toList_some, Option.toList_none, List.cons_append, List.nil_append, List.length_cons, List.length_nil, Nat.zero_add, Nat.reduceAdd, Nat.reduceLeDiff, and_self, and_true, true_and, if_true, if_false, reduceCtorEq, ne_eq, not_false_eq_true, not_true_eq_false, ↓reduceIte, Nat.reduceEqDiff, Bool.not_not, x_at, ob_s, hk, h0, hc, z_b_t h2]
end
section
/-! Moments: become, momentAt, remember, recall, begin -/
def mv_c (q : Nat) (m : sv_M) : va_E := .inr (1, [.ref (q + 2), .ref (q + 3), .int m.2.2.1, .int m.2.2.2.1, .int m.2.2.2.2.1, .int m.2.2.2.2.2.1, .int m.2.2.2.2.2.2.1, .int m.2.2.2.2.2.2.2])
def mv_a (f : Nat → Int32) : va_E := .inl (0, 6, .inl f)
/-- a Moment stands at the cells q, q + 1, q + 2 (places q + 1, ..) -/
def mv_h (h : ai_H) (q : Nat) (m : sv_M) : Prop := h[q]? = some (mv_c q m) ∧ h[q + 1]? = some (mv_a m.1) ∧ h[q + 2]? = some (mv_a m.2.1)
def mv_s (h : ai_H) (q : Nat) (m : sv_M) : ai_H := ((h.set q (mv_c q m)).set (q + 1) (mv_a m.1)).set (q + 2) (mv_a m.2.1)
theorem mv_lt {h : ai_H} {q : Nat} {m : sv_M} (hd : mv_h h q m) : q + 2 < h.length := (List.getElem?_eq_some_iff.mp hd.2.2).1
theorem mv_self {h : ai_H} {q : Nat} {m : sv_M} (hd : mv_h h q m) : mv_s h q m = h := by
  unfold mv_s
  have l := mv_lt hd
  apply List.ext_getElem?
  intro j
  simp only [List.getElem?_set, List.length_set]
  obtain ⟨h1, h2, h3⟩ := hd
  by_cases e2 : q + 2 = j
  · subst e2; rw [if_pos rfl, if_pos (by omega), h3]
  · by_cases e1 : q + 1 = j
    · subst e1; simp [h2]; omega
    · by_cases e0 : q = j
      · subst e0; simp [h1]; omega
      · simp [e0, e1, e2]
theorem mv_at {h : ai_H} {q : Nat} (l : q + 2 < h.length) (m : sv_M) : mv_h (mv_s h q m) q m := by
  unfold mv_s mv_h
  simp only [List.getElem?_set, List.length_set]
  refine ⟨?_, ?_, ?_⟩
  · simp; omega
  · simp; omega
  · simp; omega
theorem mv_off {h : ai_H} {q j : Nat} (m : sv_M) (hj : j < q ∨ q + 2 < j) : (mv_s h q m)[j]? = h[j]? := by
  unfold mv_s
  rw [List.getElem?_set_ne (by omega), List.getElem?_set_ne (by omega), List.getElem?_set_ne (by omega)]
theorem mv_other {h : ai_H} {q s : Nat} {ms : sv_M} (m : sv_M) (hs : mv_h h s ms) (ha : s + 2 < q ∨ q + 2 < s) : mv_h (mv_s h q m) s ms := by
  obtain ⟨h1, h2, h3⟩ := hs
  exact ⟨by rw [mv_off m (by omega)]; exact h1, by rw [mv_off m (by omega)]; exact h2, by rw [mv_off m (by omega)]; exact h3⟩
theorem mv_gf {h : ai_H} {q : Nat} {m : sv_M} (hd : mv_h h q m) : ai_gf h (q + 1) 1 0 = some (.ref (q + 2)) ∧ ai_gf h (q + 1) 1 1 = some (.ref (q + 3)) ∧ ai_gf h (q + 1) 1 2 = some (.int m.2.2.1) ∧ ai_gf h (q + 1) 1 3 = some (.int m.2.2.2.1) ∧ ai_gf h (q + 1) 1 4 = some (.int m.2.2.2.2.1) ∧ ai_gf h (q + 1) 1 5 = some (.int m.2.2.2.2.2.1) ∧ ai_gf h (q + 1) 1 6 = some (.int m.2.2.2.2.2.2.1) ∧ ai_gf h (q + 1) 1 7 = some (.int m.2.2.2.2.2.2.2) := by
  have h1 : ai_cell h (q + 1) = some (mv_c q m) := hd.1
  unfold ai_gf
  rw [h1]
  exact ⟨rfl, rfl, rfl, rfl, rfl, rfl, rfl, rfl⟩
theorem mv_ia {h : ai_H} {q : Nat} {m : sv_M} (hd : mv_h h q m) : ai_ia h (q + 2) 0 = some (6, m.1) ∧ ai_ia h (q + 3) 0 = some (6, m.2.1) := by
  have h2 : ai_cell h (q + 2) = some (mv_a m.1) := hd.2.1
  have h3 : ai_cell h (q + 3) = some (mv_a m.2.1) := hd.2.2
  unfold ai_ia
  rw [h2, h3]
  exact ⟨rfl, rfl⟩
theorem mv_ss (h : ai_H) (q : Nat) (m m' : sv_M) : mv_s (mv_s h q m) q m' = mv_s h q m' := by
  unfold mv_s
  apply List.ext_getElem?
  intro j
  simp only [List.getElem?_set, List.length_set]
  by_cases e2 : q + 2 = j
  · simp [e2]
  · by_cases e1 : q + 1 = j
    · simp [e1, e2]
    · by_cases e0 : q = j
      · simp [e0, e1, e2]
      · simp [e0, e1, e2]
theorem mv_pf {h : ai_H} {q : Nat} (l : q + 2 < h.length) (a b : Nat → Int32) (y f k u v o z : Int32) :
    ai_pf (mv_s h q (a, b, y, f, k, u, v, o)) (q + 1) 1 2 (.int z) = some (mv_s h q (a, b, z, f, k, u, v, o)) ∧
    ai_pf (mv_s h q (a, b, y, f, k, u, v, o)) (q + 1) 1 3 (.int z) = some (mv_s h q (a, b, y, z, k, u, v, o)) ∧
    ai_pf (mv_s h q (a, b, y, f, k, u, v, o)) (q + 1) 1 4 (.int z) = some (mv_s h q (a, b, y, f, z, u, v, o)) ∧
    ai_pf (mv_s h q (a, b, y, f, k, u, v, o)) (q + 1) 1 5 (.int z) = some (mv_s h q (a, b, y, f, k, z, v, o)) ∧
    ai_pf (mv_s h q (a, b, y, f, k, u, v, o)) (q + 1) 1 6 (.int z) = some (mv_s h q (a, b, y, f, k, u, z, o)) ∧
    ai_pf (mv_s h q (a, b, y, f, k, u, v, o)) (q + 1) 1 7 (.int z) = some (mv_s h q (a, b, y, f, k, u, v, z)) := by
  have h1 : ai_cell (mv_s h q (a, b, y, f, k, u, v, o)) (q + 1) = some (mv_c q (a, b, y, f, k, u, v, o)) := (mv_at l _).1
  have hs : ∀ m' : sv_M, m'.1 = a → m'.2.1 = b → (mv_s h q (a, b, y, f, k, u, v, o)).set q (mv_c q m') = mv_s h q m' := by
    intro m' e1 e2
    subst e1
    subst e2
    unfold mv_s
    apply List.ext_getElem?
    intro j
    simp only [List.getElem?_set, List.length_set]
    by_cases e2 : q + 2 = j
    · have e3 : ¬ q = j := by omega
      simp [e2, e3]
    · by_cases e1 : q + 1 = j
      · have e3 : ¬ q = j := by omega
        simp [e1, e2, e3]
      · by_cases e0 : q = j
        · simp [e0, e1, e2]
        · simp [e0, e1, e2]
  unfold ai_pf
  rw [h1]
  exact ⟨congrArg some (hs (a, b, z, f, k, u, v, o) rfl rfl), congrArg some (hs (a, b, y, z, k, u, v, o) rfl rfl), congrArg some (hs (a, b, y, f, z, u, v, o) rfl rfl), congrArg some (hs (a, b, y, f, k, z, v, o) rfl rfl), congrArg some (hs (a, b, y, f, k, u, z, o) rfl rfl), congrArg some (hs (a, b, y, f, k, u, v, z) rfl rfl)⟩
theorem mv_pa {h : ai_H} {q : Nat} (l : q + 2 < h.length) (m : sv_M) (g : Nat → Int32) :
    ai_pa (mv_s h q m) (q + 2) 0 g = some (mv_s h q (g, m.2)) ∧ ai_pa (mv_s h q m) (q + 3) 0 g = some (mv_s h q (m.1, g, m.2.2)) := by
  have h2 : ai_cell (mv_s h q m) (q + 2) = some (mv_a m.1) := (mv_at l _).2.1
  have h3 : ai_cell (mv_s h q m) (q + 3) = some (mv_a m.2.1) := (mv_at l _).2.2
  unfold ai_pa
  rw [h2, h3]
  refine ⟨congrArg some ?_, congrArg some ?_⟩
  · show (mv_s h q m).set (q + 1) (mv_a g) = mv_s h q (g, m.2)
    unfold mv_s
    rw [List.set_comm _ _ (by omega), List.set_set]
    rfl
  · show (mv_s h q m).set (q + 2) (mv_a g) = mv_s h q (m.1, g, m.2.2)
    unfold mv_s
    rw [List.set_set]
    rfl
/-- the first j places of g over f -/
def z_cp (f g : Nat → Int32) : Nat → Nat → Int32
  | 0 => f
  | j + 1 => upd (z_cp f g j) j (g j)
theorem z_cp_at (f g : Nat → Int32) : ∀ (j i : Nat), i < j → z_cp f g j i = g i
  | 0, i, h => absurd h (Nat.not_lt_zero i)
  | j + 1, i, h => by
    unfold z_cp
    by_cases e : i = j
    · subst e; exact pk_us
    · rw [pk_un e]; exact z_cp_at f g j i (by omega)
def z_cpm (md ms : sv_M) : sv_M := (z_cp md.1 ms.1 6, z_cp md.2.1 ms.2.1 6, ms.2.2)
theorem x_become (S : ai_S) (h : ai_H) (d s : Nat) (md ms : sv_M) (hd : mv_h h d md) (hs : mv_h h s ms) (ha : s + 2 < d ∨ d + 2 < s) : ai_call S 4 [.ref (d + 1), .ref (s + 1)] h = some (none, mv_s h d (z_cpm md ms)) := by
  rw [e_4]
  have l := mv_lt hd
  obtain ⟨a0, b0, y0, f0, kk0, u0, v0, o0⟩ := md
  obtain ⟨a1, b1, y1, f1, k1, u1, v1, o1⟩ := ms
  have G := fun m : sv_M => mv_gf (mv_at l m)
  have A := fun m : sv_M => mv_ia (mv_at l m)
  have G1 := fun m : sv_M => mv_gf (mv_other m hs ha)
  have A1 := fun m : sv_M => mv_ia (mv_other m hs ha)
  have key : ∀ n j, j + n = 6 → ai_res S 4 1 [.ref (d + 1), .ref (s + 1), .int (nI j)] [] (mv_s h d (z_cp a0 a1 j, z_cp b0 b1 j, y0, f0, kk0, u0, v0, o0)) = some (none, mv_s h d (z_cpm (a0, b0, y0, f0, kk0, u0, v0, o0) (a1, b1, y1, f1, k1, u1, v1, o1))) := by
    intro n
    induction n with
    | zero =>
      intro j hj
      have e6 : j = 6 := by omega
      subst e6
      have h6 : (6 : Int32) ≤ nI 6 := by decide
      simp only [k_4_1, k_4_7, w_l3, gl_2, vi_i, w_c1, t_11, w_l5, gl_0, va_r, va_n, gl_1, w_get, gf_m2, w_putI, pf_m2, gf_m3, pf_m3, gf_m4, pf_m4, gf_m5, pf_m5, gf_m6, pf_m6, gf_m7, pf_m7, t_27, z10, z01, z_bT, z_bF, true_or, or_true, false_or, or_false, Option.bind_some, Option.toList_some, Option.toList_none, List.cons_append, List.nil_append, List.length_cons, List.length_nil, Nat.zero_add, Nat.reduceAdd, Nat.reduceLeDiff, and_self, and_true, true_and, if_true, if_false, reduceCtorEq, ne_eq, not_false_eq_true, not_true_eq_false, ↓reduceIte, Nat.reduceEqDiff, Bool.not_not, h6, (G _).1, (G _).2.1, (G1 _).2.2.1, (G1 _).2.2.2.1, (G1 _).2.2.2.2.1, (G1 _).2.2.2.2.2.1, (G1 _).2.2.2.2.2.2.1, (G1 _).2.2.2.2.2.2.2, (mv_pf l _ _ _ _ _ _ _ _ _).1, (mv_pf l _ _ _ _ _ _ _ _ _).2.1, (mv_pf l _ _ _ _ _ _ _ _ _).2.2.1, (mv_pf l _ _ _ _ _ _ _ _ _).2.2.2.1, (mv_pf l _ _ _ _ _ _ _ _ _).2.2.2.2.1, (mv_pf l _ _ _ _ _ _ _ _ _).2.2.2.2.2]
      rfl
    | succ n ih =>
      intro j hj
      have hlt : ¬ (6 : Int32) ≤ nI j := nI_ge (b := 6) (by omega) (by decide)
      have hj6 : j < 6 := by omega
      have e2 : d + 2 ≠ 0 := by omega
      have e3 : d + 3 ≠ 0 := by omega
      have e4 : s + 2 ≠ 0 := by omega
      have e5 : s + 3 ≠ 0 := by omega
      rw [k_4_1]
      simp only [k_4_0, k_4_2, k_4_3, k_4_4, k_4_5, k_4_6, k_4_7, w_c0, w_s6, sl_2, ll_2, t_0, w_l3, gl_2, vi_i, w_c1, t_11, w_l5, gl_0, va_r, va_n, w_get, gf_m0, ia_m0, pz_m0, gl_1, t_21_2, rc_4, t_21_3, gf_m1, ia_m1, pz_m1, w_inc, t_1, gf_m2, w_putI, pf_m2, gf_m3, pf_m3, gf_m4, pf_m4, gf_m5, pf_m5, gf_m6, pf_m6, gf_m7, pf_m7, t_27, z10, z01, z_bT, z_bF, true_or, or_true, false_or, or_false, Option.bind_some, Option.toList_some, Option.toList_none, List.cons_append, List.nil_append, List.length_cons, List.length_nil, Nat.zero_add, Nat.reduceAdd, Nat.reduceLeDiff, and_self, and_true, true_and, if_true, if_false, reduceCtorEq, ne_eq, not_false_eq_true, not_true_eq_false, ↓reduceIte, Nat.reduceEqDiff, Bool.not_not, hlt, (G _).1, (G _).2.1, (G1 _).1, (G1 _).2.1, (A _).1, (A _).2, (A1 _).1, (A1 _).2, x_at, x_put, ob_s, e2, e3, e4, e5, hj6, (mv_pa l _ _).1, (mv_pa l _ _).2, nI_1]
      exact ih (j + 1) (by omega)
  have k0 := key 6 0 rfl
  have hz : mv_s h d (z_cp a0 a1 0, z_cp b0 b1 0, y0, f0, kk0, u0, v0, o0) = h := mv_self hd
  rw [hz] at k0
  simp only [k_4_0, w_c0, w_s6, sl_2, ll_2, t_0, z10, z01, z_bT, z_bF, true_or, or_true, false_or, or_false, Option.bind_some, Option.toList_some, Option.toList_none, List.cons_append, List.nil_append, List.length_cons, List.length_nil, Nat.zero_add, Nat.reduceAdd, Nat.reduceLeDiff, and_self, and_true, true_and, if_true, if_false, reduceCtorEq, ne_eq, not_false_eq_true, not_true_eq_false, ↓reduceIte, Nat.reduceEqDiff, Bool.not_not]
  exact k0

/-- the moments of the class as such places -/
theorem mv_mom (g : sv_G) (p : sv_G) (sw : Bool) (t : sv_T) (m : sv_M) (pa : sv_P) (im : Nat → sv_M) (kp : Int32) (he : sv_H) (wl : Nat → Int32) (fe : Nat → Int32) (as : Int64) (D : sv_D) : mv_h (HP (g, p, sw, t, m, pa, im, kp, he, wl, fe, as) D) 13 m := ⟨rfl, rfl, rfl⟩
theorem mv_row (g : sv_G) (p : sv_G) (sw : Bool) (t : sv_T) (m : sv_M) (rw : Nat → sv_M) (nx : Int32) (kn : Int32) (im : Nat → sv_M) (kp : Int32) (he : sv_H) (wl : Nat → Int32) (fe : Nat → Int32) (as : Int64) (D : sv_D) {k : Nat} (hk : k < 10) : mv_h (HP (g, p, sw, t, m, (rw, nx, kn), im, kp, he, wl, fe, as) D) (18 + 3 * k) (rw k) := by
  match k, hk with
  | 0, _ => exact ⟨rfl, rfl, rfl⟩
  | 1, _ => exact ⟨rfl, rfl, rfl⟩
  | 2, _ => exact ⟨rfl, rfl, rfl⟩
  | 3, _ => exact ⟨rfl, rfl, rfl⟩
  | 4, _ => exact ⟨rfl, rfl, rfl⟩
  | 5, _ => exact ⟨rfl, rfl, rfl⟩
  | 6, _ => exact ⟨rfl, rfl, rfl⟩
  | 7, _ => exact ⟨rfl, rfl, rfl⟩
  | 8, _ => exact ⟨rfl, rfl, rfl⟩
  | 9, _ => exact ⟨rfl, rfl, rfl⟩
theorem mv_img (g : sv_G) (p : sv_G) (sw : Bool) (t : sv_T) (m : sv_M) (pa : sv_P) (im : Nat → sv_M) (kp : Int32) (he : sv_H) (wl : Nat → Int32) (fe : Nat → Int32) (as : Int64) (D : sv_D) {k : Nat} (hk : k < 2) : mv_h (HP (g, p, sw, t, m, pa, im, kp, he, wl, fe, as) D) (49 + 3 * k) (im k) := by
  match k, hk with
  | 0, _ => exact ⟨rfl, rfl, rfl⟩
  | 1, _ => exact ⟨rfl, rfl, rfl⟩
theorem ms_mom (g : sv_G) (p : sv_G) (sw : Bool) (t : sv_T) (m : sv_M) (pa : sv_P) (im : Nat → sv_M) (kp : Int32) (he : sv_H) (wl : Nat → Int32) (fe : Nat → Int32) (as : Int64) (D : sv_D) (m' : sv_M) : mv_s (HP (g, p, sw, t, m, pa, im, kp, he, wl, fe, as) D) 13 m' = HP (g, p, sw, t, m', pa, im, kp, he, wl, fe, as) D := rfl
theorem ms_row (g : sv_G) (p : sv_G) (sw : Bool) (t : sv_T) (m : sv_M) (rw : Nat → sv_M) (nx : Int32) (kn : Int32) (im : Nat → sv_M) (kp : Int32) (he : sv_H) (wl : Nat → Int32) (fe : Nat → Int32) (as : Int64) (D : sv_D) {k : Nat} (hk : k < 10) (m' : sv_M) : mv_s (HP (g, p, sw, t, m, (rw, nx, kn), im, kp, he, wl, fe, as) D) (18 + 3 * k) m' = HP (g, p, sw, t, m, (va_up rw k m', nx, kn), im, kp, he, wl, fe, as) D := by
  match k, hk with
  | 0, _ => rfl
  | 1, _ => rfl
  | 2, _ => rfl
  | 3, _ => rfl
  | 4, _ => rfl
  | 5, _ => rfl
  | 6, _ => rfl
  | 7, _ => rfl
  | 8, _ => rfl
  | 9, _ => rfl
theorem ms_img (g : sv_G) (p : sv_G) (sw : Bool) (t : sv_T) (m : sv_M) (pa : sv_P) (im : Nat → sv_M) (kp : Int32) (he : sv_H) (wl : Nat → Int32) (fe : Nat → Int32) (as : Int64) (D : sv_D) {k : Nat} (hk : k < 2) (m' : sv_M) : mv_s (HP (g, p, sw, t, m, pa, im, kp, he, wl, fe, as) D) (49 + 3 * k) m' = HP (g, p, sw, t, m, pa, va_up im k m', kp, he, wl, fe, as) D := by
  match k, hk with
  | 0, _ => rfl
  | 1, _ => rfl
/-- momentAt(row, i) -/
theorem x_momentAt (S : ai_S) (q k : Nat) (h : ai_H) (hq : q ≠ 0) {n : Nat} {f : Nat → Option Nat} (hi : ai_ra h q = some (n, f)) (hn : n ≤ 200) (hk : k < n) : ai_call S 81 [.ref q, .int (nI k)] h = some (some (va_rf (f k)), h) := by
  rw [e_81]
  have h1 : ¬ nI k < 0 := nI_pos (by omega)
  have h2 : ¬ Int32.ofNat n ≤ nI k := nI_ge hk (by omega)
  have h3 := nI_clamp (n := k) (by omega)
  simp only [k_81_0, k_81_1, k_81_2, k_81_3, k_81_4, w_l3, gl_1, vi_i, t_4, w_l5, gl_0, va_r, va_n, t_11, w_aald, t_1, w_null, t_0, t_26r, t_26n, z10, z01, z_bT, z_bF, true_or, or_true, false_or, or_false, Option.bind_some, Option.toList_some, Option.toList_none, List.cons_append, List.nil_append, List.length_cons, List.length_nil, Nat.zero_add, Nat.reduceAdd, Nat.reduceLeDiff, and_self, and_true, true_and, if_true, if_false, reduceCtorEq, ne_eq, not_false_eq_true, not_true_eq_false, ↓reduceIte, Nat.reduceEqDiff, Bool.not_not, w_lenr S _ _ _ _ _ _ _ _ _ _ q hq hi, hi, h1, h2, rg_n hk (show n < 2 ^ 31 by omega), h3]
  cases f k <;> rfl
theorem x_momentAtN (S : ai_S) (q : Nat) (i : Int32) (h : ai_H) (hq : q ≠ 0) {n : Nat} {f : Nat → Option Nat} (hi : ai_ra h q = some (n, f)) (ho : i < 0 ∨ Int32.ofNat n ≤ i) : ai_call S 81 [.ref q, .int i] h = some (some .null, h) := by
  rw [e_81]
  by_cases h1 : i < 0
  · simp only [k_81_0, k_81_1, k_81_2, k_81_3, k_81_4, w_l3, gl_1, vi_i, t_4, w_l5, gl_0, va_r, va_n, t_11, w_aald, t_1, w_null, t_0, t_26r, t_26n, z10, z01, z_bT, z_bF, true_or, or_true, false_or, or_false, Option.bind_some, Option.toList_some, Option.toList_none, List.cons_append, List.nil_append, List.length_cons, List.length_nil, Nat.zero_add, Nat.reduceAdd, Nat.reduceLeDiff, and_self, and_true, true_and, if_true, if_false, reduceCtorEq, ne_eq, not_false_eq_true, not_true_eq_false, ↓reduceIte, Nat.reduceEqDiff, Bool.not_not, h1]
  · have h2 := ho.resolve_left h1
    simp only [k_81_0, k_81_1, k_81_2, k_81_3, k_81_4, w_l3, gl_1, vi_i, t_4, w_l5, gl_0, va_r, va_n, t_11, w_aald, t_1, w_null, t_0, t_26r, t_26n, z10, z01, z_bT, z_bF, true_or, or_true, false_or, or_false, Option.bind_some, Option.toList_some, Option.toList_none, List.cons_append, List.nil_append, List.length_cons, List.length_nil, Nat.zero_add, Nat.reduceAdd, Nat.reduceLeDiff, and_self, and_true, true_and, if_true, if_false, reduceCtorEq, ne_eq, not_false_eq_true, not_true_eq_false, ↓reduceIte, Nat.reduceEqDiff, Bool.not_not, w_lenr S _ _ _ _ _ _ _ _ _ _ q hq hi, h1, h2]
theorem rem10 {a : Nat} (h : a < 2 ^ 31) : nI a - nI a / 10 * 10 = nI (a % 10) := pk_rem h (by decide) (by decide)
theorem io_row2 (g : sv_G) (p : sv_G) (sw : Bool) (t : sv_T) (m : sv_M) (rw : Nat → sv_M) (nx : Int32) (kn : Int32) (im : Nat → sv_M) (kp : Int32) (he : sv_H) (wl : Nat → Int32) (fe : Nat → Int32) (as : Int64) (D : sv_D) {k : Nat} (hk : k < 10) : ai_io (HP (g, p, sw, t, m, (rw, nx, kn), im, kp, he, wl, fe, as) D) (18 + 3 * k + 1) 1 = true := by
  rw [show 18 + 3 * k + 1 = 19 + 3 * k by omega]
  exact io_row _ _ hk
theorem io_img2 (g : sv_G) (p : sv_G) (sw : Bool) (t : sv_T) (m : sv_M) (pa : sv_P) (im : Nat → sv_M) (kp : Int32) (he : sv_H) (wl : Nat → Int32) (fe : Nat → Int32) (as : Int64) (D : sv_D) {k : Nat} (hk : k < 2) : ai_io (HP (g, p, sw, t, m, pa, im, kp, he, wl, fe, as) D) (49 + 3 * k + 1) 1 = true := by
  rw [show 49 + 3 * k + 1 = 50 + 3 * k by omega]
  exact io_img _ _ hk
theorem x_remember (S : ai_S) (g : sv_G) (p : sv_G) (sw : Bool) (t : sv_T) (m : sv_M) (rw : Nat → sv_M) (im : Nat → sv_M) (kp : Int32) (he : sv_H) (wl : Nat → Int32) (fe : Nat → Int32) (as : Int64) (D : sv_D) (k j : Nat) (hk : k < 10) (hj : j ≤ 10) : ai_call S 6 [.ref 17, .ref 14] (HP (g, p, sw, t, m, (rw, nI k, nI j), im, kp, he, wl, fe, as) D) = some (none, HP (g, p, sw, t, m, (va_up rw k (z_cpm (rw k) m), nI ((k + 1) % 10), nI (min 10 (j + 1))), im, kp, he, wl, fe, as) D) := by
  generalize hnx : nI k = nx
  generalize hkn : nI j = kn
  rw [e_6]
  have hb : ai_call S 4 [.ref (18 + 3 * k + 1), .ref 14] (HP (g, p, sw, t, m, (rw, nx, kn), im, kp, he, wl, fe, as) D) = _ := x_become S (HP (g, p, sw, t, m, (rw, nx, kn), im, kp, he, wl, fe, as) D) (18 + 3 * k) 13 (rw k) m (mv_row _ _ _ _ _ _ _ _ _ _ _ _ _ _ _ hk) (mv_mom _ _ _ _ _ _ _ _ _ _ _ _ _) (by omega)
  rw [ms_row _ _ _ _ _ _ _ _ _ _ _ _ _ _ _ hk] at hb
  have hq := x_momentAt S 18 k (HP (g, p, sw, t, m, (rw, nx, kn), im, kp, he, wl, fe, as) D) (by decide) (ra_rows _ _) (by decide) hk
  rw [hx_rows_at hk, show 19 + 3 * k = 18 + 3 * k + 1 by omega, hnx] at hq
  have h10 : (10 : Int32) ≠ 0 := by decide
  have hio := fun g p sw t m rw nx kn im kp he wl fe as => io_row2 g p sw t m rw nx kn im kp he wl fe as D hk
  have hm : (if kn + 1 < 10 then kn + 1 else 10) = nI (min 10 (j + 1)) := by
    rw [← hkn, nI_1]
    show (if nI (j + 1) < nI 10 then nI (j + 1) else nI 10) = nI (min 10 (j + 1))
    by_cases hj2 : j + 1 < 10
    · rw [if_pos (nI_lt hj2 (by decide)), Nat.min_eq_right (by omega)]
    · rw [if_neg (nI_nlt (by omega) (by omega)), Nat.min_eq_left (by omega)]
  have hr : nx + 1 - (nx + 1) / 10 * 10 = nI ((k + 1) % 10) := by
    rw [← hnx, nI_1]
    exact rem10 (by omega)
  simp only [k_6_0, k_6_1, k_6_2, k_6_3, k_6_4, w_l5, gl_0, va_r, va_n, w_get, gf_pa0, ra_rows, gf_pa1, t_21_2, rc_4, w_s8r, w_s8n, sl_2, ll_2, gl_2, t_14n, t_14r, gl_1, t_18_2, rc_0, io_m, w_c0, w_b10, w_c1, w_b19, w_putI, pf_pa1, gf_pa2, w_min, pf_pa2, t_0, t_27, z10, z01, z_bT, z_bF, true_or, or_true, false_or, or_false, Option.bind_some, Option.toList_some, Option.toList_none, List.cons_append, List.nil_append, List.length_cons, List.length_nil, Nat.zero_add, Nat.reduceAdd, Nat.reduceLeDiff, and_self, and_true, true_and, if_true, if_false, reduceCtorEq, ne_eq, not_false_eq_true, not_true_eq_false, ↓reduceIte, Nat.reduceEqDiff, Bool.not_not, hq, va_rf, hio, hb, h10, hm, hr, List.map_cons, List.map_nil, Value.category, List.sum_cons, List.sum_nil]
theorem x_recall (S : ai_S) (g : sv_G) (p : sv_G) (sw : Bool) (t : sv_T) (m : sv_M) (rw : Nat → sv_M) (im : Nat → sv_M) (kp : Int32) (he : sv_H) (wl : Nat → Int32) (fe : Nat → Int32) (as : Int64) (D : sv_D) (k j : Nat) (hk : k < 10) (hj : j < 10) : ai_call S 7 [.ref 17, .ref 14] (HP (g, p, sw, t, m, (rw, nI k, nI (j + 1)), im, kp, he, wl, fe, as) D) = some (none, HP (g, p, sw, t, (z_cpm m (rw ((k + 9) % 10))), (rw, nI ((k + 9) % 10), nI j), im, kp, he, wl, fe, as) D) := by
  generalize hnx : nI k = nx
  generalize hkn : nI (j + 1) = kn
  rw [e_7]
  have hk9 : (k + 9) % 10 < 10 := Nat.mod_lt _ (by decide)
  have hr : nx + 10 - 1 - (nx + 10 - 1) / 10 * 10 = nI ((k + 9) % 10) := by
    rw [← hnx, show (10 : Int32) = nI 10 from rfl, nI_add, show k + 10 = k + 9 + 1 by omega, nI_pred]
    exact rem10 (by omega)
  generalize hz : (k + 9) % 10 = z at hr hk9 ⊢
  have hb : ai_call S 4 [.ref 14, .ref (18 + 3 * z + 1)] (HP (g, p, sw, t, m, (rw, nx, kn), im, kp, he, wl, fe, as) D) = _ := x_become S (HP (g, p, sw, t, m, (rw, nx, kn), im, kp, he, wl, fe, as) D) 13 (18 + 3 * z) m (rw z) (mv_mom _ _ _ _ _ _ _ _ _ _ _ _ _) (mv_row _ _ _ _ _ _ _ _ _ _ _ _ _ _ _ hk9) (by omega)
  rw [ms_mom] at hb
  have hq := x_momentAt S 18 z (HP (g, p, sw, t, m, (rw, nx, kn), im, kp, he, wl, fe, as) D) (by decide) (ra_rows _ _) (by decide) hk9
  rw [hx_rows_at hk9, show 19 + 3 * z = 18 + 3 * z + 1 by omega] at hq
  have h10 : (10 : Int32) ≠ 0 := by decide
  have hp : ¬ kn ≤ 0 := by rw [← hkn]; exact nI_nle (by omega) (by omega)
  have hkj : kn - 1 = nI j := by rw [← hkn]; exact nI_pred j
  simp only [k_7_0, k_7_1, k_7_2, k_7_3, k_7_4, k_7_5, w_l5, gl_0, va_r, va_n, w_get, gf_pa1, w_c1, w_b10, w_c0, w_b11, w_b19, w_s6, sl_2, ll_2, gf_pa0, ra_rows, w_l3, gl_2, vi_i, t_21_2, rc_4, w_s8r, w_s8n, sl_3, ll_3, gf_pa2, t_7, gl_3, t_14n, t_14r, gl_1, t_18_2, rc_0, io_m, w_putI, pf_pa1, w_dupi, w_dupr, pf_pa2, t_0, t_27, z10, z01, z_bT, z_bF, true_or, or_true, false_or, or_false, Option.bind_some, Option.toList_some, Option.toList_none, List.cons_append, List.nil_append, List.length_cons, List.length_nil, Nat.zero_add, Nat.reduceAdd, Nat.reduceLeDiff, and_self, and_true, true_and, if_true, if_false, reduceCtorEq, ne_eq, not_false_eq_true, not_true_eq_false, ↓reduceIte, Nat.reduceEqDiff, Bool.not_not, hq, va_rf, hb, h10, hr, hp, hkj]
end
section
/-! the class: what is done (shakes, opens, lines, winds, consoles, undo), the text's letters, told, counts -/
def z_bit (a : Int32) (k : Nat) : Prop := (a >>> (nI k &&& 31)) &&& 1 = 1
def z_one (k : Nat) : Int32 := (1 : Int32) <<< (nI k &&& 31)
theorem x_decide_y (S : ai_S) (gr : Int32) (vl : Int32) (sg : Int32) (cs : Int32) (pr : Nat → Int32) (ha : Nat → Int32) (la : Nat → Int32) (wa : Nat → Int32) (p : sv_G) (sw : Bool) (t : sv_T) (br : Nat → Int32) (wm : Nat → Int32) (yi : Int32) (lf : Int32) (sh : Int32) (hu : Int32) (ve : Int32) (so : Int32) (pa : sv_P) (im : Nat → sv_M) (kp : Int32) (he : sv_H) (wl : Nat → Int32) (fe : Nat → Int32) (as : Int64) (D : sv_D) (k : Nat) (hk : k < 6) (hy : ha k ≤ wm k ∧ pr k ≤ br k) : ai_call S 42 [.ref 1, .int (nI k)] (HP ((gr, vl, sg, cs, pr, ha, la, wa), p, sw, t, (br, wm, yi, lf, sh, hu, ve, so), pa, im, kp, he, wl, fe, as) D) = some (some (.int 1), HP ((gr, vl, sg, cs, pr, ha, la, wa), p, sw, t, (upd br k 0, upd wm k 0, (yi ||| z_one k), lf, sh, hu, ve, so), pa, im, kp, he, wl, fe, as) D) := by
  rw [e_42]
  simp only [k_42_0, k_42_1, k_42_2, k_42_3, k_42_4, k_42_5, k_42_6, k_42_7, k_42_8, k_42_9, k_42_10, w_l5, gl_0, va_r, va_n, w_get, gf_x3, gf_m0, ia_m0, pz_m0, w_l3, gl_1, vi_i, t_19_2, rc_1, w_s6, sl_2, ll_2, gl_2, gf_m1, ia_m1, pz_m1, t_18_4, rc_0, io_x, t_2, w_dupi, w_dupr, gf_m2, w_c0, w_b15, w_b14, w_putI, pf_m2, t_19_3, t_23, t_18_3, gf_m3, pf_m3, z10, z01, z_bT, z_bF, true_or, or_true, false_or, or_false, Option.bind_some, Option.toList_some, Option.toList_none, List.cons_append, List.nil_append, List.length_cons, List.length_nil, Nat.zero_add, Nat.reduceAdd, Nat.reduceLeDiff, and_self, and_true, true_and, if_true, if_false, reduceCtorEq, ne_eq, not_false_eq_true, not_true_eq_false, ↓reduceIte, Nat.reduceEqDiff, Bool.not_not, x_at, x_put, ob_s, hk, x_wouldYield, z_b_t hy]
  rfl
theorem x_decide_l (S : ai_S) (gr : Int32) (vl : Int32) (sg : Int32) (cs : Int32) (pr : Nat → Int32) (ha : Nat → Int32) (la : Nat → Int32) (wa : Nat → Int32) (p : sv_G) (sw : Bool) (t : sv_T) (br : Nat → Int32) (wm : Nat → Int32) (yi : Int32) (lf : Int32) (sh : Int32) (hu : Int32) (ve : Int32) (so : Int32) (pa : sv_P) (im : Nat → sv_M) (kp : Int32) (he : sv_H) (wl : Nat → Int32) (fe : Nat → Int32) (as : Int64) (D : sv_D) (k : Nat) (hk : k < 6) (hy : ¬ (ha k ≤ wm k ∧ pr k ≤ br k)) (hl : pr k + 10 < br k) : ai_call S 42 [.ref 1, .int (nI k)] (HP ((gr, vl, sg, cs, pr, ha, la, wa), p, sw, t, (br, wm, yi, lf, sh, hu, ve, so), pa, im, kp, he, wl, fe, as) D) = some (some (.int 2), HP ((gr, vl, sg, cs, pr, ha, la, wa), p, sw, t, (br, wm, yi, (lf ||| z_one k), sh, hu, ve, so), pa, im, kp, he, wl, fe, as) D) := by
  rw [e_42]
  simp only [k_42_0, k_42_1, k_42_2, k_42_3, k_42_4, k_42_5, k_42_6, k_42_7, k_42_8, k_42_9, k_42_10, w_l5, gl_0, va_r, va_n, w_get, gf_x3, gf_m0, ia_m0, pz_m0, w_l3, gl_1, vi_i, t_19_2, rc_1, w_s6, sl_2, ll_2, gl_2, gf_m1, ia_m1, pz_m1, t_18_4, rc_0, io_x, t_2, w_dupi, w_dupr, gf_m2, w_c0, w_b15, w_b14, w_putI, pf_m2, t_19_3, t_23, t_18_3, gf_m3, pf_m3, z10, z01, z_bT, z_bF, true_or, or_true, false_or, or_false, Option.bind_some, Option.toList_some, Option.toList_none, List.cons_append, List.nil_append, List.length_cons, List.length_nil, Nat.zero_add, Nat.reduceAdd, Nat.reduceLeDiff, and_self, and_true, true_and, if_true, if_false, reduceCtorEq, ne_eq, not_false_eq_true, not_true_eq_false, ↓reduceIte, Nat.reduceEqDiff, Bool.not_not, x_at, x_put, ob_s, hk, x_wouldYield, x_wouldLeave, z_b_f hy, z_b_t hl]
  rfl
theorem x_decide_n (S : ai_S) (gr : Int32) (vl : Int32) (sg : Int32) (cs : Int32) (pr : Nat → Int32) (ha : Nat → Int32) (la : Nat → Int32) (wa : Nat → Int32) (p : sv_G) (sw : Bool) (t : sv_T) (br : Nat → Int32) (wm : Nat → Int32) (yi : Int32) (lf : Int32) (sh : Int32) (hu : Int32) (ve : Int32) (so : Int32) (pa : sv_P) (im : Nat → sv_M) (kp : Int32) (he : sv_H) (wl : Nat → Int32) (fe : Nat → Int32) (as : Int64) (D : sv_D) (k : Nat) (hk : k < 6) (hy : ¬ (ha k ≤ wm k ∧ pr k ≤ br k)) (hl : ¬ pr k + 10 < br k) : ai_call S 42 [.ref 1, .int (nI k)] (HP ((gr, vl, sg, cs, pr, ha, la, wa), p, sw, t, (br, wm, yi, lf, sh, hu, ve, so), pa, im, kp, he, wl, fe, as) D) = some (some (.int 0), HP ((gr, vl, sg, cs, pr, ha, la, wa), p, sw, t, (br, wm, yi, lf, sh, hu, ve, so), pa, im, kp, he, wl, fe, as) D) := by
  rw [e_42]
  simp only [k_42_0, k_42_1, k_42_2, k_42_3, k_42_4, k_42_5, k_42_6, k_42_7, k_42_8, k_42_9, k_42_10, w_l5, gl_0, va_r, va_n, w_get, gf_x3, gf_m0, ia_m0, pz_m0, w_l3, gl_1, vi_i, t_19_2, rc_1, w_s6, sl_2, ll_2, gl_2, gf_m1, ia_m1, pz_m1, t_18_4, rc_0, io_x, t_2, w_dupi, w_dupr, gf_m2, w_c0, w_b15, w_b14, w_putI, pf_m2, t_19_3, t_23, t_18_3, gf_m3, pf_m3, z10, z01, z_bT, z_bF, true_or, or_true, false_or, or_false, Option.bind_some, Option.toList_some, Option.toList_none, List.cons_append, List.nil_append, List.length_cons, List.length_nil, Nat.zero_add, Nat.reduceAdd, Nat.reduceLeDiff, and_self, and_true, true_and, if_true, if_false, reduceCtorEq, ne_eq, not_false_eq_true, not_true_eq_false, ↓reduceIte, Nat.reduceEqDiff, Bool.not_not, x_at, x_put, ob_s, hk, x_wouldYield, x_wouldLeave, z_b_f hy, z_b_f hl]
/-- a shake, on a Moment: what it answers, the Moment behind it -/
def z_shk (gr sg : Int32) (pr ha br wm : Nat → Int32) (yi lf sh hu ve so : Int32) (k : Nat) (t : Int32) : Int32 × sv_M :=
  if ha k ≤ wm k + (if t = 1 then 2 * ve else ve) ∧ pr k ≤ br k + (if t = 1 then 0 else gr) then
    (1, (upd (upd br k (br k + (if t = 1 then 0 else gr))) k 0, upd (upd wm k (wm k + (if t = 1 then 2 * ve else ve))) k 0, yi ||| z_one k, lf, (if sh + 1 = sg then 0 else sh + 1), (if t = 1 then (if hu + gr < 999 then hu + gr else 999) else hu), ve, (if sh + 1 = sg then nI k else so)))
  else if pr k + 10 < br k + (if t = 1 then 0 else gr) then
    (2, (upd br k (br k + (if t = 1 then 0 else gr)), upd wm k (wm k + (if t = 1 then 2 * ve else ve)), yi, lf ||| z_one k, (if sh + 1 = sg then 0 else sh + 1), (if t = 1 then (if hu + gr < 999 then hu + gr else 999) else hu), ve, (if sh + 1 = sg then nI k else so)))
  else
    (0, (upd br k (br k + (if t = 1 then 0 else gr)), upd wm k (wm k + (if t = 1 then 2 * ve else ve)), yi, lf, (if sh + 1 = sg then 0 else sh + 1), (if t = 1 then (if hu + gr < 999 then hu + gr else 999) else hu), ve, (if sh + 1 = sg then nI k else so)))
theorem x_shakes_bad (S : ai_S) (gr : Int32) (vl : Int32) (sg : Int32) (cs : Int32) (pr : Nat → Int32) (ha : Nat → Int32) (la : Nat → Int32) (wa : Nat → Int32) (p : sv_G) (sw : Bool) (t : sv_T) (m : sv_M) (pa : sv_P) (im : Nat → sv_M) (kp : Int32) (he : sv_H) (wl : Nat → Int32) (fe : Nat → Int32) (as : Int64) (D : sv_D) (c t1 : Int32) (hb : ¬ ((0 ≤ c ∧ c < cs) ∧ (t1 = 0 ∨ t1 = 1))) : ai_call S 34 [.ref 1, .int c, .int t1] (HP ((gr, vl, sg, cs, pr, ha, la, wa), p, sw, t, m, pa, im, kp, he, wl, fe, as) D) = some (some (.int (-1)), HP ((gr, vl, sg, cs, pr, ha, la, wa), p, sw, t, m, pa, im, kp, he, wl, fe, as) D) := by
  rw [e_34]
  by_cases hc : 0 ≤ c ∧ c < cs
  · have ht : ¬ (t1 = 0 ∨ t1 = 1) := fun z => hb ⟨hc, z⟩
    simp only [k_34_0, k_34_1, k_34_2, k_34_3, k_34_4, w_l5, gl_0, va_r, va_n, w_l3, gl_1, vi_i, t_18_2, rc_0, io_x, t_2, gl_2, t_19_1, rc_1, t_3, w_c0, t_23, z10, z01, z_bT, z_bF, true_or, or_true, false_or, or_false, Option.bind_some, Option.toList_some, Option.toList_none, List.cons_append, List.nil_append, List.length_cons, List.length_nil, Nat.zero_add, Nat.reduceAdd, Nat.reduceLeDiff, and_self, and_true, true_and, if_true, if_false, reduceCtorEq, ne_eq, not_false_eq_true, not_true_eq_false, ↓reduceIte, Nat.reduceEqDiff, Bool.not_not, x_isCaller, x_oz, z_b_t hc, z_b_f ht]
  · simp only [k_34_0, k_34_1, k_34_2, k_34_3, k_34_4, w_l5, gl_0, va_r, va_n, w_l3, gl_1, vi_i, t_18_2, rc_0, io_x, t_2, gl_2, t_19_1, rc_1, t_3, w_c0, t_23, z10, z01, z_bT, z_bF, true_or, or_true, false_or, or_false, Option.bind_some, Option.toList_some, Option.toList_none, List.cons_append, List.nil_append, List.length_cons, List.length_nil, Nat.zero_add, Nat.reduceAdd, Nat.reduceLeDiff, and_self, and_true, true_and, if_true, if_false, reduceCtorEq, ne_eq, not_false_eq_true, not_true_eq_false, ↓reduceIte, Nat.reduceEqDiff, Bool.not_not, x_isCaller, x_oz, z_b_f hc]
theorem x_shakes_state (S : ai_S) (gr : Int32) (vl : Int32) (sg : Int32) (cs : Int32) (pr : Nat → Int32) (ha : Nat → Int32) (la : Nat → Int32) (wa : Nat → Int32) (p : sv_G) (sw : Bool) (t : sv_T) (br : Nat → Int32) (wm : Nat → Int32) (yi : Int32) (lf : Int32) (sh : Int32) (hu : Int32) (ve : Int32) (so : Int32) (pa : sv_P) (im : Nat → sv_M) (kp : Int32) (he : sv_H) (wl : Nat → Int32) (fe : Nat → Int32) (as : Int64) (D : sv_D) (k : Nat) (t1 : Int32) (hc : 0 ≤ nI k ∧ nI k < cs) (ht : t1 = 0 ∨ t1 = 1) (hs : ¬ so = -9 ∨ z_bit lf k) : ai_call S 34 [.ref 1, .int (nI k), .int t1] (HP ((gr, vl, sg, cs, pr, ha, la, wa), p, sw, t, (br, wm, yi, lf, sh, hu, ve, so), pa, im, kp, he, wl, fe, as) D) = some (some (.int (-2)), HP ((gr, vl, sg, cs, pr, ha, la, wa), p, sw, t, (br, wm, yi, lf, sh, hu, ve, so), pa, im, kp, he, wl, fe, as) D) := by
  rw [e_34]
  by_cases h9 : so = -9
  · have hl : z_bit lf k := hs.resolve_left (fun z => z h9)
    simp only [k_34_0, k_34_1, k_34_2, k_34_3, k_34_4, k_34_5, k_34_6, k_34_7, k_34_8, w_l5, gl_0, va_r, va_n, w_l3, gl_1, vi_i, t_18_2, rc_0, io_x, t_2, gl_2, t_19_1, rc_1, t_3, w_c0, t_23, w_get, gf_x3, gf_m7, w_c1, t_9, gf_m3, t_19_2, z10, z01, z_bT, z_bF, true_or, or_true, false_or, or_false, Option.bind_some, Option.toList_some, Option.toList_none, List.cons_append, List.nil_append, List.length_cons, List.length_nil, Nat.zero_add, Nat.reduceAdd, Nat.reduceLeDiff, and_self, and_true, true_and, if_true, if_false, reduceCtorEq, ne_eq, not_false_eq_true, not_true_eq_false, ↓reduceIte, Nat.reduceEqDiff, Bool.not_not, x_isCaller, x_oz, z_b_t hc, z_b_t ht, h9, x_isIn, z_b_t (show (lf >>> (nI k &&& 31)) &&& 1 = 1 from hl)]
  · simp only [k_34_0, k_34_1, k_34_2, k_34_3, k_34_4, k_34_5, k_34_6, k_34_7, k_34_8, w_l5, gl_0, va_r, va_n, w_l3, gl_1, vi_i, t_18_2, rc_0, io_x, t_2, gl_2, t_19_1, rc_1, t_3, w_c0, t_23, w_get, gf_x3, gf_m7, w_c1, t_9, gf_m3, t_19_2, z10, z01, z_bT, z_bF, true_or, or_true, false_or, or_false, Option.bind_some, Option.toList_some, Option.toList_none, List.cons_append, List.nil_append, List.length_cons, List.length_nil, Nat.zero_add, Nat.reduceAdd, Nat.reduceLeDiff, and_self, and_true, true_and, if_true, if_false, reduceCtorEq, ne_eq, not_false_eq_true, not_true_eq_false, ↓reduceIte, Nat.reduceEqDiff, Bool.not_not, x_isCaller, x_oz, z_b_t hc, z_b_t ht, h9]
set_option maxHeartbeats 4000000 in
theorem x_shakes_ok (S : ai_S) (gr : Int32) (vl : Int32) (sg : Int32) (cs : Int32) (pr : Nat → Int32) (ha : Nat → Int32) (la : Nat → Int32) (wa : Nat → Int32) (p : sv_G) (sw : Bool) (t : sv_T) (br : Nat → Int32) (wm : Nat → Int32) (yi : Int32) (lf : Int32) (sh : Int32) (hu : Int32) (ve : Int32) (so : Int32) (rw : Nat → sv_M) (im : Nat → sv_M) (kp : Int32) (he : sv_H) (wl : Nat → Int32) (fe : Nat → Int32) (as : Int64) (D : sv_D) (k i j : Nat) (t1 : Int32) (hk : k < 6) (hi : i < 10) (hj : j ≤ 10) (hc : 0 ≤ nI k ∧ nI k < cs) (ht : t1 = 0 ∨ t1 = 1) (h9 : so = -9) (hl : ¬ z_bit lf k) : ai_call S 34 [.ref 1, .int (nI k), .int t1] (HP ((gr, vl, sg, cs, pr, ha, la, wa), p, sw, t, (br, wm, yi, lf, sh, hu, ve, so), (rw, nI i, nI j), im, kp, he, wl, fe, as) D) = some (some (.int (z_shk gr sg pr ha br wm yi lf sh hu ve so k t1).1), HP ((gr, vl, sg, cs, pr, ha, la, wa), p, sw, t, (z_shk gr sg pr ha br wm yi lf sh hu ve so k t1).2, (va_up rw i (z_cpm (rw i) (br, wm, yi, lf, sh, hu, ve, so)), nI ((i + 1) % 10), nI (min 10 (j + 1))), im, kp, he, wl, fe, as) D) := by
  rw [e_34]
  have hl' : ¬ ((lf >>> (nI k &&& 31)) &&& 1 = 1) := hl
  unfold z_shk
  rcases ht.symm with rfl | rfl
  · by_cases hy : ha k ≤ wm k + 2 * ve ∧ pr k ≤ br k + 0
    · simp only [k_34_0, k_34_1, k_34_2, k_34_3, k_34_4, k_34_5, k_34_6, k_34_7, k_34_8, k_34_9, k_34_10, k_34_11, k_34_12, k_34_13, k_34_14, k_34_15, k_34_16, k_34_17, k_34_18, k_34_19, k_34_20, w_l5, gl_0, va_r, va_n, w_l3, gl_1, vi_i, t_18_2, rc_0, io_x, t_2, gl_2, t_19_1, rc_1, t_3, w_c0, t_23, w_get, gf_x3, gf_m7, w_c1, t_9, gf_m3, t_19_2, gf_x4, io_pa, w_c2, gf_m5, gf_x0, gf_g0, gf_p0, w_b10, w_min, w_putI, pf_m5, t_0, gf_m0, ia_m0, pz_m0, t_19_3, gf_m1, ia_m1, pz_m1, w_s6, sl_3, ll_3, gl_3, z10, z01, z_bT, z_bF, true_or, or_true, false_or, or_false, Option.bind_some, Option.toList_some, Option.toList_none, List.cons_append, List.nil_append, List.length_cons, List.length_nil, Nat.zero_add, Nat.reduceAdd, Nat.reduceLeDiff, and_self, and_true, true_and, if_true, if_false, reduceCtorEq, ne_eq, not_false_eq_true, not_true_eq_false, ↓reduceIte, Nat.reduceEqDiff, Bool.not_not, x_isCaller, x_oz, z_b_t hc, h9, x_isIn, z_b_f hl', x_remember, hi, hj, x_at, x_put, ob_s, hk, x_bruise, x_warmth, pk_us, x_decide_y, hy, x_countShake, List.map_cons, List.map_nil, Value.category, List.sum_cons, List.sum_nil]
    · by_cases hv : pr k + 10 < br k + 0
      · simp only [k_34_0, k_34_1, k_34_2, k_34_3, k_34_4, k_34_5, k_34_6, k_34_7, k_34_8, k_34_9, k_34_10, k_34_11, k_34_12, k_34_13, k_34_14, k_34_15, k_34_16, k_34_17, k_34_18, k_34_19, k_34_20, w_l5, gl_0, va_r, va_n, w_l3, gl_1, vi_i, t_18_2, rc_0, io_x, t_2, gl_2, t_19_1, rc_1, t_3, w_c0, t_23, w_get, gf_x3, gf_m7, w_c1, t_9, gf_m3, t_19_2, gf_x4, io_pa, w_c2, gf_m5, gf_x0, gf_g0, gf_p0, w_b10, w_min, w_putI, pf_m5, t_0, gf_m0, ia_m0, pz_m0, t_19_3, gf_m1, ia_m1, pz_m1, w_s6, sl_3, ll_3, gl_3, z10, z01, z_bT, z_bF, true_or, or_true, false_or, or_false, Option.bind_some, Option.toList_some, Option.toList_none, List.cons_append, List.nil_append, List.length_cons, List.length_nil, Nat.zero_add, Nat.reduceAdd, Nat.reduceLeDiff, and_self, and_true, true_and, if_true, if_false, reduceCtorEq, ne_eq, not_false_eq_true, not_true_eq_false, ↓reduceIte, Nat.reduceEqDiff, Bool.not_not, x_isCaller, x_oz, z_b_t hc, h9, x_isIn, z_b_f hl', x_remember, hi, hj, x_at, x_put, ob_s, hk, x_bruise, x_warmth, pk_us, x_decide_l, hy, hv, x_countShake, List.map_cons, List.map_nil, Value.category, List.sum_cons, List.sum_nil]
      · simp only [k_34_0, k_34_1, k_34_2, k_34_3, k_34_4, k_34_5, k_34_6, k_34_7, k_34_8, k_34_9, k_34_10, k_34_11, k_34_12, k_34_13, k_34_14, k_34_15, k_34_16, k_34_17, k_34_18, k_34_19, k_34_20, w_l5, gl_0, va_r, va_n, w_l3, gl_1, vi_i, t_18_2, rc_0, io_x, t_2, gl_2, t_19_1, rc_1, t_3, w_c0, t_23, w_get, gf_x3, gf_m7, w_c1, t_9, gf_m3, t_19_2, gf_x4, io_pa, w_c2, gf_m5, gf_x0, gf_g0, gf_p0, w_b10, w_min, w_putI, pf_m5, t_0, gf_m0, ia_m0, pz_m0, t_19_3, gf_m1, ia_m1, pz_m1, w_s6, sl_3, ll_3, gl_3, z10, z01, z_bT, z_bF, true_or, or_true, false_or, or_false, Option.bind_some, Option.toList_some, Option.toList_none, List.cons_append, List.nil_append, List.length_cons, List.length_nil, Nat.zero_add, Nat.reduceAdd, Nat.reduceLeDiff, and_self, and_true, true_and, if_true, if_false, reduceCtorEq, ne_eq, not_false_eq_true, not_true_eq_false, ↓reduceIte, Nat.reduceEqDiff, Bool.not_not, x_isCaller, x_oz, z_b_t hc, h9, x_isIn, z_b_f hl', x_remember, hi, hj, x_at, x_put, ob_s, hk, x_bruise, x_warmth, pk_us, x_decide_n, hy, hv, x_countShake, List.map_cons, List.map_nil, Value.category, List.sum_cons, List.sum_nil]
  · by_cases hy : ha k ≤ wm k + ve ∧ pr k ≤ br k + gr
    · simp only [k_34_0, k_34_1, k_34_2, k_34_3, k_34_4, k_34_5, k_34_6, k_34_7, k_34_8, k_34_9, k_34_10, k_34_11, k_34_12, k_34_13, k_34_14, k_34_15, k_34_16, k_34_17, k_34_18, k_34_19, k_34_20, w_l5, gl_0, va_r, va_n, w_l3, gl_1, vi_i, t_18_2, rc_0, io_x, t_2, gl_2, t_19_1, rc_1, t_3, w_c0, t_23, w_get, gf_x3, gf_m7, w_c1, t_9, gf_m3, t_19_2, gf_x4, io_pa, w_c2, gf_m5, gf_x0, gf_g0, gf_p0, w_b10, w_min, w_putI, pf_m5, t_0, gf_m0, ia_m0, pz_m0, t_19_3, gf_m1, ia_m1, pz_m1, w_s6, sl_3, ll_3, gl_3, z10, z01, z_bT, z_bF, true_or, or_true, false_or, or_false, Option.bind_some, Option.toList_some, Option.toList_none, List.cons_append, List.nil_append, List.length_cons, List.length_nil, Nat.zero_add, Nat.reduceAdd, Nat.reduceLeDiff, and_self, and_true, true_and, if_true, if_false, reduceCtorEq, ne_eq, not_false_eq_true, not_true_eq_false, ↓reduceIte, Nat.reduceEqDiff, Bool.not_not, x_isCaller, x_oz, z_b_t hc, h9, x_isIn, z_b_f hl', x_remember, hi, hj, x_at, x_put, ob_s, hk, x_bruise, x_warmth, pk_us, x_decide_y, hy, x_countShake, List.map_cons, List.map_nil, Value.category, List.sum_cons, List.sum_nil]
    · by_cases hv : pr k + 10 < br k + gr
      · simp only [k_34_0, k_34_1, k_34_2, k_34_3, k_34_4, k_34_5, k_34_6, k_34_7, k_34_8, k_34_9, k_34_10, k_34_11, k_34_12, k_34_13, k_34_14, k_34_15, k_34_16, k_34_17, k_34_18, k_34_19, k_34_20, w_l5, gl_0, va_r, va_n, w_l3, gl_1, vi_i, t_18_2, rc_0, io_x, t_2, gl_2, t_19_1, rc_1, t_3, w_c0, t_23, w_get, gf_x3, gf_m7, w_c1, t_9, gf_m3, t_19_2, gf_x4, io_pa, w_c2, gf_m5, gf_x0, gf_g0, gf_p0, w_b10, w_min, w_putI, pf_m5, t_0, gf_m0, ia_m0, pz_m0, t_19_3, gf_m1, ia_m1, pz_m1, w_s6, sl_3, ll_3, gl_3, z10, z01, z_bT, z_bF, true_or, or_true, false_or, or_false, Option.bind_some, Option.toList_some, Option.toList_none, List.cons_append, List.nil_append, List.length_cons, List.length_nil, Nat.zero_add, Nat.reduceAdd, Nat.reduceLeDiff, and_self, and_true, true_and, if_true, if_false, reduceCtorEq, ne_eq, not_false_eq_true, not_true_eq_false, ↓reduceIte, Nat.reduceEqDiff, Bool.not_not, x_isCaller, x_oz, z_b_t hc, h9, x_isIn, z_b_f hl', x_remember, hi, hj, x_at, x_put, ob_s, hk, x_bruise, x_warmth, pk_us, x_decide_l, hy, hv, x_countShake, List.map_cons, List.map_nil, Value.category, List.sum_cons, List.sum_nil]
      · simp only [k_34_0, k_34_1, k_34_2, k_34_3, k_34_4, k_34_5, k_34_6, k_34_7, k_34_8, k_34_9, k_34_10, k_34_11, k_34_12, k_34_13, k_34_14, k_34_15, k_34_16, k_34_17, k_34_18, k_34_19, k_34_20, w_l5, gl_0, va_r, va_n, w_l3, gl_1, vi_i, t_18_2, rc_0, io_x, t_2, gl_2, t_19_1, rc_1, t_3, w_c0, t_23, w_get, gf_x3, gf_m7, w_c1, t_9, gf_m3, t_19_2, gf_x4, io_pa, w_c2, gf_m5, gf_x0, gf_g0, gf_p0, w_b10, w_min, w_putI, pf_m5, t_0, gf_m0, ia_m0, pz_m0, t_19_3, gf_m1, ia_m1, pz_m1, w_s6, sl_3, ll_3, gl_3, z10, z01, z_bT, z_bF, true_or, or_true, false_or, or_false, Option.bind_some, Option.toList_some, Option.toList_none, List.cons_append, List.nil_append, List.length_cons, List.length_nil, Nat.zero_add, Nat.reduceAdd, Nat.reduceLeDiff, and_self, and_true, true_and, if_true, if_false, reduceCtorEq, ne_eq, not_false_eq_true, not_true_eq_false, ↓reduceIte, Nat.reduceEqDiff, Bool.not_not, x_isCaller, x_oz, z_b_t hc, h9, x_isIn, z_b_f hl', x_remember, hi, hj, x_at, x_put, ob_s, hk, x_bruise, x_warmth, pk_us, x_decide_n, hy, hv, x_countShake, List.map_cons, List.map_nil, Value.category, List.sum_cons, List.sum_nil]
end
section
/-! the class: opens, lines, winds, consoles, undo, told, counts, rates -/
theorem x_opens_s (S : ai_S) (g : sv_G) (p : sv_G) (sw : Bool) (t : sv_T) (br : Nat → Int32) (wm : Nat → Int32) (yi : Int32) (lf : Int32) (sh : Int32) (hu : Int32) (ve : Int32) (so : Int32) (pa : sv_P) (im : Nat → sv_M) (kp : Int32) (he : sv_H) (wl : Nat → Int32) (fe : Nat → Int32) (as : Int64) (D : sv_D) (h9 : so = -9) : ai_call S 35 [.ref 1] (HP (g, p, sw, t, (br, wm, yi, lf, sh, hu, ve, so), pa, im, kp, he, wl, fe, as) D) = some (some (.int (-2)), HP (g, p, sw, t, (br, wm, yi, lf, sh, hu, ve, so), pa, im, kp, he, wl, fe, as) D) := by
  rw [e_35]
  simp only [k_35_0, k_35_1, k_35_2, k_35_3, w_l5, gl_0, va_r, va_n, w_get, gf_x3, gf_m7, w_s6, sl_1, ll_1, w_l3, gl_1, vi_i, w_c1, t_9, t_23, gf_x4, t_18_2, rc_0, io_pa, w_putI, pf_m7, z10, z01, z_bT, z_bF, true_or, or_true, false_or, or_false, Option.bind_some, Option.toList_some, Option.toList_none, List.cons_append, List.nil_append, List.length_cons, List.length_nil, Nat.zero_add, Nat.reduceAdd, Nat.reduceLeDiff, and_self, and_true, true_and, if_true, if_false, reduceCtorEq, ne_eq, not_false_eq_true, not_true_eq_false, ↓reduceIte, Nat.reduceEqDiff, Bool.not_not, h9]
theorem x_opens (S : ai_S) (g : sv_G) (p : sv_G) (sw : Bool) (t : sv_T) (br : Nat → Int32) (wm : Nat → Int32) (yi : Int32) (lf : Int32) (sh : Int32) (hu : Int32) (ve : Int32) (so : Int32) (rw : Nat → sv_M) (im : Nat → sv_M) (kp : Int32) (he : sv_H) (wl : Nat → Int32) (fe : Nat → Int32) (as : Int64) (D : sv_D) (i j : Nat) (hi : i < 10) (hj : j ≤ 10) (h9 : ¬ so = -9) : ai_call S 35 [.ref 1] (HP (g, p, sw, t, (br, wm, yi, lf, sh, hu, ve, so), (rw, nI i, nI j), im, kp, he, wl, fe, as) D) = some (some (.int so), HP (g, p, sw, t, (br, wm, yi, lf, sh, hu, ve, -9), (va_up rw i (z_cpm (rw i) (br, wm, yi, lf, sh, hu, ve, so)), nI ((i + 1) % 10), nI (min 10 (j + 1))), im, kp, he, wl, fe, as) D) := by
  rw [e_35]
  simp only [k_35_0, k_35_1, k_35_2, k_35_3, w_l5, gl_0, va_r, va_n, w_get, gf_x3, gf_m7, w_s6, sl_1, ll_1, w_l3, gl_1, vi_i, w_c1, t_9, t_23, gf_x4, t_18_2, rc_0, io_pa, w_putI, pf_m7, z10, z01, z_bT, z_bF, true_or, or_true, false_or, or_false, Option.bind_some, Option.toList_some, Option.toList_none, List.cons_append, List.nil_append, List.length_cons, List.length_nil, Nat.zero_add, Nat.reduceAdd, Nat.reduceLeDiff, and_self, and_true, true_and, if_true, if_false, reduceCtorEq, ne_eq, not_false_eq_true, not_true_eq_false, ↓reduceIte, Nat.reduceEqDiff, Bool.not_not, h9, x_remember, hi, hj]
theorem x_lines_b (S : ai_S) (g : sv_G) (p : sv_G) (sw : Bool) (t : sv_T) (m : sv_M) (pa : sv_P) (im : Nat → sv_M) (kp : Int32) (he : sv_H) (wl : Nat → Int32) (fe : Nat → Int32) (as : Int64) (D : sv_D) (n : Int32) (hb : n < 0 ∨ 10 ≤ n) : ai_call S 36 [.ref 1, .int n] (HP (g, p, sw, t, m, pa, im, kp, he, wl, fe, as) D) = some (some (.int (-1)), HP (g, p, sw, t, m, pa, im, kp, he, wl, fe, as) D) := by
  rw [e_36]
  by_cases h0 : n < 0
  · simp only [k_36_0, k_36_1, k_36_2, w_l3, gl_1, vi_i, t_4, w_c1, t_10, w_c0, t_23, z10, z01, z_bT, z_bF, true_or, or_true, false_or, or_false, Option.bind_some, Option.toList_some, Option.toList_none, List.cons_append, List.nil_append, List.length_cons, List.length_nil, Nat.zero_add, Nat.reduceAdd, Nat.reduceLeDiff, and_self, and_true, true_and, if_true, if_false, reduceCtorEq, ne_eq, not_false_eq_true, not_true_eq_false, ↓reduceIte, Nat.reduceEqDiff, Bool.not_not, h0]
  · have h1 := hb.resolve_left h0
    simp only [k_36_0, k_36_1, k_36_2, w_l3, gl_1, vi_i, t_4, w_c1, t_10, w_c0, t_23, z10, z01, z_bT, z_bF, true_or, or_true, false_or, or_false, Option.bind_some, Option.toList_some, Option.toList_none, List.cons_append, List.nil_append, List.length_cons, List.length_nil, Nat.zero_add, Nat.reduceAdd, Nat.reduceLeDiff, and_self, and_true, true_and, if_true, if_false, reduceCtorEq, ne_eq, not_false_eq_true, not_true_eq_false, ↓reduceIte, Nat.reduceEqDiff, Bool.not_not, h0, Int32.not_lt.mpr h1]
theorem x_lines_s (S : ai_S) (g : sv_G) (p : sv_G) (sw : Bool) (t : sv_T) (br : Nat → Int32) (wm : Nat → Int32) (yi : Int32) (lf : Int32) (sh : Int32) (hu : Int32) (ve : Int32) (so : Int32) (pa : sv_P) (im : Nat → sv_M) (kp : Int32) (he : sv_H) (wl : Nat → Int32) (fe : Nat → Int32) (as : Int64) (D : sv_D) (n : Int32) (h0 : ¬ n < 0) (h1 : n < 10) (h2 : ve = n) : ai_call S 36 [.ref 1, .int n] (HP (g, p, sw, t, (br, wm, yi, lf, sh, hu, ve, so), pa, im, kp, he, wl, fe, as) D) = some (some (.int (-2)), HP (g, p, sw, t, (br, wm, yi, lf, sh, hu, ve, so), pa, im, kp, he, wl, fe, as) D) := by
  rw [e_36]
  simp only [k_36_0, k_36_1, k_36_2, k_36_3, k_36_4, w_l3, gl_1, vi_i, t_4, w_c1, t_10, w_c0, t_23, w_l5, gl_0, va_r, va_n, w_get, gf_x3, gf_m6, w_s6, sl_2, ll_2, gl_2, t_9, z10, z01, z_bT, z_bF, true_or, or_true, false_or, or_false, Option.bind_some, Option.toList_some, Option.toList_none, List.cons_append, List.nil_append, List.length_cons, List.length_nil, Nat.zero_add, Nat.reduceAdd, Nat.reduceLeDiff, and_self, and_true, true_and, if_true, if_false, reduceCtorEq, ne_eq, not_false_eq_true, not_true_eq_false, ↓reduceIte, Nat.reduceEqDiff, Bool.not_not, h0, h1, h2]
theorem x_lines (S : ai_S) (g : sv_G) (p : sv_G) (sw : Bool) (t : sv_T) (br : Nat → Int32) (wm : Nat → Int32) (yi : Int32) (lf : Int32) (sh : Int32) (hu : Int32) (ve : Int32) (so : Int32) (rw : Nat → sv_M) (im : Nat → sv_M) (kp : Int32) (he : sv_H) (wl : Nat → Int32) (fe : Nat → Int32) (as : Int64) (D : sv_D) (i j : Nat) (hi : i < 10) (hj : j ≤ 10) (n : Int32) (h0 : ¬ n < 0) (h1 : n < 10) (h2 : ¬ ve = n) : ai_call S 36 [.ref 1, .int n] (HP (g, p, sw, t, (br, wm, yi, lf, sh, hu, ve, so), (rw, nI i, nI j), im, kp, he, wl, fe, as) D) = some (some (.int ve), HP (g, p, sw, t, (br, wm, yi, lf, sh, hu, n, so), (va_up rw i (z_cpm (rw i) (br, wm, yi, lf, sh, hu, ve, so)), nI ((i + 1) % 10), nI (min 10 (j + 1))), im, kp, he, wl, fe, as) D) := by
  rw [e_36]
  simp only [k_36_0, k_36_1, k_36_2, k_36_3, k_36_4, k_36_5, k_36_6, w_l3, gl_1, vi_i, t_4, w_c1, t_10, w_c0, t_23, w_l5, gl_0, va_r, va_n, w_get, gf_x3, gf_m6, w_s6, sl_2, ll_2, gl_2, t_9, gf_x4, t_18_2, rc_0, io_pa, w_putI, pf_m6, z10, z01, z_bT, z_bF, true_or, or_true, false_or, or_false, Option.bind_some, Option.toList_some, Option.toList_none, List.cons_append, List.nil_append, List.length_cons, List.length_nil, Nat.zero_add, Nat.reduceAdd, Nat.reduceLeDiff, and_self, and_true, true_and, if_true, if_false, reduceCtorEq, ne_eq, not_false_eq_true, not_true_eq_false, ↓reduceIte, Nat.reduceEqDiff, Bool.not_not, h0, h1, h2, x_remember, hi, hj]
theorem x_winds_s (S : ai_S) (g : sv_G) (p : sv_G) (sw : Bool) (t : sv_T) (br : Nat → Int32) (wm : Nat → Int32) (yi : Int32) (lf : Int32) (sh : Int32) (hu : Int32) (ve : Int32) (so : Int32) (pa : sv_P) (im : Nat → sv_M) (kp : Int32) (he : sv_H) (wl : Nat → Int32) (fe : Nat → Int32) (as : Int64) (D : sv_D) (h0 : sh = 0) : ai_call S 37 [.ref 1] (HP (g, p, sw, t, (br, wm, yi, lf, sh, hu, ve, so), pa, im, kp, he, wl, fe, as) D) = some (some (.int (-2)), HP (g, p, sw, t, (br, wm, yi, lf, sh, hu, ve, so), pa, im, kp, he, wl, fe, as) D) := by
  rw [e_37]
  simp only [k_37_0, k_37_1, k_37_2, k_37_3, w_l5, gl_0, va_r, va_n, w_get, gf_x3, gf_m4, w_s6, sl_1, ll_1, w_l3, gl_1, vi_i, t_3, w_c1, t_23, gf_x4, t_18_2, rc_0, io_pa, w_c0, w_putI, pf_m4, z10, z01, z_bT, z_bF, true_or, or_true, false_or, or_false, Option.bind_some, Option.toList_some, Option.toList_none, List.cons_append, List.nil_append, List.length_cons, List.length_nil, Nat.zero_add, Nat.reduceAdd, Nat.reduceLeDiff, and_self, and_true, true_and, if_true, if_false, reduceCtorEq, ne_eq, not_false_eq_true, not_true_eq_false, ↓reduceIte, Nat.reduceEqDiff, Bool.not_not, h0]
theorem x_winds (S : ai_S) (g : sv_G) (p : sv_G) (sw : Bool) (t : sv_T) (br : Nat → Int32) (wm : Nat → Int32) (yi : Int32) (lf : Int32) (sh : Int32) (hu : Int32) (ve : Int32) (so : Int32) (rw : Nat → sv_M) (im : Nat → sv_M) (kp : Int32) (he : sv_H) (wl : Nat → Int32) (fe : Nat → Int32) (as : Int64) (D : sv_D) (i j : Nat) (hi : i < 10) (hj : j ≤ 10) (h0 : ¬ sh = 0) : ai_call S 37 [.ref 1] (HP (g, p, sw, t, (br, wm, yi, lf, sh, hu, ve, so), (rw, nI i, nI j), im, kp, he, wl, fe, as) D) = some (some (.int sh), HP (g, p, sw, t, (br, wm, yi, lf, 0, hu, ve, so), (va_up rw i (z_cpm (rw i) (br, wm, yi, lf, sh, hu, ve, so)), nI ((i + 1) % 10), nI (min 10 (j + 1))), im, kp, he, wl, fe, as) D) := by
  rw [e_37]
  simp only [k_37_0, k_37_1, k_37_2, k_37_3, w_l5, gl_0, va_r, va_n, w_get, gf_x3, gf_m4, w_s6, sl_1, ll_1, w_l3, gl_1, vi_i, t_3, w_c1, t_23, gf_x4, t_18_2, rc_0, io_pa, w_c0, w_putI, pf_m4, z10, z01, z_bT, z_bF, true_or, or_true, false_or, or_false, Option.bind_some, Option.toList_some, Option.toList_none, List.cons_append, List.nil_append, List.length_cons, List.length_nil, Nat.zero_add, Nat.reduceAdd, Nat.reduceLeDiff, and_self, and_true, true_and, if_true, if_false, reduceCtorEq, ne_eq, not_false_eq_true, not_true_eq_false, ↓reduceIte, Nat.reduceEqDiff, Bool.not_not, h0, x_remember, hi, hj]
theorem x_consoles_b (S : ai_S) (gr : Int32) (vl : Int32) (sg : Int32) (cs : Int32) (pr : Nat → Int32) (ha : Nat → Int32) (la : Nat → Int32) (wa : Nat → Int32) (p : sv_G) (sw : Bool) (t : sv_T) (m : sv_M) (pa : sv_P) (im : Nat → sv_M) (kp : Int32) (he : sv_H) (wl : Nat → Int32) (fe : Nat → Int32) (as : Int64) (D : sv_D) (c : Int32) (hb : ¬ (0 ≤ c ∧ c < cs)) : ai_call S 38 [.ref 1, .int c] (HP ((gr, vl, sg, cs, pr, ha, la, wa), p, sw, t, m, pa, im, kp, he, wl, fe, as) D) = some (some (.int (-1)), HP ((gr, vl, sg, cs, pr, ha, la, wa), p, sw, t, m, pa, im, kp, he, wl, fe, as) D) := by
  rw [e_38]
  simp only [k_38_0, k_38_1, k_38_2, w_l5, gl_0, va_r, va_n, w_l3, gl_1, vi_i, t_18_2, rc_0, io_x, t_3, w_c0, t_23, z10, z01, z_bT, z_bF, true_or, or_true, false_or, or_false, Option.bind_some, Option.toList_some, Option.toList_none, List.cons_append, List.nil_append, List.length_cons, List.length_nil, Nat.zero_add, Nat.reduceAdd, Nat.reduceLeDiff, and_self, and_true, true_and, if_true, if_false, reduceCtorEq, ne_eq, not_false_eq_true, not_true_eq_false, ↓reduceIte, Nat.reduceEqDiff, Bool.not_not, x_isCaller, z_b_f hb]
theorem x_consoles_s (S : ai_S) (gr : Int32) (vl : Int32) (sg : Int32) (cs : Int32) (pr : Nat → Int32) (ha : Nat → Int32) (la : Nat → Int32) (wa : Nat → Int32) (p : sv_G) (sw : Bool) (t : sv_T) (br : Nat → Int32) (wm : Nat → Int32) (yi : Int32) (lf : Int32) (sh : Int32) (hu : Int32) (ve : Int32) (so : Int32) (pa : sv_P) (im : Nat → sv_M) (kp : Int32) (he : sv_H) (wl : Nat → Int32) (fe : Nat → Int32) (as : Int64) (D : sv_D) (k : Nat) (hk : k < 6) (hc : 0 ≤ nI k ∧ nI k < cs) (hs : br k = 0 ∨ z_bit lf k) : ai_call S 38 [.ref 1, .int (nI k)] (HP ((gr, vl, sg, cs, pr, ha, la, wa), p, sw, t, (br, wm, yi, lf, sh, hu, ve, so), pa, im, kp, he, wl, fe, as) D) = some (some (.int (-2)), HP ((gr, vl, sg, cs, pr, ha, la, wa), p, sw, t, (br, wm, yi, lf, sh, hu, ve, so), pa, im, kp, he, wl, fe, as) D) := by
  rw [e_38]
  by_cases h0 : br k = 0
  · simp only [k_38_0, k_38_1, k_38_2, k_38_3, k_38_4, k_38_5, k_38_6, k_38_7, k_38_8, k_38_9, k_38_10, w_l5, gl_0, va_r, va_n, w_l3, gl_1, vi_i, t_18_2, rc_0, io_x, t_3, w_c0, t_23, w_get, gf_x3, gf_m0, ia_m0, pz_m0, t_19_2, rc_1, w_s6, sl_2, ll_2, gl_2, t_2, gf_m3, w_c1, gf_x4, io_pa, t_19_3, z10, z01, z_bT, z_bF, true_or, or_true, false_or, or_false, Option.bind_some, Option.toList_some, Option.toList_none, List.cons_append, List.nil_append, List.length_cons, List.length_nil, Nat.zero_add, Nat.reduceAdd, Nat.reduceLeDiff, and_self, and_true, true_and, if_true, if_false, reduceCtorEq, ne_eq, not_false_eq_true, not_true_eq_false, ↓reduceIte, Nat.reduceEqDiff, Bool.not_not, x_isCaller, z_b_t hc, x_at, ob_s, hk, h0]
  · have hl : (lf >>> (nI k &&& 31)) &&& 1 = 1 := hs.resolve_left h0
    simp only [k_38_0, k_38_1, k_38_2, k_38_3, k_38_4, k_38_5, k_38_6, k_38_7, k_38_8, k_38_9, k_38_10, w_l5, gl_0, va_r, va_n, w_l3, gl_1, vi_i, t_18_2, rc_0, io_x, t_3, w_c0, t_23, w_get, gf_x3, gf_m0, ia_m0, pz_m0, t_19_2, rc_1, w_s6, sl_2, ll_2, gl_2, t_2, gf_m3, w_c1, gf_x4, io_pa, t_19_3, z10, z01, z_bT, z_bF, true_or, or_true, false_or, or_false, Option.bind_some, Option.toList_some, Option.toList_none, List.cons_append, List.nil_append, List.length_cons, List.length_nil, Nat.zero_add, Nat.reduceAdd, Nat.reduceLeDiff, and_self, and_true, true_and, if_true, if_false, reduceCtorEq, ne_eq, not_false_eq_true, not_true_eq_false, ↓reduceIte, Nat.reduceEqDiff, Bool.not_not, x_isCaller, z_b_t hc, x_at, ob_s, hk, h0, x_isIn, z_b_t hl]
theorem x_consoles (S : ai_S) (gr : Int32) (vl : Int32) (sg : Int32) (cs : Int32) (pr : Nat → Int32) (ha : Nat → Int32) (la : Nat → Int32) (wa : Nat → Int32) (p : sv_G) (sw : Bool) (t : sv_T) (br : Nat → Int32) (wm : Nat → Int32) (yi : Int32) (lf : Int32) (sh : Int32) (hu : Int32) (ve : Int32) (so : Int32) (rw : Nat → sv_M) (im : Nat → sv_M) (kp : Int32) (he : sv_H) (wl : Nat → Int32) (fe : Nat → Int32) (as : Int64) (D : sv_D) (k i j : Nat) (hk : k < 6) (hi : i < 10) (hj : j ≤ 10) (hc : 0 ≤ nI k ∧ nI k < cs) (h0 : ¬ br k = 0) (hl : ¬ z_bit lf k) : ai_call S 38 [.ref 1, .int (nI k)] (HP ((gr, vl, sg, cs, pr, ha, la, wa), p, sw, t, (br, wm, yi, lf, sh, hu, ve, so), (rw, nI i, nI j), im, kp, he, wl, fe, as) D) = some (some (.int (br k)), HP ((gr, vl, sg, cs, pr, ha, la, wa), p, sw, t, (upd br k 0, wm, yi, lf, sh, hu, ve, so), (va_up rw i (z_cpm (rw i) (br, wm, yi, lf, sh, hu, ve, so)), nI ((i + 1) % 10), nI (min 10 (j + 1))), im, kp, he, wl, fe, as) D) := by
  rw [e_38]
  have hl' : ¬ ((lf >>> (nI k &&& 31)) &&& 1 = 1) := hl
  simp only [k_38_0, k_38_1, k_38_2, k_38_3, k_38_4, k_38_5, k_38_6, k_38_7, k_38_8, k_38_9, k_38_10, w_l5, gl_0, va_r, va_n, w_l3, gl_1, vi_i, t_18_2, rc_0, io_x, t_3, w_c0, t_23, w_get, gf_x3, gf_m0, ia_m0, pz_m0, t_19_2, rc_1, w_s6, sl_2, ll_2, gl_2, t_2, gf_m3, w_c1, gf_x4, io_pa, t_19_3, z10, z01, z_bT, z_bF, true_or, or_true, false_or, or_false, Option.bind_some, Option.toList_some, Option.toList_none, List.cons_append, List.nil_append, List.length_cons, List.length_nil, Nat.zero_add, Nat.reduceAdd, Nat.reduceLeDiff, and_self, and_true, true_and, if_true, if_false, reduceCtorEq, ne_eq, not_false_eq_true, not_true_eq_false, ↓reduceIte, Nat.reduceEqDiff, Bool.not_not, x_isCaller, z_b_t hc, x_at, x_put, ob_s, hk, h0, x_isIn, z_b_f hl', x_remember, hi, hj]
theorem x_undo_s (S : ai_S) (g : sv_G) (p : sv_G) (sw : Bool) (t : sv_T) (m : sv_M) (rw : Nat → sv_M) (nx : Int32) (kn : Int32) (im : Nat → sv_M) (kp : Int32) (he : sv_H) (wl : Nat → Int32) (fe : Nat → Int32) (as : Int64) (D : sv_D) (h0 : kn = 0) : ai_call S 39 [.ref 1] (HP (g, p, sw, t, m, (rw, nx, kn), im, kp, he, wl, fe, as) D) = some (some (.int (-2)), HP (g, p, sw, t, m, (rw, nx, kn), im, kp, he, wl, fe, as) D) := by
  rw [e_39]
  simp only [k_39_0, k_39_1, k_39_2, k_39_3, w_l5, gl_0, va_r, va_n, w_get, gf_x4, gf_pa2, t_3, w_c1, t_23, gf_x3, t_18_2, rc_0, io_pa, z10, z01, z_bT, z_bF, true_or, or_true, false_or, or_false, Option.bind_some, Option.toList_some, Option.toList_none, List.cons_append, List.nil_append, List.length_cons, List.length_nil, Nat.zero_add, Nat.reduceAdd, Nat.reduceLeDiff, and_self, and_true, true_and, if_true, if_false, reduceCtorEq, ne_eq, not_false_eq_true, not_true_eq_false, ↓reduceIte, Nat.reduceEqDiff, Bool.not_not, h0]
theorem x_undo (S : ai_S) (g : sv_G) (p : sv_G) (sw : Bool) (t : sv_T) (m : sv_M) (rw : Nat → sv_M) (im : Nat → sv_M) (kp : Int32) (he : sv_H) (wl : Nat → Int32) (fe : Nat → Int32) (as : Int64) (D : sv_D) (i j : Nat) (hi : i < 10) (hj : j < 10) : ai_call S 39 [.ref 1] (HP (g, p, sw, t, m, (rw, nI i, nI (j + 1)), im, kp, he, wl, fe, as) D) = some (some (.int (nI j)), HP (g, p, sw, t, (z_cpm m (rw ((i + 9) % 10))), (rw, nI ((i + 9) % 10), nI j), im, kp, he, wl, fe, as) D) := by
  rw [e_39]
  have h0 : ¬ nI (j + 1) = 0 := nI_ne0 (by omega) (by omega)
  simp only [k_39_0, k_39_1, k_39_2, k_39_3, w_l5, gl_0, va_r, va_n, w_get, gf_x4, gf_pa2, t_3, w_c1, t_23, gf_x3, t_18_2, rc_0, io_pa, z10, z01, z_bT, z_bF, true_or, or_true, false_or, or_false, Option.bind_some, Option.toList_some, Option.toList_none, List.cons_append, List.nil_append, List.length_cons, List.length_nil, Nat.zero_add, Nat.reduceAdd, Nat.reduceLeDiff, and_self, and_true, true_and, if_true, if_false, reduceCtorEq, ne_eq, not_false_eq_true, not_true_eq_false, ↓reduceIte, Nat.reduceEqDiff, Bool.not_not, h0, x_recall, hi, hj]
theorem x_forget (S : ai_S) (g : sv_G) (p : sv_G) (sw : Bool) (t : sv_T) (m : sv_M) (pa : sv_P) (im : Nat → sv_M) (kp : Int32) (wh : Nat → Int32) (ti : Nat → Int32) (yd : Nat → Int32) (sz : Int32) (wl : Nat → Int32) (fe : Nat → Int32) (as : Int64) (D : sv_D) : ai_call S 64 [.ref 1] (HP (g, p, sw, t, m, pa, im, kp, (wh, ti, yd, sz), wl, fe, as) D) = some (some (.int sz), HP (g, p, sw, t, m, pa, im, kp, (wh, ti, yd, 0), wl, fe, as) D) := by
  rw [e_64]
  simp only [k_64_0, w_l5, gl_0, va_r, va_n, w_get, gf_x7, gf_he3, w_s6, sl_1, ll_1, w_c0, w_putI, pf_he3, w_l3, gl_1, vi_i, t_23, z10, z01, z_bT, z_bF, true_or, or_true, false_or, or_false, Option.bind_some, Option.toList_some, Option.toList_none, List.cons_append, List.nil_append, List.length_cons, List.length_nil, Nat.zero_add, Nat.reduceAdd, Nat.reduceLeDiff, and_self, and_true, true_and, if_true, if_false, reduceCtorEq, ne_eq, not_false_eq_true, not_true_eq_false, ↓reduceIte, Nat.reduceEqDiff, Bool.not_not]
theorem x_count (S : ai_S) (gr : Int32) (vl : Int32) (sg : Int32) (cs : Int32) (pr : Nat → Int32) (ha : Nat → Int32) (la : Nat → Int32) (wa : Nat → Int32) (p : sv_G) (sw : Bool) (le : Nat → Int32) (ln : Int32) (pc : Int32) (tk : Int32) (tp : Int32) (nu : Int32) (it : Int32) (ns : Int32) (gt : Int32) (vt : Int32) (st : Int32) (m : sv_M) (pa : sv_P) (im : Nat → sv_M) (kp : Int32) (wh : Nat → Int32) (ti : Nat → Int32) (yd : Nat → Int32) (sz : Int32) (wl : Nat → Int32) (fe : Nat → Int32) (as : Int64) (D : sv_D) (w : Int32) : ai_call S 71 [.ref 1, .int w] (HP ((gr, vl, sg, cs, pr, ha, la, wa), p, sw, (le, ln, pc, tk, tp, nu, it, ns, gt, vt, st), m, pa, im, kp, (wh, ti, yd, sz), wl, fe, as) D) = if w = 0 then some (some (.int cs), HP ((gr, vl, sg, cs, pr, ha, la, wa), p, sw, (le, ln, pc, tk, tp, nu, it, ns, gt, vt, st), m, pa, im, kp, (wh, ti, yd, sz), wl, fe, as) D) else if w = 1 then some (some (.int gr), HP ((gr, vl, sg, cs, pr, ha, la, wa), p, sw, (le, ln, pc, tk, tp, nu, it, ns, gt, vt, st), m, pa, im, kp, (wh, ti, yd, sz), wl, fe, as) D) else if w = 2 then some (some (.int vl), HP ((gr, vl, sg, cs, pr, ha, la, wa), p, sw, (le, ln, pc, tk, tp, nu, it, ns, gt, vt, st), m, pa, im, kp, (wh, ti, yd, sz), wl, fe, as) D) else if w = 3 then some (some (.int sg), HP ((gr, vl, sg, cs, pr, ha, la, wa), p, sw, (le, ln, pc, tk, tp, nu, it, ns, gt, vt, st), m, pa, im, kp, (wh, ti, yd, sz), wl, fe, as) D) else if w = 4 then some (some (.int sz), HP ((gr, vl, sg, cs, pr, ha, la, wa), p, sw, (le, ln, pc, tk, tp, nu, it, ns, gt, vt, st), m, pa, im, kp, (wh, ti, yd, sz), wl, fe, as) D) else if w = 5 then some (some (.int ln), HP ((gr, vl, sg, cs, pr, ha, la, wa), p, sw, (le, ln, pc, tk, tp, nu, it, ns, gt, vt, st), m, pa, im, kp, (wh, ti, yd, sz), wl, fe, as) D) else some (some (.int (-1)), HP ((gr, vl, sg, cs, pr, ha, la, wa), p, sw, (le, ln, pc, tk, tp, nu, it, ns, gt, vt, st), m, pa, im, kp, (wh, ti, yd, sz), wl, fe, as) D) := by
  rw [e_71]
  simp only [k_71_0, k_71_1, k_71_2, k_71_3, k_71_4, k_71_5, k_71_6, k_71_7, w_l3, gl_1, vi_i, t_16, sw_n, sw_c, w_l5, gl_0, va_r, va_n, w_get, gf_x0, gf_g3, gf_p3, t_23, gf_g0, gf_p0, gf_g1, gf_p1, gf_g2, gf_p2, gf_x7, gf_he3, gf_x2, gf_t1, w_c0, z10, z01, z_bT, z_bF, true_or, or_true, false_or, or_false, Option.bind_some, Option.toList_some, Option.toList_none, List.cons_append, List.nil_append, List.length_cons, List.length_nil, Nat.zero_add, Nat.reduceAdd, Nat.reduceLeDiff, and_self, and_true, true_and, if_true, if_false, reduceCtorEq, ne_eq, not_false_eq_true, not_true_eq_false, ↓reduceIte, Nat.reduceEqDiff, Bool.not_not]
theorem x_trace (S : ai_S) (g : sv_G) (p : sv_G) (sw : Bool) (t : sv_T) (m : sv_M) (pa : sv_P) (im : Nat → sv_M) (kp : Int32) (he : sv_H) (wl : Nat → Int32) (fe : Nat → Int32) (as : Int64) (D : sv_D) : ai_call S 72 [.ref 1] (HP (g, p, sw, t, m, pa, im, kp, he, wl, fe, as) D) = some (some (.long as), HP (g, p, sw, t, m, pa, im, kp, he, wl, fe, as) D) := by
  rw [e_72]
  simp only [k_72_0, w_l5, gl_0, va_r, va_n, w_get, gf_x10, t_25, z10, z01, z_bT, z_bF, true_or, or_true, false_or, or_false, Option.bind_some, Option.toList_some, Option.toList_none, List.cons_append, List.nil_append, List.length_cons, List.length_nil, Nat.zero_add, Nat.reduceAdd, Nat.reduceLeDiff, and_self, and_true, true_and, if_true, if_false, reduceCtorEq, ne_eq, not_false_eq_true, not_true_eq_false, ↓reduceIte, Nat.reduceEqDiff, Bool.not_not]
theorem x_rateCaller (S : ai_S) (gr : Int32) (vl : Int32) (sg : Int32) (cs : Int32) (pr : Nat → Int32) (ha : Nat → Int32) (la : Nat → Int32) (wa : Nat → Int32) (p : sv_G) (sw : Bool) (t : sv_T) (m : sv_M) (pa : sv_P) (im : Nat → sv_M) (kp : Int32) (he : sv_H) (wl : Nat → Int32) (fe : Nat → Int32) (as : Int64) (D : sv_D) (k : Nat) (hk : k < 6) : ai_call S 73 [.ref 1, .int (nI k)] (HP ((gr, vl, sg, cs, pr, ha, la, wa), p, sw, t, m, pa, im, kp, he, wl, fe, as) D) = some (some (.int (la k)), HP ((gr, vl, sg, cs, pr, ha, la, wa), p, sw, t, m, pa, im, kp, he, wl, fe, as + (1 : Int32).toInt64) D) := by
  rw [e_73]
  have h0 : sq sw + 3 ≠ 0 := Nat.succ_ne_zero _
  simp only [k_73_0, k_73_1, w_l5, gl_0, va_r, va_n, w_dupi, w_dupr, w_get, gf_x10, w_c43, w_ladd, w_putJ, pf_x10, gf_x0, gf_g6, gf_p6, ia_g6, ia_p6, pz_g6, pz_p6, w_l3, gl_1, vi_i, t_19_2, rc_1, t_23, z10, z01, z_bT, z_bF, true_or, or_true, false_or, or_false, Option.bind_some, Option.toList_some, Option.toList_none, List.cons_append, List.nil_append, List.length_cons, List.length_nil, Nat.zero_add, Nat.reduceAdd, Nat.reduceLeDiff, and_self, and_true, true_and, if_true, if_false, reduceCtorEq, ne_eq, not_false_eq_true, not_true_eq_false, ↓reduceIte, Nat.reduceEqDiff, Bool.not_not, x_at, ob_s, hk, h0]
theorem x_rateCount (S : ai_S) (gr : Int32) (vl : Int32) (sg : Int32) (cs : Int32) (pr : Nat → Int32) (ha : Nat → Int32) (la : Nat → Int32) (wa : Nat → Int32) (p : sv_G) (sw : Bool) (t : sv_T) (br : Nat → Int32) (wm : Nat → Int32) (yi : Int32) (lf : Int32) (sh : Int32) (hu : Int32) (ve : Int32) (so : Int32) (pa : sv_P) (im : Nat → sv_M) (kp : Int32) (he : sv_H) (wl : Nat → Int32) (fe : Nat → Int32) (as : Int64) (D : sv_D) (k : Nat) (hk : k < 6) : ai_call S 74 [.ref 1, .int (nI k)] (HP ((gr, vl, sg, cs, pr, ha, la, wa), p, sw, t, (br, wm, yi, lf, sh, hu, ve, so), pa, im, kp, he, wl, fe, as) D) = some (some (.int (la k + wm k)), HP ((gr, vl, sg, cs, pr, ha, la, wa), p, sw, t, (br, wm, yi, lf, sh, hu, ve, so), pa, im, kp, he, wl, fe, as + (10 : Int32).toInt64 + (1 : Int32).toInt64) D) := by
  rw [e_74]
  simp only [k_74_0, k_74_1, k_74_2, w_l5, gl_0, va_r, va_n, w_dupi, w_dupr, w_get, gf_x10, w_c42, w_ladd, w_putJ, pf_x10, w_l3, gl_1, vi_i, t_18_2, rc_0, io_x, gf_x3, gf_m1, ia_m1, pz_m1, t_19_2, rc_1, w_b10, t_23, z10, z01, z_bT, z_bF, true_or, or_true, false_or, or_false, Option.bind_some, Option.toList_some, Option.toList_none, List.cons_append, List.nil_append, List.length_cons, List.length_nil, Nat.zero_add, Nat.reduceAdd, Nat.reduceLeDiff, and_self, and_true, true_and, if_true, if_false, reduceCtorEq, ne_eq, not_false_eq_true, not_true_eq_false, ↓reduceIte, Nat.reduceEqDiff, Bool.not_not, x_rateCaller, x_at, ob_s, hk]
theorem x_rateCharge (S : ai_S) (gr : Int32) (vl : Int32) (sg : Int32) (cs : Int32) (pr : Nat → Int32) (ha : Nat → Int32) (la : Nat → Int32) (wa : Nat → Int32) (p : sv_G) (sw : Bool) (t : sv_T) (br : Nat → Int32) (wm : Nat → Int32) (yi : Int32) (lf : Int32) (sh : Int32) (hu : Int32) (ve : Int32) (so : Int32) (pa : sv_P) (im : Nat → sv_M) (kp : Int32) (he : sv_H) (wl : Nat → Int32) (fe : Nat → Int32) (as : Int64) (D : sv_D) (k : Nat) (hk : k < 6) : ai_call S 75 [.ref 1, .int (nI k)] (HP ((gr, vl, sg, cs, pr, ha, la, wa), p, sw, t, (br, wm, yi, lf, sh, hu, ve, so), pa, im, kp, he, wl, fe, as) D) = some (some (.int (la k - br k)), HP ((gr, vl, sg, cs, pr, ha, la, wa), p, sw, t, (br, wm, yi, lf, sh, hu, ve, so), pa, im, kp, he, wl, fe, as + (100 : Int32).toInt64 + (1 : Int32).toInt64) D) := by
  rw [e_75]
  simp only [k_75_0, k_75_1, k_75_2, w_l5, gl_0, va_r, va_n, w_dupi, w_dupr, w_get, gf_x10, w_c42, w_ladd, w_putJ, pf_x10, w_l3, gl_1, vi_i, t_18_2, rc_0, io_x, gf_x3, gf_m0, ia_m0, pz_m0, t_19_2, rc_1, w_b11, t_23, z10, z01, z_bT, z_bF, true_or, or_true, false_or, or_false, Option.bind_some, Option.toList_some, Option.toList_none, List.cons_append, List.nil_append, List.length_cons, List.length_nil, Nat.zero_add, Nat.reduceAdd, Nat.reduceLeDiff, and_self, and_true, true_and, if_true, if_false, reduceCtorEq, ne_eq, not_false_eq_true, not_true_eq_false, ↓reduceIte, Nat.reduceEqDiff, Bool.not_not, x_rateCaller, x_at, ob_s, hk]
theorem x_rateNuncio (S : ai_S) (gr : Int32) (vl : Int32) (sg : Int32) (cs : Int32) (pr : Nat → Int32) (ha : Nat → Int32) (la : Nat → Int32) (wa : Nat → Int32) (p : sv_G) (sw : Bool) (t : sv_T) (br : Nat → Int32) (wm : Nat → Int32) (yi : Int32) (lf : Int32) (sh : Int32) (hu : Int32) (ve : Int32) (so : Int32) (pa : sv_P) (im : Nat → sv_M) (kp : Int32) (he : sv_H) (wl : Nat → Int32) (fe : Nat → Int32) (as : Int64) (D : sv_D) (k : Nat) (hk : k < 6) : ai_call S 76 [.ref 1, .int (nI k)] (HP ((gr, vl, sg, cs, pr, ha, la, wa), p, sw, t, (br, wm, yi, lf, sh, hu, ve, so), pa, im, kp, he, wl, fe, as) D) = some (some (.int (2 * (la k + wm k))), HP ((gr, vl, sg, cs, pr, ha, la, wa), p, sw, t, (br, wm, yi, lf, sh, hu, ve, so), pa, im, kp, he, wl, fe, as + (1000 : Int32).toInt64 + (10 : Int32).toInt64 + (1 : Int32).toInt64) D) := by
  rw [e_76]
  simp only [k_76_0, k_76_1, w_l5, gl_0, va_r, va_n, w_dupi, w_dupr, w_get, gf_x10, w_c42, w_ladd, w_putJ, pf_x10, w_c0, w_l3, gl_1, vi_i, t_18_2, rc_0, io_x, w_b12, t_23, z10, z01, z_bT, z_bF, true_or, or_true, false_or, or_false, Option.bind_some, Option.toList_some, Option.toList_none, List.cons_append, List.nil_append, List.length_cons, List.length_nil, Nat.zero_add, Nat.reduceAdd, Nat.reduceLeDiff, and_self, and_true, true_and, if_true, if_false, reduceCtorEq, ne_eq, not_false_eq_true, not_true_eq_false, ↓reduceIte, Nat.reduceEqDiff, Bool.not_not, x_rateCount, hk]
theorem x_rateEnvoy (S : ai_S) (gr : Int32) (vl : Int32) (sg : Int32) (cs : Int32) (pr : Nat → Int32) (ha : Nat → Int32) (la : Nat → Int32) (wa : Nat → Int32) (p : sv_G) (sw : Bool) (t : sv_T) (br : Nat → Int32) (wm : Nat → Int32) (yi : Int32) (lf : Int32) (sh : Int32) (hu : Int32) (ve : Int32) (so : Int32) (pa : sv_P) (im : Nat → sv_M) (kp : Int32) (he : sv_H) (wl : Nat → Int32) (fe : Nat → Int32) (as : Int64) (D : sv_D) (k : Nat) (hk : k < 6) : ai_call S 77 [.ref 1, .int (nI k)] (HP ((gr, vl, sg, cs, pr, ha, la, wa), p, sw, t, (br, wm, yi, lf, sh, hu, ve, so), pa, im, kp, he, wl, fe, as) D) = some (some (.int (la k - br k + nI k)), HP ((gr, vl, sg, cs, pr, ha, la, wa), p, sw, t, (br, wm, yi, lf, sh, hu, ve, so), pa, im, kp, he, wl, fe, as + (10000 : Int32).toInt64 + (100 : Int32).toInt64 + (1 : Int32).toInt64) D) := by
  rw [e_77]
  simp only [k_77_0, k_77_1, w_l5, gl_0, va_r, va_n, w_dupi, w_dupr, w_get, gf_x10, w_c42, w_ladd, w_putJ, pf_x10, w_l3, gl_1, vi_i, t_18_2, rc_0, io_x, w_b10, t_23, z10, z01, z_bT, z_bF, true_or, or_true, false_or, or_false, Option.bind_some, Option.toList_some, Option.toList_none, List.cons_append, List.nil_append, List.length_cons, List.length_nil, Nat.zero_add, Nat.reduceAdd, Nat.reduceLeDiff, and_self, and_true, true_and, if_true, if_false, reduceCtorEq, ne_eq, not_false_eq_true, not_true_eq_false, ↓reduceIte, Nat.reduceEqDiff, Bool.not_not, x_rateCharge, hk]
theorem x_rateNun (S : ai_S) (gr : Int32) (vl : Int32) (sg : Int32) (cs : Int32) (pr : Nat → Int32) (ha : Nat → Int32) (la : Nat → Int32) (wa : Nat → Int32) (p : sv_G) (sw : Bool) (t : sv_T) (br : Nat → Int32) (wm : Nat → Int32) (yi : Int32) (lf : Int32) (sh : Int32) (hu : Int32) (ve : Int32) (so : Int32) (pa : sv_P) (im : Nat → sv_M) (kp : Int32) (he : sv_H) (wl : Nat → Int32) (fe : Nat → Int32) (as : Int64) (D : sv_D) (k : Nat) (hk : k < 6) : ai_call S 78 [.ref 1, .int (nI k)] (HP ((gr, vl, sg, cs, pr, ha, la, wa), p, sw, t, (br, wm, yi, lf, sh, hu, ve, so), pa, im, kp, he, wl, fe, as) D) = some (some (.int (la k + hu)), HP ((gr, vl, sg, cs, pr, ha, la, wa), p, sw, t, (br, wm, yi, lf, sh, hu, ve, so), pa, im, kp, he, wl, fe, as + (100000 : Int32).toInt64 + (1 : Int32).toInt64) D) := by
  rw [e_78]
  simp only [k_78_0, k_78_1, w_l5, gl_0, va_r, va_n, w_dupi, w_dupr, w_get, gf_x10, w_c42, w_ladd, w_putJ, pf_x10, w_l3, gl_1, vi_i, t_18_2, rc_0, io_x, gf_x3, gf_m5, w_b10, t_23, z10, z01, z_bT, z_bF, true_or, or_true, false_or, or_false, Option.bind_some, Option.toList_some, Option.toList_none, List.cons_append, List.nil_append, List.length_cons, List.length_nil, Nat.zero_add, Nat.reduceAdd, Nat.reduceLeDiff, and_self, and_true, true_and, if_true, if_false, reduceCtorEq, ne_eq, not_false_eq_true, not_true_eq_false, ↓reduceIte, Nat.reduceEqDiff, Bool.not_not, x_rateCaller, hk]
theorem x_rate_b (S : ai_S) (gr : Int32) (vl : Int32) (sg : Int32) (cs : Int32) (pr : Nat → Int32) (ha : Nat → Int32) (la : Nat → Int32) (wa : Nat → Int32) (p : sv_G) (sw : Bool) (t : sv_T) (m : sv_M) (pa : sv_P) (im : Nat → sv_M) (kp : Int32) (he : sv_H) (wl : Nat → Int32) (fe : Nat → Int32) (as : Int64) (D : sv_D) (w c : Int32) (hb : ¬ (0 ≤ c ∧ c < cs)) : ai_call S 68 [.ref 1, .int w, .int c] (HP ((gr, vl, sg, cs, pr, ha, la, wa), p, sw, t, m, pa, im, kp, he, wl, fe, as) D) = some (some (.int (-1000000)), HP ((gr, vl, sg, cs, pr, ha, la, wa), p, sw, t, m, pa, im, kp, he, wl, fe, as) D) := by
  rw [e_68]
  simp only [k_68_0, k_68_1, k_68_2, w_l5, gl_0, va_r, va_n, w_l3, gl_2, vi_i, t_18_2, rc_0, io_x, t_3, w_c41, t_23, z10, z01, z_bT, z_bF, true_or, or_true, false_or, or_false, Option.bind_some, Option.toList_some, Option.toList_none, List.cons_append, List.nil_append, List.length_cons, List.length_nil, Nat.zero_add, Nat.reduceAdd, Nat.reduceLeDiff, and_self, and_true, true_and, if_true, if_false, reduceCtorEq, ne_eq, not_false_eq_true, not_true_eq_false, ↓reduceIte, Nat.reduceEqDiff, Bool.not_not, x_isCaller, z_b_f hb]
theorem x_rate (S : ai_S) (gr : Int32) (vl : Int32) (sg : Int32) (cs : Int32) (pr : Nat → Int32) (ha : Nat → Int32) (la : Nat → Int32) (wa : Nat → Int32) (p : sv_G) (sw : Bool) (t : sv_T) (br : Nat → Int32) (wm : Nat → Int32) (yi : Int32) (lf : Int32) (sh : Int32) (hu : Int32) (ve : Int32) (so : Int32) (pa : sv_P) (im : Nat → sv_M) (kp : Int32) (he : sv_H) (wl : Nat → Int32) (fe : Nat → Int32) (as : Int64) (D : sv_D) (w : Int32) (k : Nat) (hk : k < 6) (hc : 0 ≤ nI k ∧ nI k < cs) : ai_call S 68 [.ref 1, .int w, .int (nI k)] (HP ((gr, vl, sg, cs, pr, ha, la, wa), p, sw, t, (br, wm, yi, lf, sh, hu, ve, so), pa, im, kp, he, wl, fe, as) D) =
    if w = 0 then some (some (.int (la k)), HP ((gr, vl, sg, cs, pr, ha, la, wa), p, sw, t, (br, wm, yi, lf, sh, hu, ve, so), pa, im, kp, he, wl, fe, as + (1 : Int32).toInt64) D)
    else if w = 1 then some (some (.int (la k + wm k)), HP ((gr, vl, sg, cs, pr, ha, la, wa), p, sw, t, (br, wm, yi, lf, sh, hu, ve, so), pa, im, kp, he, wl, fe, as + (10 : Int32).toInt64 + (1 : Int32).toInt64) D)
    else if w = 2 then some (some (.int (la k - br k)), HP ((gr, vl, sg, cs, pr, ha, la, wa), p, sw, t, (br, wm, yi, lf, sh, hu, ve, so), pa, im, kp, he, wl, fe, as + (100 : Int32).toInt64 + (1 : Int32).toInt64) D)
    else if w = 3 then some (some (.int (2 * (la k + wm k))), HP ((gr, vl, sg, cs, pr, ha, la, wa), p, sw, t, (br, wm, yi, lf, sh, hu, ve, so), pa, im, kp, he, wl, fe, as + (1000 : Int32).toInt64 + (10 : Int32).toInt64 + (1 : Int32).toInt64) D)
    else if w = 4 then some (some (.int (la k - br k + nI k)), HP ((gr, vl, sg, cs, pr, ha, la, wa), p, sw, t, (br, wm, yi, lf, sh, hu, ve, so), pa, im, kp, he, wl, fe, as + (10000 : Int32).toInt64 + (100 : Int32).toInt64 + (1 : Int32).toInt64) D)
    else if w = 5 then some (some (.int (la k + hu)), HP ((gr, vl, sg, cs, pr, ha, la, wa), p, sw, t, (br, wm, yi, lf, sh, hu, ve, so), pa, im, kp, he, wl, fe, as + (100000 : Int32).toInt64 + (1 : Int32).toInt64) D)
    else some (some (.int (-1000000)), HP ((gr, vl, sg, cs, pr, ha, la, wa), p, sw, t, (br, wm, yi, lf, sh, hu, ve, so), pa, im, kp, he, wl, fe, as) D) := by
  rw [e_68]
  simp only [k_68_0, k_68_1, k_68_2, k_68_3, k_68_4, k_68_5, k_68_6, k_68_7, k_68_8, k_68_9, k_68_10, k_68_11, k_68_12, k_68_13, k_68_14, k_68_15, k_68_16, w_l5, gl_0, va_r, va_n, w_l3, gl_2, vi_i, t_18_2, rc_0, io_x, t_3, w_c41, t_23, gl_1, t_16, sw_n, sw_c, z10, z01, z_bT, z_bF, true_or, or_true, false_or, or_false, Option.bind_some, Option.toList_some, Option.toList_none, List.cons_append, List.nil_append, List.length_cons, List.length_nil, Nat.zero_add, Nat.reduceAdd, Nat.reduceLeDiff, and_self, and_true, true_and, if_true, if_false, reduceCtorEq, ne_eq, not_false_eq_true, not_true_eq_false, ↓reduceIte, Nat.reduceEqDiff, Bool.not_not, x_isCaller, z_b_t hc, x_rateCaller, x_rateCount, x_rateCharge, x_rateNuncio, x_rateEnvoy, x_rateNun, hk]
def z_pop (x0 : Int32) : Int32 :=
  let u := fun (x y : Int32) => (x.toUInt32 >>> (y.toUInt32 &&& Int32.toUInt32 31)).toInt32
  let x1 := x0 - (u x0 1 &&& 1431655765)
  let x2 := (x1 &&& 858993459) + (u x1 2 &&& 858993459)
  let x3 := (x2 + u x2 4) &&& 252645135
  let x4 := x3 + u x3 8
  let x5 := x4 + u x4 16
  x5 &&& 63
theorem x_pop (S : ai_S) (x0 : Int32) (h : ai_H) : ai_call S 138 [.int x0] h = some (some (.int (z_pop x0)), h) := by
  rw [e_138]
  simp only [k_138_0, w_l3, gl_0, vi_i, w_c0, w_b17, w_c41, w_b13, w_b11, w_s6, sl_0, ll_0, w_b10, w_c1, t_23, z10, z01, z_bT, z_bF, true_or, or_true, false_or, or_false, Option.bind_some, Option.toList_some, Option.toList_none, List.cons_append, List.nil_append, List.length_cons, List.length_nil, Nat.zero_add, Nat.reduceAdd, Nat.reduceLeDiff, and_self, and_true, true_and, if_true, if_false, reduceCtorEq, ne_eq, not_false_eq_true, not_true_eq_false, ↓reduceIte, Nat.reduceEqDiff, Bool.not_not]
  rfl
theorem x_empty (S : ai_S) (g : sv_G) (p : sv_G) (sw : Bool) (le : Nat → Int32) (ln : Int32) (pc : Int32) (tk : Int32) (tp : Int32) (nu : Int32) (it : Int32) (ns : Int32) (gt : Int32) (vt : Int32) (st : Int32) (m : sv_M) (pa : sv_P) (im : Nat → sv_M) (kp : Int32) (he : sv_H) (wl : Nat → Int32) (fe : Nat → Int32) (as : Int64) (D : sv_D) : ai_call S 13 [.ref 12] (HP (g, p, sw, (le, ln, pc, tk, tp, nu, it, ns, gt, vt, st), m, pa, im, kp, he, wl, fe, as) D) = some (some (.int ln), HP (g, p, sw, (le, 0, pc, tk, tp, nu, it, ns, gt, vt, st), m, pa, im, kp, he, wl, fe, as) D) := by
  rw [e_13]
  simp only [k_13_0, w_l5, gl_0, va_r, va_n, w_get, gf_t1, w_s6, sl_1, ll_1, w_c0, w_putI, pf_t1, w_l3, gl_1, vi_i, t_23, z10, z01, z_bT, z_bF, true_or, or_true, false_or, or_false, Option.bind_some, Option.toList_some, Option.toList_none, List.cons_append, List.nil_append, List.length_cons, List.length_nil, Nat.zero_add, Nat.reduceAdd, Nat.reduceLeDiff, and_self, and_true, true_and, if_true, if_false, reduceCtorEq, ne_eq, not_false_eq_true, not_true_eq_false, ↓reduceIte, Nat.reduceEqDiff, Bool.not_not]
theorem x_clear (S : ai_S) (g : sv_G) (p : sv_G) (sw : Bool) (le : Nat → Int32) (ln : Int32) (pc : Int32) (tk : Int32) (tp : Int32) (nu : Int32) (it : Int32) (ns : Int32) (gt : Int32) (vt : Int32) (st : Int32) (m : sv_M) (pa : sv_P) (im : Nat → sv_M) (kp : Int32) (he : sv_H) (wl : Nat → Int32) (fe : Nat → Int32) (as : Int64) (D : sv_D) : ai_call S 26 [.ref 1] (HP (g, p, sw, (le, ln, pc, tk, tp, nu, it, ns, gt, vt, st), m, pa, im, kp, he, wl, fe, as) D) = some (some (.int ln), HP (g, p, sw, (le, 0, pc, tk, tp, nu, it, ns, gt, vt, st), m, pa, im, kp, he, wl, fe, as) D) := by
  rw [e_26]
  simp only [k_26_0, k_26_1, w_l5, gl_0, va_r, va_n, w_get, gf_x2, t_18_1, rc_0, io_t, t_23, z10, z01, z_bT, z_bF, true_or, or_true, false_or, or_false, Option.bind_some, Option.toList_some, Option.toList_none, List.cons_append, List.nil_append, List.length_cons, List.length_nil, Nat.zero_add, Nat.reduceAdd, Nat.reduceLeDiff, and_self, and_true, true_and, if_true, if_false, reduceCtorEq, ne_eq, not_false_eq_true, not_true_eq_false, ↓reduceIte, Nat.reduceEqDiff, Bool.not_not, x_empty]
theorem x_add_f (S : ai_S) (g : sv_G) (p : sv_G) (sw : Bool) (le : Nat → Int32) (ln : Int32) (pc : Int32) (tk : Int32) (tp : Int32) (nu : Int32) (it : Int32) (ns : Int32) (gt : Int32) (vt : Int32) (st : Int32) (m : sv_M) (pa : sv_P) (im : Nat → sv_M) (kp : Int32) (he : sv_H) (wl : Nat → Int32) (fe : Nat → Int32) (as : Int64) (D : sv_D) (c : Int32) (hl : ¬ ln < 120) : ai_call S 12 [.ref 12, .int c] (HP (g, p, sw, (le, ln, pc, tk, tp, nu, it, ns, gt, vt, st), m, pa, im, kp, he, wl, fe, as) D) = some (some (.int 0), HP (g, p, sw, (le, ln, pc, tk, tp, nu, it, ns, gt, vt, st), m, pa, im, kp, he, wl, fe, as) D) := by
  rw [e_12]
  simp only [k_12_0, k_12_1, k_12_2, k_12_3, w_l5, gl_0, va_r, va_n, w_get, gf_t1, w_c1, t_10, w_c0, t_24_0, t_24_1, gf_t0, ia_t, pz_t, w_l3, gl_1, vi_i, t_21_3, rc_4, w_dupi, w_dupr, w_b10, w_putI, pf_t1, z10, z01, z_bT, z_bF, true_or, or_true, false_or, or_false, Option.bind_some, Option.toList_some, Option.toList_none, List.cons_append, List.nil_append, List.length_cons, List.length_nil, Nat.zero_add, Nat.reduceAdd, Nat.reduceLeDiff, and_self, and_true, true_and, if_true, if_false, reduceCtorEq, ne_eq, not_false_eq_true, not_true_eq_false, ↓reduceIte, Nat.reduceEqDiff, Bool.not_not, hl]
theorem x_add (S : ai_S) (g : sv_G) (p : sv_G) (sw : Bool) (le : Nat → Int32) (pc : Int32) (tk : Int32) (tp : Int32) (nu : Int32) (it : Int32) (ns : Int32) (gt : Int32) (vt : Int32) (st : Int32) (m : sv_M) (pa : sv_P) (im : Nat → sv_M) (kp : Int32) (he : sv_H) (wl : Nat → Int32) (fe : Nat → Int32) (as : Int64) (D : sv_D) (c : Int32) (n : Nat) (hn : n < 120) : ai_call S 12 [.ref 12, .int c] (HP (g, p, sw, (le, nI n, pc, tk, tp, nu, it, ns, gt, vt, st), m, pa, im, kp, he, wl, fe, as) D) = some (some (.int 1), HP (g, p, sw, (upd le n c, nI (n + 1), pc, tk, tp, nu, it, ns, gt, vt, st), m, pa, im, kp, he, wl, fe, as) D) := by
  rw [e_12]
  have hl : nI n < 120 := nI_lt (b := 120) hn (by decide)
  have h2 : n < 120 := hn
  simp only [k_12_0, k_12_1, k_12_2, k_12_3, w_l5, gl_0, va_r, va_n, w_get, gf_t1, w_c1, t_10, w_c0, t_24_0, t_24_1, gf_t0, ia_t, pz_t, w_l3, gl_1, vi_i, t_21_3, rc_4, w_dupi, w_dupr, w_b10, w_putI, pf_t1, z10, z01, z_bT, z_bF, true_or, or_true, false_or, or_false, Option.bind_some, Option.toList_some, Option.toList_none, List.cons_append, List.nil_append, List.length_cons, List.length_nil, Nat.zero_add, Nat.reduceAdd, Nat.reduceLeDiff, and_self, and_true, true_and, if_true, if_false, reduceCtorEq, ne_eq, not_false_eq_true, not_true_eq_false, ↓reduceIte, Nat.reduceEqDiff, Bool.not_not, hl, x_put, ob_s, h2, nI_1]
theorem x_type_b (S : ai_S) (h : ai_H) (c : Int32) (hb : c < 0 ∨ ¬ c ≤ 255) : ai_call S 25 [.ref 1, .int c] h = some (some (.int (-1)), h) := by
  rw [e_25]
  by_cases h0 : c < 0
  · simp only [k_25_0, k_25_1, k_25_2, w_l3, gl_1, vi_i, t_4, w_c2, t_13, w_c0, t_23, z10, z01, z_bT, z_bF, true_or, or_true, false_or, or_false, Option.bind_some, Option.toList_some, Option.toList_none, List.cons_append, List.nil_append, List.length_cons, List.length_nil, Nat.zero_add, Nat.reduceAdd, Nat.reduceLeDiff, and_self, and_true, true_and, if_true, if_false, reduceCtorEq, ne_eq, not_false_eq_true, not_true_eq_false, ↓reduceIte, Nat.reduceEqDiff, Bool.not_not, h0]
  · have h1 := hb.resolve_left h0
    simp only [k_25_0, k_25_1, k_25_2, w_l3, gl_1, vi_i, t_4, w_c2, t_13, w_c0, t_23, z10, z01, z_bT, z_bF, true_or, or_true, false_or, or_false, Option.bind_some, Option.toList_some, Option.toList_none, List.cons_append, List.nil_append, List.length_cons, List.length_nil, Nat.zero_add, Nat.reduceAdd, Nat.reduceLeDiff, and_self, and_true, true_and, if_true, if_false, reduceCtorEq, ne_eq, not_false_eq_true, not_true_eq_false, ↓reduceIte, Nat.reduceEqDiff, Bool.not_not, h0, h1]
theorem x_type_f (S : ai_S) (g : sv_G) (p : sv_G) (sw : Bool) (le : Nat → Int32) (ln : Int32) (pc : Int32) (tk : Int32) (tp : Int32) (nu : Int32) (it : Int32) (ns : Int32) (gt : Int32) (vt : Int32) (st : Int32) (m : sv_M) (pa : sv_P) (im : Nat → sv_M) (kp : Int32) (he : sv_H) (wl : Nat → Int32) (fe : Nat → Int32) (as : Int64) (D : sv_D) (c : Int32) (h0 : ¬ c < 0) (h1 : c ≤ 255) (hl : ¬ ln < 120) : ai_call S 25 [.ref 1, .int c] (HP (g, p, sw, (le, ln, pc, tk, tp, nu, it, ns, gt, vt, st), m, pa, im, kp, he, wl, fe, as) D) = some (some (.int (-3)), HP (g, p, sw, (le, ln, pc, tk, tp, nu, it, ns, gt, vt, st), m, pa, im, kp, he, wl, fe, as) D) := by
  rw [e_25]
  simp only [k_25_0, k_25_1, k_25_2, k_25_3, k_25_4, k_25_5, k_25_6, k_25_7, w_l3, gl_1, vi_i, t_4, w_c2, t_13, w_c0, t_23, w_l5, gl_0, va_r, va_n, w_get, gf_x2, t_18_2, rc_0, io_t, t_2, gf_t1, t_1, w_c1, t_0, z10, z01, z_bT, z_bF, true_or, or_true, false_or, or_false, Option.bind_some, Option.toList_some, Option.toList_none, List.cons_append, List.nil_append, List.length_cons, List.length_nil, Nat.zero_add, Nat.reduceAdd, Nat.reduceLeDiff, and_self, and_true, true_and, if_true, if_false, reduceCtorEq, ne_eq, not_false_eq_true, not_true_eq_false, ↓reduceIte, Nat.reduceEqDiff, Bool.not_not, h0, h1, x_add_f, hl]
theorem x_type (S : ai_S) (g : sv_G) (p : sv_G) (sw : Bool) (le : Nat → Int32) (pc : Int32) (tk : Int32) (tp : Int32) (nu : Int32) (it : Int32) (ns : Int32) (gt : Int32) (vt : Int32) (st : Int32) (m : sv_M) (pa : sv_P) (im : Nat → sv_M) (kp : Int32) (he : sv_H) (wl : Nat → Int32) (fe : Nat → Int32) (as : Int64) (D : sv_D) (c : Int32) (n : Nat) (hn : n < 120) (h0 : ¬ c < 0) (h1 : c ≤ 255) : ai_call S 25 [.ref 1, .int c] (HP (g, p, sw, (le, nI n, pc, tk, tp, nu, it, ns, gt, vt, st), m, pa, im, kp, he, wl, fe, as) D) = some (some (.int (nI (n + 1))), HP (g, p, sw, (upd le n c, nI (n + 1), pc, tk, tp, nu, it, ns, gt, vt, st), m, pa, im, kp, he, wl, fe, as) D) := by
  rw [e_25]
  simp only [k_25_0, k_25_1, k_25_2, k_25_3, k_25_4, k_25_5, k_25_6, k_25_7, w_l3, gl_1, vi_i, t_4, w_c2, t_13, w_c0, t_23, w_l5, gl_0, va_r, va_n, w_get, gf_x2, t_18_2, rc_0, io_t, t_2, gf_t1, t_1, w_c1, t_0, z10, z01, z_bT, z_bF, true_or, or_true, false_or, or_false, Option.bind_some, Option.toList_some, Option.toList_none, List.cons_append, List.nil_append, List.length_cons, List.length_nil, Nat.zero_add, Nat.reduceAdd, Nat.reduceLeDiff, and_self, and_true, true_and, if_true, if_false, reduceCtorEq, ne_eq, not_false_eq_true, not_true_eq_false, ↓reduceIte, Nat.reduceEqDiff, Bool.not_not, h0, h1, x_add, hn]
theorem x_hadd_f (S : ai_S) (g : sv_G) (p : sv_G) (sw : Bool) (t : sv_T) (m : sv_M) (pa : sv_P) (im : Nat → sv_M) (kp : Int32) (wh : Nat → Int32) (ti : Nat → Int32) (yd : Nat → Int32) (sz : Int32) (wl : Nat → Int32) (fe : Nat → Int32) (as : Int64) (D : sv_D) (c k y : Int32) (hl : ¬ sz < 6) : ai_call S 1 [.ref 56, .int c, .int k, .int y] (HP (g, p, sw, t, m, pa, im, kp, (wh, ti, yd, sz), wl, fe, as) D) = some (some (.int 0), HP (g, p, sw, t, m, pa, im, kp, (wh, ti, yd, sz), wl, fe, as) D) := by
  rw [e_1]
  simp only [k_1_0, k_1_1, k_1_2, k_1_3, k_1_4, k_1_5, w_l5, gl_0, va_r, va_n, w_get, gf_he3, w_c1, t_10, w_c0, t_24_0, t_24_1, gf_he0, ia_he0, pz_he0, w_l3, gl_1, vi_i, t_21_3, rc_4, gf_he1, ia_he1, pz_he1, gl_2, gf_he2, ia_he2, pz_he2, gl_3, w_dupi, w_dupr, w_b10, w_putI, pf_he3, z10, z01, z_bT, z_bF, true_or, or_true, false_or, or_false, Option.bind_some, Option.toList_some, Option.toList_none, List.cons_append, List.nil_append, List.length_cons, List.length_nil, Nat.zero_add, Nat.reduceAdd, Nat.reduceLeDiff, and_self, and_true, true_and, if_true, if_false, reduceCtorEq, ne_eq, not_false_eq_true, not_true_eq_false, ↓reduceIte, Nat.reduceEqDiff, Bool.not_not, hl]
theorem x_hadd (S : ai_S) (g : sv_G) (p : sv_G) (sw : Bool) (t : sv_T) (m : sv_M) (pa : sv_P) (im : Nat → sv_M) (kp : Int32) (wh : Nat → Int32) (ti : Nat → Int32) (yd : Nat → Int32) (wl : Nat → Int32) (fe : Nat → Int32) (as : Int64) (D : sv_D) (c k y : Int32) (n : Nat) (hn : n < 6) : ai_call S 1 [.ref 56, .int c, .int k, .int y] (HP (g, p, sw, t, m, pa, im, kp, (wh, ti, yd, nI n), wl, fe, as) D) = some (some (.int 1), HP (g, p, sw, t, m, pa, im, kp, (upd wh n c, upd ti n k, upd yd n y, nI (n + 1)), wl, fe, as) D) := by
  rw [e_1]
  have hl : nI n < 6 := nI_lt (b := 6) hn (by decide)
  have h2 : n < 6 := hn
  simp only [k_1_0, k_1_1, k_1_2, k_1_3, k_1_4, k_1_5, w_l5, gl_0, va_r, va_n, w_get, gf_he3, w_c1, t_10, w_c0, t_24_0, t_24_1, gf_he0, ia_he0, pz_he0, w_l3, gl_1, vi_i, t_21_3, rc_4, gf_he1, ia_he1, pz_he1, gl_2, gf_he2, ia_he2, pz_he2, gl_3, w_dupi, w_dupr, w_b10, w_putI, pf_he3, z10, z01, z_bT, z_bF, true_or, or_true, false_or, or_false, Option.bind_some, Option.toList_some, Option.toList_none, List.cons_append, List.nil_append, List.length_cons, List.length_nil, Nat.zero_add, Nat.reduceAdd, Nat.reduceLeDiff, and_self, and_true, true_and, if_true, if_false, reduceCtorEq, ne_eq, not_false_eq_true, not_true_eq_false, ↓reduceIte, Nat.reduceEqDiff, Bool.not_not, hl, x_put, ob_s, h2, nI_1]
theorem x_tells_b (S : ai_S) (gr : Int32) (vl : Int32) (sg : Int32) (cs : Int32) (pr : Nat → Int32) (ha : Nat → Int32) (la : Nat → Int32) (wa : Nat → Int32) (p : sv_G) (sw : Bool) (t : sv_T) (m : sv_M) (pa : sv_P) (im : Nat → sv_M) (kp : Int32) (he : sv_H) (wl : Nat → Int32) (fe : Nat → Int32) (as : Int64) (D : sv_D) (c k y : Int32) (hb : ¬ ((0 ≤ c ∧ c < cs) ∧ (¬ k < 1 ∧ ¬ 9 < k) ∧ (y = 0 ∨ y = 1))) : ai_call S 63 [.ref 1, .int c, .int k, .int y] (HP ((gr, vl, sg, cs, pr, ha, la, wa), p, sw, t, m, pa, im, kp, he, wl, fe, as) D) = some (some (.int (-1)), HP ((gr, vl, sg, cs, pr, ha, la, wa), p, sw, t, m, pa, im, kp, he, wl, fe, as) D) := by
  rw [e_63]
  by_cases hc : 0 ≤ c ∧ c < cs
  · by_cases h1 : k < 1
    · simp only [k_63_0, k_63_1, k_63_2, k_63_3, k_63_4, k_63_5, k_63_6, w_l5, gl_0, va_r, va_n, w_l3, gl_1, vi_i, t_18_2, rc_0, io_x, t_2, gl_2, w_c0, t_10, w_c1, t_12, gl_3, t_19_1, rc_1, t_3, t_23, z10, z01, z_bT, z_bF, true_or, or_true, false_or, or_false, Option.bind_some, Option.toList_some, Option.toList_none, List.cons_append, List.nil_append, List.length_cons, List.length_nil, Nat.zero_add, Nat.reduceAdd, Nat.reduceLeDiff, and_self, and_true, true_and, if_true, if_false, reduceCtorEq, ne_eq, not_false_eq_true, not_true_eq_false, ↓reduceIte, Nat.reduceEqDiff, Bool.not_not, x_isCaller, z_b_t hc, h1]
    · by_cases h2 : 9 < k
      · simp only [k_63_0, k_63_1, k_63_2, k_63_3, k_63_4, k_63_5, k_63_6, w_l5, gl_0, va_r, va_n, w_l3, gl_1, vi_i, t_18_2, rc_0, io_x, t_2, gl_2, w_c0, t_10, w_c1, t_12, gl_3, t_19_1, rc_1, t_3, t_23, z10, z01, z_bT, z_bF, true_or, or_true, false_or, or_false, Option.bind_some, Option.toList_some, Option.toList_none, List.cons_append, List.nil_append, List.length_cons, List.length_nil, Nat.zero_add, Nat.reduceAdd, Nat.reduceLeDiff, and_self, and_true, true_and, if_true, if_false, reduceCtorEq, ne_eq, not_false_eq_true, not_true_eq_false, ↓reduceIte, Nat.reduceEqDiff, Bool.not_not, x_isCaller, z_b_t hc, h1, h2]
      · have h3 : ¬ (y = 0 ∨ y = 1) := fun z => hb ⟨hc, ⟨h1, h2⟩, z⟩
        simp only [k_63_0, k_63_1, k_63_2, k_63_3, k_63_4, k_63_5, k_63_6, w_l5, gl_0, va_r, va_n, w_l3, gl_1, vi_i, t_18_2, rc_0, io_x, t_2, gl_2, w_c0, t_10, w_c1, t_12, gl_3, t_19_1, rc_1, t_3, t_23, z10, z01, z_bT, z_bF, true_or, or_true, false_or, or_false, Option.bind_some, Option.toList_some, Option.toList_none, List.cons_append, List.nil_append, List.length_cons, List.length_nil, Nat.zero_add, Nat.reduceAdd, Nat.reduceLeDiff, and_self, and_true, true_and, if_true, if_false, reduceCtorEq, ne_eq, not_false_eq_true, not_true_eq_false, ↓reduceIte, Nat.reduceEqDiff, Bool.not_not, x_isCaller, z_b_t hc, h1, h2, x_oz, z_b_f h3]
  · simp only [k_63_0, k_63_1, k_63_2, k_63_3, k_63_4, k_63_5, k_63_6, w_l5, gl_0, va_r, va_n, w_l3, gl_1, vi_i, t_18_2, rc_0, io_x, t_2, gl_2, w_c0, t_10, w_c1, t_12, gl_3, t_19_1, rc_1, t_3, t_23, z10, z01, z_bT, z_bF, true_or, or_true, false_or, or_false, Option.bind_some, Option.toList_some, Option.toList_none, List.cons_append, List.nil_append, List.length_cons, List.length_nil, Nat.zero_add, Nat.reduceAdd, Nat.reduceLeDiff, and_self, and_true, true_and, if_true, if_false, reduceCtorEq, ne_eq, not_false_eq_true, not_true_eq_false, ↓reduceIte, Nat.reduceEqDiff, Bool.not_not, x_isCaller, z_b_f hc]
theorem x_tells_f (S : ai_S) (gr : Int32) (vl : Int32) (sg : Int32) (cs : Int32) (pr : Nat → Int32) (ha : Nat → Int32) (la : Nat → Int32) (wa : Nat → Int32) (p : sv_G) (sw : Bool) (t : sv_T) (m : sv_M) (pa : sv_P) (im : Nat → sv_M) (kp : Int32) (wh : Nat → Int32) (ti : Nat → Int32) (yd : Nat → Int32) (sz : Int32) (wl : Nat → Int32) (fe : Nat → Int32) (as : Int64) (D : sv_D) (c k y : Int32) (hc : 0 ≤ c ∧ c < cs) (h1 : ¬ k < 1) (h2 : ¬ 9 < k) (h3 : y = 0 ∨ y = 1) (hl : ¬ sz < 6) : ai_call S 63 [.ref 1, .int c, .int k, .int y] (HP ((gr, vl, sg, cs, pr, ha, la, wa), p, sw, t, m, pa, im, kp, (wh, ti, yd, sz), wl, fe, as) D) = some (some (.int (-3)), HP ((gr, vl, sg, cs, pr, ha, la, wa), p, sw, t, m, pa, im, kp, (wh, ti, yd, sz), wl, fe, as) D) := by
  rw [e_63]
  simp only [k_63_0, k_63_1, k_63_2, k_63_3, k_63_4, k_63_5, k_63_6, k_63_7, k_63_8, k_63_9, k_63_10, k_63_11, w_l5, gl_0, va_r, va_n, w_l3, gl_1, vi_i, t_18_2, rc_0, io_x, t_2, gl_2, w_c0, t_10, w_c1, t_12, gl_3, t_19_1, rc_1, t_3, t_23, w_get, gf_x7, t_18_4, io_he, gf_he3, t_1, t_0, z10, z01, z_bT, z_bF, true_or, or_true, false_or, or_false, Option.bind_some, Option.toList_some, Option.toList_none, List.cons_append, List.nil_append, List.length_cons, List.length_nil, Nat.zero_add, Nat.reduceAdd, Nat.reduceLeDiff, and_self, and_true, true_and, if_true, if_false, reduceCtorEq, ne_eq, not_false_eq_true, not_true_eq_false, ↓reduceIte, Nat.reduceEqDiff, Bool.not_not, x_isCaller, z_b_t hc, h1, h2, x_oz, z_b_t h3, x_hadd_f, hl]
theorem x_tells (S : ai_S) (gr : Int32) (vl : Int32) (sg : Int32) (cs : Int32) (pr : Nat → Int32) (ha : Nat → Int32) (la : Nat → Int32) (wa : Nat → Int32) (p : sv_G) (sw : Bool) (t : sv_T) (m : sv_M) (pa : sv_P) (im : Nat → sv_M) (kp : Int32) (wh : Nat → Int32) (ti : Nat → Int32) (yd : Nat → Int32) (wl : Nat → Int32) (fe : Nat → Int32) (as : Int64) (D : sv_D) (c k y : Int32) (n : Nat) (hn : n < 6) (hc : 0 ≤ c ∧ c < cs) (h1 : ¬ k < 1) (h2 : ¬ 9 < k) (h3 : y = 0 ∨ y = 1) : ai_call S 63 [.ref 1, .int c, .int k, .int y] (HP ((gr, vl, sg, cs, pr, ha, la, wa), p, sw, t, m, pa, im, kp, (wh, ti, yd, nI n), wl, fe, as) D) = some (some (.int (nI (n + 1))), HP ((gr, vl, sg, cs, pr, ha, la, wa), p, sw, t, m, pa, im, kp, (upd wh n c, upd ti n k, upd yd n y, nI (n + 1)), wl, fe, as) D) := by
  rw [e_63]
  simp only [k_63_0, k_63_1, k_63_2, k_63_3, k_63_4, k_63_5, k_63_6, k_63_7, k_63_8, k_63_9, k_63_10, k_63_11, w_l5, gl_0, va_r, va_n, w_l3, gl_1, vi_i, t_18_2, rc_0, io_x, t_2, gl_2, w_c0, t_10, w_c1, t_12, gl_3, t_19_1, rc_1, t_3, t_23, w_get, gf_x7, t_18_4, io_he, gf_he3, t_1, t_0, z10, z01, z_bT, z_bF, true_or, or_true, false_or, or_false, Option.bind_some, Option.toList_some, Option.toList_none, List.cons_append, List.nil_append, List.length_cons, List.length_nil, Nat.zero_add, Nat.reduceAdd, Nat.reduceLeDiff, and_self, and_true, true_and, if_true, if_false, reduceCtorEq, ne_eq, not_false_eq_true, not_true_eq_false, ↓reduceIte, Nat.reduceEqDiff, Bool.not_not, x_isCaller, z_b_t hc, h1, h2, x_oz, z_b_t h3, x_hadd, hn]
end
